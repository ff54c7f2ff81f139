section GP
variable {f c r : Int} {gm go : Nat → Int} {ru : Nat → Nat → Int}
theorem oA_ch {t : Int} (hZ : ZOK f c r gm go ru) (hy : yr (t / 86400) ≤ 10001) : ∃ s : Int × Int, oA f c r gm go ru t = s.2 ∧ Ch (lastC gm c) t (obc f gm go t c.toNat) ru (fun k _ => k < r.toNat) s := by
  refine ⟨_, rfl, Ch_all (fun k hk => hZ.2.2.2.2.2.2 k (by omega)) hy (Ch_rules r.toNat)⟩
theorem obc_eq {t t' : Int} : ∀ n : Nat, (∀ k : Nat, k < n → (gm k ≤ t ↔ gm k ≤ t')) → obc f gm go t n = obc f gm go t' n := by
  intro n
  induction n with
  | zero => intro _; rfl
  | succ n ih =>
    intro h
    show (if gm n ≤ t then go n else obc f gm go t n) = (if gm n ≤ t' then go n else obc f gm go t' n)
    rw [ih (fun k hk => h k (Nat.lt_succ_of_lt hk))]
    by_cases h1 : gm n ≤ t
    · rw [if_pos h1, if_pos ((h n (Nat.lt_succ_self n)).mp h1)]
    · rw [if_neg h1, if_neg (fun q => h1 ((h n (Nat.lt_succ_self n)).mpr q))]
theorem oA_same {t : Int} (hZ : ZOK f c r gm go ru) (hy : yr (t / 86400) ≤ 10001) (hy' : yr ((t - 1) / 86400) ≤ 10001) (h1 : ∀ i : Nat, (i : Int) < c → gm i ≠ t) (h2 : ∀ (k : Nat) (y : Int), (k : Int) < r → (-9999 ≤ y ∧ y ≤ 9999) → lastC gm c < rM ru k y → rM ru k y ≠ t) : oA f c r gm go ru t = oA f c r gm go ru (t - 1) := by
  obtain ⟨s, e1, gq1⟩ := oA_ch hZ hy
  obtain ⟨s', e2, gq2⟩ := oA_ch hZ hy'
  rw [e1, e2]
  have hb : obc f gm go t c.toNat = obc f gm go (t - 1) c.toNat := obc_eq _ (fun k hk => by have := h1 k (by omega); omega)
  have hs : ∀ k y, k < r.toNat → (Sat (lastC gm c) t ru k y ↔ Sat (lastC gm c) (t - 1) ru k y) := by
    intro k y hk
    constructor
    · intro q
      have := h2 k y (by omega) q.1 q.2.1
      exact ⟨q.1, q.2.1, by have := q.2.2; omega⟩
    · intro q
      exact ⟨q.1, q.2.1, by have := q.2.2; omega⟩
  rcases gq1 with ⟨a1, a2, a3⟩ | ⟨k1, y1, a1, a2, a3, a4, a5⟩
  · rcases gq2 with ⟨b1, b2, b3⟩ | ⟨k2, y2, b1, b2, b3, b4, b5⟩
    · rw [a3, b3, hb]
    · exact absurd ((hs k2 y2 b1).mpr b2) (a1 k2 y2 b1)
  · rcases gq2 with ⟨b1, b2, b3⟩ | ⟨k2, y2, b1, b2, b3, b4, b5⟩
    · exact absurd ((hs k1 y1 a1).mp a2) (b1 k1 y1 a1)
    · have g1 := a5 k2 y2 b1 ((hs k2 y2 b1).mpr b2)
      have g2 := b5 k1 y1 a1 ((hs k1 y1 a1).mp a2)
      have g3 : k1 = k2 := by omega
      rw [a4, b4, g3]
theorem lastC_ge (hZ : ZOK f c r gm go ru) {i : Nat} (hi : (i : Int) < c) : gm i ≤ lastC gm c := by
  obtain ⟨hc, hr, hgm, hmono, hf, hgo, hru⟩ := hZ
  unfold lastC
  rw [if_pos (by omega)]
  rcases Nat.lt_or_ge i (c - 1).toNat with h | h
  · have := hmono i (c - 1).toNat h (by omega)
    omega
  · rw [show (c - 1).toNat = i by omega]
    exact Int.le_refl _
theorem oA_gm (hZ : ZOK f c r gm go ru) {i : Nat} (hi : (i : Int) < c) : oA f c r gm go ru (gm i) = go i := by
  have hl := lastC_ge hZ hi
  obtain ⟨hc, hr, hgm, hmono, hf, hgo, hru⟩ := hZ
  unfold oA
  refine (rY_P (fun s => s.2 = go i) ?_ r.toNat (fun j y s hj hy hs h1 h2 => ?_) :)
  · show obc f gm go (gm i) c.toNat = go i
    rw [obc_stop (i := i + 1) c.toNat (by omega) (fun k a b => hmono i k (by omega) (by omega))]
    show (if gm i ≤ gm i then go i else _) = go i
    rw [if_pos (Int.le_refl _)]
  · omega
theorem oA_kind {t : Int} (hZ : ZOK f c r gm go ru) : ∃ k : Nat, (k : Int) < 1 + c + r ∧ oA f c r gm go ru t = kOff f go c (fun k => ru k 4) (k : Int) := by
  obtain ⟨hc, hr, hgm, hmono, hf, hgo, hru⟩ := hZ
  unfold oA
  refine rY_P (fun s => ∃ k : Nat, (k : Int) < 1 + c + r ∧ s.2 = kOff f go c (fun k => ru k 4) (k : Int)) ?_ r.toNat (fun j y s hj hy hs h1 h2 => ?_)
  · show ∃ k : Nat, (k : Int) < 1 + c + r ∧ obc f gm go t c.toNat = kOff f go c (fun k => ru k 4) (k : Int)
    have key : ∀ n : Nat, (n : Int) ≤ c → ∃ k : Nat, (k : Int) < 1 + c + r ∧ obc f gm go t n = kOff f go c (fun k => ru k 4) (k : Int) := by
      intro n
      induction n with
      | zero =>
        intro _
        refine ⟨0, by omega, ?_⟩
        unfold kOff
        rw [if_pos (by omega)]
        rfl
      | succ n ih =>
        intro hn
        by_cases hg : gm n ≤ t
        · refine ⟨n + 1, by omega, ?_⟩
          unfold kOff
          rw [if_neg (by omega), if_pos (by omega), show (((n + 1 : Nat) : Int) - 1).toNat = n by omega]
          exact if_pos hg
        · obtain ⟨k, k1, k2⟩ := ih (by omega)
          refine ⟨k, k1, ?_⟩
          rw [← k2]
          exact if_neg hg
    exact key c.toNat (by omega)
  · refine ⟨1 + c.toNat + j, by omega, ?_⟩
    show ru j 4 = _
    unfold kOff
    rw [if_neg (by omega), if_neg (by omega), show (((1 + c.toNat + j : Nat) : Int) - 1 - c).toNat = j by omega]
theorem noneShows {lo la : Int} (hZ : ZOK f c r gm go ru) (hlo : -377705116800 ≤ lo ∧ lo ≤ 253402300799) (h : mS f c r gm go ru lo la (1 + c + r).toNat = -9223372036854775808) (t : Int) : t + oA f c r gm go ru t ≠ lo := by
  intro e
  obtain ⟨k, k1, k2⟩ := oA_kind (t := t) hZ
  have := mS_none hZ hlo (1 + c + r).toNat (by have := hZ.1; have := hZ.2.1; omega) h k (by have := hZ.1; have := hZ.2.1; omega)
  rw [← k2, show lo - oA f c r gm go ru t = t by omega] at this
  exact this rfl
theorem yr_10001 {t : Int} (h : t ≤ 253402400000) : yr (t / 86400) ≤ 10001 := by
  have h1 := yr_c (t / 86400)
  have b2 : dby 10002 = 3653156 := by decide
  rcases Int.lt_or_le 10001 (yr (t / 86400)) with g | g
  · have := dby_le (a := 10002) (b := yr (t / 86400)) (by omega)
    omega
  · exact g
def gq1 (c : Int) (gm go : Nat → Int) (lo E : Int) : Prop := ∃ i : Nat, (i : Int) < c ∧ gm i = E ∧ lo < gm i + go i
def gq2 (f c r : Int) (gm go : Nat → Int) (ru : Nat → Nat → Int) (lo y0 E : Int) : Prop := ∃ (k : Nat) (y : Int), (k : Int) < r ∧ (-9999 ≤ y ∧ y ≤ 9999) ∧ (y0 - 1 ≤ y ∧ y ≤ y0 + 1) ∧ rM ru k y = E ∧ lo < E + oA f c r gm go ru E
def CE (f c r : Int) (gm go : Nat → Int) (ru : Nat → Nat → Int) (lo y0 E : Int) : Prop := E ≤ lo + 64801 ∧ (∀ E', gq1 c gm go lo E' → E ≤ E') ∧ (∀ E', gq2 f c r gm go ru lo y0 E' → E ≤ E') ∧ (E = lo + 64801 ∨ gq1 c gm go lo E ∨ gq2 f c r gm go ru lo y0 E)
def ME (f c r : Int) (gm go : Nat → Int) (ru : Nat → Nat → Int) (lo y0 E : Int) : Prop := (E = -9223372036854775808 ∧ (∀ E', ¬ gq1 c gm go lo E') ∧ (∀ E', lastC gm c < E' → ¬ gq2 f c r gm go ru lo y0 E')) ∨ ((gq1 c gm go lo E ∨ (lastC gm c < E ∧ gq2 f c r gm go ru lo y0 E)) ∧ (∀ E', gq1 c gm go lo E' → E ≤ E') ∧ (∀ E', lastC gm c < E' → gq2 f c r gm go ru lo y0 E' → E ≤ E'))
theorem gapA {lo : Int} (hZ : ZOK f c r gm go ru) (hlo : -377705116800 ≤ lo ∧ lo ≤ 253402300799) (hN : ∀ t : Int, t + oA f c r gm go ru t ≠ lo) : ∀ (N : Nat) (t : Int), t - (lo - 64801) ≤ N → t ≤ lo + 64801 → lo < t + oA f c r gm go ru t → ∃ T : Int, T ≤ t ∧ (gq1 c gm go lo T ∨ (lastC gm c < T ∧ gq2 f c r gm go ru lo (yr (lo / 86400)) T)) := by
  intro N
  induction N with
  | zero =>
    intro t h1 h2 h3
    have := oA_rng (t := t) hZ
    omega
  | succ N ih =>
    intro t h1 h2 h3
    by_cases hp : lo < t - 1 + oA f c r gm go ru (t - 1)
    · obtain ⟨T, a, b⟩ := ih (t - 1) (by omega) (by omega) hp
      exact ⟨T, by omega, b⟩
    · have hr1 := oA_rng (t := t) hZ
      have hn1 := hN (t - 1)
      refine ⟨t, Int.le_refl _, ?_⟩
      by_cases q1 : ∃ i : Nat, (i : Int) < c ∧ gm i = t
      · obtain ⟨i, i1, i2⟩ := q1
        left
        refine ⟨i, i1, i2, ?_⟩
        have := oA_gm hZ i1
        rw [i2] at this ⊢
        omega
      · by_cases q2 : ∃ (k : Nat) (y : Int), (k : Int) < r ∧ (-9999 ≤ y ∧ y ≤ 9999) ∧ lastC gm c < rM ru k y ∧ rM ru k y = t
        · obtain ⟨k, y, k1, k2, k3, k4⟩ := q2
          right
          refine ⟨by omega, k, y, k1, k2, ?_, k4, h3⟩
          have hv := hZ.2.2.2.2.2.2 k k1
          obtain ⟨e, e1, e2, e3⟩ := rM_day (y := y) hv
          have v3 := hv.2.2.2.1
          have yc := yr_c (lo / 86400)
          have hq : lo / 86400 * 86400 ≤ lo ∧ lo < lo / 86400 * 86400 + 86400 := by omega
          generalize yr (lo / 86400) = y0 at *
          generalize lo / 86400 = d0 at *
          constructor
          · rcases Int.lt_or_le y (y0 - 1) with g | g
            · have m1 : dby (y + 1) + 365 ≤ dby y0 := dby_mono (by omega)
              omega
            · exact g
          · rcases Int.lt_or_le (y0 + 1) y with g | g
            · have m1 : dby (y0 + 1) + 365 ≤ dby y := dby_mono (by omega)
              omega
            · exact g
        · exfalso
          have := oA_same (t := t) hZ (yr_10001 (by omega)) (yr_10001 (by omega)) (fun i i1 i2 => q1 ⟨i, i1, i2⟩) (fun k y k1 k2 k3 k4 => q2 ⟨k, y, k1, k2, k3, k4⟩)
          omega
theorem gap_eq {lo E Gp : Int} (hZ : ZOK f c r gm go ru) (hlo : -377705116800 ≤ lo ∧ lo ≤ 253402300799) (hN : ∀ t : Int, t + oA f c r gm go ru t ≠ lo) (hE : CE f c r gm go ru lo (yr (lo / 86400)) E) (hG : ME f c r gm go ru lo (yr (lo / 86400)) Gp) : E = Gp := by
  obtain ⟨h1, h2, h3, h4⟩ := hE
  have hP : lo < E + oA f c r gm go ru E := by
    rcases h4 with h | h | h
    · have := oA_rng (t := E) hZ
      omega
    · obtain ⟨i, i1, i2, i3⟩ := h
      rw [← i2, oA_gm hZ i1]
      exact i3
    · obtain ⟨k, y, k1, k2, k3, k4, k5⟩ := h
      exact k5
  obtain ⟨T, t1, t2⟩ := gapA hZ hlo hN (E - (lo - 64801)).toNat E (by omega) h1 hP
  rcases hG with ⟨g1, g2, g3⟩ | ⟨g1, g2, g3⟩
  · exfalso
    rcases t2 with t2 | ⟨t2, t3⟩
    · exact g2 T t2
    · exact g3 T t2 t3
  · have a1 : Gp ≤ T := by
      rcases t2 with t2 | ⟨t2, t3⟩
      · exact g2 T t2
      · exact g3 T t2 t3
    have a2 : E ≤ Gp := by
      rcases g1 with g1 | ⟨g1, g4⟩
      · exact h2 Gp g1
      · exact h3 Gp g4
    omega
def IA (c : Int) (gm go : Nat → Int) (lo : Int) (i : Nat) (E : Int) : Prop := E ≤ lo + 64801 ∧ (∀ j : Nat, j < i → lo < gm j + go j → E ≤ gm j) ∧ (E = lo + 64801 ∨ gq1 c gm go lo E)
theorem IA_0 {lo : Int} : IA c gm go lo 0 (lo + 64801) := ⟨Int.le_refl _, fun j h => absurd h (Nat.not_lt_zero j), Or.inl rfl⟩
theorem IA_p {lo E E' : Int} {i : Nat} (h : IA c gm go lo i E) (hi : (i : Int) < c) (hp : lo < gm i + go i) (hE : (E ≤ gm i ∧ E' = E) ∨ (gm i < E ∧ E' = gm i)) : IA c gm go lo (i + 1) E' := by
  obtain ⟨h1, h2, h3⟩ := h
  refine ⟨by omega, fun j hj hl => ?_, ?_⟩
  · rcases Nat.lt_or_eq_of_le (Nat.le_of_lt_succ hj) with g | g
    · have := h2 j g hl
      omega
    · subst g
      omega
  · rcases hE with ⟨a, b⟩ | ⟨a, b⟩
    · rw [b]; exact h3
    · right
      exact ⟨i, hi, b.symm, hp⟩
theorem IA_n {lo E : Int} {i : Nat} (h : IA c gm go lo i E) (hp : ¬ lo < gm i + go i) : IA c gm go lo (i + 1) E := by
  obtain ⟨h1, h2, h3⟩ := h
  refine ⟨h1, fun j hj hl => ?_, h3⟩
  rcases Nat.lt_or_eq_of_le (Nat.le_of_lt_succ hj) with g | g
  · exact h2 j g hl
  · subst g
    exact absurd hl hp
def IB (f c r : Int) (gm go : Nat → Int) (ru : Nat → Nat → Int) (lo y0 y : Int) (i : Nat) (E : Int) : Prop := E ≤ lo + 64801 ∧ (∀ E', gq1 c gm go lo E' → E ≤ E') ∧ (∀ (k : Nat) (y' : Int), (k : Int) < r → (-9999 ≤ y' ∧ y' ≤ 9999) → (y0 - 1 ≤ y' ∧ y' ≤ y0 + 1) → (y' < y ∨ (y' = y ∧ k < i)) → lo < rM ru k y' + oA f c r gm go ru (rM ru k y') → E ≤ rM ru k y') ∧ (E = lo + 64801 ∨ gq1 c gm go lo E ∨ gq2 f c r gm go ru lo y0 E)
theorem IB_0 {lo E y0 y : Int} (h : IA c gm go lo c.toNat E) (hy : ∀ y' : Int, (-9999 ≤ y' ∧ y' ≤ 9999) → (y0 - 1 ≤ y' ∧ y' ≤ y0 + 1) → y ≤ y') : IB f c r gm go ru lo y0 y 0 E := by
  obtain ⟨h1, h2, h3⟩ := h
  refine ⟨h1, fun E' h => ?_, fun k y' a b c d e => ?_, ?_⟩
  · obtain ⟨i, i1, i2, i3⟩ := h
    have := h2 i (by omega) i3
    omega
  · have := hy y' b c
    omega
  · rcases h3 with h3 | h3
    · exact Or.inl h3
    · exact Or.inr (Or.inl h3)
theorem IB_p {lo E y0 y : Int} {i : Nat} (h : IB f c r gm go ru lo y0 y i E) (hi : (i : Int) < r) (hy : -9999 ≤ y ∧ y ≤ 9999) (hw : y0 - 1 ≤ y ∧ y ≤ y0 + 1) (hp : rM ru i y < E) (hq : lo < rM ru i y + oA f c r gm go ru (rM ru i y)) : IB f c r gm go ru lo y0 y (i + 1) (rM ru i y) := by
  obtain ⟨h1, h2, h3, h4⟩ := h
  refine ⟨by omega, fun E' h => ?_, fun k y' a b c d e => ?_, Or.inr (Or.inr ⟨i, y, hi, hy, hw, rfl, hq⟩)⟩
  · have := h2 E' h
    omega
  · rcases (show (y' < y ∨ (y' = y ∧ k < i)) ∨ (y' = y ∧ k = i) by omega) with g | ⟨g1, g2⟩
    · have := h3 k y' a b c g e
      omega
    · subst g1 g2
      exact Int.le_refl _
theorem IB_n {lo E y0 y : Int} {i : Nat} (h : IB f c r gm go ru lo y0 y i E) (hp : ¬ (rM ru i y < E ∧ lo < rM ru i y + oA f c r gm go ru (rM ru i y))) : IB f c r gm go ru lo y0 y (i + 1) E := by
  obtain ⟨h1, h2, h3, h4⟩ := h
  refine ⟨h1, h2, fun k y' a b c d e => ?_, h4⟩
  rcases (show (y' < y ∨ (y' = y ∧ k < i)) ∨ (y' = y ∧ k = i) by omega) with g | ⟨g1, g2⟩
  · exact h3 k y' a b c g e
  · subst g1 g2
    omega
theorem IB_y {lo E y0 y : Int} {i : Nat} (h : IB f c r gm go ru lo y0 y i E) (hi : r ≤ (i : Int)) : IB f c r gm go ru lo y0 (y + 1) 0 E := by
  obtain ⟨h1, h2, h3, h4⟩ := h
  exact ⟨h1, h2, fun k y' a b c d e => h3 k y' a b c (by omega) e, h4⟩
theorem IB_e {lo E y0 y : Int} (h : IB f c r gm go ru lo y0 y 0 E) (hy : ∀ y' : Int, (-9999 ≤ y' ∧ y' ≤ 9999) → (y0 - 1 ≤ y' ∧ y' ≤ y0 + 1) → y' < y) : CE f c r gm go ru lo y0 E := by
  obtain ⟨h1, h2, h3, h4⟩ := h
  refine ⟨h1, h2, fun E' h => ?_, h4⟩
  obtain ⟨k, y, k1, k2, k3, k4, k5⟩ := h
  rw [← k4]
  rw [← k4] at k5
  exact h3 k y k1 k2 k3 (Or.inl (hy y k2 k3)) k5
theorem gq1_rng {lo E : Int} (hZ : ZOK f c r gm go ru) (h : gq1 c gm go lo E) : -377700000000 ≤ E ∧ E ≤ 253400000000 := by
  obtain ⟨i, i1, i2, i3⟩ := h
  rw [← i2]
  exact hZ.2.2.1 i
theorem gq2_rng {lo y0 E : Int} (hZ : ZOK f c r gm go ru) (h : gq2 f c r gm go ru lo y0 E) : -377800000000 ≤ E ∧ E ≤ 253500000000 := by
  obtain ⟨k, y, k1, k2, k3, k4, k5⟩ := h
  rw [← k4]
  exact rM_rng (hZ.2.2.2.2.2.2 k k1) k2
theorem IA_rng {lo E : Int} {i : Nat} (hZ : ZOK f c r gm go ru) (hlo : -377705116800 ≤ lo ∧ lo ≤ 253402300799) (h : IA c gm go lo i E) : -377900000000 ≤ E ∧ E ≤ 253500000000 := by
  rcases h.2.2 with h1 | h1
  · omega
  · have := gq1_rng hZ h1; omega
theorem IB_rng {lo E y0 y : Int} {i : Nat} (hZ : ZOK f c r gm go ru) (hlo : -377705116800 ≤ lo ∧ lo ≤ 253402300799) (h : IB f c r gm go ru lo y0 y i E) : -377900000000 ≤ E ∧ E ≤ 253500000000 := by
  rcases h.2.2.2 with h1 | h1 | h1
  · omega
  · have := gq1_rng hZ h1; omega
  · have := gq2_rng hZ h1; omega
def JA (c : Int) (gm go : Nat → Int) (lo : Int) (i : Nat) (E : Int) : Prop := (E = -9223372036854775808 ∧ ∀ j : Nat, j < i → ¬ lo < gm j + go j) ∨ (gq1 c gm go lo E ∧ ∀ j : Nat, j < i → lo < gm j + go j → E ≤ gm j)
theorem JA_s {lo E E' : Int} {i : Nat} (hZ : ZOK f c r gm go ru) (h : JA c gm go lo i E) (hi : (i : Int) < c) (hs : ((lo < gm i + go i ∧ (E = -9223372036854775808 ∨ gm i < E)) ∧ E' = gm i) ∨ (¬ (lo < gm i + go i ∧ (E = -9223372036854775808 ∨ gm i < E)) ∧ E' = E)) : JA c gm go lo (i + 1) E' := by
  have hgi := hZ.2.2.1 i
  rcases hs with ⟨a1, a2⟩ | ⟨a1, a2⟩
  · right
    refine ⟨⟨i, hi, a2.symm, a1.1⟩, fun j hj hl => ?_⟩
    rcases Nat.lt_or_eq_of_le (Nat.le_of_lt_succ hj) with g | g
    · rcases h with ⟨b1, b2⟩ | ⟨b1, b2⟩
      · exact absurd hl (b2 j g)
      · have := b2 j g hl
        have := gq1_rng hZ b1
        omega
    · subst g
      omega
  · rw [a2]
    rcases h with ⟨b1, b2⟩ | ⟨b1, b2⟩
    · left
      refine ⟨b1, fun j hj hl => ?_⟩
      rcases Nat.lt_or_eq_of_le (Nat.le_of_lt_succ hj) with g | g
      · exact b2 j g hl
      · subst g
        exact a1 ⟨hl, Or.inl b1⟩
    · right
      refine ⟨b1, fun j hj hl => ?_⟩
      rcases Nat.lt_or_eq_of_le (Nat.le_of_lt_succ hj) with g | g
      · exact b2 j g hl
      · subst g
        omega
def JB (f c r : Int) (gm go : Nat → Int) (ru : Nat → Nat → Int) (lo y0 : Int) (k : Nat) (y E : Int) : Prop := (E = -9223372036854775808 ∧ (∀ E', ¬ gq1 c gm go lo E') ∧ (∀ (k' : Nat) (y' : Int), (k' : Int) < r → (-9999 ≤ y' ∧ y' ≤ 9999) → (y0 - 1 ≤ y' ∧ y' ≤ y0 + 1) → (k' < k ∨ (k' = k ∧ y' < y)) → lastC gm c < rM ru k' y' → ¬ lo < rM ru k' y' + oA f c r gm go ru (rM ru k' y'))) ∨ ((gq1 c gm go lo E ∨ (lastC gm c < E ∧ gq2 f c r gm go ru lo y0 E)) ∧ (∀ E', gq1 c gm go lo E' → E ≤ E') ∧ (∀ (k' : Nat) (y' : Int), (k' : Int) < r → (-9999 ≤ y' ∧ y' ≤ 9999) → (y0 - 1 ≤ y' ∧ y' ≤ y0 + 1) → (k' < k ∨ (k' = k ∧ y' < y)) → lastC gm c < rM ru k' y' → lo < rM ru k' y' + oA f c r gm go ru (rM ru k' y') → E ≤ rM ru k' y'))
theorem JB_0 {lo E y0 : Int} (h : JA c gm go lo c.toNat E) : JB f c r gm go ru lo y0 0 (y0 - 1) E := by
  rcases h with ⟨b1, b2⟩ | ⟨b1, b2⟩
  · left
    refine ⟨b1, fun E' h => ?_, fun k' y' a b c d e => by omega⟩
    obtain ⟨i, i1, i2, i3⟩ := h
    exact b2 i (by omega) i3
  · right
    refine ⟨Or.inl b1, fun E' h => ?_, fun k' y' a b c d e => by omega⟩
    obtain ⟨i, i1, i2, i3⟩ := h
    have := b2 i (by omega) i3
    omega
theorem JB_y {lo E y0 y : Int} {k : Nat} (h : JB f c r gm go ru lo y0 k y E) (hy : y0 + 1 < y) : JB f c r gm go ru lo y0 (k + 1) (y0 - 1) E := by
  rcases h with ⟨b1, b2, b3⟩ | ⟨b1, b2, b3⟩
  · left
    exact ⟨b1, b2, fun k' y' a b c d e => b3 k' y' a b c (by omega) e⟩
  · right
    exact ⟨b1, b2, fun k' y' a b c d e => b3 k' y' a b c (by omega) e⟩
theorem JB_e {lo E y0 y : Int} {k : Nat} (h : JB f c r gm go ru lo y0 k y E) (hk : r ≤ (k : Int)) : ME f c r gm go ru lo y0 E := by
  rcases h with ⟨b1, b2, b3⟩ | ⟨b1, b2, b3⟩
  · left
    refine ⟨b1, b2, fun E' hL h => ?_⟩
    obtain ⟨k', y', k1, k2, k3, k4, k5⟩ := h
    rw [← k4] at k5 hL
    exact b3 k' y' k1 k2 k3 (by omega) hL k5
  · right
    refine ⟨b1, b2, fun E' hL h => ?_⟩
    obtain ⟨k', y', k1, k2, k3, k4, k5⟩ := h
    rw [← k4] at k5 hL
    rw [← k4]
    exact b3 k' y' k1 k2 k3 (by omega) hL k5
theorem JB_rng {lo E y0 y : Int} {k : Nat} (hZ : ZOK f c r gm go ru) (h : JB f c r gm go ru lo y0 k y E) : E = -9223372036854775808 ∨ (-377900000000 ≤ E ∧ E ≤ 253500000000) := by
  rcases h with ⟨b1, b2, b3⟩ | ⟨b1 | ⟨b0, b1⟩, b2, b3⟩
  · exact Or.inl b1
  · have := gq1_rng hZ b1; omega
  · have := gq2_rng hZ b1; omega
theorem JA_rng {lo E : Int} {i : Nat} (hZ : ZOK f c r gm go ru) (h : JA c gm go lo i E) : E = -9223372036854775808 ∨ (-377900000000 ≤ E ∧ E ≤ 253500000000) := by
  rcases h with ⟨b1, b2⟩ | ⟨b1, b2⟩
  · exact Or.inl b1
  · have := gq1_rng hZ b1; omega
theorem JB_s {lo E E' y0 y v : Int} {k : Nat} (hZ : ZOK f c r gm go ru) (h : JB f c r gm go ru lo y0 k y E) (hk : (k : Int) < r) (hw : y0 - 1 ≤ y ∧ y ≤ y0 + 1) (hv : (((-9999 ≤ y ∧ y ≤ 9999) ∧ lastC gm c < rM ru k y) ∧ v = rM ru k y) ∨ (¬ ((-9999 ≤ y ∧ y ≤ 9999) ∧ lastC gm c < rM ru k y) ∧ v = -9223372036854775808)) (hs : ((v ≠ -9223372036854775808 ∧ lo < v + oA f c r gm go ru v ∧ (E = -9223372036854775808 ∨ v < E)) ∧ E' = v) ∨ (¬ (v ≠ -9223372036854775808 ∧ lo < v + oA f c r gm go ru v ∧ (E = -9223372036854775808 ∨ v < E)) ∧ E' = E)) : JB f c r gm go ru lo y0 k (y + 1) E' := by
  have hE := JB_rng hZ h
  rcases hs with ⟨a1, a2⟩ | ⟨a1, a2⟩
  · rw [a2]
    obtain ⟨a3, a4, a5⟩ := a1
    rcases hv with ⟨⟨v1, v2⟩, v3⟩ | ⟨v1, v2⟩
    · have hvr := rM_rng (hZ.2.2.2.2.2.2 k hk) v1
      right
      refine ⟨Or.inr ⟨by omega, k, y, hk, v1, hw, v3.symm, a4⟩, fun E'' h9 => ?_, fun k' y' b1 b2 b3 b4 b5 b6 => ?_⟩
      · rcases h with ⟨b1, b2, b3⟩ | ⟨b1, b2, b3⟩
        · exact absurd h9 (b2 E'')
        · have := b2 E'' h9
          have : E ≠ -9223372036854775808 := by
            intro e
            rcases b1 with b1 | ⟨b0, b1⟩
            · have := gq1_rng hZ b1; omega
            · have := gq2_rng hZ b1; omega
          omega
      · rcases (show (k' < k ∨ (k' = k ∧ y' < y)) ∨ (k' = k ∧ y' = y) by omega) with g | ⟨g1, g2⟩
        · rcases h with ⟨d1, d2, d3⟩ | ⟨d1, d2, d3⟩
          · exact absurd b6 (d3 k' y' b1 b2 b3 g b5)
          · have := d3 k' y' b1 b2 b3 g b5 b6
            have : E ≠ -9223372036854775808 := by
              intro e
              rcases d1 with d1 | ⟨d0, d1⟩
              · have := gq1_rng hZ d1; omega
              · have := gq2_rng hZ d1; omega
            omega
        · subst g1 g2
          omega
    · exact absurd v2 a3
  · rw [a2]
    rcases h with ⟨b1, b2, b3⟩ | ⟨b1, b2, b3⟩
    · left
      refine ⟨b1, b2, fun k' y' q1 q2 q3 q4 q5 q6 => ?_⟩
      rcases (show (k' < k ∨ (k' = k ∧ y' < y)) ∨ (k' = k ∧ y' = y) by omega) with g | ⟨g1, g2⟩
      · exact b3 k' y' q1 q2 q3 g q5 q6
      · subst g1 g2
        have hvr := rM_rng (hZ.2.2.2.2.2.2 k' hk) q2
        have hv2 : v = rM ru k' y' := by
          rcases hv with ⟨_, v3⟩ | ⟨v1, v2⟩
          · exact v3
          · exact absurd ⟨q2, q5⟩ v1
        rw [hv2] at a1
        exact a1 ⟨by omega, q6, Or.inl b1⟩
    · right
      refine ⟨b1, b2, fun k' y' q1 q2 q3 q4 q5 q6 => ?_⟩
      rcases (show (k' < k ∨ (k' = k ∧ y' < y)) ∨ (k' = k ∧ y' = y) by omega) with g | ⟨g1, g2⟩
      · exact b3 k' y' q1 q2 q3 g q5 q6
      · subst g1 g2
        have hvr := rM_rng (hZ.2.2.2.2.2.2 k' hk) q2
        have hv2 : v = rM ru k' y' := by
          rcases hv with ⟨_, v3⟩ | ⟨v1, v2⟩
          · exact v3
          · exact absurd ⟨q2, q5⟩ v1
        rw [hv2] at a1
        rcases Int.lt_or_le (rM ru k' y') E with g | g
        · exact absurd ⟨by omega, q6, Or.inr g⟩ a1
        · exact g
end GP
