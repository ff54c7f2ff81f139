def NN : Int := -9223372036854775808
def mS (f c r : Int) (gm go : Nat → Int) (ru : Nat → Nat → Int) (lo la : Int) : Nat → Int
  | 0 => -9223372036854775808
  | k + 1 => if oA f c r gm go ru (lo - kOff f go c (fun k => ru k 4) (k : Int)) = kOff f go c (fun k => ru k 4) (k : Int) ∧ (mS f c r gm go ru lo la k = -9223372036854775808 ∨ (la = 1 ∧ mS f c r gm go ru lo la k < lo - kOff f go c (fun k => ru k 4) (k : Int)) ∨ (la = 0 ∧ lo - kOff f go c (fun k => ru k 4) (k : Int) < mS f c r gm go ru lo la k)) then lo - kOff f go c (fun k => ru k 4) (k : Int) else mS f c r gm go ru lo la k
theorem mS_p {f c r : Int} {gm go : Nat → Int} {ru : Nat → Nat → Int} {lo la a K : Int} {k : Nat} (ha : mS f c r gm go ru lo la k = a) (hK : kOff f go c (fun k => ru k 4) (k : Int) = K) (h : oA f c r gm go ru (lo - K) = K ∧ (a = -9223372036854775808 ∨ (la = 1 ∧ a < lo - K) ∨ (la = 0 ∧ lo - K < a))) : mS f c r gm go ru lo la (k + 1) = lo - K := by
  subst ha hK
  exact if_pos h
theorem mS_n {f c r : Int} {gm go : Nat → Int} {ru : Nat → Nat → Int} {lo la a K : Int} {k : Nat} (ha : mS f c r gm go ru lo la k = a) (hK : kOff f go c (fun k => ru k 4) (k : Int) = K) (h : ¬ (oA f c r gm go ru (lo - K) = K ∧ (a = -9223372036854775808 ∨ (la = 1 ∧ a < lo - K) ∨ (la = 0 ∧ lo - K < a)))) : mS f c r gm go ru lo la (k + 1) = a := by
  subst ha hK
  exact if_neg h
theorem kOff_rng {f c r : Int} {gm go : Nat → Int} {ru : Nat → Nat → Int} {k : Int} (h : ZOK f c r gm go ru) (hk : 0 ≤ k ∧ k < 1 + c + r) : -64800 ≤ kOff f go c (fun k => ru k 4) k ∧ kOff f go c (fun k => ru k 4) k ≤ 64800 := by
  obtain ⟨hc, hr, hgm, hmono, hf, hgo, hru⟩ := h
  unfold kOff
  split
  · exact hf
  · split
    · exact hgo _
    · exact (hru (k - 1 - c).toNat (by omega)).2.2.2.2
theorem mS_rng {f c r : Int} {gm go : Nat → Int} {ru : Nat → Nat → Int} {lo la : Int} (h : ZOK f c r gm go ru) (hlo : -377705116800 ≤ lo ∧ lo ≤ 253402300799) : ∀ k : Nat, (k : Int) ≤ 1 + c + r → mS f c r gm go ru lo la k = -9223372036854775808 ∨ (-378000000000 ≤ mS f c r gm go ru lo la k ∧ mS f c r gm go ru lo la k ≤ 254000000000) := by
  intro k
  induction k with
  | zero => intro _; exact Or.inl rfl
  | succ k ih =>
    intro hk
    have h1 := ih (by omega)
    have h2 := kOff_rng (k := (k : Int)) h (by omega)
    by_cases hc : oA f c r gm go ru (lo - kOff f go c (fun k => ru k 4) (k : Int)) = kOff f go c (fun k => ru k 4) (k : Int) ∧ (mS f c r gm go ru lo la k = -9223372036854775808 ∨ (la = 1 ∧ mS f c r gm go ru lo la k < lo - kOff f go c (fun k => ru k 4) (k : Int)) ∨ (la = 0 ∧ lo - kOff f go c (fun k => ru k 4) (k : Int) < mS f c r gm go ru lo la k))
    · rw [mS_p rfl rfl hc]
      omega
    · rw [mS_n rfl rfl hc]
      exact h1
theorem mS_none {f c r : Int} {gm go : Nat → Int} {ru : Nat → Nat → Int} {lo la : Int} (h : ZOK f c r gm go ru) (hlo : -377705116800 ≤ lo ∧ lo ≤ 253402300799) : ∀ n : Nat, (n : Int) ≤ 1 + c + r → mS f c r gm go ru lo la n = -9223372036854775808 → ∀ k : Nat, k < n → oA f c r gm go ru (lo - kOff f go c (fun k => ru k 4) (k : Int)) ≠ kOff f go c (fun k => ru k 4) (k : Int) := by
  intro n
  induction n with
  | zero => intro _ _ k hk; omega
  | succ n ih =>
    intro hn hm k hk
    have h2 := kOff_rng (k := (n : Int)) h (by omega)
    by_cases hc : oA f c r gm go ru (lo - kOff f go c (fun k => ru k 4) (n : Int)) = kOff f go c (fun k => ru k 4) (n : Int) ∧ (mS f c r gm go ru lo la n = -9223372036854775808 ∨ (la = 1 ∧ mS f c r gm go ru lo la n < lo - kOff f go c (fun k => ru k 4) (n : Int)) ∨ (la = 0 ∧ lo - kOff f go c (fun k => ru k 4) (n : Int) < mS f c r gm go ru lo la n))
    · rw [mS_p rfl rfl hc] at hm
      omega
    · rw [mS_n rfl rfl hc] at hm
      rcases Nat.lt_or_eq_of_le (Nat.le_of_lt_succ hk) with h3 | h3
      · exact ih (by omega) hm k h3
      · subst h3
        intro h4
        exact hc ⟨h4, Or.inl hm⟩
def Sat (L t : Int) (ru : Nat → Nat → Int) (k : Nat) (y : Int) : Prop := (-9999 ≤ y ∧ y ≤ 9999) ∧ L < rM ru k y ∧ rM ru k y ≤ t
def Ch (L t bs : Int) (ru : Nat → Nat → Int) (D : Nat → Int → Prop) (s : Int × Int) : Prop :=
  ((∀ k y, D k y → ¬ Sat L t ru k y) ∧ s.1 ≤ L ∧ s.2 = bs) ∨ ∃ k y, D k y ∧ Sat L t ru k y ∧ s.1 = rM ru k y ∧ s.2 = ru k 4 ∧ ∀ k' y', D k' y' → Sat L t ru k' y' → rM ru k' y' < rM ru k y ∨ (rM ru k' y' = rM ru k y ∧ k' ≤ k)
theorem Ch_step {L t bs : Int} {ru : Nat → Nat → Int} {D D' : Nat → Int → Prop} {s : Int × Int} {k : Nat} {y : Int} (h : Ch L t bs ru D s) (hk : ∀ k' y', D k' y' → k' ≤ k) (hD : ∀ k' y', D' k' y' ↔ (D k' y' ∨ (k' = k ∧ y' = y))) : Ch L t bs ru D' (sY L t ru k y s) := by
  by_cases hs : Sat L t ru k y
  · by_cases hc : s.1 ≤ rM ru k y
    · have e1 : sY L t ru k y s = (rM ru k y, ru k 4) := if_pos ⟨hs.1, hs.2.1, hs.2.2, hc⟩
      rw [e1]
      refine Or.inr ⟨k, y, (hD k y).mpr (Or.inr ⟨rfl, rfl⟩), hs, rfl, rfl, fun k' y' h1 h2 => ?_⟩
      rcases (hD k' y').mp h1 with h3 | ⟨h3, h4⟩
      · rcases h with ⟨g1, g2, g3⟩ | ⟨k2, y2, g1, g2, g3, g4, g5⟩
        · exact absurd h2 (g1 k' y' h3)
        · have := g5 k' y' h3 h2
          have := hk k' y' h3
          omega
      · subst h3 h4
        exact Or.inr ⟨rfl, Nat.le_refl _⟩
    · have e1 : sY L t ru k y s = s := if_neg (fun q => hc q.2.2.2)
      rw [e1]
      rcases h with ⟨g1, g2, g3⟩ | ⟨k2, y2, g1, g2, g3, g4, g5⟩
      · have := hs.2.1
        omega
      · refine Or.inr ⟨k2, y2, (hD k2 y2).mpr (Or.inl g1), g2, g3, g4, fun k' y' h1 h2 => ?_⟩
        rcases (hD k' y').mp h1 with h3 | ⟨h3, h4⟩
        · exact g5 k' y' h3 h2
        · subst h3 h4
          left
          omega
  · have e1 : sY L t ru k y s = s := if_neg (fun q => hs ⟨q.1, q.2.1, q.2.2.1⟩)
    rw [e1]
    rcases h with ⟨g1, g2, g3⟩ | ⟨k2, y2, g1, g2, g3, g4, g5⟩
    · refine Or.inl ⟨fun k' y' h1 h2 => ?_, g2, g3⟩
      rcases (hD k' y').mp h1 with h3 | ⟨h3, h4⟩
      · exact g1 k' y' h3 h2
      · subst h3 h4
        exact hs h2
    · refine Or.inr ⟨k2, y2, (hD k2 y2).mpr (Or.inl g1), g2, g3, g4, fun k' y' h1 h2 => ?_⟩
      rcases (hD k' y').mp h1 with h3 | ⟨h3, h4⟩
      · exact g5 k' y' h3 h2
      · subst h3 h4
        exact absurd h2 hs
theorem Ch_rules {L t bs y0 : Int} {ru : Nat → Nat → Int} : ∀ n : Nat, Ch L t bs ru (fun k y => k < n ∧ y0 - 2 ≤ y ∧ y ≤ y0) (rY L t ru y0 n (L, bs)) := by
  intro n
  induction n with
  | zero => exact Or.inl ⟨fun k y h => absurd h.1 (Nat.not_lt_zero k), Int.le_refl _, rfl⟩
  | succ n ih =>
    show Ch L t bs ru _ (sY L t ru n (y0 - 2 + 1 + 1) (sY L t ru n (y0 - 2 + 1) (sY L t ru n (y0 - 2) (rY L t ru y0 n (L, bs)))))
    refine Ch_step (D := fun k y => (k < n ∧ y0 - 2 ≤ y ∧ y ≤ y0) ∨ (k = n ∧ (y = y0 - 2 ∨ y = y0 - 2 + 1))) (Ch_step (D := fun k y => (k < n ∧ y0 - 2 ≤ y ∧ y ≤ y0) ∨ (k = n ∧ y = y0 - 2)) (Ch_step ih ?_ ?_) ?_ ?_) ?_ ?_
    · intro k' y' h; omega
    · intro k' y'; rfl
    · intro k' y' h; omega
    · intro k' y'; omega
    · intro k' y' h; omega
    · intro k' y'; omega
theorem rM_inc {ru : Nat → Nat → Int} {k : Nat} {y : Int} (h : RV ru k) : rM ru k y < rM ru k (y + 1) := by
  obtain ⟨h0, h1, h2, h3, h4⟩ := h
  have c1 := rday_c (ru k 0) (ru k 1) (ru k 2) y
  have c2 := rday_c (ru k 0) (ru k 1) (ru k 2) (y + 1)
  have d1 := dby_lp y
  have l1 := lp_c y
  have l2 := lp_c (y + 1)
  have e1 := lenM_c y (ru k 0)
  have e2 := lenM_c (y + 1) (ru k 0)
  have key : rday (ru k 0) (ru k 1) (ru k 2) y + 300 < rday (ru k 0) (ru k 1) (ru k 2) (y + 1) := by
    rcases h1 with h1 | h1
    · have q1 := doy_c y (ru k 0) (lenM y (ru k 0))
      have q2 := doy_c (y + 1) (ru k 0) (lenM (y + 1) (ru k 0))
      have f1 : ed y (ru k 0) (lenM y (ru k 0)) = dby y + doy y (ru k 0) (lenM y (ru k 0)) - 1 - 719528 := rfl
      have f2 : ed (y + 1) (ru k 0) (lenM (y + 1) (ru k 0)) = dby (y + 1) + doy (y + 1) (ru k 0) (lenM (y + 1) (ru k 0)) - 1 - 719528 := rfl
      omega
    · have q1 := doy_c y (ru k 0) (ru k 1)
      have q2 := doy_c (y + 1) (ru k 0) (ru k 1)
      have f1 : ed y (ru k 0) (ru k 1) = dby y + doy y (ru k 0) (ru k 1) - 1 - 719528 := rfl
      have f2 : ed (y + 1) (ru k 0) (ru k 1) = dby (y + 1) + doy (y + 1) (ru k 0) (ru k 1) - 1 - 719528 := rfl
      omega
  unfold rM rMom
  omega
theorem dby_le {a b : Int} (h : a ≤ b) : dby a ≤ dby b := by
  rcases Int.lt_or_eq_of_le h with h | h
  · have := dby_mono h; omega
  · rw [h]; exact Int.le_refl _
theorem Ch_all {L t bs : Int} {ru : Nat → Nat → Int} {n : Nat} {s : Int × Int} (hv : ∀ k, k < n → RV ru k) (hy : yr (t / 86400) ≤ 10001) (h : Ch L t bs ru (fun k y => k < n ∧ yr (t / 86400) - 2 ≤ y ∧ y ≤ yr (t / 86400)) s) : Ch L t bs ru (fun k _ => k < n) s := by
  have dom : ∀ (N : Nat) (k : Nat) (y : Int), k < n → Sat L t ru k y → yr (t / 86400) - 2 - y ≤ N → ∃ y', (yr (t / 86400) - 2 ≤ y' ∧ y' ≤ yr (t / 86400)) ∧ Sat L t ru k y' ∧ rM ru k y ≤ rM ru k y' := by
    intro N
    induction N with
    | zero =>
      intro k y hk hs hN
      refine ⟨y, ⟨by omega, ?_⟩, hs, Int.le_refl _⟩
      rcases Int.lt_or_le (yr (t / 86400)) y with g | g
      · have := rM_next (t := t) (hv k hk) g
        have := hs.2.2
        omega
      · exact g
    | succ N ih =>
      intro k y hk hs hN
      rcases Int.lt_or_le y (yr (t / 86400) - 2) with g | g
      · have hi := rM_inc (y := y) (hv k hk)
        obtain ⟨e, e1, e2, e3⟩ := rM_day (y := y + 1) (hv k hk)
        have v3 := (hv k hk).2.2.2.1
        have yc := yr_c (t / 86400)
        have m1 : dby (y + 1 + 1) + 365 ≤ dby (yr (t / 86400)) := dby_mono (by omega)
        have hs1 := hs.1
        have hs2 := hs.2.1
        have hs' : Sat L t ru k (y + 1) := by
          refine ⟨by omega, by omega, ?_⟩
          have ht : t / 86400 * 86400 ≤ t := by omega
          generalize t / 86400 = q at *
          omega
        obtain ⟨y', g1, g2, g3⟩ := ih k (y + 1) hk hs' (by omega)
        exact ⟨y', g1, g2, by omega⟩
      · refine ⟨y, ⟨by omega, ?_⟩, hs, Int.le_refl _⟩
        rcases Int.lt_or_le (yr (t / 86400)) y with g2 | g2
        · have := rM_next (t := t) (hv k hk) g2
          have := hs.2.2
          omega
        · exact g2
  rcases h with ⟨g1, g2, g3⟩ | ⟨k2, y2, g1, g2, g3, g4, g5⟩
  · refine Or.inl ⟨fun k y hk hs => ?_, g2, g3⟩
    obtain ⟨y', q1, q2, q3⟩ := dom (yr (t / 86400) - 2 - y).toNat k y hk hs (by omega)
    exact g1 k y' ⟨hk, q1⟩ q2
  · refine Or.inr ⟨k2, y2, g1.1, g2, g3, g4, fun k y hk hs => ?_⟩
    obtain ⟨y', q1, q2, q3⟩ := dom (yr (t / 86400) - 2 - y).toNat k y hk hs (by omega)
    have := g5 k y' ⟨hk, q1⟩ q2
    omega
