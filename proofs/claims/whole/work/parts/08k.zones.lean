def rM (ru : Nat → Nat → Int) (k : Nat) (y : Int) : Int := rMom (ru k 0) (ru k 1) (ru k 2) (ru k 3) y
def RV (ru : Nat → Nat → Int) (k : Nat) : Prop := (1 ≤ ru k 0 ∧ ru k 0 ≤ 12) ∧ (ru k 1 = -1 ∨ (1 ≤ ru k 1 ∧ ru k 1 ≤ 28)) ∧ (1 ≤ ru k 2 ∧ ru k 2 ≤ 7) ∧ (0 ≤ ru k 3 ∧ ru k 3 ≤ 86400) ∧ (-64800 ≤ ru k 4 ∧ ru k 4 ≤ 64800)
def ZOK (f c r : Int) (gm go : Nat → Int) (ru : Nat → Nat → Int) : Prop :=
  (0 ≤ c ∧ c ≤ 8) ∧ (0 ≤ r ∧ r ≤ 2) ∧ (∀ k : Nat, -377700000000 ≤ gm k ∧ gm k ≤ 253400000000) ∧ (∀ i j : Nat, i < j → (j : Int) < c → gm i < gm j) ∧ (-64800 ≤ f ∧ f ≤ 64800) ∧ (∀ k : Nat, -64800 ≤ go k ∧ go k ≤ 64800) ∧ (∀ k : Nat, (k : Int) < r → RV ru k)
theorem rM_day {ru : Nat → Nat → Int} {k : Nat} {y : Int} (h : RV ru k) : ∃ e : Int, rM ru k y = e * 86400 + ru k 3 ∧ dby y - 719528 ≤ e ∧ e ≤ dby (y + 1) + 6 - 719529 := by
  obtain ⟨h0, h1, h2, h3, h4⟩ := h
  refine ⟨rday (ru k 0) (ru k 1) (ru k 2) y, rfl, ?_⟩
  have hl := lenM_rng y (ru k 0)
  have hc := rday_c (ru k 0) (ru k 1) (ru k 2) y
  rcases hc with ⟨hd, hr⟩ | ⟨hd, hr⟩
  · have a1 := ed_yr (y := y) (m := ru k 0) (d := lenM y (ru k 0)) h0 (by omega)
    have a2 := ed_yr (y := y) (m := ru k 0) (d := lenM y (ru k 0) - 6) h0 (by omega)
    have a3 : ed y (ru k 0) (lenM y (ru k 0)) - ed y (ru k 0) (lenM y (ru k 0) - 6) = 6 := by
      have q1 := doy_c y (ru k 0) (lenM y (ru k 0))
      have q2 := doy_c y (ru k 0) (lenM y (ru k 0) - 6)
      unfold ed
      omega
    omega
  · have a1 := ed_yr (y := y) (m := ru k 0) (d := ru k 1) h0 (by omega)
    omega
theorem rM_rng {ru : Nat → Nat → Int} {k : Nat} {y : Int} (h : RV ru k) (hy : -9999 ≤ y ∧ y ≤ 9999) : -377800000000 ≤ rM ru k y ∧ rM ru k y ≤ 253500000000 := by
  obtain ⟨e, h1, h2, h3⟩ := rM_day (y := y) h
  have h4 := h.2.2.2.1
  have b2 : dby (-9999) = -3652059 := by decide
  have b3 : dby 10000 = 3652425 := by decide
  have b4 : dby (-9999) ≤ dby y := by
    rcases Int.lt_or_le (-9999) y with h | h
    · have := dby_mono h; omega
    · rw [show y = -9999 by omega]; omega
  have b5 : dby (y + 1) ≤ dby 10000 := by
    rcases Int.lt_or_le (y + 1) 10000 with h | h
    · have := dby_mono h; omega
    · rw [show y + 1 = 10000 by omega]; omega
  omega
def sY (L t : Int) (ru : Nat → Nat → Int) (k : Nat) (y : Int) (s : Int × Int) : Int × Int := if (-9999 ≤ y ∧ y ≤ 9999) ∧ L < rM ru k y ∧ rM ru k y ≤ t ∧ s.1 ≤ rM ru k y then (rM ru k y, ru k 4) else s
def iY (L t : Int) (ru : Nat → Nat → Int) (k : Nat) : Nat → Int → Int × Int → Int × Int
  | 0, _, s => s
  | n + 1, y, s => iY L t ru k n (y + 1) (sY L t ru k y s)
def rY (L t : Int) (ru : Nat → Nat → Int) (y0 : Int) : Nat → Int × Int → Int × Int
  | 0, s => s
  | k + 1, s => iY L t ru k 3 (y0 - 2) (rY L t ru y0 k s)
def oA (f c r : Int) (gm go : Nat → Int) (ru : Nat → Nat → Int) (t : Int) : Int := (rY (lastC gm c) t ru (yr (t / 86400)) r.toNat (lastC gm c, obc f gm go t c.toNat)).2
theorem sY_p {L t : Int} {ru : Nat → Nat → Int} {k : Nat} {y a b : Int} (h : (-9999 ≤ y ∧ y ≤ 9999) ∧ L < rM ru k y ∧ rM ru k y ≤ t ∧ a ≤ rM ru k y) : sY L t ru k y (a, b) = (rM ru k y, ru k 4) := if_pos h
theorem sY_n {L t : Int} {ru : Nat → Nat → Int} {k : Nat} {y : Int} {s : Int × Int} (h : ¬ ((-9999 ≤ y ∧ y ≤ 9999) ∧ L < rM ru k y ∧ rM ru k y ≤ t ∧ s.1 ≤ rM ru k y)) : sY L t ru k y s = s := if_neg h
theorem iY_out {L t : Int} {ru : Nat → Nat → Int} {k : Nat} : ∀ (n : Nat) (y : Int) (s : Int × Int), (9999 < y ∨ y + n ≤ -9999) → iY L t ru k n y s = s := by
  intro n
  induction n with
  | zero => intro y s _; rfl
  | succ n ih =>
    intro y s h
    show iY L t ru k n (y + 1) (sY L t ru k y s) = s
    rw [sY_n (by omega), ih _ _ (by omega)]
theorem iY_add {L t : Int} {ru : Nat → Nat → Int} {k b : Nat} : ∀ (a : Nat) (y : Int) (s : Int × Int), iY L t ru k (a + b) y s = iY L t ru k b (y + a) (iY L t ru k a y s) := by
  intro a
  induction a with
  | zero => intro y s; rw [show 0 + b = b by omega, show y + ((0 : Nat) : Int) = y by omega]; rfl
  | succ a ih =>
    intro y s
    rw [show a + 1 + b = (a + b) + 1 by omega]
    show iY L t ru k (a + b) (y + 1) (sY L t ru k y s) = _
    rw [ih, show y + 1 + (a : Int) = y + ((a + 1 : Nat) : Int) by omega]
    rfl
theorem iY_lo {L t : Int} {ru : Nat → Nat → Int} {k : Nat} {y0 y : Int} {s : Int × Int} (hy : (y0 - 2 < -9999 ∧ y = -9999) ∨ (-9999 ≤ y0 - 2 ∧ y = y0 - 2)) : iY L t ru k (y0 + 1 - y).toNat y s = iY L t ru k 3 (y0 - 2) s := by
  rcases hy with ⟨h1, h2⟩ | ⟨h1, h2⟩
  · rcases Int.lt_or_le (y0 + 1) (-9999) with h3 | h3
    · rw [show (y0 + 1 - y).toNat = 0 by omega, iY_out 3 _ _ (by omega)]
      rfl
    · rw [show 3 = (-9999 - (y0 - 2)).toNat + (y0 + 1 - y).toNat by omega, iY_add, iY_out ((-9999 - (y0 - 2)).toNat) _ _ (by omega), show y0 - 2 + (((-9999 - (y0 - 2)).toNat : Nat) : Int) = y by omega]
  · rw [h2, show (y0 + 1 - (y0 - 2)).toNat = 3 by omega]
theorem iY_st {L t : Int} {ru : Nat → Nat → Int} {k : Nat} {y0 y : Int} {s : Int × Int} (h : y ≤ y0) : iY L t ru k (y0 + 1 - y).toNat y s = iY L t ru k (y0 + 1 - (y + 1)).toNat (y + 1) (sY L t ru k y s) := by
  rw [show (y0 + 1 - y).toNat = (y0 + 1 - (y + 1)).toNat + 1 by omega]
  rfl
def sR (L : Int) (s s' : Int × Int) : Prop := s.2 = s'.2 ∧ (s.1 = s'.1 ∨ (s.1 ≤ L ∧ s'.1 ≤ L))
theorem sY_R {L t : Int} {ru : Nat → Nat → Int} {k : Nat} {y : Int} {s s' : Int × Int} (h : sR L s s') : sR L (sY L t ru k y s) (sY L t ru k y s') := by
  obtain ⟨h1, h2⟩ := h
  by_cases hc : (-9999 ≤ y ∧ y ≤ 9999) ∧ L < rM ru k y ∧ rM ru k y ≤ t ∧ s.1 ≤ rM ru k y
  · have hc' : (-9999 ≤ y ∧ y ≤ 9999) ∧ L < rM ru k y ∧ rM ru k y ≤ t ∧ s'.1 ≤ rM ru k y := by omega
    unfold sY
    rw [if_pos hc, if_pos hc']
    exact ⟨rfl, Or.inl rfl⟩
  · have hc' : ¬ ((-9999 ≤ y ∧ y ≤ 9999) ∧ L < rM ru k y ∧ rM ru k y ≤ t ∧ s'.1 ≤ rM ru k y) := by omega
    unfold sY
    rw [if_neg hc, if_neg hc']
    exact ⟨h1, h2⟩
theorem iY_R {L t : Int} {ru : Nat → Nat → Int} {k : Nat} : ∀ (n : Nat) (y : Int) (s s' : Int × Int), sR L s s' → sR L (iY L t ru k n y s) (iY L t ru k n y s') := by
  intro n
  induction n with
  | zero => intro y s s' h; exact h
  | succ n ih => intro y s s' h; exact ih _ _ _ (sY_R h)
theorem rY_R {L t : Int} {ru : Nat → Nat → Int} {y0 : Int} {s s' : Int × Int} (h : sR L s s') : ∀ k : Nat, sR L (rY L t ru y0 k s) (rY L t ru y0 k s') := by
  intro k
  induction k with
  | zero => exact h
  | succ k ih => exact iY_R 3 _ _ _ ih
theorem sY_1 {L t : Int} {ru : Nat → Nat → Int} {k : Nat} {y : Int} {s : Int × Int} : ((sY L t ru k y s).1 = s.1 ∧ (sY L t ru k y s).2 = s.2) ∨ ((-9999 ≤ y ∧ y ≤ 9999) ∧ L < rM ru k y ∧ rM ru k y ≤ t ∧ s.1 ≤ rM ru k y ∧ (sY L t ru k y s).1 = rM ru k y ∧ (sY L t ru k y s).2 = ru k 4) := by
  unfold sY
  split
  · rename_i h
    exact Or.inr ⟨h.1, h.2.1, h.2.2.1, h.2.2.2, rfl, rfl⟩
  · exact Or.inl ⟨rfl, rfl⟩
theorem iY_P {L t : Int} {ru : Nat → Nat → Int} {k : Nat} (P : Int × Int → Prop) (hP : ∀ (y : Int) (s : Int × Int), (-9999 ≤ y ∧ y ≤ 9999) → P s → L < rM ru k y → rM ru k y ≤ t → P (rM ru k y, ru k 4)) : ∀ (n : Nat) (y : Int) (s : Int × Int), P s → P (iY L t ru k n y s) := by
  intro n
  induction n with
  | zero => intro y s h; exact h
  | succ n ih =>
    intro y s h
    refine ih _ _ ?_
    unfold sY
    split
    · rename_i hc
      exact hP y s hc.1 h hc.2.1 hc.2.2.1
    · exact h
theorem rY_P {L t : Int} {ru : Nat → Nat → Int} {y0 : Int} {s : Int × Int} (P : Int × Int → Prop) (hs : P s) : ∀ k : Nat, (∀ (j : Nat) (y : Int) (s : Int × Int), j < k → (-9999 ≤ y ∧ y ≤ 9999) → P s → L < rM ru j y → rM ru j y ≤ t → P (rM ru j y, ru j 4)) → P (rY L t ru y0 k s) := by
  intro k
  induction k with
  | zero => intro _; exact hs
  | succ k ih => intro hP; exact iY_P P (fun y s a b => hP k y s (Nat.lt_succ_self k) a b) 3 _ _ (ih (fun j y s h => hP j y s (Nat.lt_succ_of_lt h)))
theorem obc_rng {f : Int} {gm go : Nat → Int} {t : Int} (hf : -64800 ≤ f ∧ f ≤ 64800) (hg : ∀ k : Nat, -64800 ≤ go k ∧ go k ≤ 64800) : ∀ k : Nat, -64800 ≤ obc f gm go t k ∧ obc f gm go t k ≤ 64800 := by
  intro k
  induction k with
  | zero => exact hf
  | succ k ih =>
    show -64800 ≤ (if gm k ≤ t then go k else obc f gm go t k) ∧ (if gm k ≤ t then go k else obc f gm go t k) ≤ 64800
    split
    · exact hg k
    · exact ih
theorem oA_rng {f c r : Int} {gm go : Nat → Int} {ru : Nat → Nat → Int} {t : Int} (h : ZOK f c r gm go ru) : -64800 ≤ oA f c r gm go ru t ∧ oA f c r gm go ru t ≤ 64800 := by
  obtain ⟨h1, h2, h3, h4, h5, h6, h7⟩ := h
  unfold oA
  refine rY_P (fun s => -64800 ≤ s.2 ∧ s.2 ≤ 64800) (obc_rng h5 h6 _) _ (fun j y s hj _ _ _ _ => ?_)
  exact (h7 j (by omega)).2.2.2.2
theorem lastC_rng {gm : Nat → Int} {c : Int} (h : ∀ k : Nat, -377700000000 ≤ gm k ∧ gm k ≤ 253400000000) : -9223372036854775808 ≤ lastC gm c ∧ lastC gm c ≤ 253400000000 := by
  unfold lastC
  split
  · have := h (c - 1).toNat; omega
  · omega
theorem yr_t {t : Int} (h : -378000000000 ≤ t ∧ t ≤ 254000000000) : -10011 ≤ yr (t / 86400) ∧ yr (t / 86400) ≤ 10020 := by
  have h1 := yr_c (t / 86400)
  have h0 : -4375000 ≤ t / 86400 ∧ t / 86400 ≤ 2939815 := by omega
  generalize t / 86400 = e at *
  have b1 : dby (-10011) = -3656442 := by decide
  have b2 : dby 10020 = 3659730 := by decide
  constructor
  · rcases Int.lt_or_le (yr e) (-10011) with h4 | h4
    · rcases Int.lt_or_le (yr e + 1) (-10011) with h5 | h5
      · have := dby_mono h5; omega
      · rw [show yr e + 1 = -10011 by omega] at h1; omega
    · exact h4
  · rcases Int.lt_or_le 10020 (yr e) with h4 | h4
    · have := dby_mono h4; omega
    · exact h4
theorem rM_next {ru : Nat → Nat → Int} {k : Nat} {y t : Int} (h : RV ru k) (hy : yr (t / 86400) < y) : t < rM ru k y := by
  obtain ⟨e, h1, h2, h3⟩ := rM_day (y := y) h
  have h4 := h.2.2.2.1
  have h5 := yr_c (t / 86400)
  have h6 : dby (yr (t / 86400) + 1) ≤ dby y := by
    rcases Int.lt_or_le (yr (t / 86400) + 1) y with h | h
    · have := dby_mono h; omega
    · rw [show yr (t / 86400) + 1 = y by omega]; omega
  omega
theorem iY_4 {L t : Int} {ru : Nat → Nat → Int} {k : Nat} {s : Int × Int} (h : RV ru k) : iY L t ru k 4 (yr (t / 86400) - 2) s = iY L t ru k 3 (yr (t / 86400) - 2) s := by
  rw [show (4 : Nat) = 3 + 1 by rfl, iY_add]
  show sY L t ru k (yr (t / 86400) - 2 + ((3 : Nat) : Int)) _ = _
  refine sY_n (fun hc => ?_)
  have := rM_next (t := t) (y := yr (t / 86400) - 2 + ((3 : Nat) : Int)) h (by omega)
  omega
