theorem dby_mono {a b : Int} (h : a < b) : dby a + 365 ≤ dby b := by unfold dby; omega
theorem c12 {k : Int} (h : 1 ≤ k ∧ k ≤ 12) : k = 1 ∨ k = 2 ∨ k = 3 ∨ k = 4 ∨ k = 5 ∨ k = 6 ∨ k = 7 ∨ k = 8 ∨ k = 9 ∨ k = 10 ∨ k = 11 ∨ k = 12 := by omega
theorem doy_step (y k r : Int) (hk : 1 ≤ k ∧ k ≤ 11) : doy y (k + 1) (r - lenM y k) = doy y k r := by
  have h1 := doy_c y (k + 1) (r - lenM y k)
  have h2 := doy_c y k r
  have h3 := lenM_c y k
  have h4 := lp_c y
  rcases c12 (k := k) (by omega) with rfl | rfl | rfl | rfl | rfl | rfl | rfl | rfl | rfl | rfl | rfl | rfl <;> omega
theorem ed_step (y k r : Int) (hk : 1 ≤ k ∧ k ≤ 11) : ed y (k + 1) (r - lenM y k) = ed y k r := by
  unfold ed
  rw [doy_step y k r hk]
theorem doy_rng {y m d : Int} (hm : 1 ≤ m ∧ m ≤ 12) (hd : 1 ≤ d ∧ d ≤ lenM y m) : 1 ≤ doy y m d ∧ doy y m d ≤ 365 + lp y := by
  have h2 := doy_c y m d
  have h3 := lenM_c y m
  have h4 := lp_c y
  rcases c12 hm with rfl | rfl | rfl | rfl | rfl | rfl | rfl | rfl | rfl | rfl | rfl | rfl <;> omega
theorem ed_yr {y m d : Int} (hm : 1 ≤ m ∧ m ≤ 12) (hd : 1 ≤ d ∧ d ≤ lenM y m) : dby y ≤ ed y m d + 719528 ∧ ed y m d + 719528 < dby (y + 1) := by
  have h1 := doy_rng hm hd
  have h2 := dby_lp y
  unfold ed
  omega
theorem yr_uniq {e y : Int} (h : dby y ≤ e + 719528 ∧ e + 719528 < dby (y + 1)) : yr e = y := by
  have h1 := yr_c e
  rcases Int.lt_trichotomy (yr e) y with h2 | h2 | h2
  · have h3 : yr e + 1 = y ∨ yr e + 1 < y := by omega
    rcases h3 with h3 | h3
    · rw [h3] at h1; omega
    · have := dby_mono h3; omega
  · exact h2
  · have h3 : y + 1 = yr e ∨ y + 1 < yr e := by omega
    rcases h3 with h3 | h3
    · rw [h3] at h; omega
    · have := dby_mono h3; omega
theorem yr_ed {y m d : Int} (hm : 1 ≤ m ∧ m ≤ 12) (hd : 1 ≤ d ∧ d ≤ lenM y m) : yr (ed y m d) = y := yr_uniq (ed_yr hm hd)
theorem doy_lt {y m d m' d' : Int} (hm : 1 ≤ m ∧ m ≤ 12) (hm' : 1 ≤ m' ∧ m' ≤ 12) (hd : 1 ≤ d ∧ d ≤ lenM y m) (hd' : 1 ≤ d') (h : m < m') : doy y m d < doy y m' d' := by
  have a1 := doy_c y m d
  have a2 := doy_c y m' d'
  have a3 := lenM_c y m
  have a4 := lp_c y
  have a5 : (367 * (m + 1) - 362) / 12 ≤ (367 * m' - 362) / 12 := by omega
  rcases c12 hm with rfl | rfl | rfl | rfl | rfl | rfl | rfl | rfl | rfl | rfl | rfl | rfl <;> omega
theorem ed_inj {y m d y' m' d' : Int} (hm : 1 ≤ m ∧ m ≤ 12) (hd : 1 ≤ d ∧ d ≤ lenM y m) (hm' : 1 ≤ m' ∧ m' ≤ 12) (hd' : 1 ≤ d' ∧ d' ≤ lenM y' m') (h : ed y m d = ed y' m' d') : y = y' ∧ m = m' ∧ d = d' := by
  have hy : y = y' := by rw [← yr_ed hm hd, ← yr_ed hm' hd', h]
  subst hy
  have h1 : doy y m d = doy y m' d' := by unfold ed at h; omega
  rcases Int.lt_trichotomy m m' with h2 | h2 | h2
  · have := doy_lt hm hm' hd hd'.1 h2; omega
  · subst h2
    refine ⟨rfl, rfl, ?_⟩
    have a1 := doy_c y m d
    have a2 := doy_c y m d'
    omega
  · have := doy_lt hm' hm hd' hd.1 h2; omega
theorem ed_rng {y m d : Int} (hy : -9999 ≤ y ∧ y ≤ 9999) (hm : 1 ≤ m ∧ m ≤ 12) (hd : 1 ≤ d ∧ d ≤ lenM y m) : -4371587 ≤ ed y m d ∧ ed y m d ≤ 2932896 := by
  have h1 := ed_yr hm hd
  have h2 : dby (-9999) = -3652059 := by decide
  have h3 : dby 10000 = 3652425 := by decide
  have h4 : dby (-9999) ≤ dby y := by
    rcases Int.lt_or_le (-9999) y with h | h
    · have := dby_mono h; omega
    · rw [show y = -9999 by omega]; omega
  have h5 : dby (y + 1) ≤ dby 10000 := by
    rcases Int.lt_or_le (y + 1) 10000 with h | h
    · have := dby_mono h; omega
    · rw [show y + 1 = 10000 by omega]; omega
  omega
theorem yr_rng {e : Int} (h : -4371587 ≤ e ∧ e ≤ 2932896) : -9999 ≤ yr e ∧ yr e ≤ 9999 := by
  have h1 := yr_c e
  have h2 : dby (-9999) = -3652059 := by decide
  have h3 : dby 10000 = 3652425 := by decide
  constructor
  · rcases Int.lt_or_le (yr e) (-9999) with h4 | h4
    · rcases Int.lt_or_le (yr e + 1) (-9999) with h5 | h5
      · have := dby_mono h5; omega
      · rw [show yr e + 1 = -9999 by omega] at h1; omega
    · exact h4
  · rcases Int.lt_or_le 9999 (yr e) with h4 | h4
    · rcases Int.lt_or_le 10000 (yr e) with h5 | h5
      · have := dby_mono h5; omega
      · rw [show yr e = 10000 by omega] at h1; omega
    · exact h4
theorem ed_jan1 (y : Int) : ed y 1 1 = dby y - 719528 := by
  have := doy_c y 1 1
  unfold ed
  omega
def stC (y m d n : Int) : va_E := .inr (3, [.int (iI y), .int (iI m), .int (iI d), .long (lI n)])
