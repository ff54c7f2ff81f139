theorem qi {Q : Option Value → AH → Prop} {w : AH} {a b : Int} (h : Q (some (.int (iI a))) w) (e : b = a) : Q (some (.int (iI b))) w := e ▸ h
theorem ql {Q : Option Value → AH → Prop} {w : AH} {a b : Int} (h : Q (some (.long (lI a))) w) (e : b = a) : Q (some (.long (lI b))) w := e ▸ h
def lp (y : Int) : Int := if (y % 4 = 0 ∧ y % 100 ≠ 0) ∨ y % 400 = 0 then 1 else 0
theorem lp_c (y : Int) : ((y % 4 = 0 ∧ y % 100 ≠ 0 ∨ y % 400 = 0) ∧ lp y = 1) ∨ (¬ (y % 4 = 0 ∧ y % 100 ≠ 0 ∨ y % 400 = 0) ∧ lp y = 0) := by
  unfold lp
  split
  · left; constructor <;> first | assumption | rfl
  · right; constructor <;> first | assumption | rfl
def lenM (y m : Int) : Int := if m = 2 then 28 + lp y else if m = 4 ∨ m = 6 ∨ m = 9 ∨ m = 11 then 30 else 31
theorem lenM_c (y m : Int) : (m = 2 ∧ lenM y m = 28 + lp y) ∨ ((m = 4 ∨ m = 6 ∨ m = 9 ∨ m = 11) ∧ lenM y m = 30) ∨ (m ≠ 2 ∧ m ≠ 4 ∧ m ≠ 6 ∧ m ≠ 9 ∧ m ≠ 11 ∧ lenM y m = 31) := by
  unfold lenM
  split
  · left; constructor <;> first | assumption | rfl
  · split
    · right; left; constructor <;> first | assumption | rfl
    · right; right; omega
theorem lenM_rng (y m : Int) : 28 ≤ lenM y m ∧ lenM y m ≤ 31 := by
  have h1 := lenM_c y m
  have h2 := lp_c y
  omega
def dby (y : Int) : Int := 365 * y + (y + 3) / 4 - (y + 99) / 100 + (y + 399) / 400
def doy (y m d : Int) : Int := (367 * m - 362) / 12 + d + (if m ≤ 2 then 0 else lp y - 2)
theorem doy_c (y m d : Int) : (m ≤ 2 ∧ doy y m d = (367 * m - 362) / 12 + d) ∨ (2 < m ∧ doy y m d = (367 * m - 362) / 12 + d + lp y - 2) := by
  unfold doy
  split <;> omega
def ed (y m d : Int) : Int := dby y + doy y m d - 1 - 719528
def yr (e : Int) : Int := if e + 719528 < dby ((e + 719528) * 400 / 146097) then (e + 719528) * 400 / 146097 - 1 else if dby ((e + 719528) * 400 / 146097 + 1) ≤ e + 719528 then (e + 719528) * 400 / 146097 + 1 else (e + 719528) * 400 / 146097
theorem dby_lp (y : Int) : dby (y + 1) = dby y + 365 + lp y := by
  have h := lp_c y
  unfold dby
  omega
theorem dby_near (d n : Int) (hn : n = d * 400 / 146097) : dby (n - 1) ≤ d ∧ d < dby (n + 2) := by
  unfold dby
  omega
theorem yr_c (e : Int) : dby (yr e) ≤ e + 719528 ∧ e + 719528 < dby (yr e + 1) := by
  obtain ⟨n, hn⟩ : ∃ n, n = (e + 719528) * 400 / 146097 := ⟨_, rfl⟩
  obtain ⟨h1, h2⟩ := dby_near (e + 719528) n hn
  unfold yr
  rw [← hn]
  split
  · rename_i h
    rw [show n - 1 + 1 = n by omega]
    exact ⟨h1, h⟩
  · split
    · rename_i h
      rw [show n + 1 + 1 = n + 2 by omega]
      exact ⟨h, h2⟩
    · rename_i h h3
      exact ⟨by omega, by omega⟩
def wd (e : Int) : Int := (e + 3) % 7 + 1
theorem wd_c (e : Int) : wd e = (e + 3) % 7 + 1 := rfl
