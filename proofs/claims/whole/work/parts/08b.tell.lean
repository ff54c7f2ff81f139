def fI (t : Int) : Int := t - t / 1460 + t / 36524 - t / 146096
def sI (q : Int) : Int := 365 * q + q / 4 - q / 100 + q / 400
theorem fI_s {t : Int} (h : 0 ≤ t ∧ t + 1 ≤ 146096) : fI t ≤ fI (t + 1) := by
  unfold fI
  rcases (show t + 1 = 146096 ∨ t + 1 < 146096 by omega) with e | e
  · rw [show t = 146095 by omega]; decide
  · have h1 : t / 146096 = 0 := by omega
    have h2 : (t + 1) / 146096 = 0 := by omega
    rw [h1, h2]
    omega
theorem fI_m : ∀ (k : Nat) (t : Int), 0 ≤ t → t + k ≤ 146096 → fI t ≤ fI (t + k) := by
  intro k
  induction k with
  | zero => intro t _ _; rw [show t + ((0 : Nat) : Int) = t by omega]; exact Int.le_refl _
  | succ k ih =>
    intro t h0 h1
    have h2 := ih t h0 (by omega)
    have h3 := fI_s (t := t + k) (by omega)
    rw [show t + ((k + 1 : Nat) : Int) = t + k + 1 by omega]
    omega
theorem fI_b : ∀ q : Nat, q < 400 → 365 * (q : Int) ≤ fI (sI q) ∧ fI (sI ((q : Int) + 1) - 1) ≤ 365 * (q : Int) + 364 := by decide +kernel
theorem sI_d (q : Int) : sI q = dby (q + 1) - 366 := by
  unfold sI dby
  omega
theorem fI_q {t q : Int} (h : 0 ≤ t ∧ t ≤ 146096) (hq : 0 ≤ q ∧ q ≤ 399) (hs : sI q ≤ t ∧ t < sI (q + 1)) : fI t / 365 = q := by
  have h1 := fI_b q.toNat (by omega)
  rw [show ((q.toNat : Nat) : Int) = q by omega] at h1
  have hs0 : 0 ≤ sI q := by unfold sI; omega
  have hs1 : sI (q + 1) ≤ 146097 := by unfold sI; omega
  have h2 := fI_m (t - sI q).toNat (sI q) hs0 (by omega)
  rw [show sI q + (((t - sI q).toNat : Nat) : Int) = t by omega] at h2
  have h3 := fI_m (sI (q + 1) - 1 - t).toNat t h.1 (by omega)
  rw [show t + (((sI (q + 1) - 1 - t).toNat : Nat) : Int) = sI (q + 1) - 1 by omega] at h3
  omega
theorem fI_k {t : Int} (h : 0 ≤ t ∧ t ≤ 146096) : ∃ q : Int, (t - t / 1460 + t / 36524 - t / 146096) / 365 = q ∧ (0 ≤ q ∧ q ≤ 399) ∧ sI q ≤ t ∧ t < sI (q + 1) := by
  have hy := yr_c (t + 366 - 719528)
  obtain ⟨Y, hY⟩ : ∃ Y, Y = yr (t + 366 - 719528) := ⟨_, rfl⟩
  rw [← hY] at hy
  have e1 := sI_d (Y - 1)
  have e2 := sI_d Y
  rw [show Y - 1 + 1 = Y by omega] at e1
  have hq : 0 ≤ Y - 1 ∧ Y - 1 ≤ 399 := by
    have a1 : sI (Y - 1) ≤ t := by omega
    have a2 : t < sI Y := by omega
    clear e1 e2 hy hY
    constructor
    · rcases (show 1 ≤ Y ∨ Y = 0 ∨ Y ≤ -1 by omega) with g | g | g
      · omega
      · subst g
        have : sI 0 = 0 := by decide
        omega
      · unfold sI at a2
        omega
    · rcases (show Y ≤ 400 ∨ Y = 401 ∨ 402 ≤ Y by omega) with g | g | g
      · omega
      · subst g
        have : sI (401 - 1) = 146097 := by decide
        omega
      · unfold sI at a1
        omega
  refine ⟨Y - 1, fI_q h hq ?_, hq, ?_⟩
  · rw [show Y - 1 + 1 = Y by omega]; omega
  · rw [show Y - 1 + 1 = Y by omega]; omega
theorem tell_ok {e P t q s m : Int} (hP : P = (e + 719468) / 146097) (ht : t = e + 719468 - 146097 * P) (hq : q = (t - t / 1460 + t / 36524 - t / 146096) / 365) (hs : s = t - (365 * q + q / 4 - q / 100)) (hm : m = (5 * s + 2) / 153) :
    (0 ≤ q ∧ q ≤ 399) ∧ (0 ≤ s ∧ s ≤ 365) ∧ (m < 10 → (1 ≤ m + 3 ∧ m + 3 ≤ 12) ∧ (1 ≤ s - (153 * m + 2) / 5 + 1 ∧ s - (153 * m + 2) / 5 + 1 ≤ lenM (400 * P + q + 0) (m + 3)) ∧ ed (400 * P + q + 0) (m + 3) (s - (153 * m + 2) / 5 + 1) = e) ∧
    (10 ≤ m → (1 ≤ m - 9 ∧ m - 9 ≤ 2) ∧ (1 ≤ s - (153 * m + 2) / 5 + 1 ∧ s - (153 * m + 2) / 5 + 1 ≤ lenM (400 * P + q + 1) (m - 9)) ∧ ed (400 * P + q + 1) (m - 9) (s - (153 * m + 2) / 5 + 1) = e) := by
  have h0 : 0 ≤ t ∧ t ≤ 146096 := by omega
  obtain ⟨q', e1, hq', hs1, hs2⟩ := fI_k h0
  have eq : q = q' := by omega
  subst eq
  have hA : (q + 1) / 4 = q / 4 ∨ ((q + 1) / 4 = q / 4 + 1 ∧ (q + 1) % 4 = 0) := by omega
  have hB : ((q + 1) / 100 = q / 100 ∧ (q + 1) % 100 ≠ 0) ∨ ((q + 1) / 100 = q / 100 + 1 ∧ (q + 1) % 100 = 0) := by omega
  have hC : ((q + 1) / 400 = 0 ∧ q < 399) ∨ ((q + 1) / 400 = 1 ∧ q = 399 ∧ (q + 1) / 100 = q / 100 + 1) := by
    clear hs1 hs2 hA hB e1 hm hs hq ht hP
    rcases (show q = 399 ∨ q < 399 by omega) with g | g
    · subst g
      right
      decide
    · left
      omega
  have hD : q / 400 = 0 := by omega
  have hs3 : 0 ≤ s ∧ s ≤ 365 := by
    unfold sI at hs1 hs2
    rw [hD] at hs1
    generalize (q + 1) / 4 = A at *
    generalize (q + 1) / 100 = B at *
    generalize (q + 1) / 400 = C at *
    generalize q / 4 = A' at *
    generalize q / 100 = B' at *
    omega
  have h3 : s = 365 → ((q + 1) % 4 = 0 ∧ (q + 1) % 100 ≠ 0) ∨ q = 399 := by
    intro h9
    unfold sI at hs1 hs2
    generalize (q + 1) / 4 = A at *
    generalize (q + 1) / 100 = B at *
    generalize (q + 1) / 400 = C at *
    generalize q / 4 = A' at *
    generalize q / 100 = B' at *
    generalize (q + 1) % 4 = E at *
    generalize (q + 1) % 100 = F at *
    omega
  refine ⟨hq', hs3, fun h => ?_, fun h => ?_⟩
  · have hmr : 0 ≤ m := by omega
    refine ⟨by omega, ?_, ?_⟩
    · have hl := lenM_c (400 * P + q + 0) (m + 3)
      rcases (show m = 0 ∨ m = 1 ∨ m = 2 ∨ m = 3 ∨ m = 4 ∨ m = 5 ∨ m = 6 ∨ m = 7 ∨ m = 8 ∨ m = 9 by omega) with g | g | g | g | g | g | g | g | g | g <;> rw [g] at hl ⊢ <;> omega
    · rw [← dayOf_2 _ _ _ (by omega)]
      rw [show (400 * P + q + 0) / 400 = P by omega, show m + 3 - 3 = m by omega, show 400 * P + q + 0 - 400 * P = q by omega]
      omega
  · have hmr : m ≤ 11 := by omega
    refine ⟨by omega, ?_, ?_⟩
    · have hl := lenM_c (400 * P + q + 1) (m - 9)
      have hp := lp_c (400 * P + q + 1)
      have hp01 : 0 ≤ lp (400 * P + q + 1) ∧ lp (400 * P + q + 1) ≤ 1 := by omega
      rcases (show m = 10 ∨ m = 11 by omega) with g | g
      · rw [g] at hl ⊢
        omega
      · rw [g] at hl ⊢
        have h365 : s = 365 → lp (400 * P + q + 1) = 1 := by
          intro h9
          have h4 := h3 h9
          have h5 : (400 * P + q + 1) % 4 = (q + 1) % 4 := by omega
          have h6 : (400 * P + q + 1) % 100 = (q + 1) % 100 := by omega
          have h7 : (400 * P + q + 1) % 400 = (q + 1) % 400 := by omega
          rw [h5, h6, h7] at hp
          clear hs1 hs2 hA hB hC hD hl hm hs hq hP ht e1
          omega
        clear hs1 hs2 hA hB hC hD hq hP ht e1 hp h3
        omega
    · rw [← dayOf_1 _ _ _ (by omega)]
      rw [show (400 * P + q + 1 - 1) / 400 = P by omega, show m - 9 + 9 = m by omega, show 400 * P + q + 1 - 1 - 400 * P = q by omega]
      omega
