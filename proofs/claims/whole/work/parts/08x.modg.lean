theorem dgs1 {g : Nat → Int} {ty wr : Int} {p : Nat} (hty : 0 ≤ ty ∧ ty ≤ 30) (hp : p ≤ 30) (hwr : wr = 0 ∨ wr = 1) : ∃ (v : Int) (p' : Nat) (wr' : Int), dgs g ty 1 0 p wr = (v, p', wr') ∧ ((wr' = wr ∧ (48 ≤ nx g ty (p) ∧ nx g ty (p) ≤ 57) ∧ v = nx g ty p - 48 ∧ p' = p + 1) ∨ (wr' = 1 ∧ ¬ (48 ≤ nx g ty (p) ∧ nx g ty (p) ≤ 57))) ∧ (0 ≤ v ∧ v ≤ 9) ∧ p' ≤ 30 ∧ (wr' = 0 ∨ wr' = 1) := by
  have x0 := nx_c g ty p
  have y0 := nx_c g ty (p)
  by_cases d0 : (48 ≤ nx g ty (p) ∧ nx g ty (p) ≤ 57)
  · rw [dgs_p d0]
    refine ⟨10 * (0) + (nx g ty (p) - 48), p + 1, wr, rfl, Or.inl ?_, by omega, by omega, by omega⟩
    omega
  · rw [dgs_n d0]
    refine ⟨10 * (0) + 0, p, 1, rfl, Or.inr ?_, by omega, by omega, by omega⟩
    omega
theorem s_dig1 {l : Launch} {G : GG} {w : AH} {Q : Option Value → AH → Prop} {X : String → AH → Prop} (hst : l.stackTraces = false) {z : Nat} {A : Nat → Nat} {th yq mq dq ty wr sz : Int} {p : Nat} {g : Nat → Int} (h0 : w z = some (mdC A th yq mq dq ty (p : Int) wr sz)) (h8 : w (A 8) = some (aiA G 30 g)) (hty : 0 ≤ ty ∧ ty ≤ 30) (hp : p ≤ 30) (hwr : wr = 0 ∨ wr = 1) (hg : ∀ k, 0 ≤ g k ∧ g k ≤ 65535) (hQ : ∀ (v : Int) (p' : Nat) (wr' : Int), ((wr' = wr ∧ (48 ≤ nx g ty (p) ∧ nx g ty (p) ≤ 57) ∧ v = nx g ty p - 48 ∧ p' = p + 1) ∨ (wr' = 1 ∧ ¬ (48 ≤ nx g ty (p) ∧ nx g ty (p) ≤ 57))) → (0 ≤ v ∧ v ≤ 9) → p' ≤ 30 → (wr' = 0 ∨ wr' = 1) → Q (some (.int (iI v))) (aup w z (mdC A th yq mq dq ty ((p' : Nat) : Int) (wr') sz))) : Ct l G mX7_digits rX7_digits [.ref z, .int (iI 1)] w Q X := by
  obtain ⟨v, p', wr', e, r1, r2, r3, r4⟩ := dgs1 (g := g) hty hp hwr
  exact s_X7_digits hst h0 h8 hty hp hwr hg (n := 1) (by omega) e (hQ v p' wr' r1 r2 r3 r4)
theorem dgs2 {g : Nat → Int} {ty wr : Int} {p : Nat} (hty : 0 ≤ ty ∧ ty ≤ 30) (hp : p ≤ 30) (hwr : wr = 0 ∨ wr = 1) : ∃ (v : Int) (p' : Nat) (wr' : Int), dgs g ty 2 0 p wr = (v, p', wr') ∧ ((wr' = wr ∧ ((48 ≤ nx g ty (p) ∧ nx g ty (p) ≤ 57) ∧ (48 ≤ nx g ty (p + 1) ∧ nx g ty (p + 1) ≤ 57)) ∧ v = n2 g ty p ∧ p' = p + 1 + 1) ∨ (wr' = 1 ∧ ¬ ((48 ≤ nx g ty (p) ∧ nx g ty (p) ≤ 57) ∧ (48 ≤ nx g ty (p + 1) ∧ nx g ty (p + 1) ≤ 57)))) ∧ (0 ≤ v ∧ v ≤ 99) ∧ p' ≤ 30 ∧ (wr' = 0 ∨ wr' = 1) := by
  have x0 := nx_c g ty p
  have y0 := nx_c g ty (p)
  by_cases d0 : (48 ≤ nx g ty (p) ∧ nx g ty (p) ≤ 57)
  · rw [dgs_p d0]
    have y1 := nx_c g ty (p + 1)
    by_cases d1 : (48 ≤ nx g ty (p + 1) ∧ nx g ty (p + 1) ≤ 57)
    · rw [dgs_p d1]
      refine ⟨10 * (10 * (0) + (nx g ty (p) - 48)) + (nx g ty (p + 1) - 48), p + 1 + 1, wr, rfl, Or.inl ?_, by omega, by omega, by omega⟩
      unfold n2; omega
    · rw [dgs_n d1]
      refine ⟨10 * (10 * (0) + (nx g ty (p) - 48)) + 0, p + 1, 1, rfl, Or.inr ?_, by omega, by omega, by omega⟩
      omega
  · rw [dgs_n d0]
    have y1 := nx_c g ty (p)
    by_cases d1 : (48 ≤ nx g ty (p) ∧ nx g ty (p) ≤ 57)
    · rw [dgs_p d1]
      refine ⟨10 * (10 * (0) + 0) + (nx g ty (p) - 48), p + 1, 1, rfl, Or.inr ?_, by omega, by omega, by omega⟩
      omega
    · rw [dgs_n d1]
      refine ⟨10 * (10 * (0) + 0) + 0, p, 1, rfl, Or.inr ?_, by omega, by omega, by omega⟩
      omega
theorem s_dig2 {l : Launch} {G : GG} {w : AH} {Q : Option Value → AH → Prop} {X : String → AH → Prop} (hst : l.stackTraces = false) {z : Nat} {A : Nat → Nat} {th yq mq dq ty wr sz : Int} {p : Nat} {g : Nat → Int} (h0 : w z = some (mdC A th yq mq dq ty (p : Int) wr sz)) (h8 : w (A 8) = some (aiA G 30 g)) (hty : 0 ≤ ty ∧ ty ≤ 30) (hp : p ≤ 30) (hwr : wr = 0 ∨ wr = 1) (hg : ∀ k, 0 ≤ g k ∧ g k ≤ 65535) (hQ : ∀ (v : Int) (p' : Nat) (wr' : Int), ((wr' = wr ∧ ((48 ≤ nx g ty (p) ∧ nx g ty (p) ≤ 57) ∧ (48 ≤ nx g ty (p + 1) ∧ nx g ty (p + 1) ≤ 57)) ∧ v = n2 g ty p ∧ p' = p + 1 + 1) ∨ (wr' = 1 ∧ ¬ ((48 ≤ nx g ty (p) ∧ nx g ty (p) ≤ 57) ∧ (48 ≤ nx g ty (p + 1) ∧ nx g ty (p + 1) ≤ 57)))) → (0 ≤ v ∧ v ≤ 99) → p' ≤ 30 → (wr' = 0 ∨ wr' = 1) → Q (some (.int (iI v))) (aup w z (mdC A th yq mq dq ty ((p' : Nat) : Int) (wr') sz))) : Ct l G mX7_digits rX7_digits [.ref z, .int (iI 2)] w Q X := by
  obtain ⟨v, p', wr', e, r1, r2, r3, r4⟩ := dgs2 (g := g) hty hp hwr
  exact s_X7_digits hst h0 h8 hty hp hwr hg (n := 2) (by omega) e (hQ v p' wr' r1 r2 r3 r4)
theorem dgs4 {g : Nat → Int} {ty wr : Int} {p : Nat} (hty : 0 ≤ ty ∧ ty ≤ 30) (hp : p ≤ 30) (hwr : wr = 0 ∨ wr = 1) : ∃ (v : Int) (p' : Nat) (wr' : Int), dgs g ty 4 0 p wr = (v, p', wr') ∧ ((wr' = wr ∧ ((48 ≤ nx g ty (p) ∧ nx g ty (p) ≤ 57) ∧ (48 ≤ nx g ty (p + 1) ∧ nx g ty (p + 1) ≤ 57) ∧ (48 ≤ nx g ty (p + 1 + 1) ∧ nx g ty (p + 1 + 1) ≤ 57) ∧ (48 ≤ nx g ty (p + 1 + 1 + 1) ∧ nx g ty (p + 1 + 1 + 1) ≤ 57)) ∧ v = n4 g ty p ∧ p' = p + 1 + 1 + 1 + 1) ∨ (wr' = 1 ∧ ¬ ((48 ≤ nx g ty (p) ∧ nx g ty (p) ≤ 57) ∧ (48 ≤ nx g ty (p + 1) ∧ nx g ty (p + 1) ≤ 57) ∧ (48 ≤ nx g ty (p + 1 + 1) ∧ nx g ty (p + 1 + 1) ≤ 57) ∧ (48 ≤ nx g ty (p + 1 + 1 + 1) ∧ nx g ty (p + 1 + 1 + 1) ≤ 57)))) ∧ (0 ≤ v ∧ v ≤ 9999) ∧ p' ≤ 30 ∧ (wr' = 0 ∨ wr' = 1) := by
  have x0 := nx_c g ty p
  have y0 := nx_c g ty (p)
  by_cases d0 : (48 ≤ nx g ty (p) ∧ nx g ty (p) ≤ 57)
  · rw [dgs_p d0]
    have y1 := nx_c g ty (p + 1)
    by_cases d1 : (48 ≤ nx g ty (p + 1) ∧ nx g ty (p + 1) ≤ 57)
    · rw [dgs_p d1]
      have y2 := nx_c g ty (p + 1 + 1)
      by_cases d2 : (48 ≤ nx g ty (p + 1 + 1) ∧ nx g ty (p + 1 + 1) ≤ 57)
      · rw [dgs_p d2]
        have y3 := nx_c g ty (p + 1 + 1 + 1)
        by_cases d3 : (48 ≤ nx g ty (p + 1 + 1 + 1) ∧ nx g ty (p + 1 + 1 + 1) ≤ 57)
        · rw [dgs_p d3]
          refine ⟨10 * (10 * (10 * (10 * (0) + (nx g ty (p) - 48)) + (nx g ty (p + 1) - 48)) + (nx g ty (p + 1 + 1) - 48)) + (nx g ty (p + 1 + 1 + 1) - 48), p + 1 + 1 + 1 + 1, wr, rfl, Or.inl ?_, by omega, by omega, by omega⟩
          unfold n4; omega
        · rw [dgs_n d3]
          refine ⟨10 * (10 * (10 * (10 * (0) + (nx g ty (p) - 48)) + (nx g ty (p + 1) - 48)) + (nx g ty (p + 1 + 1) - 48)) + 0, p + 1 + 1 + 1, 1, rfl, Or.inr ?_, by omega, by omega, by omega⟩
          omega
      · rw [dgs_n d2]
        have y3 := nx_c g ty (p + 1 + 1)
        by_cases d3 : (48 ≤ nx g ty (p + 1 + 1) ∧ nx g ty (p + 1 + 1) ≤ 57)
        · rw [dgs_p d3]
          refine ⟨10 * (10 * (10 * (10 * (0) + (nx g ty (p) - 48)) + (nx g ty (p + 1) - 48)) + 0) + (nx g ty (p + 1 + 1) - 48), p + 1 + 1 + 1, 1, rfl, Or.inr ?_, by omega, by omega, by omega⟩
          omega
        · rw [dgs_n d3]
          refine ⟨10 * (10 * (10 * (10 * (0) + (nx g ty (p) - 48)) + (nx g ty (p + 1) - 48)) + 0) + 0, p + 1 + 1, 1, rfl, Or.inr ?_, by omega, by omega, by omega⟩
          omega
    · rw [dgs_n d1]
      have y2 := nx_c g ty (p + 1)
      by_cases d2 : (48 ≤ nx g ty (p + 1) ∧ nx g ty (p + 1) ≤ 57)
      · rw [dgs_p d2]
        have y3 := nx_c g ty (p + 1 + 1)
        by_cases d3 : (48 ≤ nx g ty (p + 1 + 1) ∧ nx g ty (p + 1 + 1) ≤ 57)
        · rw [dgs_p d3]
          refine ⟨10 * (10 * (10 * (10 * (0) + (nx g ty (p) - 48)) + 0) + (nx g ty (p + 1) - 48)) + (nx g ty (p + 1 + 1) - 48), p + 1 + 1 + 1, 1, rfl, Or.inr ?_, by omega, by omega, by omega⟩
          omega
        · rw [dgs_n d3]
          refine ⟨10 * (10 * (10 * (10 * (0) + (nx g ty (p) - 48)) + 0) + (nx g ty (p + 1) - 48)) + 0, p + 1 + 1, 1, rfl, Or.inr ?_, by omega, by omega, by omega⟩
          omega
      · rw [dgs_n d2]
        have y3 := nx_c g ty (p + 1)
        by_cases d3 : (48 ≤ nx g ty (p + 1) ∧ nx g ty (p + 1) ≤ 57)
        · rw [dgs_p d3]
          refine ⟨10 * (10 * (10 * (10 * (0) + (nx g ty (p) - 48)) + 0) + 0) + (nx g ty (p + 1) - 48), p + 1 + 1, 1, rfl, Or.inr ?_, by omega, by omega, by omega⟩
          omega
        · rw [dgs_n d3]
          refine ⟨10 * (10 * (10 * (10 * (0) + (nx g ty (p) - 48)) + 0) + 0) + 0, p + 1, 1, rfl, Or.inr ?_, by omega, by omega, by omega⟩
          omega
  · rw [dgs_n d0]
    have y1 := nx_c g ty (p)
    by_cases d1 : (48 ≤ nx g ty (p) ∧ nx g ty (p) ≤ 57)
    · rw [dgs_p d1]
      have y2 := nx_c g ty (p + 1)
      by_cases d2 : (48 ≤ nx g ty (p + 1) ∧ nx g ty (p + 1) ≤ 57)
      · rw [dgs_p d2]
        have y3 := nx_c g ty (p + 1 + 1)
        by_cases d3 : (48 ≤ nx g ty (p + 1 + 1) ∧ nx g ty (p + 1 + 1) ≤ 57)
        · rw [dgs_p d3]
          refine ⟨10 * (10 * (10 * (10 * (0) + 0) + (nx g ty (p) - 48)) + (nx g ty (p + 1) - 48)) + (nx g ty (p + 1 + 1) - 48), p + 1 + 1 + 1, 1, rfl, Or.inr ?_, by omega, by omega, by omega⟩
          omega
        · rw [dgs_n d3]
          refine ⟨10 * (10 * (10 * (10 * (0) + 0) + (nx g ty (p) - 48)) + (nx g ty (p + 1) - 48)) + 0, p + 1 + 1, 1, rfl, Or.inr ?_, by omega, by omega, by omega⟩
          omega
      · rw [dgs_n d2]
        have y3 := nx_c g ty (p + 1)
        by_cases d3 : (48 ≤ nx g ty (p + 1) ∧ nx g ty (p + 1) ≤ 57)
        · rw [dgs_p d3]
          refine ⟨10 * (10 * (10 * (10 * (0) + 0) + (nx g ty (p) - 48)) + 0) + (nx g ty (p + 1) - 48), p + 1 + 1, 1, rfl, Or.inr ?_, by omega, by omega, by omega⟩
          omega
        · rw [dgs_n d3]
          refine ⟨10 * (10 * (10 * (10 * (0) + 0) + (nx g ty (p) - 48)) + 0) + 0, p + 1, 1, rfl, Or.inr ?_, by omega, by omega, by omega⟩
          omega
    · rw [dgs_n d1]
      have y2 := nx_c g ty (p)
      by_cases d2 : (48 ≤ nx g ty (p) ∧ nx g ty (p) ≤ 57)
      · rw [dgs_p d2]
        have y3 := nx_c g ty (p + 1)
        by_cases d3 : (48 ≤ nx g ty (p + 1) ∧ nx g ty (p + 1) ≤ 57)
        · rw [dgs_p d3]
          refine ⟨10 * (10 * (10 * (10 * (0) + 0) + 0) + (nx g ty (p) - 48)) + (nx g ty (p + 1) - 48), p + 1 + 1, 1, rfl, Or.inr ?_, by omega, by omega, by omega⟩
          omega
        · rw [dgs_n d3]
          refine ⟨10 * (10 * (10 * (10 * (0) + 0) + 0) + (nx g ty (p) - 48)) + 0, p + 1, 1, rfl, Or.inr ?_, by omega, by omega, by omega⟩
          omega
      · rw [dgs_n d2]
        have y3 := nx_c g ty (p)
        by_cases d3 : (48 ≤ nx g ty (p) ∧ nx g ty (p) ≤ 57)
        · rw [dgs_p d3]
          refine ⟨10 * (10 * (10 * (10 * (0) + 0) + 0) + 0) + (nx g ty (p) - 48), p + 1, 1, rfl, Or.inr ?_, by omega, by omega, by omega⟩
          omega
        · rw [dgs_n d3]
          refine ⟨10 * (10 * (10 * (10 * (0) + 0) + 0) + 0) + 0, p, 1, rfl, Or.inr ?_, by omega, by omega, by omega⟩
          omega
theorem s_dig4 {l : Launch} {G : GG} {w : AH} {Q : Option Value → AH → Prop} {X : String → AH → Prop} (hst : l.stackTraces = false) {z : Nat} {A : Nat → Nat} {th yq mq dq ty wr sz : Int} {p : Nat} {g : Nat → Int} (h0 : w z = some (mdC A th yq mq dq ty (p : Int) wr sz)) (h8 : w (A 8) = some (aiA G 30 g)) (hty : 0 ≤ ty ∧ ty ≤ 30) (hp : p ≤ 30) (hwr : wr = 0 ∨ wr = 1) (hg : ∀ k, 0 ≤ g k ∧ g k ≤ 65535) (hQ : ∀ (v : Int) (p' : Nat) (wr' : Int), ((wr' = wr ∧ ((48 ≤ nx g ty (p) ∧ nx g ty (p) ≤ 57) ∧ (48 ≤ nx g ty (p + 1) ∧ nx g ty (p + 1) ≤ 57) ∧ (48 ≤ nx g ty (p + 1 + 1) ∧ nx g ty (p + 1 + 1) ≤ 57) ∧ (48 ≤ nx g ty (p + 1 + 1 + 1) ∧ nx g ty (p + 1 + 1 + 1) ≤ 57)) ∧ v = n4 g ty p ∧ p' = p + 1 + 1 + 1 + 1) ∨ (wr' = 1 ∧ ¬ ((48 ≤ nx g ty (p) ∧ nx g ty (p) ≤ 57) ∧ (48 ≤ nx g ty (p + 1) ∧ nx g ty (p + 1) ≤ 57) ∧ (48 ≤ nx g ty (p + 1 + 1) ∧ nx g ty (p + 1 + 1) ≤ 57) ∧ (48 ≤ nx g ty (p + 1 + 1 + 1) ∧ nx g ty (p + 1 + 1 + 1) ≤ 57)))) → (0 ≤ v ∧ v ≤ 9999) → p' ≤ 30 → (wr' = 0 ∨ wr' = 1) → Q (some (.int (iI v))) (aup w z (mdC A th yq mq dq ty ((p' : Nat) : Int) (wr') sz))) : Ct l G mX7_digits rX7_digits [.ref z, .int (iI 4)] w Q X := by
  obtain ⟨v, p', wr', e, r1, r2, r3, r4⟩ := dgs4 (g := g) hty hp hwr
  exact s_X7_digits hst h0 h8 hty hp hwr hg (n := 4) (by omega) e (hQ v p' wr' r1 r2 r3 r4)
theorem fps_stuck {g : Nat → Int} {L : Int} {p k : Nat} (h : ¬ (48 ≤ nx g L (fps g L p k) ∧ nx g L (fps g L p k) ≤ 57)) : ∀ j : Nat, fps g L p (k + j) = fps g L p k := by
  intro j
  induction j with
  | zero => rfl
  | succ j ih =>
    have hc := fps_c g L p (k + j)
    rw [ih] at hc
    rw [show k + (j + 1) = k + j + 1 by omega]
    omega
theorem fps_up {g : Nat → Int} {L : Int} {p : Nat} : ∀ k : Nat, fps g L p k ≤ p + k := by
  intro k
  induction k with
  | zero => exact Nat.le_refl _
  | succ k ih =>
    have hc := fps_c g L p k
    omega
def FI (g : Nat → Int) (L : Int) (q : Nat) (mn w7 : Int) (k : Nat) (n : Int) (p : Nat) (w : Int) : Prop :=
  (w = 1 ∧ (w7 = 1 ∨ ((fps g L q 9 : Nat) : Int) < L)) ∨ (w = 0 ∧ w7 = 0 ∧ n = fvs g L q k ∧ p = fps g L q k ∧ (((k : Int) ≤ mn ∧ p = q + k) ∨ (mn ≤ (k : Int) ∧ (p : Int) = q + mn)))
theorem FI_d {g : Nat → Int} {L : Int} {q k p p' : Nat} {mn w7 n v w w' : Int} (hm : mn = L - q) (h : FI g L q mn w7 k n p w) (hk : (k : Int) < mn) (hk9 : k < 9) (hw : w = 0 ∨ w = 1) (hr : (w' = w ∧ (48 ≤ nx g L p ∧ nx g L p ≤ 57) ∧ v = nx g L p - 48 ∧ p' = p + 1) ∨ (w' = 1 ∧ ¬ (48 ≤ nx g L p ∧ nx g L p ≤ 57))) : FI g L q mn w7 (k + 1) (10 * n + v) p' w' := by
  rcases h with ⟨h1, h2⟩ | ⟨h1, h2, h3, h4, h5⟩
  · left
    exact ⟨by omega, h2⟩
  · have hc := fps_c g L q k
    rcases hr with ⟨r1, r2, r3, r4⟩ | ⟨r1, r2⟩
    · right
      rw [← h4] at hc
      exact ⟨by omega, h2, by omega, by omega, by omega⟩
    · left
      refine ⟨r1, Or.inr ?_⟩
      rw [h4] at r2
      have := fps_stuck r2 (9 - k)
      rw [show k + (9 - k) = 9 by omega] at this
      omega
theorem FI_z {g : Nat → Int} {L : Int} {q k p : Nat} {mn w7 n w : Int} (hm : mn = L - q) (h : FI g L q mn w7 k n p w) (hk : mn ≤ (k : Int)) : FI g L q mn w7 (k + 1) (10 * n + 0) p w := by
  rcases h with ⟨h1, h2⟩ | ⟨h1, h2, h3, h4, h5⟩
  · left
    exact ⟨h1, h2⟩
  · right
    have hc := fps_c g L q k
    have hx := nx_c g L (fps g L q k)
    exact ⟨h1, h2, by omega, by omega, by omega⟩
theorem FI_e1 {g : Nat → Int} {L : Int} {q p : Nat} {mn w7 n w : Int} (hm : mn = L - q) (hw7 : w7 = 0 → 1 ≤ mn ∧ mn ≤ 9) (h : FI g L q mn w7 9 n p w) (h0 : w = 0) : w7 = 0 ∧ (48 ≤ nx g L q ∧ nx g L q ≤ 57) ∧ n = fvs g L q 9 ∧ L ≤ ((fps g L q 9 : Nat) : Int) := by
  rcases h with ⟨h1, h2⟩ | ⟨h1, h2, h3, h4, h5⟩
  · omega
  · have hr := hw7 h2
    refine ⟨h2, ?_, h3, by omega⟩
    by_cases hd : 48 ≤ nx g L q ∧ nx g L q ≤ 57
    · exact hd
    · have := fps_stuck (k := 0) (p := q) hd 9
      rw [show 0 + 9 = 9 by omega] at this
      have e0 : fps g L q 0 = q := rfl
      omega
theorem FI_e2 {g : Nat → Int} {L : Int} {q p : Nat} {mn w7 n w : Int} (hm : mn = L - q) (h : FI g L q mn w7 9 n p w) (h7 : w7 = 0) (hl : L ≤ ((fps g L q 9 : Nat) : Int)) : w = 0 ∧ L ≤ (p : Int) := by
  rcases h with ⟨h1, h2⟩ | ⟨h1, h2, h3, h4, h5⟩
  · omega
  · have := fps_up (g := g) (L := L) (p := q) 9
    exact ⟨h1, by omega⟩
theorem ten_le {k : Nat} (hk : k ≤ 9) : (10 : Int) ^ k ≤ 1000000000 ∧ 1 ≤ (10 : Int) ^ k := by
  rcases (show k = 0 ∨ k = 1 ∨ k = 2 ∨ k = 3 ∨ k = 4 ∨ k = 5 ∨ k = 6 ∨ k = 7 ∨ k = 8 ∨ k = 9 by omega) with h | h | h | h | h | h | h | h | h | h <;> subst h <;> decide
set_option maxRecDepth 100000 in
set_option maxHeartbeats 1000000 in
theorem frac_loop {l : Launch} {G : GG} {w : AH} {Q : Option Value → AH → Prop} {X : String → AH → Prop} (hst : l.stackTraces = false) {z : Nat} {A : Nat → Nat} {th yq mq dq ty sz : Int} {g : Nat → Int} (nz8 : A 8 ≠ z) (h8 : w (A 8) = some (aiA G 30 g)) (hty : 0 ≤ ty ∧ ty ≤ 30) (hg : ∀ k, 0 ≤ g k ∧ g k ≤ 65535) {h mi se mn w7 : Int} {q0 : Nat} (hq0 : q0 ≤ 30) (hmn : mn = ty - q0) (hE : ∀ (n : Int) (p : Nat) (wr : Int), FI g ty q0 mn w7 9 n p wr → (0 ≤ n ∧ n ≤ 999999999) → p ≤ 30 → (wr = 0 ∨ wr = 1) → V l G mX7_timeIn rX7_timeIn Q X 129 (lof [(0, .ref z), (1, .int (iI h)), (2, .int (iI mi)), (3, .int (iI se)), (4, .long (lI (n)))]) [] (aup w z (mdC A th yq mq dq ty ((p : Nat) : Int) (wr) sz)) 0 0) : ∀ (N : Nat) (k : Nat) (n : Int) (p : Nat) (wr : Int), 9 - k ≤ N → k ≤ 9 → p ≤ 30 → (wr = 0 ∨ wr = 1) → (0 ≤ n ∧ n < (10 : Int) ^ k) → FI g ty q0 mn w7 k n p wr → V l G mX7_timeIn rX7_timeIn Q X 90 (lof [(0, .ref z), (1, .int (iI h)), (2, .int (iI mi)), (3, .int (iI se)), (4, .long (lI (n))), (6, .int (iI mn)), (7, .int (iI ((k : Int))))]) [] (aup w z (mdC A th yq mq dq ty ((p : Nat) : Int) (wr) sz)) 0 0 := by
  intro N
  induction N with
  | zero =>
    intro k n p wr hN hk hp hwr hn hF
    have hpw : (10 : Int) ^ (k + 1) = 10 * 10 ^ k := (by rw [Int.pow_succ, Int.mul_comm])
    have hp9 := ten_le (k := k) hk
    refine v_iload dX7_timeIn_90 rfl ?_
    refine v_bipush dX7_timeIn_92 ?_
    refine v_icmp_ge 129 dX7_timeIn_94 (fun h_94 => ?_) (fun h_94 => ?_)
    · have e99 : k = 9 := (by omega)
      subst e99
      exact v_lof [(0, .ref z), (1, .int (iI h)), (2, .int (iI mi)), (3, .int (iI se)), (4, .long (lI (n)))] (List.forall_mem_cons.mpr ⟨rfl, (List.forall_mem_cons.mpr ⟨rfl, (List.forall_mem_cons.mpr ⟨rfl, (List.forall_mem_cons.mpr ⟨rfl, (List.forall_mem_cons.mpr ⟨rfl, (fun _ h => nomatch h)⟩)⟩)⟩)⟩)⟩) (hE n p wr hF (by omega) hp hwr)
    · refine v_ldc2 (10) dX7_timeIn_97 kl_X7_280 ?_
      refine v_lload dX7_timeIn_100 rfl ?_
      refine v_lmul dX7_timeIn_102 ?_
      refine v_iload dX7_timeIn_103 rfl ?_
      refine v_iload dX7_timeIn_105 rfl ?_
      refine v_icmp_ge 118 dX7_timeIn_107 (fun h_107 => ?_) (fun h_107 => ?_)
      · refine v_iconst dX7_timeIn_118 ?_
        refine v_i2l dX7_timeIn_119 ?_
        refine v_ladd dX7_timeIn_120 ?_
        refine v_lstore dX7_timeIn_121 (by decide) ?_
        refine v_iinc dX7_timeIn_123 rfl ?_
        rw [show (k : Int) + 1 = ((k + 1 : Nat) : Int) by omega]
        refine v_goto 90 dX7_timeIn_126 ?_
        (exfalso; omega)
      · refine v_aload_n dX7_timeIn_110 rfl ?_
        refine v_iconst dX7_timeIn_111 ?_
        refine v_V1 (rm' := rX7_digits) (RX7, TX7, 18) dX7_timeIn_112 km_X7_268 kn_X7_digits kv_X7_digits kz_X7 mk_X7_digits rfl rfl (by exact aup_s) ⟨Nat.le_of_ble_eq_true rfl, Nat.le_of_ble_eq_true rfl⟩ ⟨Nat.le_of_ble_eq_true rfl, Nat.le_of_ble_eq_true rfl⟩ (Nat.le_of_ble_eq_true rfl) ?_
        refine s_dig1 hst aup_s ((aup_n nz8).trans h8) hty hp hwr hg (fun v p' wr' e9 hv hp' hwr' => ?_)
        rw [aup_up]
        refine v_goto 119 dX7_timeIn_115 ?_
        refine v_i2l dX7_timeIn_119 ?_
        refine v_ladd dX7_timeIn_120 ?_
        refine v_lstore dX7_timeIn_121 (by decide) ?_
        refine v_iinc dX7_timeIn_123 rfl ?_
        rw [show (k : Int) + 1 = ((k + 1 : Nat) : Int) by omega]
        refine v_goto 90 dX7_timeIn_126 ?_
        (exfalso; omega)
  | succ N ih =>
    intro k n p wr hN hk hp hwr hn hF
    have hpw : (10 : Int) ^ (k + 1) = 10 * 10 ^ k := (by rw [Int.pow_succ, Int.mul_comm])
    have hp9 := ten_le (k := k) hk
    refine v_iload dX7_timeIn_90 rfl ?_
    refine v_bipush dX7_timeIn_92 ?_
    refine v_icmp_ge 129 dX7_timeIn_94 (fun h_94 => ?_) (fun h_94 => ?_)
    · have e99 : k = 9 := (by omega)
      subst e99
      exact v_lof [(0, .ref z), (1, .int (iI h)), (2, .int (iI mi)), (3, .int (iI se)), (4, .long (lI (n)))] (List.forall_mem_cons.mpr ⟨rfl, (List.forall_mem_cons.mpr ⟨rfl, (List.forall_mem_cons.mpr ⟨rfl, (List.forall_mem_cons.mpr ⟨rfl, (List.forall_mem_cons.mpr ⟨rfl, (fun _ h => nomatch h)⟩)⟩)⟩)⟩)⟩) (hE n p wr hF (by omega) hp hwr)
    · refine v_ldc2 (10) dX7_timeIn_97 kl_X7_280 ?_
      refine v_lload dX7_timeIn_100 rfl ?_
      refine v_lmul dX7_timeIn_102 ?_
      refine v_iload dX7_timeIn_103 rfl ?_
      refine v_iload dX7_timeIn_105 rfl ?_
      refine v_icmp_ge 118 dX7_timeIn_107 (fun h_107 => ?_) (fun h_107 => ?_)
      · refine v_iconst dX7_timeIn_118 ?_
        refine v_i2l dX7_timeIn_119 ?_
        refine v_ladd dX7_timeIn_120 ?_
        refine v_lstore dX7_timeIn_121 (by decide) ?_
        refine v_iinc dX7_timeIn_123 rfl ?_
        rw [show (k : Int) + 1 = ((k + 1 : Nat) : Int) by omega]
        refine v_goto 90 dX7_timeIn_126 ?_
        first | (have g9 : (k : Int) < mn := (by omega); exact v_lof [(0, .ref z), (1, .int (iI h)), (2, .int (iI mi)), (3, .int (iI se)), (4, .long (lI (10 * n + v))), (6, .int (iI mn)), (7, .int (iI (((k + 1 : Nat) : Int))))] (List.forall_mem_cons.mpr ⟨rfl, (List.forall_mem_cons.mpr ⟨rfl, (List.forall_mem_cons.mpr ⟨rfl, (List.forall_mem_cons.mpr ⟨rfl, (List.forall_mem_cons.mpr ⟨rfl, (List.forall_mem_cons.mpr ⟨rfl, (List.forall_mem_cons.mpr ⟨rfl, (fun _ h => nomatch h)⟩)⟩)⟩)⟩)⟩)⟩)⟩) (ih (k + 1) (10 * n + v) p' wr' (by omega) (by omega) hp' hwr' (by omega) (FI_d hmn hF g9 (by omega) hwr e9))) | (have g9 : mn ≤ (k : Int) := (by omega); exact v_lof [(0, .ref z), (1, .int (iI h)), (2, .int (iI mi)), (3, .int (iI se)), (4, .long (lI (10 * n + 0))), (6, .int (iI mn)), (7, .int (iI (((k + 1 : Nat) : Int))))] (List.forall_mem_cons.mpr ⟨rfl, (List.forall_mem_cons.mpr ⟨rfl, (List.forall_mem_cons.mpr ⟨rfl, (List.forall_mem_cons.mpr ⟨rfl, (List.forall_mem_cons.mpr ⟨rfl, (List.forall_mem_cons.mpr ⟨rfl, (List.forall_mem_cons.mpr ⟨rfl, (fun _ h => nomatch h)⟩)⟩)⟩)⟩)⟩)⟩)⟩) (ih (k + 1) (10 * n + 0) p wr (by omega) (by omega) hp hwr (by omega) (FI_z hmn hF g9)))
      · refine v_aload_n dX7_timeIn_110 rfl ?_
        refine v_iconst dX7_timeIn_111 ?_
        refine v_V1 (rm' := rX7_digits) (RX7, TX7, 18) dX7_timeIn_112 km_X7_268 kn_X7_digits kv_X7_digits kz_X7 mk_X7_digits rfl rfl (by exact aup_s) ⟨Nat.le_of_ble_eq_true rfl, Nat.le_of_ble_eq_true rfl⟩ ⟨Nat.le_of_ble_eq_true rfl, Nat.le_of_ble_eq_true rfl⟩ (Nat.le_of_ble_eq_true rfl) ?_
        refine s_dig1 hst aup_s ((aup_n nz8).trans h8) hty hp hwr hg (fun v p' wr' e9 hv hp' hwr' => ?_)
        rw [aup_up]
        refine v_goto 119 dX7_timeIn_115 ?_
        refine v_i2l dX7_timeIn_119 ?_
        refine v_ladd dX7_timeIn_120 ?_
        refine v_lstore dX7_timeIn_121 (by decide) ?_
        refine v_iinc dX7_timeIn_123 rfl ?_
        rw [show (k : Int) + 1 = ((k + 1 : Nat) : Int) by omega]
        refine v_goto 90 dX7_timeIn_126 ?_
        first | (have g9 : (k : Int) < mn := (by omega); exact v_lof [(0, .ref z), (1, .int (iI h)), (2, .int (iI mi)), (3, .int (iI se)), (4, .long (lI (10 * n + v))), (6, .int (iI mn)), (7, .int (iI (((k + 1 : Nat) : Int))))] (List.forall_mem_cons.mpr ⟨rfl, (List.forall_mem_cons.mpr ⟨rfl, (List.forall_mem_cons.mpr ⟨rfl, (List.forall_mem_cons.mpr ⟨rfl, (List.forall_mem_cons.mpr ⟨rfl, (List.forall_mem_cons.mpr ⟨rfl, (List.forall_mem_cons.mpr ⟨rfl, (fun _ h => nomatch h)⟩)⟩)⟩)⟩)⟩)⟩)⟩) (ih (k + 1) (10 * n + v) p' wr' (by omega) (by omega) hp' hwr' (by omega) (FI_d hmn hF g9 (by omega) hwr e9))) | (have g9 : mn ≤ (k : Int) := (by omega); exact v_lof [(0, .ref z), (1, .int (iI h)), (2, .int (iI mi)), (3, .int (iI se)), (4, .long (lI (10 * n + 0))), (6, .int (iI mn)), (7, .int (iI (((k + 1 : Nat) : Int))))] (List.forall_mem_cons.mpr ⟨rfl, (List.forall_mem_cons.mpr ⟨rfl, (List.forall_mem_cons.mpr ⟨rfl, (List.forall_mem_cons.mpr ⟨rfl, (List.forall_mem_cons.mpr ⟨rfl, (List.forall_mem_cons.mpr ⟨rfl, (List.forall_mem_cons.mpr ⟨rfl, (fun _ h => nomatch h)⟩)⟩)⟩)⟩)⟩)⟩)⟩) (ih (k + 1) (10 * n + 0) p wr (by omega) (by omega) hp hwr (by omega) (FI_z hmn hF g9)))
