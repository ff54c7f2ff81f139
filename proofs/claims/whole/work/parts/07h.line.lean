def liC (ac : Nat) (L : Int) (p : Nat) : va_E := .inr (0, [.ref ac, .int (iI L), .int (iI (p : Int))])
theorem aup_id {w : AH} {a : Nat} {e : va_E} (h : w a = some e) : aup w a e = w := by
  funext q
  by_cases e9 : q = a
  · rw [e9, aup_s, h]
  · rw [aup_n e9]
def nx (g : Nat → Int) (L : Int) (p : Nat) : Int := if (p : Int) < L then g p else 0
theorem nx_c (g : Nat → Int) (L : Int) (p : Nat) : ((p : Int) < L ∧ nx g L p = g p) ∨ (L ≤ (p : Int) ∧ nx g L p = 0) := by
  unfold nx
  split
  · left; constructor <;> first | assumption | rfl
  · right; constructor <;> first | omega | rfl
def n2 (g : Nat → Int) (L : Int) (p : Nat) : Int := (nx g L p - 48) * 10 + (nx g L (p + 1) - 48)
def n4 (g : Nat → Int) (L : Int) (p : Nat) : Int := (((nx g L p - 48) * 10 + (nx g L (p + 1) - 48)) * 10 + (nx g L (p + 1 + 1) - 48)) * 10 + (nx g L (p + 1 + 1 + 1) - 48)
def fps (g : Nat → Int) (L : Int) (p : Nat) : Nat → Nat
  | 0 => p
  | k + 1 => if 48 ≤ nx g L (fps g L p k) ∧ nx g L (fps g L p k) ≤ 57 then fps g L p k + 1 else fps g L p k
def fvs (g : Nat → Int) (L : Int) (p : Nat) : Nat → Int
  | 0 => 0
  | k + 1 => fvs g L p k * 10 + (if 48 ≤ nx g L (fps g L p k) ∧ nx g L (fps g L p k) ≤ 57 then nx g L (fps g L p k) - 48 else 0)
theorem fps_c (g : Nat → Int) (L : Int) (p k : Nat) : (48 ≤ nx g L (fps g L p k) ∧ nx g L (fps g L p k) ≤ 57 ∧ fps g L p (k + 1) = fps g L p k + 1 ∧ fvs g L p (k + 1) = fvs g L p k * 10 + (nx g L (fps g L p k) - 48)) ∨ (¬ (48 ≤ nx g L (fps g L p k) ∧ nx g L (fps g L p k) ≤ 57) ∧ fps g L p (k + 1) = fps g L p k ∧ fvs g L p (k + 1) = fvs g L p k * 10 + 0) := by
  by_cases h : 48 ≤ nx g L (fps g L p k) ∧ nx g L (fps g L p k) ≤ 57
  · left
    exact ⟨h.1, h.2, if_pos h, congrArg (fvs g L p k * 10 + ·) (if_pos h)⟩
  · right
    exact ⟨h, if_neg h, congrArg (fvs g L p k * 10 + ·) (if_neg h)⟩
theorem fps_le {g : Nat → Int} {L : Int} {p : Nat} (hL : L ≤ 30) (hp : p ≤ 30) : ∀ k, fps g L p k ≤ 30 := by
  intro k
  induction k with
  | zero => exact hp
  | succ k ih =>
    have h1 := fps_c g L p k
    have h2 := nx_c g L (fps g L p k)
    omega
theorem fvs_rng {g : Nat → Int} {L : Int} {p : Nat} : ∀ k : Nat, k ≤ 9 → 0 ≤ fvs g L p k ∧ fvs g L p k < (10 : Int) ^ k := by
  intro k
  induction k with
  | zero => intro _; exact ⟨Int.le_refl 0, by show (0 : Int) < 10 ^ 0; decide⟩
  | succ k ih =>
    intro hk
    have h1 := fps_c g L p k
    have h2 := ih (by omega)
    rw [Int.pow_succ]
    omega
theorem p10 {i : Nat} (h : i ≤ 9) : (10 : Int) ^ i ≤ 1000000000 := by
  rcases (show i = 0 ∨ i = 1 ∨ i = 2 ∨ i = 3 ∨ i = 4 ∨ i = 5 ∨ i = 6 ∨ i = 7 ∨ i = 8 ∨ i = 9 by omega) with rfl | rfl | rfl | rfl | rfl | rfl | rfl | rfl | rfl | rfl <;> decide
theorem lica {G : GG} {ac p n : Nat} {L : Int} {g : Nat → Int} : liC ac L p ≠ acA G n g := by
  intro h
  unfold liC acA at h
  exact nomatch h
theorem stli {ac p : Nat} {L y m d n : Int} : stC y m d n ≠ liC ac L p := by
  intro h
  unfold stC liC at h
  cases h
set_option maxRecDepth 100000 in
set_option maxHeartbeats 4000000 in
theorem s_X1_append {l : Launch} {G : GG} {w : AH} {Q : Option Value → AH → Prop} {X : String → AH → Prop} (hst : l.stackTraces = false) {z ac p : Nat} {L : Int} {g : Nat → Int} (h0 : w z = some (liC ac L p)) (h1 : w ac = some (acA G 30 g)) (hL : 0 ≤ L ∧ L ≤ 30) (hp : p ≤ 30) (hg : ∀ k, 0 ≤ g k ∧ g k ≤ 65535) {c : Int} (hc : 0 ≤ c ∧ c ≤ 65535) (hQ1 : (32 ≤ c ∧ c ≤ 126 ∧ L < 30) → Q (some (.int (iI 1))) (aup (aup w ac (acA G 30 (gup g L.toNat c))) z (liC ac (L + 1) p))) (hQ0 : ¬ (32 ≤ c ∧ c ≤ 126 ∧ L < 30) → Q (some (.int (iI 0))) w) : Ct l G mX1_append rX1_append [.ref z, .int (iI c)] w Q X := by
  have hnx := nx_c g L p
  have hgp := hg p
  have n1 : ac ≠ z := fun e => absurd (ne_of h0 h1 lica) (fun h => h e.symm)
  refine ct_of hst mk_X1_append (Nat.le_of_ble_eq_true rfl) ?_
  refine v_iload_n dX1_append_0 rfl ?_
  refine v_bipush dX1_append_1 ?_
  refine v_icmp_lt 21 dX1_append_3 (fun h_3 => ?_) (fun h_3 => ?_)
  · refine v_iconst dX1_append_21 ?_
    exact v_zret dX1_append_22 rfl (by first | exact hQ0 (by omega) | exact hQ1 (by omega)) (by first | exact Or.inl rfl | exact Or.inr rfl | omega)
  · refine v_iload_n dX1_append_6 rfl ?_
    refine v_bipush dX1_append_7 ?_
    refine v_icmp_gt 21 dX1_append_9 (fun h_9 => ?_) (fun h_9 => ?_)
    · refine v_iconst dX1_append_21 ?_
      exact v_zret dX1_append_22 rfl (by first | exact hQ0 (by omega) | exact hQ1 (by omega)) (by first | exact Or.inl rfl | exact Or.inr rfl | omega)
    · refine v_aload_n dX1_append_12 rfl ?_
      refine v_get dX1_append_13 f_X1_15 (by first | exact h0 | exact h1 | exact aup_s | exact (aup_n n1.symm).trans h0 | exact (aup_n n1).trans h1) rfl ?_
      refine v_bipush dX1_append_16 ?_
      refine v_icmp_lt 23 dX1_append_18 (fun h_18 => ?_) (fun h_18 => ?_)
      · refine v_aload_n dX1_append_23 rfl ?_
        refine v_get dX1_append_24 f_X1_9 (by first | exact h0 | exact h1 | exact aup_s | exact (aup_n n1.symm).trans h0 | exact (aup_n n1).trans h1) rfl ?_
        refine v_aload_n dX1_append_27 rfl ?_
        refine v_get dX1_append_28 f_X1_15 (by first | exact h0 | exact h1 | exact aup_s | exact (aup_n n1.symm).trans h0 | exact (aup_n n1).trans h1) rfl ?_
        refine v_iload_n dX1_append_31 rfl ?_
        refine v_cast dX1_append_32 (by first | exact h0 | exact h1 | exact aup_s | exact (aup_n n1.symm).trans h0 | exact (aup_n n1).trans h1) ?_
        refine v_aload_n dX1_append_33 rfl ?_
        refine v_dup dX1_append_34 rfl ?_
        refine v_get dX1_append_35 f_X1_15 (by first | exact h0 | exact h1 | exact aup_s | exact (aup_n n1.symm).trans h0 | exact (aup_n n1).trans h1) rfl ?_
        refine v_iconst dX1_append_38 ?_
        refine v_iadd dX1_append_39 ?_
        refine v_put dX1_append_40 f_X1_15 (by first | exact h0 | exact h1 | exact aup_s | exact (aup_n n1.symm).trans h0 | exact (aup_n n1).trans h1) rfl rfl (Nat.le_of_ble_eq_true rfl) ?_
        refine v_iconst dX1_append_43 ?_
        exact v_zret dX1_append_44 rfl (by first | exact hQ0 (by omega) | exact hQ1 (by omega)) (by first | exact Or.inl rfl | exact Or.inr rfl | omega)
      · refine v_iconst dX1_append_21 ?_
        exact v_zret dX1_append_22 rfl (by first | exact hQ0 (by omega) | exact hQ1 (by omega)) (by first | exact Or.inl rfl | exact Or.inr rfl | omega)
set_option maxRecDepth 100000 in
set_option maxHeartbeats 4000000 in
theorem s_X1_clear {l : Launch} {G : GG} {w : AH} {Q : Option Value → AH → Prop} {X : String → AH → Prop} (hst : l.stackTraces = false) {z ac p : Nat} {L : Int} (h0 : w z = some (liC ac L p)) (hQ : Q none (aup w z (liC ac 0 p))) : Ct l G mX1_clear rX1_clear [.ref z] w Q X := by
  refine ct_of hst mk_X1_clear (Nat.le_of_ble_eq_true rfl) ?_
  refine v_aload_n dX1_clear_0 rfl ?_
  refine v_iconst dX1_clear_1 ?_
  refine v_put dX1_clear_2 f_X1_15 (by exact h0) rfl rfl (Nat.le_of_ble_eq_true rfl) ?_
  exact v_vret dX1_clear_5 rfl (by exact hQ)
set_option maxRecDepth 100000 in
set_option maxHeartbeats 4000000 in
theorem s_X1_isAtEnd {l : Launch} {G : GG} {w : AH} {Q : Option Value → AH → Prop} {X : String → AH → Prop} (hst : l.stackTraces = false) {z ac p : Nat} {L : Int} {g : Nat → Int} (h0 : w z = some (liC ac L p)) (h1 : w ac = some (acA G 30 g)) (hL : 0 ≤ L ∧ L ≤ 30) (hp : p ≤ 30) (hg : ∀ k, 0 ≤ g k ∧ g k ≤ 65535) (hQ : ∀ r : Int, ((L ≤ (p : Int) ∧ r = 1) ∨ ((p : Int) < L ∧ r = 0)) → Q (some (.int (iI r))) w) : Ct l G mX1_isAtEnd rX1_isAtEnd [.ref z] w Q X := by
  have hnx := nx_c g L p
  have hgp := hg p
  have n1 : ac ≠ z := fun e => absurd (ne_of h0 h1 lica) (fun h => h e.symm)
  refine ct_of hst mk_X1_isAtEnd (Nat.le_of_ble_eq_true rfl) ?_
  refine v_aload_n dX1_isAtEnd_0 rfl ?_
  refine v_get dX1_isAtEnd_1 f_X1_19 (by first | exact h0 | exact h1 | exact aup_s | exact (aup_n n1.symm).trans h0 | exact (aup_n n1).trans h1) rfl ?_
  refine v_aload_n dX1_isAtEnd_4 rfl ?_
  refine v_get dX1_isAtEnd_5 f_X1_15 (by first | exact h0 | exact h1 | exact aup_s | exact (aup_n n1.symm).trans h0 | exact (aup_n n1).trans h1) rfl ?_
  refine v_icmp_lt 15 dX1_isAtEnd_8 (fun h_8 => ?_) (fun h_8 => ?_)
  · refine v_iconst dX1_isAtEnd_15 ?_
    exact v_zret dX1_isAtEnd_16 rfl (by exact hQ _ (by omega)) (by first | exact Or.inl rfl | exact Or.inr rfl | omega)
  · refine v_iconst dX1_isAtEnd_11 ?_
    refine v_goto 16 dX1_isAtEnd_12 ?_
    exact v_zret dX1_isAtEnd_16 rfl (by exact hQ _ (by omega)) (by first | exact Or.inl rfl | exact Or.inr rfl | omega)
set_option maxRecDepth 100000 in
set_option maxHeartbeats 4000000 in
theorem s_X1_next {l : Launch} {G : GG} {w : AH} {Q : Option Value → AH → Prop} {X : String → AH → Prop} (hst : l.stackTraces = false) {z ac p : Nat} {L : Int} {g : Nat → Int} (h0 : w z = some (liC ac L p)) (h1 : w ac = some (acA G 30 g)) (hL : 0 ≤ L ∧ L ≤ 30) (hp : p ≤ 30) (hg : ∀ k, 0 ≤ g k ∧ g k ≤ 65535) (hQ : Q (some (.int (iI (nx g L p)))) w) : Ct l G mX1_next rX1_next [.ref z] w Q X := by
  have hnx := nx_c g L p
  have hgp := hg p
  have n1 : ac ≠ z := fun e => absurd (ne_of h0 h1 lica) (fun h => h e.symm)
  refine ct_of hst mk_X1_next (Nat.le_of_ble_eq_true rfl) ?_
  refine v_aload_n dX1_next_0 rfl ?_
  refine v_get dX1_next_1 f_X1_19 (by first | exact h0 | exact h1 | exact aup_s | exact (aup_n n1.symm).trans h0 | exact (aup_n n1).trans h1) rfl ?_
  refine v_if_lt 39 dX1_next_4 (fun h_4 => ?_) (fun h_4 => ?_)
  · refine v_iconst dX1_next_39 ?_
    first | exact v_cret dX1_next_40 rfl (by exact qi hQ (by first | omega | (simp only [Int.toNat_natCast] at *; omega))) (nar_char (by first | omega | (simp only [Int.toNat_natCast] at *; omega)))
  · refine v_aload_n dX1_next_7 rfl ?_
    refine v_get dX1_next_8 f_X1_19 (by first | exact h0 | exact h1 | exact aup_s | exact (aup_n n1.symm).trans h0 | exact (aup_n n1).trans h1) rfl ?_
    refine v_aload_n dX1_next_11 rfl ?_
    refine v_get dX1_next_12 f_X1_15 (by first | exact h0 | exact h1 | exact aup_s | exact (aup_n n1.symm).trans h0 | exact (aup_n n1).trans h1) rfl ?_
    refine v_icmp_ge 39 dX1_next_15 (fun h_15 => ?_) (fun h_15 => ?_)
    · refine v_iconst dX1_next_39 ?_
      first | exact v_cret dX1_next_40 rfl (by exact qi hQ (by first | omega | (simp only [Int.toNat_natCast] at *; omega))) (nar_char (by first | omega | (simp only [Int.toNat_natCast] at *; omega)))
    · refine v_aload_n dX1_next_18 rfl ?_
      refine v_get dX1_next_19 f_X1_19 (by first | exact h0 | exact h1 | exact aup_s | exact (aup_n n1.symm).trans h0 | exact (aup_n n1).trans h1) rfl ?_
      refine v_bipush dX1_next_22 ?_
      refine v_icmp_ge 39 dX1_next_24 (fun h_24 => ?_) (fun h_24 => ?_)
      · refine v_iconst dX1_next_39 ?_
        first | exact v_cret dX1_next_40 rfl (by exact qi hQ (by first | omega | (simp only [Int.toNat_natCast] at *; omega))) (nar_char (by first | omega | (simp only [Int.toNat_natCast] at *; omega)))
      · refine v_aload_n dX1_next_27 rfl ?_
        refine v_get dX1_next_28 f_X1_9 (by first | exact h0 | exact h1 | exact aup_s | exact (aup_n n1.symm).trans h0 | exact (aup_n n1).trans h1) rfl ?_
        refine v_aload_n dX1_next_31 rfl ?_
        refine v_get dX1_next_32 f_X1_19 (by first | exact h0 | exact h1 | exact aup_s | exact (aup_n n1.symm).trans h0 | exact (aup_n n1).trans h1) rfl ?_
        refine v_cald dX1_next_35 (by first | exact h0 | exact h1 | exact aup_s | exact (aup_n n1.symm).trans h0 | exact (aup_n n1).trans h1) ?_
        refine v_goto 40 dX1_next_36 ?_
        first | exact v_cret dX1_next_40 rfl (by exact qi hQ (by first | omega | (simp only [Int.toNat_natCast] at *; omega))) (nar_char (by first | omega | (simp only [Int.toNat_natCast] at *; omega)))
set_option maxRecDepth 100000 in
set_option maxHeartbeats 4000000 in
theorem s_X1_isDigitNext {l : Launch} {G : GG} {w : AH} {Q : Option Value → AH → Prop} {X : String → AH → Prop} (hst : l.stackTraces = false) {z ac p : Nat} {L : Int} {g : Nat → Int} (h0 : w z = some (liC ac L p)) (h1 : w ac = some (acA G 30 g)) (hL : 0 ≤ L ∧ L ≤ 30) (hp : p ≤ 30) (hg : ∀ k, 0 ≤ g k ∧ g k ≤ 65535) (hQ : ∀ r : Int, (((48 ≤ nx g L (p) ∧ nx g L (p) ≤ 57) ∧ r = 1) ∨ (¬ (48 ≤ nx g L (p) ∧ nx g L (p) ≤ 57) ∧ r = 0)) → Q (some (.int (iI r))) w) : Ct l G mX1_isDigitNext rX1_isDigitNext [.ref z] w Q X := by
  have hnx := nx_c g L p
  have hgp := hg p
  have n1 : ac ≠ z := fun e => absurd (ne_of h0 h1 lica) (fun h => h e.symm)
  refine ct_of hst mk_X1_isDigitNext (Nat.le_of_ble_eq_true rfl) ?_
  refine v_aload_n dX1_isDigitNext_0 rfl ?_
  refine v_V0 (rm' := rX1_next) (RX1, TX1, 3) dX1_isDigitNext_1 km_X1_74 kn_X1_next kv_X1_next kz_X1 mk_X1_next rfl rfl (by first | exact h0 | exact h1 | exact aup_s | exact (aup_n n1.symm).trans h0 | exact (aup_n n1).trans h1) ⟨Nat.le_of_ble_eq_true rfl, Nat.le_of_ble_eq_true rfl⟩ ⟨Nat.le_of_ble_eq_true rfl, Nat.le_of_ble_eq_true rfl⟩ (Nat.le_of_ble_eq_true rfl) ?_
  refine s_X1_next hst h0 h1 hL hp hg ?_
  refine v_bipush dX1_isDigitNext_4 ?_
  refine v_icmp_lt 22 dX1_isDigitNext_6 (fun h_6 => ?_) (fun h_6 => ?_)
  · refine v_iconst dX1_isDigitNext_22 ?_
    exact v_zret dX1_isDigitNext_23 rfl (by exact hQ _ (by omega)) (by first | exact Or.inl rfl | exact Or.inr rfl | omega)
  · refine v_aload_n dX1_isDigitNext_9 rfl ?_
    refine v_V0 (rm' := rX1_next) (RX1, TX1, 3) dX1_isDigitNext_10 km_X1_74 kn_X1_next kv_X1_next kz_X1 mk_X1_next rfl rfl (by first | exact h0 | exact h1 | exact aup_s | exact (aup_n n1.symm).trans h0 | exact (aup_n n1).trans h1) ⟨Nat.le_of_ble_eq_true rfl, Nat.le_of_ble_eq_true rfl⟩ ⟨Nat.le_of_ble_eq_true rfl, Nat.le_of_ble_eq_true rfl⟩ (Nat.le_of_ble_eq_true rfl) ?_
    refine s_X1_next hst h0 h1 hL hp hg ?_
    refine v_bipush dX1_isDigitNext_13 ?_
    refine v_icmp_gt 22 dX1_isDigitNext_15 (fun h_15 => ?_) (fun h_15 => ?_)
    · refine v_iconst dX1_isDigitNext_22 ?_
      exact v_zret dX1_isDigitNext_23 rfl (by exact hQ _ (by omega)) (by first | exact Or.inl rfl | exact Or.inr rfl | omega)
    · refine v_iconst dX1_isDigitNext_18 ?_
      refine v_goto 23 dX1_isDigitNext_19 ?_
      exact v_zret dX1_isDigitNext_23 rfl (by exact hQ _ (by omega)) (by first | exact Or.inl rfl | exact Or.inr rfl | omega)
set_option maxRecDepth 100000 in
set_option maxHeartbeats 4000000 in
theorem s_X1_nextDigit {l : Launch} {G : GG} {w : AH} {Q : Option Value → AH → Prop} {X : String → AH → Prop} (hst : l.stackTraces = false) {z ac p : Nat} {L : Int} {g : Nat → Int} (h0 : w z = some (liC ac L p)) (h1 : w ac = some (acA G 30 g)) (hL : 0 ≤ L ∧ L ≤ 30) (hp : p ≤ 30) (hg : ∀ k, 0 ≤ g k ∧ g k ≤ 65535) (hQ : Q (some (.int (iI (nx g L p - 48)))) (aup w z (liC ac L (p + 1)))) : Ct l G mX1_nextDigit rX1_nextDigit [.ref z] w Q X := by
  have hnx := nx_c g L p
  have hgp := hg p
  have n1 : ac ≠ z := fun e => absurd (ne_of h0 h1 lica) (fun h => h e.symm)
  refine ct_of hst mk_X1_nextDigit (Nat.le_of_ble_eq_true rfl) ?_
  refine v_aload_n dX1_nextDigit_0 rfl ?_
  refine v_V0 (rm' := rX1_next) (RX1, TX1, 3) dX1_nextDigit_1 km_X1_74 kn_X1_next kv_X1_next kz_X1 mk_X1_next rfl rfl (by first | exact h0 | exact h1 | exact aup_s | exact (aup_n n1.symm).trans h0 | exact (aup_n n1).trans h1) ⟨Nat.le_of_ble_eq_true rfl, Nat.le_of_ble_eq_true rfl⟩ ⟨Nat.le_of_ble_eq_true rfl, Nat.le_of_ble_eq_true rfl⟩ (Nat.le_of_ble_eq_true rfl) ?_
  refine s_X1_next hst h0 h1 hL hp hg ?_
  refine v_bipush dX1_nextDigit_4 ?_
  refine v_isub dX1_nextDigit_6 ?_
  refine v_istore_n dX1_nextDigit_7 (by decide) ?_
  refine v_aload_n dX1_nextDigit_8 rfl ?_
  refine v_dup dX1_nextDigit_9 rfl ?_
  refine v_get dX1_nextDigit_10 f_X1_19 (by first | exact h0 | exact h1 | exact aup_s | exact (aup_n n1.symm).trans h0 | exact (aup_n n1).trans h1) rfl ?_
  refine v_iconst dX1_nextDigit_13 ?_
  refine v_iadd dX1_nextDigit_14 ?_
  refine v_put dX1_nextDigit_15 f_X1_19 (by first | exact h0 | exact h1 | exact aup_s | exact (aup_n n1.symm).trans h0 | exact (aup_n n1).trans h1) rfl rfl (Nat.le_of_ble_eq_true rfl) ?_
  refine v_iload_n dX1_nextDigit_18 rfl ?_
  exact v_iret dX1_nextDigit_19 rfl (by exact hQ)
set_option maxRecDepth 100000 in
set_option maxHeartbeats 4000000 in
theorem s_X1_skip {l : Launch} {G : GG} {w : AH} {Q : Option Value → AH → Prop} {X : String → AH → Prop} (hst : l.stackTraces = false) {z ac p : Nat} {L : Int} {g : Nat → Int} (h0 : w z = some (liC ac L p)) (h1 : w ac = some (acA G 30 g)) (hL : 0 ≤ L ∧ L ≤ 30) (hp : p ≤ 30) (hg : ∀ k, 0 ≤ g k ∧ g k ≤ 65535) {c : Int} (hc : 0 ≤ c ∧ c ≤ 65535) (hQ1 : nx g L p = c → Q (some (.int (iI 1))) (aup w z (liC ac L (p + 1)))) (hQ0 : nx g L p ≠ c → Q (some (.int (iI 0))) w) : Ct l G mX1_skip rX1_skip [.ref z, .int (iI c)] w Q X := by
  have hnx := nx_c g L p
  have hgp := hg p
  have n1 : ac ≠ z := fun e => absurd (ne_of h0 h1 lica) (fun h => h e.symm)
  refine ct_of hst mk_X1_skip (Nat.le_of_ble_eq_true rfl) ?_
  refine v_aload_n dX1_skip_0 rfl ?_
  refine v_V0 (rm' := rX1_next) (RX1, TX1, 3) dX1_skip_1 km_X1_74 kn_X1_next kv_X1_next kz_X1 mk_X1_next rfl rfl (by first | exact h0 | exact h1 | exact aup_s | exact (aup_n n1.symm).trans h0 | exact (aup_n n1).trans h1) ⟨Nat.le_of_ble_eq_true rfl, Nat.le_of_ble_eq_true rfl⟩ ⟨Nat.le_of_ble_eq_true rfl, Nat.le_of_ble_eq_true rfl⟩ (Nat.le_of_ble_eq_true rfl) ?_
  refine s_X1_next hst h0 h1 hL hp hg ?_
  refine v_iload_n dX1_skip_4 rfl ?_
  refine v_icmp_eq 10 dX1_skip_5 (fun h_5 => ?_) (fun h_5 => ?_)
  · refine v_aload_n dX1_skip_10 rfl ?_
    refine v_dup dX1_skip_11 rfl ?_
    refine v_get dX1_skip_12 f_X1_19 (by first | exact h0 | exact h1 | exact aup_s | exact (aup_n n1.symm).trans h0 | exact (aup_n n1).trans h1) rfl ?_
    refine v_iconst dX1_skip_15 ?_
    refine v_iadd dX1_skip_16 ?_
    refine v_put dX1_skip_17 f_X1_19 (by first | exact h0 | exact h1 | exact aup_s | exact (aup_n n1.symm).trans h0 | exact (aup_n n1).trans h1) rfl rfl (Nat.le_of_ble_eq_true rfl) ?_
    refine v_iconst dX1_skip_20 ?_
    exact v_zret dX1_skip_21 rfl (by first | exact hQ1 (by omega) | exact hQ0 (by omega)) (by first | exact Or.inl rfl | exact Or.inr rfl | omega)
  · refine v_iconst dX1_skip_8 ?_
    exact v_zret dX1_skip_9 rfl (by first | exact hQ1 (by omega) | exact hQ0 (by omega)) (by first | exact Or.inl rfl | exact Or.inr rfl | omega)
set_option maxRecDepth 100000 in
set_option maxHeartbeats 4000000 in
theorem s_X1_number2 {l : Launch} {G : GG} {w : AH} {Q : Option Value → AH → Prop} {X : String → AH → Prop} (hst : l.stackTraces = false) {z ac p : Nat} {L : Int} {g : Nat → Int} (h0 : w z = some (liC ac L p)) (h1 : w ac = some (acA G 30 g)) (hL : 0 ≤ L ∧ L ≤ 30) (hp : p ≤ 30) (hg : ∀ k, 0 ≤ g k ∧ g k ≤ 65535) (hQ1 : ((48 ≤ nx g L (p) ∧ nx g L (p) ≤ 57) ∧ (48 ≤ nx g L (p + 1) ∧ nx g L (p + 1) ≤ 57)) → Q (some (.int (iI (n2 g L p)))) (aup w z (liC ac L (p + 1 + 1)))) (hQ0 : ∀ p' : Nat, p' ≤ 30 → ¬ ((48 ≤ nx g L (p) ∧ nx g L (p) ≤ 57) ∧ (48 ≤ nx g L (p + 1) ∧ nx g L (p + 1) ≤ 57)) → Q (some (.int (iI (-1)))) (aup w z (liC ac L p'))) : Ct l G mX1_number rX1_number [.ref z, .int (iI 2)] w Q X := by
  have hnx := nx_c g L p
  have hgp := hg p
  have n1 : ac ≠ z := fun e => absurd (ne_of h0 h1 lica) (fun h => h e.symm)
  have hn1 := nx_c g L (p + 1)
  have hgn1 := hg (p + 1)
  have hn2 := nx_c g L (p + 1 + 1)
  have hgn2 := hg (p + 1 + 1)
  refine ct_of hst mk_X1_number (Nat.le_of_ble_eq_true rfl) ?_
  refine v_iconst dX1_number_0 ?_
  refine v_istore_n dX1_number_1 (by decide) ?_
  refine v_iconst dX1_number_2 ?_
  refine v_istore_n dX1_number_3 (by decide) ?_
  refine v_iload_n dX1_number_4 rfl ?_
  refine v_iload_n dX1_number_5 rfl ?_
  refine v_icmp_ge 34 dX1_number_6 (fun hb0 => ?_) (fun hb0 => ?_)
  · exfalso; omega
  refine v_aload_n dX1_number_9 rfl ?_
  refine v_V0 (rm' := rX1_isDigitNext) (RX1, TX1, 3) dX1_number_10 km_X1_68 kn_X1_isDigitNext kv_X1_isDigitNext kz_X1 mk_X1_isDigitNext rfl rfl (by first | exact h0 | exact h1 | exact aup_s | exact (aup_n n1.symm).trans h0 | exact (aup_n n1).trans h1 | exact (aup_n n1).trans h1) ⟨Nat.le_of_ble_eq_true rfl, Nat.le_of_ble_eq_true rfl⟩ ⟨Nat.le_of_ble_eq_true rfl, Nat.le_of_ble_eq_true rfl⟩ (Nat.le_of_ble_eq_true rfl) ?_
  refine s_X1_isDigitNext hst h0 h1 hL (by omega) hg (fun rd0 ed0 => ?_)
  refine v_if_ne 18 dX1_number_13 (fun h_13 => ?_) (fun h_13 => ?_)
  rotate_left
  · refine v_iconst dX1_number_16 ?_
    exact v_iret dX1_number_17 rfl (by rw [← aup_id h0]; exact hQ0 _ (by omega) (by omega))
  refine v_iload_n dX1_number_18 rfl ?_
  refine v_bipush dX1_number_19 ?_
  refine v_imul dX1_number_21 ?_
  refine v_aload_n dX1_number_22 rfl ?_
  refine v_V0 (rm' := rX1_nextDigit) (RX1, TX1, 3) dX1_number_23 km_X1_71 kn_X1_nextDigit kv_X1_nextDigit kz_X1 mk_X1_nextDigit rfl rfl (by first | exact h0 | exact h1 | exact aup_s | exact (aup_n n1.symm).trans h0 | exact (aup_n n1).trans h1 | exact (aup_n n1).trans h1) ⟨Nat.le_of_ble_eq_true rfl, Nat.le_of_ble_eq_true rfl⟩ ⟨Nat.le_of_ble_eq_true rfl, Nat.le_of_ble_eq_true rfl⟩ (Nat.le_of_ble_eq_true rfl) ?_
  refine s_X1_nextDigit hst h0 h1 hL (by omega) hg ?_
  refine v_iadd dX1_number_26 ?_
  refine v_istore_n dX1_number_27 (by decide) ?_
  refine v_iinc dX1_number_28 rfl ?_
  refine v_goto 4 dX1_number_31 ?_
  refine v_iload_n dX1_number_4 rfl ?_
  refine v_iload_n dX1_number_5 rfl ?_
  refine v_icmp_ge 34 dX1_number_6 (fun hb1 => ?_) (fun hb1 => ?_)
  · exfalso; omega
  refine v_aload_n dX1_number_9 rfl ?_
  refine v_V0 (rm' := rX1_isDigitNext) (RX1, TX1, 3) dX1_number_10 km_X1_68 kn_X1_isDigitNext kv_X1_isDigitNext kz_X1 mk_X1_isDigitNext rfl rfl (by first | exact h0 | exact h1 | exact aup_s | exact (aup_n n1.symm).trans h0 | exact (aup_n n1).trans h1 | exact (aup_n n1).trans h1) ⟨Nat.le_of_ble_eq_true rfl, Nat.le_of_ble_eq_true rfl⟩ ⟨Nat.le_of_ble_eq_true rfl, Nat.le_of_ble_eq_true rfl⟩ (Nat.le_of_ble_eq_true rfl) ?_
  refine s_X1_isDigitNext hst aup_s ((aup_n n1).trans h1) hL (by omega) hg (fun rd1 ed1 => ?_)
  refine v_if_ne 18 dX1_number_13 (fun h_13 => ?_) (fun h_13 => ?_)
  rotate_left
  · refine v_iconst dX1_number_16 ?_
    exact v_iret dX1_number_17 rfl (by exact hQ0 _ (by omega) (by omega))
  refine v_iload_n dX1_number_18 rfl ?_
  refine v_bipush dX1_number_19 ?_
  refine v_imul dX1_number_21 ?_
  refine v_aload_n dX1_number_22 rfl ?_
  refine v_V0 (rm' := rX1_nextDigit) (RX1, TX1, 3) dX1_number_23 km_X1_71 kn_X1_nextDigit kv_X1_nextDigit kz_X1 mk_X1_nextDigit rfl rfl (by first | exact h0 | exact h1 | exact aup_s | exact (aup_n n1.symm).trans h0 | exact (aup_n n1).trans h1 | exact (aup_n n1).trans h1) ⟨Nat.le_of_ble_eq_true rfl, Nat.le_of_ble_eq_true rfl⟩ ⟨Nat.le_of_ble_eq_true rfl, Nat.le_of_ble_eq_true rfl⟩ (Nat.le_of_ble_eq_true rfl) ?_
  refine s_X1_nextDigit hst aup_s ((aup_n n1).trans h1) hL (by omega) hg ?_
  rw [aup_up]
  refine v_iadd dX1_number_26 ?_
  refine v_istore_n dX1_number_27 (by decide) ?_
  refine v_iinc dX1_number_28 rfl ?_
  refine v_goto 4 dX1_number_31 ?_
  refine v_iload_n dX1_number_4 rfl ?_
  refine v_iload_n dX1_number_5 rfl ?_
  refine v_icmp_ge 34 dX1_number_6 (fun hb2 => ?_) (fun hb2 => ?_)
  rotate_left
  · exfalso; omega
  refine v_iload_n dX1_number_34 rfl ?_
  exact v_iret dX1_number_35 rfl (by exact qi (hQ1 (by omega)) (by unfold n2; omega))
set_option maxRecDepth 100000 in
set_option maxHeartbeats 4000000 in
theorem s_X1_number4 {l : Launch} {G : GG} {w : AH} {Q : Option Value → AH → Prop} {X : String → AH → Prop} (hst : l.stackTraces = false) {z ac p : Nat} {L : Int} {g : Nat → Int} (h0 : w z = some (liC ac L p)) (h1 : w ac = some (acA G 30 g)) (hL : 0 ≤ L ∧ L ≤ 30) (hp : p ≤ 30) (hg : ∀ k, 0 ≤ g k ∧ g k ≤ 65535) (hQ1 : ((48 ≤ nx g L (p) ∧ nx g L (p) ≤ 57) ∧ (48 ≤ nx g L (p + 1) ∧ nx g L (p + 1) ≤ 57) ∧ (48 ≤ nx g L (p + 1 + 1) ∧ nx g L (p + 1 + 1) ≤ 57) ∧ (48 ≤ nx g L (p + 1 + 1 + 1) ∧ nx g L (p + 1 + 1 + 1) ≤ 57)) → Q (some (.int (iI (n4 g L p)))) (aup w z (liC ac L (p + 1 + 1 + 1 + 1)))) (hQ0 : ∀ p' : Nat, p' ≤ 30 → ¬ ((48 ≤ nx g L (p) ∧ nx g L (p) ≤ 57) ∧ (48 ≤ nx g L (p + 1) ∧ nx g L (p + 1) ≤ 57) ∧ (48 ≤ nx g L (p + 1 + 1) ∧ nx g L (p + 1 + 1) ≤ 57) ∧ (48 ≤ nx g L (p + 1 + 1 + 1) ∧ nx g L (p + 1 + 1 + 1) ≤ 57)) → Q (some (.int (iI (-1)))) (aup w z (liC ac L p'))) : Ct l G mX1_number rX1_number [.ref z, .int (iI 4)] w Q X := by
  have hnx := nx_c g L p
  have hgp := hg p
  have n1 : ac ≠ z := fun e => absurd (ne_of h0 h1 lica) (fun h => h e.symm)
  have hn1 := nx_c g L (p + 1)
  have hgn1 := hg (p + 1)
  have hn2 := nx_c g L (p + 1 + 1)
  have hgn2 := hg (p + 1 + 1)
  have hn3 := nx_c g L (p + 1 + 1 + 1)
  have hgn3 := hg (p + 1 + 1 + 1)
  have hn4 := nx_c g L (p + 1 + 1 + 1 + 1)
  have hgn4 := hg (p + 1 + 1 + 1 + 1)
  refine ct_of hst mk_X1_number (Nat.le_of_ble_eq_true rfl) ?_
  refine v_iconst dX1_number_0 ?_
  refine v_istore_n dX1_number_1 (by decide) ?_
  refine v_iconst dX1_number_2 ?_
  refine v_istore_n dX1_number_3 (by decide) ?_
  refine v_iload_n dX1_number_4 rfl ?_
  refine v_iload_n dX1_number_5 rfl ?_
  refine v_icmp_ge 34 dX1_number_6 (fun hb0 => ?_) (fun hb0 => ?_)
  · exfalso; omega
  refine v_aload_n dX1_number_9 rfl ?_
  refine v_V0 (rm' := rX1_isDigitNext) (RX1, TX1, 3) dX1_number_10 km_X1_68 kn_X1_isDigitNext kv_X1_isDigitNext kz_X1 mk_X1_isDigitNext rfl rfl (by first | exact h0 | exact h1 | exact aup_s | exact (aup_n n1.symm).trans h0 | exact (aup_n n1).trans h1 | exact (aup_n n1).trans h1) ⟨Nat.le_of_ble_eq_true rfl, Nat.le_of_ble_eq_true rfl⟩ ⟨Nat.le_of_ble_eq_true rfl, Nat.le_of_ble_eq_true rfl⟩ (Nat.le_of_ble_eq_true rfl) ?_
  refine s_X1_isDigitNext hst h0 h1 hL (by omega) hg (fun rd0 ed0 => ?_)
  refine v_if_ne 18 dX1_number_13 (fun h_13 => ?_) (fun h_13 => ?_)
  rotate_left
  · refine v_iconst dX1_number_16 ?_
    exact v_iret dX1_number_17 rfl (by rw [← aup_id h0]; exact hQ0 _ (by omega) (by omega))
  refine v_iload_n dX1_number_18 rfl ?_
  refine v_bipush dX1_number_19 ?_
  refine v_imul dX1_number_21 ?_
  refine v_aload_n dX1_number_22 rfl ?_
  refine v_V0 (rm' := rX1_nextDigit) (RX1, TX1, 3) dX1_number_23 km_X1_71 kn_X1_nextDigit kv_X1_nextDigit kz_X1 mk_X1_nextDigit rfl rfl (by first | exact h0 | exact h1 | exact aup_s | exact (aup_n n1.symm).trans h0 | exact (aup_n n1).trans h1 | exact (aup_n n1).trans h1) ⟨Nat.le_of_ble_eq_true rfl, Nat.le_of_ble_eq_true rfl⟩ ⟨Nat.le_of_ble_eq_true rfl, Nat.le_of_ble_eq_true rfl⟩ (Nat.le_of_ble_eq_true rfl) ?_
  refine s_X1_nextDigit hst h0 h1 hL (by omega) hg ?_
  refine v_iadd dX1_number_26 ?_
  refine v_istore_n dX1_number_27 (by decide) ?_
  refine v_iinc dX1_number_28 rfl ?_
  refine v_goto 4 dX1_number_31 ?_
  refine v_iload_n dX1_number_4 rfl ?_
  refine v_iload_n dX1_number_5 rfl ?_
  refine v_icmp_ge 34 dX1_number_6 (fun hb1 => ?_) (fun hb1 => ?_)
  · exfalso; omega
  refine v_aload_n dX1_number_9 rfl ?_
  refine v_V0 (rm' := rX1_isDigitNext) (RX1, TX1, 3) dX1_number_10 km_X1_68 kn_X1_isDigitNext kv_X1_isDigitNext kz_X1 mk_X1_isDigitNext rfl rfl (by first | exact h0 | exact h1 | exact aup_s | exact (aup_n n1.symm).trans h0 | exact (aup_n n1).trans h1 | exact (aup_n n1).trans h1) ⟨Nat.le_of_ble_eq_true rfl, Nat.le_of_ble_eq_true rfl⟩ ⟨Nat.le_of_ble_eq_true rfl, Nat.le_of_ble_eq_true rfl⟩ (Nat.le_of_ble_eq_true rfl) ?_
  refine s_X1_isDigitNext hst aup_s ((aup_n n1).trans h1) hL (by omega) hg (fun rd1 ed1 => ?_)
  refine v_if_ne 18 dX1_number_13 (fun h_13 => ?_) (fun h_13 => ?_)
  rotate_left
  · refine v_iconst dX1_number_16 ?_
    exact v_iret dX1_number_17 rfl (by exact hQ0 _ (by omega) (by omega))
  refine v_iload_n dX1_number_18 rfl ?_
  refine v_bipush dX1_number_19 ?_
  refine v_imul dX1_number_21 ?_
  refine v_aload_n dX1_number_22 rfl ?_
  refine v_V0 (rm' := rX1_nextDigit) (RX1, TX1, 3) dX1_number_23 km_X1_71 kn_X1_nextDigit kv_X1_nextDigit kz_X1 mk_X1_nextDigit rfl rfl (by first | exact h0 | exact h1 | exact aup_s | exact (aup_n n1.symm).trans h0 | exact (aup_n n1).trans h1 | exact (aup_n n1).trans h1) ⟨Nat.le_of_ble_eq_true rfl, Nat.le_of_ble_eq_true rfl⟩ ⟨Nat.le_of_ble_eq_true rfl, Nat.le_of_ble_eq_true rfl⟩ (Nat.le_of_ble_eq_true rfl) ?_
  refine s_X1_nextDigit hst aup_s ((aup_n n1).trans h1) hL (by omega) hg ?_
  rw [aup_up]
  refine v_iadd dX1_number_26 ?_
  refine v_istore_n dX1_number_27 (by decide) ?_
  refine v_iinc dX1_number_28 rfl ?_
  refine v_goto 4 dX1_number_31 ?_
  refine v_iload_n dX1_number_4 rfl ?_
  refine v_iload_n dX1_number_5 rfl ?_
  refine v_icmp_ge 34 dX1_number_6 (fun hb2 => ?_) (fun hb2 => ?_)
  · exfalso; omega
  refine v_aload_n dX1_number_9 rfl ?_
  refine v_V0 (rm' := rX1_isDigitNext) (RX1, TX1, 3) dX1_number_10 km_X1_68 kn_X1_isDigitNext kv_X1_isDigitNext kz_X1 mk_X1_isDigitNext rfl rfl (by first | exact h0 | exact h1 | exact aup_s | exact (aup_n n1.symm).trans h0 | exact (aup_n n1).trans h1 | exact (aup_n n1).trans h1) ⟨Nat.le_of_ble_eq_true rfl, Nat.le_of_ble_eq_true rfl⟩ ⟨Nat.le_of_ble_eq_true rfl, Nat.le_of_ble_eq_true rfl⟩ (Nat.le_of_ble_eq_true rfl) ?_
  refine s_X1_isDigitNext hst aup_s ((aup_n n1).trans h1) hL (by omega) hg (fun rd2 ed2 => ?_)
  refine v_if_ne 18 dX1_number_13 (fun h_13 => ?_) (fun h_13 => ?_)
  rotate_left
  · refine v_iconst dX1_number_16 ?_
    exact v_iret dX1_number_17 rfl (by exact hQ0 _ (by omega) (by omega))
  refine v_iload_n dX1_number_18 rfl ?_
  refine v_bipush dX1_number_19 ?_
  refine v_imul dX1_number_21 ?_
  refine v_aload_n dX1_number_22 rfl ?_
  refine v_V0 (rm' := rX1_nextDigit) (RX1, TX1, 3) dX1_number_23 km_X1_71 kn_X1_nextDigit kv_X1_nextDigit kz_X1 mk_X1_nextDigit rfl rfl (by first | exact h0 | exact h1 | exact aup_s | exact (aup_n n1.symm).trans h0 | exact (aup_n n1).trans h1 | exact (aup_n n1).trans h1) ⟨Nat.le_of_ble_eq_true rfl, Nat.le_of_ble_eq_true rfl⟩ ⟨Nat.le_of_ble_eq_true rfl, Nat.le_of_ble_eq_true rfl⟩ (Nat.le_of_ble_eq_true rfl) ?_
  refine s_X1_nextDigit hst aup_s ((aup_n n1).trans h1) hL (by omega) hg ?_
  rw [aup_up]
  refine v_iadd dX1_number_26 ?_
  refine v_istore_n dX1_number_27 (by decide) ?_
  refine v_iinc dX1_number_28 rfl ?_
  refine v_goto 4 dX1_number_31 ?_
  refine v_iload_n dX1_number_4 rfl ?_
  refine v_iload_n dX1_number_5 rfl ?_
  refine v_icmp_ge 34 dX1_number_6 (fun hb3 => ?_) (fun hb3 => ?_)
  · exfalso; omega
  refine v_aload_n dX1_number_9 rfl ?_
  refine v_V0 (rm' := rX1_isDigitNext) (RX1, TX1, 3) dX1_number_10 km_X1_68 kn_X1_isDigitNext kv_X1_isDigitNext kz_X1 mk_X1_isDigitNext rfl rfl (by first | exact h0 | exact h1 | exact aup_s | exact (aup_n n1.symm).trans h0 | exact (aup_n n1).trans h1 | exact (aup_n n1).trans h1) ⟨Nat.le_of_ble_eq_true rfl, Nat.le_of_ble_eq_true rfl⟩ ⟨Nat.le_of_ble_eq_true rfl, Nat.le_of_ble_eq_true rfl⟩ (Nat.le_of_ble_eq_true rfl) ?_
  refine s_X1_isDigitNext hst aup_s ((aup_n n1).trans h1) hL (by omega) hg (fun rd3 ed3 => ?_)
  refine v_if_ne 18 dX1_number_13 (fun h_13 => ?_) (fun h_13 => ?_)
  rotate_left
  · refine v_iconst dX1_number_16 ?_
    exact v_iret dX1_number_17 rfl (by exact hQ0 _ (by omega) (by omega))
  refine v_iload_n dX1_number_18 rfl ?_
  refine v_bipush dX1_number_19 ?_
  refine v_imul dX1_number_21 ?_
  refine v_aload_n dX1_number_22 rfl ?_
  refine v_V0 (rm' := rX1_nextDigit) (RX1, TX1, 3) dX1_number_23 km_X1_71 kn_X1_nextDigit kv_X1_nextDigit kz_X1 mk_X1_nextDigit rfl rfl (by first | exact h0 | exact h1 | exact aup_s | exact (aup_n n1.symm).trans h0 | exact (aup_n n1).trans h1 | exact (aup_n n1).trans h1) ⟨Nat.le_of_ble_eq_true rfl, Nat.le_of_ble_eq_true rfl⟩ ⟨Nat.le_of_ble_eq_true rfl, Nat.le_of_ble_eq_true rfl⟩ (Nat.le_of_ble_eq_true rfl) ?_
  refine s_X1_nextDigit hst aup_s ((aup_n n1).trans h1) hL (by omega) hg ?_
  rw [aup_up]
  refine v_iadd dX1_number_26 ?_
  refine v_istore_n dX1_number_27 (by decide) ?_
  refine v_iinc dX1_number_28 rfl ?_
  refine v_goto 4 dX1_number_31 ?_
  refine v_iload_n dX1_number_4 rfl ?_
  refine v_iload_n dX1_number_5 rfl ?_
  refine v_icmp_ge 34 dX1_number_6 (fun hb4 => ?_) (fun hb4 => ?_)
  rotate_left
  · exfalso; omega
  refine v_iload_n dX1_number_34 rfl ?_
  exact v_iret dX1_number_35 rfl (by exact qi (hQ1 (by omega)) (by unfold n4; omega))
theorem qi9 {Q : Option Value → AH → Prop} {w : AH} {z ac : Nat} {L : Int} {g : Nat → Int} {p i : Nat} (e : i = 9) (h : Q (some (.int (iI (fvs g L p 9)))) (aup w z (liC ac L (fps g L p 9)))) : Q (some (.int (iI (fvs g L p i)))) (aup w z (liC ac L (fps g L p i))) := by
  subst e
  exact h
set_option maxRecDepth 100000 in
set_option maxHeartbeats 4000000 in
theorem X1_fr_loop {l : Launch} {G : GG} {w : AH} {Q : Option Value → AH → Prop} {X : String → AH → Prop} (hst : l.stackTraces = false) {z ac p : Nat} {L : Int} {g : Nat → Int} (h1 : w ac = some (acA G 30 g)) (hL : 0 ≤ L ∧ L ≤ 30) (hp : p ≤ 30) (hg : ∀ k, 0 ≤ g k ∧ g k ≤ 65535) (n1 : ac ≠ z) (hQ : Q (some (.int (iI (fvs g L p 9)))) (aup w z (liC ac L (fps g L p 9)))) : ∀ (N i : Nat), 9 - i ≤ N → i ≤ 9 → V l G mX1_fraction rX1_fraction Q X 22 (lof [(0, .ref z), (1, .int (iI (fvs g L p i))), (2, .int (iI ((i : Int))))]) [] (aup w z (liC ac L (fps g L p i))) 0 0 := by
  intro N
  induction N with
  | zero =>
    intro i hN hi
    have hfc := fps_c g L p i
    have hpi := fps_le (g := g) (L := L) hL.2 hp i
    have hfr := fvs_rng (g := g) (L := L) (p := p) i hi
    have hfr9 := p10 hi
    have hnx := nx_c g L (fps g L p i)
    have hgp := hg (fps g L p i)
    refine v_iload_n dX1_fraction_22 rfl ?_
    refine v_bipush dX1_fraction_23 ?_
    refine v_icmp_ge 55 dX1_fraction_25 (fun h_25 => ?_) (fun h_25 => ?_)
    · refine v_iload_n dX1_fraction_55 rfl ?_
      exact v_iret dX1_fraction_56 rfl (by exact qi9 (by omega) hQ)
    · refine v_iload_n dX1_fraction_28 rfl ?_
      refine v_bipush dX1_fraction_29 ?_
      refine v_imul dX1_fraction_31 ?_
      refine v_aload_n dX1_fraction_32 rfl ?_
      refine v_V0 (rm' := rX1_isDigitNext) (RX1, TX1, 3) dX1_fraction_33 km_X1_68 kn_X1_isDigitNext kv_X1_isDigitNext kz_X1 mk_X1_isDigitNext rfl rfl (by first | exact aup_s | exact (aup_n n1).trans h1) ⟨Nat.le_of_ble_eq_true rfl, Nat.le_of_ble_eq_true rfl⟩ ⟨Nat.le_of_ble_eq_true rfl, Nat.le_of_ble_eq_true rfl⟩ (Nat.le_of_ble_eq_true rfl) ?_
      refine s_X1_isDigitNext hst aup_s ((aup_n n1).trans h1) hL hpi hg (fun rd ed9 => ?_)
      refine v_if_eq 46 dX1_fraction_36 (fun h_36 => ?_) (fun h_36 => ?_)
      · have hfs : fps g L p (i + 1) = fps g L p i := (by omega)
        rw [← hfs]
        refine v_iconst dX1_fraction_46 ?_
        refine v_iadd dX1_fraction_47 ?_
        rw [show fvs g L p i * 10 + 0 = fvs g L p (i + 1) by omega]
        refine v_istore_n dX1_fraction_48 (by decide) ?_
        refine v_iinc dX1_fraction_49 rfl ?_
        rw [show (i : Int) + 1 = ((i + 1 : Nat) : Int) by omega]
        refine v_goto 22 dX1_fraction_52 ?_
        (exfalso; omega)
      have hfs : fps g L p (i + 1) = fps g L p i + 1 := (by omega)
      refine v_aload_n dX1_fraction_39 rfl ?_
      refine v_V0 (rm' := rX1_nextDigit) (RX1, TX1, 3) dX1_fraction_40 km_X1_71 kn_X1_nextDigit kv_X1_nextDigit kz_X1 mk_X1_nextDigit rfl rfl (by first | exact aup_s | exact (aup_n n1).trans h1) ⟨Nat.le_of_ble_eq_true rfl, Nat.le_of_ble_eq_true rfl⟩ ⟨Nat.le_of_ble_eq_true rfl, Nat.le_of_ble_eq_true rfl⟩ (Nat.le_of_ble_eq_true rfl) ?_
      refine s_X1_nextDigit hst aup_s ((aup_n n1).trans h1) hL hpi hg ?_
      rw [aup_up, ← hfs]
      refine v_goto 47 dX1_fraction_43 ?_
      refine v_iadd dX1_fraction_47 ?_
      rw [show fvs g L p i * 10 + (nx g L (fps g L p i) - 48) = fvs g L p (i + 1) by omega]
      refine v_istore_n dX1_fraction_48 (by decide) ?_
      refine v_iinc dX1_fraction_49 rfl ?_
      rw [show (i : Int) + 1 = ((i + 1 : Nat) : Int) by omega]
      refine v_goto 22 dX1_fraction_52 ?_
      (exfalso; omega)
  | succ N ih =>
    intro i hN hi
    have hfc := fps_c g L p i
    have hpi := fps_le (g := g) (L := L) hL.2 hp i
    have hfr := fvs_rng (g := g) (L := L) (p := p) i hi
    have hfr9 := p10 hi
    have hnx := nx_c g L (fps g L p i)
    have hgp := hg (fps g L p i)
    refine v_iload_n dX1_fraction_22 rfl ?_
    refine v_bipush dX1_fraction_23 ?_
    refine v_icmp_ge 55 dX1_fraction_25 (fun h_25 => ?_) (fun h_25 => ?_)
    · refine v_iload_n dX1_fraction_55 rfl ?_
      exact v_iret dX1_fraction_56 rfl (by exact qi9 (by omega) hQ)
    · refine v_iload_n dX1_fraction_28 rfl ?_
      refine v_bipush dX1_fraction_29 ?_
      refine v_imul dX1_fraction_31 ?_
      refine v_aload_n dX1_fraction_32 rfl ?_
      refine v_V0 (rm' := rX1_isDigitNext) (RX1, TX1, 3) dX1_fraction_33 km_X1_68 kn_X1_isDigitNext kv_X1_isDigitNext kz_X1 mk_X1_isDigitNext rfl rfl (by first | exact aup_s | exact (aup_n n1).trans h1) ⟨Nat.le_of_ble_eq_true rfl, Nat.le_of_ble_eq_true rfl⟩ ⟨Nat.le_of_ble_eq_true rfl, Nat.le_of_ble_eq_true rfl⟩ (Nat.le_of_ble_eq_true rfl) ?_
      refine s_X1_isDigitNext hst aup_s ((aup_n n1).trans h1) hL hpi hg (fun rd ed9 => ?_)
      refine v_if_eq 46 dX1_fraction_36 (fun h_36 => ?_) (fun h_36 => ?_)
      · have hfs : fps g L p (i + 1) = fps g L p i := (by omega)
        rw [← hfs]
        refine v_iconst dX1_fraction_46 ?_
        refine v_iadd dX1_fraction_47 ?_
        rw [show fvs g L p i * 10 + 0 = fvs g L p (i + 1) by omega]
        refine v_istore_n dX1_fraction_48 (by decide) ?_
        refine v_iinc dX1_fraction_49 rfl ?_
        rw [show (i : Int) + 1 = ((i + 1 : Nat) : Int) by omega]
        refine v_goto 22 dX1_fraction_52 ?_
        exact v_lof [(0, .ref z), (1, .int (iI (fvs g L p (i + 1)))), (2, .int (iI (((i + 1 : Nat) : Int))))] (List.forall_mem_cons.mpr ⟨rfl, (List.forall_mem_cons.mpr ⟨rfl, (List.forall_mem_cons.mpr ⟨rfl, (fun _ h => nomatch h)⟩)⟩)⟩) (ih (i + 1) (by omega) (by omega))
      have hfs : fps g L p (i + 1) = fps g L p i + 1 := (by omega)
      refine v_aload_n dX1_fraction_39 rfl ?_
      refine v_V0 (rm' := rX1_nextDigit) (RX1, TX1, 3) dX1_fraction_40 km_X1_71 kn_X1_nextDigit kv_X1_nextDigit kz_X1 mk_X1_nextDigit rfl rfl (by first | exact aup_s | exact (aup_n n1).trans h1) ⟨Nat.le_of_ble_eq_true rfl, Nat.le_of_ble_eq_true rfl⟩ ⟨Nat.le_of_ble_eq_true rfl, Nat.le_of_ble_eq_true rfl⟩ (Nat.le_of_ble_eq_true rfl) ?_
      refine s_X1_nextDigit hst aup_s ((aup_n n1).trans h1) hL hpi hg ?_
      rw [aup_up, ← hfs]
      refine v_goto 47 dX1_fraction_43 ?_
      refine v_iadd dX1_fraction_47 ?_
      rw [show fvs g L p i * 10 + (nx g L (fps g L p i) - 48) = fvs g L p (i + 1) by omega]
      refine v_istore_n dX1_fraction_48 (by decide) ?_
      refine v_iinc dX1_fraction_49 rfl ?_
      rw [show (i : Int) + 1 = ((i + 1 : Nat) : Int) by omega]
      refine v_goto 22 dX1_fraction_52 ?_
      exact v_lof [(0, .ref z), (1, .int (iI (fvs g L p (i + 1)))), (2, .int (iI (((i + 1 : Nat) : Int))))] (List.forall_mem_cons.mpr ⟨rfl, (List.forall_mem_cons.mpr ⟨rfl, (List.forall_mem_cons.mpr ⟨rfl, (fun _ h => nomatch h)⟩)⟩)⟩) (ih (i + 1) (by omega) (by omega))
set_option maxRecDepth 100000 in
set_option maxHeartbeats 4000000 in
theorem s_X1_fraction {l : Launch} {G : GG} {w : AH} {Q : Option Value → AH → Prop} {X : String → AH → Prop} (hst : l.stackTraces = false) {z ac p : Nat} {L : Int} {g : Nat → Int} (h0 : w z = some (liC ac L p)) (h1 : w ac = some (acA G 30 g)) (hL : 0 ≤ L ∧ L ≤ 30) (hp : p ≤ 30) (hg : ∀ k, 0 ≤ g k ∧ g k ≤ 65535) (hQ1 : (nx g L (p) = 46 ∧ (48 ≤ nx g L (p + 1) ∧ nx g L (p + 1) ≤ 57)) → Q (some (.int (iI (fvs g L (p + 1) 9)))) (aup w z (liC ac L (fps g L (p + 1) 9)))) (hQ0 : ∀ p' : Nat, p' ≤ 30 → ¬ (nx g L (p) = 46 ∧ (48 ≤ nx g L (p + 1) ∧ nx g L (p + 1) ≤ 57)) → Q (some (.int (iI (-1)))) (aup w z (liC ac L p'))) : Ct l G mX1_fraction rX1_fraction [.ref z] w Q X := by
  have hnx := nx_c g L p
  have hgp := hg p
  have n1 : ac ≠ z := fun e => absurd (ne_of h0 h1 lica) (fun h => h e.symm)
  have hnx1 := nx_c g L (p + 1)
  have hgp1 := hg (p + 1)
  refine ct_of hst mk_X1_fraction (Nat.le_of_ble_eq_true rfl) ?_
  refine v_aload_n dX1_fraction_0 rfl ?_
  refine v_bipush dX1_fraction_1 ?_
  refine v_V1 (rm' := rX1_skip) (RX1, TX1, 3) dX1_fraction_3 km_X1_22 kn_X1_skip kv_X1_skip kz_X1 mk_X1_skip rfl rfl (by first | exact h0 | exact h1 | exact aup_s | exact (aup_n n1.symm).trans h0 | exact (aup_n n1).trans h1) ⟨Nat.le_of_ble_eq_true rfl, Nat.le_of_ble_eq_true rfl⟩ ⟨Nat.le_of_ble_eq_true rfl, Nat.le_of_ble_eq_true rfl⟩ (Nat.le_of_ble_eq_true rfl) ?_
  refine s_X1_skip hst h0 h1 hL hp hg (by omega) (fun h9 => ?_) (fun h9 => ?_)
  · refine v_if_eq 16 dX1_fraction_6 (fun h_6 => ?_) (fun h_6 => ?_)
    · refine v_iconst dX1_fraction_16 ?_
      exact v_iret dX1_fraction_17 rfl (by first | exact hQ0 _ (by omega) (by omega) | (rw [← aup_id h0]; exact hQ0 _ (by omega) (by omega)) | (exfalso; omega))
    · refine v_aload_n dX1_fraction_9 rfl ?_
      refine v_V0 (rm' := rX1_isDigitNext) (RX1, TX1, 3) dX1_fraction_10 km_X1_68 kn_X1_isDigitNext kv_X1_isDigitNext kz_X1 mk_X1_isDigitNext rfl rfl (by first | exact h0 | exact h1 | exact aup_s | exact (aup_n n1.symm).trans h0 | exact (aup_n n1).trans h1) ⟨Nat.le_of_ble_eq_true rfl, Nat.le_of_ble_eq_true rfl⟩ ⟨Nat.le_of_ble_eq_true rfl, Nat.le_of_ble_eq_true rfl⟩ (Nat.le_of_ble_eq_true rfl) ?_
      first | refine s_X1_isDigitNext hst aup_s ((aup_n n1).trans h1) hL (by omega) hg (fun rd ed9 => ?_) | refine s_X1_isDigitNext hst h0 h1 hL hp hg (fun rd ed9 => ?_)
      refine v_if_ne 18 dX1_fraction_13 (fun h_13 => ?_) (fun h_13 => ?_)
      · refine v_iconst dX1_fraction_18 ?_
        refine v_istore_n dX1_fraction_19 (by decide) ?_
        refine v_iconst dX1_fraction_20 ?_
        refine v_istore_n dX1_fraction_21 (by decide) ?_
        first | (exfalso; omega) | exact v_lof [(0, .ref z), (1, .int (iI (fvs g L (p + 1) 0))), (2, .int (iI (((0 : Nat) : Int))))] (List.forall_mem_cons.mpr ⟨rfl, (List.forall_mem_cons.mpr ⟨rfl, (List.forall_mem_cons.mpr ⟨rfl, (fun _ h => nomatch h)⟩)⟩)⟩) (X1_fr_loop (p := p + 1) hst h1 hL (by omega) hg n1 (hQ1 (by omega)) 9 0 (by omega) (by omega))
      · refine v_iconst dX1_fraction_16 ?_
        exact v_iret dX1_fraction_17 rfl (by first | exact hQ0 _ (by omega) (by omega) | (rw [← aup_id h0]; exact hQ0 _ (by omega) (by omega)) | (exfalso; omega))
  · refine v_if_eq 16 dX1_fraction_6 (fun h_6 => ?_) (fun h_6 => ?_)
    · refine v_iconst dX1_fraction_16 ?_
      exact v_iret dX1_fraction_17 rfl (by first | exact hQ0 _ (by omega) (by omega) | (rw [← aup_id h0]; exact hQ0 _ (by omega) (by omega)) | (exfalso; omega))
    · refine v_aload_n dX1_fraction_9 rfl ?_
      refine v_V0 (rm' := rX1_isDigitNext) (RX1, TX1, 3) dX1_fraction_10 km_X1_68 kn_X1_isDigitNext kv_X1_isDigitNext kz_X1 mk_X1_isDigitNext rfl rfl (by first | exact h0 | exact h1 | exact aup_s | exact (aup_n n1.symm).trans h0 | exact (aup_n n1).trans h1) ⟨Nat.le_of_ble_eq_true rfl, Nat.le_of_ble_eq_true rfl⟩ ⟨Nat.le_of_ble_eq_true rfl, Nat.le_of_ble_eq_true rfl⟩ (Nat.le_of_ble_eq_true rfl) ?_
      first | refine s_X1_isDigitNext hst aup_s ((aup_n n1).trans h1) hL (by omega) hg (fun rd ed9 => ?_) | refine s_X1_isDigitNext hst h0 h1 hL hp hg (fun rd ed9 => ?_)
      refine v_if_ne 18 dX1_fraction_13 (fun h_13 => ?_) (fun h_13 => ?_)
      · refine v_iconst dX1_fraction_18 ?_
        refine v_istore_n dX1_fraction_19 (by decide) ?_
        refine v_iconst dX1_fraction_20 ?_
        refine v_istore_n dX1_fraction_21 (by decide) ?_
        first | (exfalso; omega) | exact v_lof [(0, .ref z), (1, .int (iI (fvs g L (p + 1) 0))), (2, .int (iI (((0 : Nat) : Int))))] (List.forall_mem_cons.mpr ⟨rfl, (List.forall_mem_cons.mpr ⟨rfl, (List.forall_mem_cons.mpr ⟨rfl, (fun _ h => nomatch h)⟩)⟩)⟩) (X1_fr_loop (p := p + 1) hst h1 hL (by omega) hg n1 (hQ1 (by omega)) 9 0 (by omega) (by omega))
      · refine v_iconst dX1_fraction_16 ?_
        exact v_iret dX1_fraction_17 rfl (by first | exact hQ0 _ (by omega) (by omega) | (rw [← aup_id h0]; exact hQ0 _ (by omega) (by omega)) | (exfalso; omega))
