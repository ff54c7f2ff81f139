theorem msb_xor64 (x y : Int64) : (0 ≤ (x ^^^ y).toInt) ↔ (0 ≤ x.toInt ↔ 0 ≤ y.toInt) := by
  have h : ∀ z : Int64, (0 ≤ z.toInt) ↔ z.toBitVec.msb = false := fun z => by
    rw [← Int64.toInt_toBitVec, BitVec.msb_eq_toInt]
    simp
  rw [h, h, h, Int64.toBitVec_xor, BitVec.msb_xor]
  cases x.toBitVec.msb <;> cases y.toBitVec.msb <;> simp
theorem msb_xor32 (x y : Int32) : (0 ≤ (x ^^^ y).toInt) ↔ (0 ≤ x.toInt ↔ 0 ≤ y.toInt) := by
  have h : ∀ z : Int32, (0 ≤ z.toInt) ↔ z.toBitVec.msb = false := fun z => by
    rw [← Int32.toInt_toBitVec, BitVec.msb_eq_toInt]
    simp
  rw [h, h, h, Int32.toBitVec_xor, BitVec.msb_xor]
  cases x.toBitVec.msb <;> cases y.toBitVec.msb <;> simp
section VJ
variable {l : Launch} {G : GG} {M : MI} {rm : Room} {Q : Option Value → AH → Prop} {X : String → AH → Prop} {pc : Nat} {lv : Nat → Option Value} {st : List Value} {w : AH} {kc ks : Nat}
theorem v_lxorP {a b : Int} (hd : decode M.cc pc = .ok (.lxor, 1)) (k : ∀ z : Int, (-9223372036854775808 ≤ z ∧ z ≤ 9223372036854775807) → ((0 ≤ a ∧ 0 ≤ z) ∨ (a < 0 ∧ z < 0)) → V l G M rm Q X (pc + 1) lv (.long (lI z) :: st) w kc ks) (hb : 0 < b ∧ b ≤ 9223372036854775807 := by omega) (ha : -9223372036854775808 ≤ a ∧ a ≤ 9223372036854775807 := by omega) : V l G M rm Q X pc lv (.long (lI b) :: .long (lI a) :: st) w kc ks := by
  refine v_lxor hd (v_topl (fun z hz hr => k z hr ?_))
  have h := msb_xor64 (lI a) (lI b)
  rw [hz, lI_toInt hr, lI_toInt ha, lI_toInt (by omega)] at h
  omega
theorem v_ixorP {a b : Int} (hd : decode M.cc pc = .ok (.ixor, 1)) (k : ∀ z : Int, (-2147483648 ≤ z ∧ z ≤ 2147483647) → ((0 ≤ a ∧ 0 ≤ z) ∨ (a < 0 ∧ z < 0)) → V l G M rm Q X (pc + 1) lv (.int (iI z) :: st) w kc ks) (hb : 0 < b ∧ b ≤ 2147483647 := by omega) (ha : -2147483648 ≤ a ∧ a ≤ 2147483647 := by omega) : V l G M rm Q X pc lv (.int (iI b) :: .int (iI a) :: st) w kc ks := by
  refine v_ixor hd (v_topi (fun z hz hr => k z hr ?_))
  have h := msb_xor32 (iI a) (iI b)
  rw [hz, iI_toInt hr, iI_toInt ha, iI_toInt (by omega)] at h
  omega
end VJ
theorem fdv9 {a b q : Int} (hb : 0 < b) (h : (0 ≤ a ∧ q = a / b) ∨ (a < 0 ∧ q = -((-a) / b))) : (0 ≤ a → a / b = q) ∧ (a < 0 → (q * b = a → a / b = q) ∧ (q * b ≠ a → a / b = q - 1) ∧ a ≤ q * b ∧ q * b ≤ 0 ∧ a < q ∧ q ≤ 0 ∨ q = a ∧ b = 1) := by
  refine ⟨fun h0 => by rcases h with ⟨_, h⟩ | ⟨h1, _⟩ <;> omega, fun h0 => ?_⟩
  have hq : q = -((-a) / b) := by rcases h with ⟨h1, _⟩ | ⟨_, h⟩ <;> omega
  obtain ⟨d, hd⟩ : ∃ d, d = (-a) / b := ⟨_, rfl⟩
  obtain ⟨m, hm⟩ : ∃ m, m = (-a) % b := ⟨_, rfl⟩
  have e1 : b * d + m = -a := by rw [hd, hm]; exact Int.mul_ediv_add_emod (-a) b
  have e2 : 0 ≤ m := by rw [hm]; exact Int.emod_nonneg _ (by omega)
  have e3 : m < b := by rw [hm]; exact Int.emod_lt_of_pos _ hb
  have e4 : 0 ≤ d := by rw [hd]; exact Int.ediv_nonneg (by omega) (by omega)
  rw [← hd] at hq
  have e5 : q * b = -(b * d) := by rw [hq, Int.neg_mul, Int.mul_comm]
  have e6 : a = -(b * d) - m := by omega
  have e7 : 0 ≤ b * d := Int.mul_nonneg (by omega) e4
  by_cases hb1 : b = 1
  · right
    subst hb1
    omega
  · left
    have e8 : 2 * d ≤ b * d := Int.mul_le_mul_of_nonneg_right (by omega) e4
    refine ⟨fun hz => ?_, fun hz => ?_, by omega, by omega, by omega, by omega⟩
    · have hm0 : m = 0 := by omega
      have : a = b * q := by rw [Int.mul_comm]; exact hz.symm
      rw [this]
      exact Int.mul_ediv_cancel_left q (by omega)
    · have hm0 : m ≠ 0 := by omega
      have h9 : a = (b - m) + b * (q - 1) := by
        rw [Int.mul_sub, Int.mul_comm b q, e5]
        omega
      rw [h9, Int.add_mul_ediv_left _ _ (by omega), Int.ediv_eq_zero_of_lt (by omega) (by omega)]
      omega
theorem fmv9 {a b r : Int} (hb : 0 < b) (h : (0 ≤ a ∧ r = a % b) ∨ (a < 0 ∧ r = -((-a) % b))) : (0 ≤ a → a % b = r ∧ 0 ≤ r ∧ r < b) ∧ (a < 0 → (r = 0 → a % b = r) ∧ (r ≠ 0 → a % b = r + b) ∧ -b < r ∧ r ≤ 0) := by
  refine ⟨fun h0 => ?_, fun h0 => ?_⟩
  · have h1 : r = a % b := by rcases h with ⟨_, h⟩ | ⟨h1, _⟩ <;> omega
    exact ⟨h1.symm, by rw [h1]; exact Int.emod_nonneg _ (by omega), by rw [h1]; exact Int.emod_lt_of_pos _ hb⟩
  · have hq : r = -((-a) % b) := by rcases h with ⟨h1, _⟩ | ⟨_, h⟩ <;> omega
    obtain ⟨d, hd⟩ : ∃ d, d = (-a) / b := ⟨_, rfl⟩
    obtain ⟨m, hm⟩ : ∃ m, m = (-a) % b := ⟨_, rfl⟩
    have e1 : b * d + m = -a := by rw [hd, hm]; exact Int.mul_ediv_add_emod (-a) b
    have e2 : 0 ≤ m := by rw [hm]; exact Int.emod_nonneg _ (by omega)
    have e3 : m < b := by rw [hm]; exact Int.emod_lt_of_pos _ hb
    rw [← hm] at hq
    refine ⟨fun hz => ?_, fun hz => ?_, by omega, by omega⟩
    · have h9 : a = 0 + b * (-d) := by rw [Int.mul_neg]; omega
      rw [h9, Int.add_mul_emod_self_left, hz]
      rfl
    · have h9 : a = (b - m) + b * (-d - 1) := by rw [Int.mul_sub, Int.mul_neg]; omega
      rw [h9, Int.add_mul_emod_self_left, Int.emod_eq_of_lt (by omega) (by omega)]
      omega

set_option maxRecDepth 100000 in
set_option maxHeartbeats 4000000 in
theorem s_J9_floorDiv_f86c9 {l : Launch} {G : GG} {w : AH} {Q : Option Value → AH → Prop} {X : String → AH → Prop} (hst : l.stackTraces = false) {a b : Int} (hQ : Q (some (.long (lI (a / b)))) w) (ha : -9223372036854775808 ≤ a ∧ a ≤ 9223372036854775807 := by omega) (hb : 0 < b ∧ b ≤ 9223372036854775807 := by omega) : Ct l G mJ9_floorDiv_f86c9 rJ9_floorDiv_f86c9 [.long (lI a), .long (lI b)] w Q X := by
  refine ct_of hst mk_J9_floorDiv_f86c9 (Nat.le_of_ble_eq_true rfl) ?_
  refine v_lload_n dJ9_floorDiv_f86c9_0 rfl ?_
  refine v_lload_n dJ9_floorDiv_f86c9_1 rfl ?_
  refine v_ldivK dJ9_floorDiv_f86c9_2 (fun q9 e_2 => ?_)
  have hf := fdv9 hb.1 e_2
  have hqr : -9223372036854775807 - 1 ≤ q9 ∧ q9 ≤ 9223372036854775807 := by
    rcases e_2 with ⟨h8, h9⟩ | ⟨h8, h9⟩
    · rw [h9]
      have := Int.ediv_nonneg (a := a) (b := b) h8 (by omega)
      have := Int.ediv_le_self (a := a) b h8
      omega
    · rcases hf.2 h8 with h7 | h7 <;> omega
  refine v_lstore dJ9_floorDiv_f86c9_3 (by decide) ?_
  refine v_lload_n dJ9_floorDiv_f86c9_5 rfl ?_
  refine v_lload_n dJ9_floorDiv_f86c9_6 rfl ?_
  refine v_lxorP dJ9_floorDiv_f86c9_7 (fun z9 hz9 hz8 => ?_)
  refine v_lconst0 dJ9_floorDiv_f86c9_8 ?_
  refine v_lif_ge 27 dJ9_floorDiv_f86c9_9 dJ9_floorDiv_f86c9_10 (fun h_9 => ?_) (fun h_9 => ?_)
  · refine v_lload dJ9_floorDiv_f86c9_27 rfl ?_
    exact v_lret dJ9_floorDiv_f86c9_29 rfl (by first | (rw [← hf.1 (show 0 ≤ a by omega)]; exact hQ) | (rw [← h1 h_18]; exact hQ) | (rw [← h2 h_18]; exact hQ))
  · refine v_lload dJ9_floorDiv_f86c9_13 rfl ?_
    refine v_lload_n dJ9_floorDiv_f86c9_15 rfl ?_
    refine v_lmul dJ9_floorDiv_f86c9_16 ?_
    obtain ⟨hqb, h1, h2⟩ : (-9223372036854775807 - 1 ≤ q9 * b ∧ q9 * b ≤ 9223372036854775807) ∧ (q9 * b = a → a / b = q9) ∧ (q9 * b ≠ a → a / b = q9 - 1) := by
      rcases hf.2 (by omega) with ⟨h3, h4, h5, h6, -, -⟩ | ⟨h3, h4⟩
      · exact ⟨by omega, h3, h4⟩
      · subst h4; refine ⟨by omega, fun _ => by omega, fun h => absurd (by omega) h⟩
    refine v_lload_n dJ9_floorDiv_f86c9_17 rfl ?_
    refine v_lif_eq 27 dJ9_floorDiv_f86c9_18 dJ9_floorDiv_f86c9_19 (fun h_18 => ?_) (fun h_18 => ?_)
    · refine v_lload dJ9_floorDiv_f86c9_27 rfl ?_
      exact v_lret dJ9_floorDiv_f86c9_29 rfl (by first | (rw [← hf.1 (show 0 ≤ a by omega)]; exact hQ) | (rw [← h1 h_18]; exact hQ) | (rw [← h2 h_18]; exact hQ))
    · refine v_lload dJ9_floorDiv_f86c9_22 rfl ?_
      refine v_lconst1 dJ9_floorDiv_f86c9_24 ?_
      refine v_lsub dJ9_floorDiv_f86c9_25 ?_
      exact v_lret dJ9_floorDiv_f86c9_26 rfl (by first | (rw [← hf.1 (show 0 ≤ a by omega)]; exact hQ) | (rw [← h1 h_18]; exact hQ) | (rw [← h2 h_18]; exact hQ))
set_option maxRecDepth 100000 in
set_option maxHeartbeats 4000000 in
theorem s_J9_floorDiv_7cf53 {l : Launch} {G : GG} {w : AH} {Q : Option Value → AH → Prop} {X : String → AH → Prop} (hst : l.stackTraces = false) {a b : Int} (hQ : Q (some (.int (iI (a / b)))) w) (ha : -2147483648 ≤ a ∧ a ≤ 2147483647 := by omega) (hb : 0 < b ∧ b ≤ 2147483647 := by omega) : Ct l G mJ9_floorDiv_7cf53 rJ9_floorDiv_7cf53 [.int (iI a), .int (iI b)] w Q X := by
  refine ct_of hst mk_J9_floorDiv_7cf53 (Nat.le_of_ble_eq_true rfl) ?_
  refine v_iload_n dJ9_floorDiv_7cf53_0 rfl ?_
  refine v_iload_n dJ9_floorDiv_7cf53_1 rfl ?_
  refine v_idivK dJ9_floorDiv_7cf53_2 (fun q9 e_2 => ?_)
  have hf := fdv9 hb.1 e_2
  have hqr : -2147483647 - 1 ≤ q9 ∧ q9 ≤ 2147483647 := by
    rcases e_2 with ⟨h8, h9⟩ | ⟨h8, h9⟩
    · rw [h9]
      have := Int.ediv_nonneg (a := a) (b := b) h8 (by omega)
      have := Int.ediv_le_self (a := a) b h8
      omega
    · rcases hf.2 h8 with h7 | h7 <;> omega
  refine v_istore_n dJ9_floorDiv_7cf53_3 (by decide) ?_
  refine v_iload_n dJ9_floorDiv_7cf53_4 rfl ?_
  refine v_iload_n dJ9_floorDiv_7cf53_5 rfl ?_
  refine v_ixorP dJ9_floorDiv_7cf53_6 (fun z9 hz9 hz8 => ?_)
  refine v_if_ge 21 dJ9_floorDiv_7cf53_7 (fun h_7 => ?_) (fun h_7 => ?_)
  · refine v_iload_n dJ9_floorDiv_7cf53_21 rfl ?_
    exact v_iret dJ9_floorDiv_7cf53_22 rfl (by first | (rw [← hf.1 (show 0 ≤ a by omega)]; exact hQ) | (rw [← h1 h_14]; exact hQ) | (rw [← h2 h_14]; exact hQ))
  · refine v_iload_n dJ9_floorDiv_7cf53_10 rfl ?_
    refine v_iload_n dJ9_floorDiv_7cf53_11 rfl ?_
    refine v_imul dJ9_floorDiv_7cf53_12 ?_
    obtain ⟨hqb, h1, h2⟩ : (-2147483647 - 1 ≤ q9 * b ∧ q9 * b ≤ 2147483647) ∧ (q9 * b = a → a / b = q9) ∧ (q9 * b ≠ a → a / b = q9 - 1) := by
      rcases hf.2 (by omega) with ⟨h3, h4, h5, h6, -, -⟩ | ⟨h3, h4⟩
      · exact ⟨by omega, h3, h4⟩
      · subst h4; refine ⟨by omega, fun _ => by omega, fun h => absurd (by omega) h⟩
    refine v_iload_n dJ9_floorDiv_7cf53_13 rfl ?_
    refine v_icmp_eq 21 dJ9_floorDiv_7cf53_14 (fun h_14 => ?_) (fun h_14 => ?_)
    · refine v_iload_n dJ9_floorDiv_7cf53_21 rfl ?_
      exact v_iret dJ9_floorDiv_7cf53_22 rfl (by first | (rw [← hf.1 (show 0 ≤ a by omega)]; exact hQ) | (rw [← h1 h_14]; exact hQ) | (rw [← h2 h_14]; exact hQ))
    · refine v_iload_n dJ9_floorDiv_7cf53_17 rfl ?_
      refine v_iconst dJ9_floorDiv_7cf53_18 ?_
      refine v_isub dJ9_floorDiv_7cf53_19 ?_
      exact v_iret dJ9_floorDiv_7cf53_20 rfl (by first | (rw [← hf.1 (show 0 ≤ a by omega)]; exact hQ) | (rw [← h1 h_14]; exact hQ) | (rw [← h2 h_14]; exact hQ))
set_option maxRecDepth 100000 in
set_option maxHeartbeats 4000000 in
theorem s_J9_floorMod_f86c9 {l : Launch} {G : GG} {w : AH} {Q : Option Value → AH → Prop} {X : String → AH → Prop} (hst : l.stackTraces = false) {a b : Int} (hQ : Q (some (.long (lI (a % b)))) w) (ha : -9223372036854775808 ≤ a ∧ a ≤ 9223372036854775807 := by omega) (hb : 0 < b ∧ b ≤ 9223372036854775807 := by omega) : Ct l G mJ9_floorMod_f86c9 rJ9_floorMod_f86c9 [.long (lI a), .long (lI b)] w Q X := by
  refine ct_of hst mk_J9_floorMod_f86c9 (Nat.le_of_ble_eq_true rfl) ?_
  refine v_lload_n dJ9_floorMod_f86c9_0 rfl ?_
  refine v_lload_n dJ9_floorMod_f86c9_1 rfl ?_
  refine v_lremK dJ9_floorMod_f86c9_2 (fun q9 e_2 => ?_)
  have hf := fmv9 hb.1 e_2
  have hqr : -9223372036854775807 ≤ q9 ∧ q9 ≤ 9223372036854775807 := by
    rcases Int.lt_or_le a 0 with h8 | h8
    · have := hf.2 h8
      omega
    · have := hf.1 h8
      omega
  refine v_lstore dJ9_floorMod_f86c9_3 (by decide) ?_
  refine v_lload_n dJ9_floorMod_f86c9_5 rfl ?_
  refine v_lload_n dJ9_floorMod_f86c9_6 rfl ?_
  refine v_lxorP dJ9_floorMod_f86c9_7 (fun z9 hz9 hz8 => ?_)
  refine v_lconst0 dJ9_floorMod_f86c9_8 ?_
  refine v_lif_ge 25 dJ9_floorMod_f86c9_9 dJ9_floorMod_f86c9_10 (fun h_9 => ?_) (fun h_9 => ?_)
  · refine v_lload dJ9_floorMod_f86c9_25 rfl ?_
    exact v_lret dJ9_floorMod_f86c9_27 rfl (by first | (rw [← (hf.1 (show 0 ≤ a by omega)).1]; exact hQ) | (rw [← (hf.2 (show a < 0 by omega)).1 h_16]; exact hQ) | (rw [← (hf.2 (show a < 0 by omega)).2.1 h_16]; exact hQ))
  · refine v_lload dJ9_floorMod_f86c9_13 rfl ?_
    refine v_lconst0 dJ9_floorMod_f86c9_15 ?_
    refine v_lif_eq 25 dJ9_floorMod_f86c9_16 dJ9_floorMod_f86c9_17 (fun h_16 => ?_) (fun h_16 => ?_)
    · refine v_lload dJ9_floorMod_f86c9_25 rfl ?_
      exact v_lret dJ9_floorMod_f86c9_27 rfl (by first | (rw [← (hf.1 (show 0 ≤ a by omega)).1]; exact hQ) | (rw [← (hf.2 (show a < 0 by omega)).1 h_16]; exact hQ) | (rw [← (hf.2 (show a < 0 by omega)).2.1 h_16]; exact hQ))
    · refine v_lload dJ9_floorMod_f86c9_20 rfl ?_
      refine v_lload_n dJ9_floorMod_f86c9_22 rfl ?_
      refine v_ladd dJ9_floorMod_f86c9_23 ?_
      exact v_lret dJ9_floorMod_f86c9_24 rfl (by first | (rw [← (hf.1 (show 0 ≤ a by omega)).1]; exact hQ) | (rw [← (hf.2 (show a < 0 by omega)).1 h_16]; exact hQ) | (rw [← (hf.2 (show a < 0 by omega)).2.1 h_16]; exact hQ))
set_option maxRecDepth 100000 in
set_option maxHeartbeats 4000000 in
theorem s_J9_floorMod_7cf53 {l : Launch} {G : GG} {w : AH} {Q : Option Value → AH → Prop} {X : String → AH → Prop} (hst : l.stackTraces = false) {a b : Int} (hQ : Q (some (.int (iI (a % b)))) w) (ha : -2147483648 ≤ a ∧ a ≤ 2147483647 := by omega) (hb : 0 < b ∧ b ≤ 2147483647 := by omega) : Ct l G mJ9_floorMod_7cf53 rJ9_floorMod_7cf53 [.int (iI a), .int (iI b)] w Q X := by
  refine ct_of hst mk_J9_floorMod_7cf53 (Nat.le_of_ble_eq_true rfl) ?_
  refine v_iload_n dJ9_floorMod_7cf53_0 rfl ?_
  refine v_iload_n dJ9_floorMod_7cf53_1 rfl ?_
  refine v_iremK dJ9_floorMod_7cf53_2 (fun q9 e_2 => ?_)
  have hf := fmv9 hb.1 e_2
  have hqr : -2147483647 ≤ q9 ∧ q9 ≤ 2147483647 := by
    rcases Int.lt_or_le a 0 with h8 | h8
    · have := hf.2 h8
      omega
    · have := hf.1 h8
      omega
  refine v_istore_n dJ9_floorMod_7cf53_3 (by decide) ?_
  refine v_iload_n dJ9_floorMod_7cf53_4 rfl ?_
  refine v_iload_n dJ9_floorMod_7cf53_5 rfl ?_
  refine v_ixorP dJ9_floorMod_7cf53_6 (fun z9 hz9 hz8 => ?_)
  refine v_if_ge 18 dJ9_floorMod_7cf53_7 (fun h_7 => ?_) (fun h_7 => ?_)
  · refine v_iload_n dJ9_floorMod_7cf53_18 rfl ?_
    exact v_iret dJ9_floorMod_7cf53_19 rfl (by first | (rw [← (hf.1 (show 0 ≤ a by omega)).1]; exact hQ) | (rw [← (hf.2 (show a < 0 by omega)).1 h_11]; exact hQ) | (rw [← (hf.2 (show a < 0 by omega)).2.1 h_11]; exact hQ))
  · refine v_iload_n dJ9_floorMod_7cf53_10 rfl ?_
    refine v_if_eq 18 dJ9_floorMod_7cf53_11 (fun h_11 => ?_) (fun h_11 => ?_)
    · refine v_iload_n dJ9_floorMod_7cf53_18 rfl ?_
      exact v_iret dJ9_floorMod_7cf53_19 rfl (by first | (rw [← (hf.1 (show 0 ≤ a by omega)).1]; exact hQ) | (rw [← (hf.2 (show a < 0 by omega)).1 h_11]; exact hQ) | (rw [← (hf.2 (show a < 0 by omega)).2.1 h_11]; exact hQ))
    · refine v_iload_n dJ9_floorMod_7cf53_14 rfl ?_
      refine v_iload_n dJ9_floorMod_7cf53_15 rfl ?_
      refine v_iadd dJ9_floorMod_7cf53_16 ?_
      exact v_iret dJ9_floorMod_7cf53_17 rfl (by first | (rw [← (hf.1 (show 0 ≤ a by omega)).1]; exact hQ) | (rw [← (hf.2 (show a < 0 by omega)).1 h_11]; exact hQ) | (rw [← (hf.2 (show a < 0 by omega)).2.1 h_11]; exact hQ))
set_option maxRecDepth 100000 in
set_option maxHeartbeats 4000000 in
theorem s_J9_min_7cf53 {l : Launch} {G : GG} {w : AH} {Q : Option Value → AH → Prop} {X : String → AH → Prop} (hst : l.stackTraces = false) {a b : Int} (hQ : ∀ r : Int, ((a ≤ b ∧ r = a) ∨ (b < a ∧ r = b)) → Q (some (.int (iI r))) w) (ha : -2147483648 ≤ a ∧ a ≤ 2147483647 := by omega) (hb : -2147483648 ≤ b ∧ b ≤ 2147483647 := by omega) : Ct l G mJ9_min_7cf53 rJ9_min_7cf53 [.int (iI a), .int (iI b)] w Q X := by
  refine ct_of hst mk_J9_min_7cf53 (Nat.le_of_ble_eq_true rfl) ?_
  refine v_iload_n dJ9_min_7cf53_0 rfl ?_
  refine v_iload_n dJ9_min_7cf53_1 rfl ?_
  refine v_icmp_gt 9 dJ9_min_7cf53_2 (fun h_2 => ?_) (fun h_2 => ?_)
  · refine v_iload_n dJ9_min_7cf53_9 rfl ?_
    exact v_iret dJ9_min_7cf53_10 rfl (by exact hQ _ (by omega))
  · refine v_iload_n dJ9_min_7cf53_5 rfl ?_
    refine v_goto 10 dJ9_min_7cf53_6 ?_
    exact v_iret dJ9_min_7cf53_10 rfl (by exact hQ _ (by omega))
set_option maxRecDepth 100000 in
set_option maxHeartbeats 4000000 in
theorem s_J9_max_7cf53 {l : Launch} {G : GG} {w : AH} {Q : Option Value → AH → Prop} {X : String → AH → Prop} (hst : l.stackTraces = false) {a b : Int} (hQ : ∀ r : Int, ((a < b ∧ r = b) ∨ (b ≤ a ∧ r = a)) → Q (some (.int (iI r))) w) (ha : -2147483648 ≤ a ∧ a ≤ 2147483647 := by omega) (hb : -2147483648 ≤ b ∧ b ≤ 2147483647 := by omega) : Ct l G mJ9_max_7cf53 rJ9_max_7cf53 [.int (iI a), .int (iI b)] w Q X := by
  refine ct_of hst mk_J9_max_7cf53 (Nat.le_of_ble_eq_true rfl) ?_
  refine v_iload_n dJ9_max_7cf53_0 rfl ?_
  refine v_iload_n dJ9_max_7cf53_1 rfl ?_
  refine v_icmp_lt 9 dJ9_max_7cf53_2 (fun h_2 => ?_) (fun h_2 => ?_)
  · refine v_iload_n dJ9_max_7cf53_9 rfl ?_
    exact v_iret dJ9_max_7cf53_10 rfl (by exact hQ _ (by omega))
  · refine v_iload_n dJ9_max_7cf53_5 rfl ?_
    refine v_goto 10 dJ9_max_7cf53_6 ?_
    exact v_iret dJ9_max_7cf53_10 rfl (by exact hQ _ (by omega))
set_option maxRecDepth 100000 in
set_option maxHeartbeats 4000000 in
theorem s_J9_min_f86c9 {l : Launch} {G : GG} {w : AH} {Q : Option Value → AH → Prop} {X : String → AH → Prop} (hst : l.stackTraces = false) {a b : Int} (hQ : ∀ r : Int, ((a ≤ b ∧ r = a) ∨ (b < a ∧ r = b)) → Q (some (.long (lI r))) w) (ha : -9223372036854775808 ≤ a ∧ a ≤ 9223372036854775807 := by omega) (hb : -9223372036854775808 ≤ b ∧ b ≤ 9223372036854775807 := by omega) : Ct l G mJ9_min_f86c9 rJ9_min_f86c9 [.long (lI a), .long (lI b)] w Q X := by
  refine ct_of hst mk_J9_min_f86c9 (Nat.le_of_ble_eq_true rfl) ?_
  refine v_lload_n dJ9_min_f86c9_0 rfl ?_
  refine v_lload_n dJ9_min_f86c9_1 rfl ?_
  refine v_lif_gt 10 dJ9_min_f86c9_2 dJ9_min_f86c9_3 (fun h_2 => ?_) (fun h_2 => ?_)
  · refine v_lload_n dJ9_min_f86c9_10 rfl ?_
    exact v_lret dJ9_min_f86c9_11 rfl (by exact hQ _ (by omega))
  · refine v_lload_n dJ9_min_f86c9_6 rfl ?_
    refine v_goto 11 dJ9_min_f86c9_7 ?_
    exact v_lret dJ9_min_f86c9_11 rfl (by exact hQ _ (by omega))
set_option maxRecDepth 100000 in
set_option maxHeartbeats 4000000 in
theorem s_J9_abs_0f7a4 {l : Launch} {G : GG} {w : AH} {Q : Option Value → AH → Prop} {X : String → AH → Prop} (hst : l.stackTraces = false) {a : Int} (hQ : ∀ r : Int, ((a < 0 ∧ r = -a) ∨ (0 ≤ a ∧ r = a)) → Q (some (.int (iI r))) w) (ha : -2147483647 ≤ a ∧ a ≤ 2147483647 := by omega) : Ct l G mJ9_abs_0f7a4 rJ9_abs_0f7a4 [.int (iI a)] w Q X := by
  refine ct_of hst mk_J9_abs_0f7a4 (Nat.le_of_ble_eq_true rfl) ?_
  refine v_iload_n dJ9_abs_0f7a4_0 rfl ?_
  refine v_if_ge 9 dJ9_abs_0f7a4_1 (fun h_1 => ?_) (fun h_1 => ?_)
  · refine v_iload_n dJ9_abs_0f7a4_9 rfl ?_
    exact v_iret dJ9_abs_0f7a4_10 rfl (by exact hQ _ (by omega))
  · refine v_iload_n dJ9_abs_0f7a4_4 rfl ?_
    refine v_ineg dJ9_abs_0f7a4_5 ?_
    refine v_goto 10 dJ9_abs_0f7a4_6 ?_
    exact v_iret dJ9_abs_0f7a4_10 rfl (by exact hQ _ (by omega))
set_option maxRecDepth 100000 in
set_option maxHeartbeats 4000000 in
theorem s_J6_compare_7cf53 {l : Launch} {G : GG} {w : AH} {Q : Option Value → AH → Prop} {X : String → AH → Prop} (hst : l.stackTraces = false) {a b : Int} (hQ : ∀ r : Int, ((a < b ∧ r = -1) ∨ (a = b ∧ r = 0) ∨ (b < a ∧ r = 1)) → Q (some (.int (iI r))) w) (ha : -2147483648 ≤ a ∧ a ≤ 2147483647 := by omega) (hb : -2147483648 ≤ b ∧ b ≤ 2147483647 := by omega) : Ct l G mJ6_compare_7cf53 rJ6_compare_7cf53 [.int (iI a), .int (iI b)] w Q X := by
  refine ct_of hst mk_J6_compare_7cf53 (Nat.le_of_ble_eq_true rfl) ?_
  refine v_iload_n dJ6_compare_7cf53_0 rfl ?_
  refine v_iload_n dJ6_compare_7cf53_1 rfl ?_
  refine v_icmp_ge 9 dJ6_compare_7cf53_2 (fun h_2 => ?_) (fun h_2 => ?_)
  · refine v_iload_n dJ6_compare_7cf53_9 rfl ?_
    refine v_iload_n dJ6_compare_7cf53_10 rfl ?_
    refine v_icmp_ne 18 dJ6_compare_7cf53_11 (fun h_11 => ?_) (fun h_11 => ?_)
    · refine v_iconst dJ6_compare_7cf53_18 ?_
      exact v_iret dJ6_compare_7cf53_19 rfl (by exact hQ _ (by omega))
    · refine v_iconst dJ6_compare_7cf53_14 ?_
      refine v_goto 19 dJ6_compare_7cf53_15 ?_
      exact v_iret dJ6_compare_7cf53_19 rfl (by exact hQ _ (by omega))
  · refine v_iconst dJ6_compare_7cf53_5 ?_
    refine v_goto 19 dJ6_compare_7cf53_6 ?_
    exact v_iret dJ6_compare_7cf53_19 rfl (by exact hQ _ (by omega))
set_option maxRecDepth 100000 in
set_option maxHeartbeats 4000000 in
theorem s_J13_compare_74951 {l : Launch} {G : GG} {w : AH} {Q : Option Value → AH → Prop} {X : String → AH → Prop} (hst : l.stackTraces = false) {a b : Int} (hQ : ∀ r : Int, ((a < b ∧ r = -1) ∨ (a = b ∧ r = 0) ∨ (b < a ∧ r = 1)) → Q (some (.int (iI r))) w) (ha : -9223372036854775808 ≤ a ∧ a ≤ 9223372036854775807 := by omega) (hb : -9223372036854775808 ≤ b ∧ b ≤ 9223372036854775807 := by omega) : Ct l G mJ13_compare_74951 rJ13_compare_74951 [.long (lI a), .long (lI b)] w Q X := by
  refine ct_of hst mk_J13_compare_74951 (Nat.le_of_ble_eq_true rfl) ?_
  refine v_lload_n dJ13_compare_74951_0 rfl ?_
  refine v_lload_n dJ13_compare_74951_1 rfl ?_
  refine v_lif_ge 10 dJ13_compare_74951_2 dJ13_compare_74951_3 (fun h_2 => ?_) (fun h_2 => ?_)
  · refine v_lload_n dJ13_compare_74951_10 rfl ?_
    refine v_lload_n dJ13_compare_74951_11 rfl ?_
    refine v_lif_ne 20 dJ13_compare_74951_12 dJ13_compare_74951_13 (fun h_12 => ?_) (fun h_12 => ?_)
    · refine v_iconst dJ13_compare_74951_20 ?_
      exact v_iret dJ13_compare_74951_21 rfl (by exact hQ _ (by omega))
    · refine v_iconst dJ13_compare_74951_16 ?_
      refine v_goto 21 dJ13_compare_74951_17 ?_
      exact v_iret dJ13_compare_74951_21 rfl (by exact hQ _ (by omega))
  · refine v_iconst dJ13_compare_74951_6 ?_
    refine v_goto 21 dJ13_compare_74951_7 ?_
    exact v_iret dJ13_compare_74951_21 rfl (by exact hQ _ (by omega))
