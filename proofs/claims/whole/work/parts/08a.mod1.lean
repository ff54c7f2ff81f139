theorem fdiv_n {a b : Int} (hb : 0 < b) (ha : a < 0) : (0 < (-a) % b → a / b = -((-a) / b) - 1) ∧ ((-a) % b = 0 → a / b = -((-a) / b)) ∧ (0 < (-a) % b → a % b = b - (-a) % b) ∧ ((-a) % b = 0 → a % b = 0) := by
  have h1 := Int.mul_ediv_add_emod (-a) b
  have h2 := Int.emod_nonneg (-a) (show b ≠ 0 by omega)
  have h3 := Int.emod_lt_of_pos (-a) hb
  obtain ⟨q, hq⟩ : ∃ q, q = (-a) / b := ⟨_, rfl⟩
  obtain ⟨r, hr⟩ : ∃ r, r = (-a) % b := ⟨_, rfl⟩
  rw [← hq, ← hr] at h1
  rw [← hr] at h2 h3
  rw [← hq, ← hr]
  have e0 : r = 0 → a = 0 + b * (-q) := by
    intro h
    rw [Int.mul_neg]
    omega
  have e1 : a = (b - r) + b * (-q - 1) := by
    rw [Int.mul_sub, Int.mul_neg, Int.mul_one]
    omega
  refine ⟨fun h => ?_, fun h => ?_, fun h => ?_, fun h => ?_⟩
  · rw [e1, Int.add_mul_ediv_left _ _ (by omega), Int.ediv_eq_zero_of_lt (by omega) (by omega)]
    omega
  · rw [e0 h, Int.add_mul_ediv_left _ _ (by omega), Int.zero_ediv]
    omega
  · rw [e1, Int.add_mul_emod_self_left, Int.emod_eq_of_lt (by omega) (by omega)]
  · rw [e0 h, Int.add_mul_emod_self_left, Int.zero_emod]
theorem fl_eq {a b r q : Int} (hb : 0 < b) (hr : (0 ≤ a ∧ r = a % b) ∨ (a < 0 ∧ r = -((-a) % b))) (hq : (0 ≤ a ∧ q = a / b) ∨ (a < 0 ∧ q = -((-a) / b))) : (r < 0 → q - 1 = a / b) ∧ (0 ≤ r → q = a / b) := by
  rcases Int.lt_or_le a 0 with h | h
  · have f := fdiv_n hb h
    have h2 := Int.emod_nonneg (-a) (show b ≠ 0 by omega)
    omega
  · have h2 := Int.emod_nonneg a (show b ≠ 0 by omega)
    omega
theorem rs_eq {a b r s : Int} (hb : 0 < b) (hr : (0 ≤ a ∧ r = a % b) ∨ (a < 0 ∧ r = -((-a) % b))) : (r + b) % b = a % b ∧ 0 < r + b ∧ r + b < 2 * b := by
  have h1 : r = a % b ∨ r = a % b - b := by
    rcases Int.lt_or_le a 0 with h | h
    · have f := fdiv_n hb h
      have h2 := Int.emod_nonneg (-a) (show b ≠ 0 by omega)
      omega
    · omega
  have h3 := Int.emod_nonneg a (show b ≠ 0 by omega)
  have h4 := Int.emod_lt_of_pos a hb
  have h5 : -b < r := by
    rcases Int.lt_or_le a 0 with h | h
    · have h6 := Int.emod_lt_of_pos (-a) hb
      omega
    · omega
  refine ⟨?_, by omega, by omega⟩
  rcases h1 with h1 | h1
  · rw [h1, Int.add_emod_right, Int.emod_emod]
  · rw [h1, show a % b - b + b = a % b by omega, Int.emod_emod]
theorem dayOf_1 (y m d : Int) (hm : 1 ≤ m ∧ m ≤ 2) : 146097 * ((y - 1) / 400) + 365 * (y - 1 - 400 * ((y - 1) / 400)) + (y - 1 - 400 * ((y - 1) / 400)) / 4 - (y - 1 - 400 * ((y - 1) / 400)) / 100 + ((153 * (m + 9) + 2) / 5 + d - 1) - 719468 = ed y m d := by
  have h2 := doy_c y m d
  unfold ed dby
  rcases (show m = 1 ∨ m = 2 by omega) with rfl | rfl <;> omega
theorem dayOf_2 (y m d : Int) (hm : 3 ≤ m ∧ m ≤ 12) : 146097 * (y / 400) + 365 * (y - 400 * (y / 400)) + (y - 400 * (y / 400)) / 4 - (y - 400 * (y / 400)) / 100 + ((153 * (m - 3) + 2) / 5 + d - 1) - 719468 = ed y m d := by
  have h2 := doy_c y m d
  have h3 := dby_lp y
  have h4 : dby (y + 1) = 365 * (y + 1) + (y + 1 + 3) / 4 - (y + 1 + 99) / 100 + (y + 1 + 399) / 400 := rfl
  unfold ed
  have h5 : (153 * (m - 3) + 2) / 5 + d - 1 + 61 = (367 * m - 362) / 12 + d - 1 := by
    rcases c12 (k := m) (by omega) with rfl | rfl | rfl | rfl | rfl | rfl | rfl | rfl | rfl | rfl | rfl | rfl <;> omega
  omega
set_option maxRecDepth 100000 in
set_option maxHeartbeats 4000000 in
theorem s_X7_in {l : Launch} {G : GG} {w : AH} {Q : Option Value → AH → Prop} {X : String → AH → Prop} (hst : l.stackTraces = false) {v a b : Int} (hQ : ∀ r : Int, (((a ≤ v ∧ v ≤ b) ∧ r = 1) ∨ (¬ (a ≤ v ∧ v ≤ b) ∧ r = 0)) → Q (some (.int (iI r))) w) (hv : -9223372036854775808 ≤ v ∧ v ≤ 9223372036854775807 := by omega) (ha : -9223372036854775808 ≤ a ∧ a ≤ 9223372036854775807 := by omega) (hb : -9223372036854775808 ≤ b ∧ b ≤ 9223372036854775807 := by omega) : Ct l G mX7_in rX7_in [.long (lI v), .long (lI a), .long (lI b)] w Q X := by
  refine ct_of hst mk_X7_in (Nat.le_of_ble_eq_true rfl) ?_
  refine v_lload_n dX7_in_0 rfl ?_
  refine v_lload_n dX7_in_1 rfl ?_
  refine v_lif_lt 17 dX7_in_2 dX7_in_3 (fun h_2 => ?_) (fun h_2 => ?_)
  · refine v_iconst dX7_in_17 ?_
    exact v_zret dX7_in_18 rfl (by exact hQ _ (by omega)) (by first | exact Or.inl rfl | exact Or.inr rfl | omega)
  · refine v_lload_n dX7_in_6 rfl ?_
    refine v_lload dX7_in_7 rfl ?_
    refine v_lif_gt 17 dX7_in_9 dX7_in_10 (fun h_9 => ?_) (fun h_9 => ?_)
    · refine v_iconst dX7_in_17 ?_
      exact v_zret dX7_in_18 rfl (by exact hQ _ (by omega)) (by first | exact Or.inl rfl | exact Or.inr rfl | omega)
    · refine v_iconst dX7_in_13 ?_
      refine v_goto 18 dX7_in_14 ?_
      exact v_zret dX7_in_18 rfl (by exact hQ _ (by omega)) (by first | exact Or.inl rfl | exact Or.inr rfl | omega)
set_option maxRecDepth 100000 in
set_option maxHeartbeats 4000000 in
theorem s_X7_floor {l : Launch} {G : GG} {w : AH} {Q : Option Value → AH → Prop} {X : String → AH → Prop} (hst : l.stackTraces = false) {a b : Int} (hQ : Q (some (.long (lI (a / b)))) w) (ha : -9223372036854775808 ≤ a ∧ a ≤ 9223372036854775807 := by omega) (hb : 0 < b ∧ b ≤ 1000000000000000000 := by omega) : Ct l G mX7_floor rX7_floor [.long (lI a), .long (lI b)] w Q X := by
  refine ct_of hst mk_X7_floor (Nat.le_of_ble_eq_true rfl) ?_
  refine v_lload_n dX7_floor_0 rfl ?_
  refine v_lload_n dX7_floor_1 rfl ?_
  refine v_lremK dX7_floor_2 (fun r_2 e_2 => ?_)
  have hrr := rs_eq (s := 0) hb.1 e_2
  refine v_lconst0 dX7_floor_3 ?_
  refine v_lif_ge 16 dX7_floor_4 dX7_floor_5 (fun h_4 => ?_) (fun h_4 => ?_)
  · refine v_lload_n dX7_floor_16 rfl ?_
    refine v_lload_n dX7_floor_17 rfl ?_
    refine v_ldivK dX7_floor_18 (fun r_18 e_18 => ?_)
    exact v_lret dX7_floor_19 rfl (by first | exact ql hQ ((fl_eq hb.1 e_2 e_10).1 (by omega)) | exact ql hQ ((fl_eq hb.1 e_2 e_18).2 (by omega)))
  · refine v_lload_n dX7_floor_8 rfl ?_
    refine v_lload_n dX7_floor_9 rfl ?_
    refine v_ldivK dX7_floor_10 (fun r_10 e_10 => ?_)
    refine v_lconst1 dX7_floor_11 ?_
    refine v_lsub dX7_floor_12 ?_
    refine v_goto 19 dX7_floor_13 ?_
    exact v_lret dX7_floor_19 rfl (by first | exact ql hQ ((fl_eq hb.1 e_2 e_10).1 (by omega)) | exact ql hQ ((fl_eq hb.1 e_2 e_18).2 (by omega)))
set_option maxRecDepth 100000 in
set_option maxHeartbeats 4000000 in
theorem s_X7_rest {l : Launch} {G : GG} {w : AH} {Q : Option Value → AH → Prop} {X : String → AH → Prop} (hst : l.stackTraces = false) {a b : Int} (hQ : Q (some (.long (lI (a % b)))) w) (ha : -9223372036854775808 ≤ a ∧ a ≤ 9223372036854775807 := by omega) (hb : 0 < b ∧ b ≤ 1000000000000000000 := by omega) : Ct l G mX7_rest rX7_rest [.long (lI a), .long (lI b)] w Q X := by
  refine ct_of hst mk_X7_rest (Nat.le_of_ble_eq_true rfl) ?_
  refine v_lload_n dX7_rest_0 rfl ?_
  refine v_lload_n dX7_rest_1 rfl ?_
  refine v_lremK dX7_rest_2 (fun r_2 e_2 => ?_)
  have hrr := rs_eq (s := 0) hb.1 e_2
  refine v_lload_n dX7_rest_3 rfl ?_
  refine v_ladd dX7_rest_4 ?_
  refine v_lload_n dX7_rest_5 rfl ?_
  refine v_lremP dX7_rest_6 ?_
  exact v_lret dX7_rest_7 rfl (by exact ql hQ (rs_eq (s := 0) hb.1 e_2).1)
set_option maxRecDepth 100000 in
set_option maxHeartbeats 4000000 in
theorem s_X7_leap {l : Launch} {G : GG} {w : AH} {Q : Option Value → AH → Prop} {X : String → AH → Prop} (hst : l.stackTraces = false) {y : Int} (hQ : Q (some (.int (iI (lp y)))) w) (hy : -1000000000000 ≤ y ∧ y ≤ 1000000000000 := by omega) : Ct l G mX7_leap rX7_leap [.long (lI y)] w Q X := by
  have hlp := lp_c y
  refine ct_of hst mk_X7_leap (Nat.le_of_ble_eq_true rfl) ?_
  refine v_lload_n dX7_leap_0 rfl ?_
  refine v_ldc2 (4) dX7_leap_1 kl_X7_45 ?_
  refine v_S2 (rm' := rX7_rest) dX7_leap_4 km_X7_47 ks_X7_rest kz_X7 mk_X7_rest rfl ⟨Nat.le_of_ble_eq_true rfl, Nat.le_of_ble_eq_true rfl⟩ ⟨Nat.le_of_ble_eq_true rfl, Nat.le_of_ble_eq_true rfl⟩ (Nat.le_of_ble_eq_true rfl) ?_
  refine s_X7_rest hst ?_
  refine v_lconst0 dX7_leap_7 ?_
  refine v_lif_ne 24 dX7_leap_8 dX7_leap_9 (fun h_8 => ?_) (fun h_8 => ?_)
  · refine v_lload_n dX7_leap_24 rfl ?_
    refine v_ldc2 (400) dX7_leap_25 kl_X7_53 ?_
    refine v_S2 (rm' := rX7_rest) dX7_leap_28 km_X7_47 ks_X7_rest kz_X7 mk_X7_rest rfl ⟨Nat.le_of_ble_eq_true rfl, Nat.le_of_ble_eq_true rfl⟩ ⟨Nat.le_of_ble_eq_true rfl, Nat.le_of_ble_eq_true rfl⟩ (Nat.le_of_ble_eq_true rfl) ?_
    refine s_X7_rest hst ?_
    refine v_lconst0 dX7_leap_31 ?_
    refine v_lif_ne 40 dX7_leap_32 dX7_leap_33 (fun h_32 => ?_) (fun h_32 => ?_)
    · refine v_iconst dX7_leap_40 ?_
      exact v_zret dX7_leap_41 rfl (by exact qi hQ (by omega)) (by first | exact Or.inl rfl | exact Or.inr rfl | omega)
    · refine v_iconst dX7_leap_36 ?_
      refine v_goto 41 dX7_leap_37 ?_
      exact v_zret dX7_leap_41 rfl (by exact qi hQ (by omega)) (by first | exact Or.inl rfl | exact Or.inr rfl | omega)
  · refine v_lload_n dX7_leap_12 rfl ?_
    refine v_ldc2 (100) dX7_leap_13 kl_X7_51 ?_
    refine v_S2 (rm' := rX7_rest) dX7_leap_16 km_X7_47 ks_X7_rest kz_X7 mk_X7_rest rfl ⟨Nat.le_of_ble_eq_true rfl, Nat.le_of_ble_eq_true rfl⟩ ⟨Nat.le_of_ble_eq_true rfl, Nat.le_of_ble_eq_true rfl⟩ (Nat.le_of_ble_eq_true rfl) ?_
    refine s_X7_rest hst ?_
    refine v_lconst0 dX7_leap_19 ?_
    refine v_lif_ne 36 dX7_leap_20 dX7_leap_21 (fun h_20 => ?_) (fun h_20 => ?_)
    · refine v_iconst dX7_leap_36 ?_
      refine v_goto 41 dX7_leap_37 ?_
      exact v_zret dX7_leap_41 rfl (by exact qi hQ (by omega)) (by first | exact Or.inl rfl | exact Or.inr rfl | omega)
    · refine v_lload_n dX7_leap_24 rfl ?_
      refine v_ldc2 (400) dX7_leap_25 kl_X7_53 ?_
      refine v_S2 (rm' := rX7_rest) dX7_leap_28 km_X7_47 ks_X7_rest kz_X7 mk_X7_rest rfl ⟨Nat.le_of_ble_eq_true rfl, Nat.le_of_ble_eq_true rfl⟩ ⟨Nat.le_of_ble_eq_true rfl, Nat.le_of_ble_eq_true rfl⟩ (Nat.le_of_ble_eq_true rfl) ?_
      refine s_X7_rest hst ?_
      refine v_lconst0 dX7_leap_31 ?_
      refine v_lif_ne 40 dX7_leap_32 dX7_leap_33 (fun h_32 => ?_) (fun h_32 => ?_)
      · refine v_iconst dX7_leap_40 ?_
        exact v_zret dX7_leap_41 rfl (by exact qi hQ (by omega)) (by first | exact Or.inl rfl | exact Or.inr rfl | omega)
      · refine v_iconst dX7_leap_36 ?_
        refine v_goto 41 dX7_leap_37 ?_
        exact v_zret dX7_leap_41 rfl (by exact qi hQ (by omega)) (by first | exact Or.inl rfl | exact Or.inr rfl | omega)
set_option maxRecDepth 100000 in
set_option maxHeartbeats 4000000 in
theorem s_X7_length {l : Launch} {G : GG} {w : AH} {Q : Option Value → AH → Prop} {X : String → AH → Prop} (hst : l.stackTraces = false) {y m : Int} (hQ : Q (some (.int (iI (lenM y m)))) w) (hy : -1000000000000 ≤ y ∧ y ≤ 1000000000000 := by omega) (hm : -2147483648 ≤ m ∧ m ≤ 2147483647 := by omega) : Ct l G mX7_length rX7_length [.long (lI y), .int (iI m)] w Q X := by
  have hlp := lp_c y
  have hlen := lenM_c y m
  refine ct_of hst mk_X7_length (Nat.le_of_ble_eq_true rfl) ?_
  refine v_iload_n dX7_length_0 rfl ?_
  refine v_iconst dX7_length_1 ?_
  refine v_icmp_ne 22 dX7_length_2 (fun h_2 => ?_) (fun h_2 => ?_)
  · refine v_iload_n dX7_length_22 rfl ?_
    refine v_iconst dX7_length_23 ?_
    refine v_icmp_eq 45 dX7_length_24 (fun h_24 => ?_) (fun h_24 => ?_)
    · refine v_bipush dX7_length_45 ?_
      refine v_goto 52 dX7_length_47 ?_
      exact v_iret dX7_length_52 rfl (by exact qi hQ (by omega))
    · refine v_iload_n dX7_length_27 rfl ?_
      refine v_bipush dX7_length_28 ?_
      refine v_icmp_eq 45 dX7_length_30 (fun h_30 => ?_) (fun h_30 => ?_)
      · refine v_bipush dX7_length_45 ?_
        refine v_goto 52 dX7_length_47 ?_
        exact v_iret dX7_length_52 rfl (by exact qi hQ (by omega))
      · refine v_iload_n dX7_length_33 rfl ?_
        refine v_bipush dX7_length_34 ?_
        refine v_icmp_eq 45 dX7_length_36 (fun h_36 => ?_) (fun h_36 => ?_)
        · refine v_bipush dX7_length_45 ?_
          refine v_goto 52 dX7_length_47 ?_
          exact v_iret dX7_length_52 rfl (by exact qi hQ (by omega))
        · refine v_iload_n dX7_length_39 rfl ?_
          refine v_bipush dX7_length_40 ?_
          refine v_icmp_ne 50 dX7_length_42 (fun h_42 => ?_) (fun h_42 => ?_)
          · refine v_bipush dX7_length_50 ?_
            exact v_iret dX7_length_52 rfl (by exact qi hQ (by omega))
          · refine v_bipush dX7_length_45 ?_
            refine v_goto 52 dX7_length_47 ?_
            exact v_iret dX7_length_52 rfl (by exact qi hQ (by omega))
  · refine v_lload_n dX7_length_5 rfl ?_
    refine v_S1 (rm' := rX7_leap) dX7_length_6 km_X7_55 ks_X7_leap kz_X7 mk_X7_leap rfl ⟨Nat.le_of_ble_eq_true rfl, Nat.le_of_ble_eq_true rfl⟩ ⟨Nat.le_of_ble_eq_true rfl, Nat.le_of_ble_eq_true rfl⟩ (Nat.le_of_ble_eq_true rfl) ?_
    refine s_X7_leap hst ?_
    refine v_if_eq 17 dX7_length_9 (fun h_9 => ?_) (fun h_9 => ?_)
    · refine v_bipush dX7_length_17 ?_
      refine v_goto 52 dX7_length_19 ?_
      exact v_iret dX7_length_52 rfl (by exact qi hQ (by omega))
    · refine v_bipush dX7_length_12 ?_
      refine v_goto 52 dX7_length_14 ?_
      exact v_iret dX7_length_52 rfl (by exact qi hQ (by omega))
set_option maxRecDepth 100000 in
set_option maxHeartbeats 4000000 in
theorem s_X7_dayOf {l : Launch} {G : GG} {w : AH} {Q : Option Value → AH → Prop} {X : String → AH → Prop} (hst : l.stackTraces = false) {y m d : Int} (hQ : Q (some (.long (lI (ed y m d)))) w) (hy : -1000000000 ≤ y ∧ y ≤ 1000000000 := by omega) (hm : 1 ≤ m ∧ m ≤ 12 := by omega) (hd : -100000 ≤ d ∧ d ≤ 100000 := by omega) : Ct l G mX7_dayOf rX7_dayOf [.long (lI y), .int (iI m), .int (iI d)] w Q X := by
  refine ct_of hst mk_X7_dayOf (Nat.le_of_ble_eq_true rfl) ?_
  refine v_iload_n dX7_dayOf_0 rfl ?_
  refine v_iconst dX7_dayOf_1 ?_
  refine v_icmp_ge 11 dX7_dayOf_2 (fun h_2 => ?_) (fun h_2 => ?_)
  · refine v_lload_n dX7_dayOf_11 rfl ?_
    refine v_lstore dX7_dayOf_12 (by decide) ?_
    refine v_lload dX7_dayOf_14 rfl ?_
    refine v_ldc2 (400) dX7_dayOf_16 kl_X7_53 ?_
    refine v_S2 (rm' := rX7_floor) dX7_dayOf_19 km_X7_59 ks_X7_floor kz_X7 mk_X7_floor rfl ⟨Nat.le_of_ble_eq_true rfl, Nat.le_of_ble_eq_true rfl⟩ ⟨Nat.le_of_ble_eq_true rfl, Nat.le_of_ble_eq_true rfl⟩ (Nat.le_of_ble_eq_true rfl) ?_
    refine s_X7_floor hst ?_
    refine v_lstore dX7_dayOf_22 (by decide) ?_
    refine v_lload dX7_dayOf_24 rfl ?_
    refine v_ldc2 (400) dX7_dayOf_26 kl_X7_53 ?_
    refine v_lload dX7_dayOf_29 rfl ?_
    refine v_lmul dX7_dayOf_31 ?_
    refine v_lsub dX7_dayOf_32 ?_
    refine v_lstore dX7_dayOf_33 (by decide) ?_
    refine v_ldc2 (153) dX7_dayOf_35 kl_X7_62 ?_
    refine v_iload_n dX7_dayOf_38 rfl ?_
    refine v_iconst dX7_dayOf_39 ?_
    refine v_icmp_ge 50 dX7_dayOf_40 (fun h_40 => ?_) (fun h_40 => ?_)
    · refine v_iload_n dX7_dayOf_50 rfl ?_
      refine v_iconst dX7_dayOf_51 ?_
      refine v_isub dX7_dayOf_52 ?_
      refine v_i2l dX7_dayOf_53 ?_
      refine v_lmul dX7_dayOf_54 ?_
      refine v_ldc2 (2) dX7_dayOf_55 kl_X7_64 ?_
      refine v_ladd dX7_dayOf_58 ?_
      refine v_ldc2 (5) dX7_dayOf_59 kl_X7_66 ?_
      refine v_ldivP dX7_dayOf_62 ?_
      refine v_iload_n dX7_dayOf_63 rfl ?_
      refine v_i2l dX7_dayOf_64 ?_
      refine v_ladd dX7_dayOf_65 ?_
      refine v_lconst1 dX7_dayOf_66 ?_
      refine v_lsub dX7_dayOf_67 ?_
      refine v_lstore dX7_dayOf_68 (by decide) ?_
      refine v_ldc2 (146097) dX7_dayOf_70 kl_X7_68 ?_
      refine v_lload dX7_dayOf_73 rfl ?_
      refine v_lmul dX7_dayOf_75 ?_
      refine v_ldc2 (365) dX7_dayOf_76 kl_X7_70 ?_
      refine v_lload dX7_dayOf_79 rfl ?_
      refine v_lmul dX7_dayOf_81 ?_
      refine v_ladd dX7_dayOf_82 ?_
      refine v_lload dX7_dayOf_83 rfl ?_
      refine v_ldc2 (4) dX7_dayOf_85 kl_X7_45 ?_
      refine v_ldivP dX7_dayOf_88 ?_
      refine v_ladd dX7_dayOf_89 ?_
      refine v_lload dX7_dayOf_90 rfl ?_
      refine v_ldc2 (100) dX7_dayOf_92 kl_X7_51 ?_
      refine v_ldivP dX7_dayOf_95 ?_
      refine v_lsub dX7_dayOf_96 ?_
      refine v_lload dX7_dayOf_97 rfl ?_
      refine v_ladd dX7_dayOf_99 ?_
      refine v_ldc2 (719468) dX7_dayOf_100 kl_X7_72 ?_
      refine v_lsub dX7_dayOf_103 ?_
      exact v_lret dX7_dayOf_104 rfl (by first | (exfalso; omega) | exact ql hQ (dayOf_1 y m d (by omega)) | exact ql hQ (dayOf_2 y m d (by omega)))
    · refine v_iload_n dX7_dayOf_43 rfl ?_
      refine v_bipush dX7_dayOf_44 ?_
      refine v_iadd dX7_dayOf_46 ?_
      refine v_goto 53 dX7_dayOf_47 ?_
      refine v_i2l dX7_dayOf_53 ?_
      refine v_lmul dX7_dayOf_54 ?_
      refine v_ldc2 (2) dX7_dayOf_55 kl_X7_64 ?_
      refine v_ladd dX7_dayOf_58 ?_
      refine v_ldc2 (5) dX7_dayOf_59 kl_X7_66 ?_
      refine v_ldivP dX7_dayOf_62 ?_
      refine v_iload_n dX7_dayOf_63 rfl ?_
      refine v_i2l dX7_dayOf_64 ?_
      refine v_ladd dX7_dayOf_65 ?_
      refine v_lconst1 dX7_dayOf_66 ?_
      refine v_lsub dX7_dayOf_67 ?_
      refine v_lstore dX7_dayOf_68 (by decide) ?_
      refine v_ldc2 (146097) dX7_dayOf_70 kl_X7_68 ?_
      refine v_lload dX7_dayOf_73 rfl ?_
      refine v_lmul dX7_dayOf_75 ?_
      refine v_ldc2 (365) dX7_dayOf_76 kl_X7_70 ?_
      refine v_lload dX7_dayOf_79 rfl ?_
      refine v_lmul dX7_dayOf_81 ?_
      refine v_ladd dX7_dayOf_82 ?_
      refine v_lload dX7_dayOf_83 rfl ?_
      refine v_ldc2 (4) dX7_dayOf_85 kl_X7_45 ?_
      refine v_ldivP dX7_dayOf_88 ?_
      refine v_ladd dX7_dayOf_89 ?_
      refine v_lload dX7_dayOf_90 rfl ?_
      refine v_ldc2 (100) dX7_dayOf_92 kl_X7_51 ?_
      refine v_ldivP dX7_dayOf_95 ?_
      refine v_lsub dX7_dayOf_96 ?_
      refine v_lload dX7_dayOf_97 rfl ?_
      refine v_ladd dX7_dayOf_99 ?_
      refine v_ldc2 (719468) dX7_dayOf_100 kl_X7_72 ?_
      refine v_lsub dX7_dayOf_103 ?_
      exact v_lret dX7_dayOf_104 rfl (by first | (exfalso; omega) | exact ql hQ (dayOf_1 y m d (by omega)) | exact ql hQ (dayOf_2 y m d (by omega)))
  · refine v_lload_n dX7_dayOf_5 rfl ?_
    refine v_lconst1 dX7_dayOf_6 ?_
    refine v_lsub dX7_dayOf_7 ?_
    refine v_goto 12 dX7_dayOf_8 ?_
    refine v_lstore dX7_dayOf_12 (by decide) ?_
    refine v_lload dX7_dayOf_14 rfl ?_
    refine v_ldc2 (400) dX7_dayOf_16 kl_X7_53 ?_
    refine v_S2 (rm' := rX7_floor) dX7_dayOf_19 km_X7_59 ks_X7_floor kz_X7 mk_X7_floor rfl ⟨Nat.le_of_ble_eq_true rfl, Nat.le_of_ble_eq_true rfl⟩ ⟨Nat.le_of_ble_eq_true rfl, Nat.le_of_ble_eq_true rfl⟩ (Nat.le_of_ble_eq_true rfl) ?_
    refine s_X7_floor hst ?_
    refine v_lstore dX7_dayOf_22 (by decide) ?_
    refine v_lload dX7_dayOf_24 rfl ?_
    refine v_ldc2 (400) dX7_dayOf_26 kl_X7_53 ?_
    refine v_lload dX7_dayOf_29 rfl ?_
    refine v_lmul dX7_dayOf_31 ?_
    refine v_lsub dX7_dayOf_32 ?_
    refine v_lstore dX7_dayOf_33 (by decide) ?_
    refine v_ldc2 (153) dX7_dayOf_35 kl_X7_62 ?_
    refine v_iload_n dX7_dayOf_38 rfl ?_
    refine v_iconst dX7_dayOf_39 ?_
    refine v_icmp_ge 50 dX7_dayOf_40 (fun h_40 => ?_) (fun h_40 => ?_)
    · refine v_iload_n dX7_dayOf_50 rfl ?_
      refine v_iconst dX7_dayOf_51 ?_
      refine v_isub dX7_dayOf_52 ?_
      refine v_i2l dX7_dayOf_53 ?_
      refine v_lmul dX7_dayOf_54 ?_
      refine v_ldc2 (2) dX7_dayOf_55 kl_X7_64 ?_
      refine v_ladd dX7_dayOf_58 ?_
      refine v_ldc2 (5) dX7_dayOf_59 kl_X7_66 ?_
      refine v_ldivP dX7_dayOf_62 ?_
      refine v_iload_n dX7_dayOf_63 rfl ?_
      refine v_i2l dX7_dayOf_64 ?_
      refine v_ladd dX7_dayOf_65 ?_
      refine v_lconst1 dX7_dayOf_66 ?_
      refine v_lsub dX7_dayOf_67 ?_
      refine v_lstore dX7_dayOf_68 (by decide) ?_
      refine v_ldc2 (146097) dX7_dayOf_70 kl_X7_68 ?_
      refine v_lload dX7_dayOf_73 rfl ?_
      refine v_lmul dX7_dayOf_75 ?_
      refine v_ldc2 (365) dX7_dayOf_76 kl_X7_70 ?_
      refine v_lload dX7_dayOf_79 rfl ?_
      refine v_lmul dX7_dayOf_81 ?_
      refine v_ladd dX7_dayOf_82 ?_
      refine v_lload dX7_dayOf_83 rfl ?_
      refine v_ldc2 (4) dX7_dayOf_85 kl_X7_45 ?_
      refine v_ldivP dX7_dayOf_88 ?_
      refine v_ladd dX7_dayOf_89 ?_
      refine v_lload dX7_dayOf_90 rfl ?_
      refine v_ldc2 (100) dX7_dayOf_92 kl_X7_51 ?_
      refine v_ldivP dX7_dayOf_95 ?_
      refine v_lsub dX7_dayOf_96 ?_
      refine v_lload dX7_dayOf_97 rfl ?_
      refine v_ladd dX7_dayOf_99 ?_
      refine v_ldc2 (719468) dX7_dayOf_100 kl_X7_72 ?_
      refine v_lsub dX7_dayOf_103 ?_
      exact v_lret dX7_dayOf_104 rfl (by first | (exfalso; omega) | exact ql hQ (dayOf_1 y m d (by omega)) | exact ql hQ (dayOf_2 y m d (by omega)))
    · refine v_iload_n dX7_dayOf_43 rfl ?_
      refine v_bipush dX7_dayOf_44 ?_
      refine v_iadd dX7_dayOf_46 ?_
      refine v_goto 53 dX7_dayOf_47 ?_
      refine v_i2l dX7_dayOf_53 ?_
      refine v_lmul dX7_dayOf_54 ?_
      refine v_ldc2 (2) dX7_dayOf_55 kl_X7_64 ?_
      refine v_ladd dX7_dayOf_58 ?_
      refine v_ldc2 (5) dX7_dayOf_59 kl_X7_66 ?_
      refine v_ldivP dX7_dayOf_62 ?_
      refine v_iload_n dX7_dayOf_63 rfl ?_
      refine v_i2l dX7_dayOf_64 ?_
      refine v_ladd dX7_dayOf_65 ?_
      refine v_lconst1 dX7_dayOf_66 ?_
      refine v_lsub dX7_dayOf_67 ?_
      refine v_lstore dX7_dayOf_68 (by decide) ?_
      refine v_ldc2 (146097) dX7_dayOf_70 kl_X7_68 ?_
      refine v_lload dX7_dayOf_73 rfl ?_
      refine v_lmul dX7_dayOf_75 ?_
      refine v_ldc2 (365) dX7_dayOf_76 kl_X7_70 ?_
      refine v_lload dX7_dayOf_79 rfl ?_
      refine v_lmul dX7_dayOf_81 ?_
      refine v_ladd dX7_dayOf_82 ?_
      refine v_lload dX7_dayOf_83 rfl ?_
      refine v_ldc2 (4) dX7_dayOf_85 kl_X7_45 ?_
      refine v_ldivP dX7_dayOf_88 ?_
      refine v_ladd dX7_dayOf_89 ?_
      refine v_lload dX7_dayOf_90 rfl ?_
      refine v_ldc2 (100) dX7_dayOf_92 kl_X7_51 ?_
      refine v_ldivP dX7_dayOf_95 ?_
      refine v_lsub dX7_dayOf_96 ?_
      refine v_lload dX7_dayOf_97 rfl ?_
      refine v_ladd dX7_dayOf_99 ?_
      refine v_ldc2 (719468) dX7_dayOf_100 kl_X7_72 ?_
      refine v_lsub dX7_dayOf_103 ?_
      exact v_lret dX7_dayOf_104 rfl (by first | (exfalso; omega) | exact ql hQ (dayOf_1 y m d (by omega)) | exact ql hQ (dayOf_2 y m d (by omega)))
set_option maxRecDepth 100000 in
set_option maxHeartbeats 4000000 in
theorem s_X7_weekOf {l : Launch} {G : GG} {w : AH} {Q : Option Value → AH → Prop} {X : String → AH → Prop} (hst : l.stackTraces = false) {e : Int} (hQ : Q (some (.int (iI (wd e)))) w) (he : -1000000000000000 ≤ e ∧ e ≤ 1000000000000000 := by omega) : Ct l G mX7_weekOf rX7_weekOf [.long (lI e)] w Q X := by
  refine ct_of hst mk_X7_weekOf (Nat.le_of_ble_eq_true rfl) ?_
  refine v_lload_n dX7_weekOf_0 rfl ?_
  refine v_ldc2 (3) dX7_weekOf_1 kl_X7_90 ?_
  refine v_ladd dX7_weekOf_4 ?_
  refine v_ldc2 (7) dX7_weekOf_5 kl_X7_92 ?_
  refine v_S2 (rm' := rX7_rest) dX7_weekOf_8 km_X7_47 ks_X7_rest kz_X7 mk_X7_rest rfl ⟨Nat.le_of_ble_eq_true rfl, Nat.le_of_ble_eq_true rfl⟩ ⟨Nat.le_of_ble_eq_true rfl, Nat.le_of_ble_eq_true rfl⟩ (Nat.le_of_ble_eq_true rfl) ?_
  refine s_X7_rest hst ?_
  refine v_l2i dX7_weekOf_11 ?_
  refine v_iconst dX7_weekOf_12 ?_
  refine v_iadd dX7_weekOf_13 ?_
  exact v_iret dX7_weekOf_14 rfl (by exact qi hQ rfl)
set_option maxRecDepth 100000 in
set_option maxHeartbeats 4000000 in
theorem s_X7_within {l : Launch} {G : GG} {w : AH} {Q : Option Value → AH → Prop} {X : String → AH → Prop} (hst : l.stackTraces = false) {e : Int} (hQ : ∀ r : Int, (((-4371587 ≤ e ∧ e ≤ 2932896) ∧ r = 1) ∨ (¬ (-4371587 ≤ e ∧ e ≤ 2932896) ∧ r = 0)) → Q (some (.int (iI r))) w) (he : -9223372036854775808 ≤ e ∧ e ≤ 9223372036854775807 := by omega) : Ct l G mX7_within rX7_within [.long (lI e)] w Q X := by
  have e1 : ed (-9999) 1 1 = -4371587 := by decide
  have e2 : ed 9999 12 31 = 2932896 := by decide
  refine ct_of hst mk_X7_within (Nat.le_of_ble_eq_true rfl) ?_
  refine v_lload_n dX7_within_0 rfl ?_
  refine v_ldc2 (-9999) dX7_within_1 kl_X7_94 ?_
  refine v_iconst dX7_within_4 ?_
  refine v_iconst dX7_within_5 ?_
  refine v_S3 (rm' := rX7_dayOf) dX7_within_6 km_X7_96 ks_X7_dayOf kz_X7 mk_X7_dayOf rfl ⟨Nat.le_of_ble_eq_true rfl, Nat.le_of_ble_eq_true rfl⟩ ⟨Nat.le_of_ble_eq_true rfl, Nat.le_of_ble_eq_true rfl⟩ (Nat.le_of_ble_eq_true rfl) ?_
  refine s_X7_dayOf hst ?_
  refine v_ldc2 (9999) dX7_within_9 kl_X7_100 ?_
  refine v_bipush dX7_within_12 ?_
  refine v_bipush dX7_within_14 ?_
  refine v_S3 (rm' := rX7_dayOf) dX7_within_16 km_X7_96 ks_X7_dayOf kz_X7 mk_X7_dayOf rfl ⟨Nat.le_of_ble_eq_true rfl, Nat.le_of_ble_eq_true rfl⟩ ⟨Nat.le_of_ble_eq_true rfl, Nat.le_of_ble_eq_true rfl⟩ (Nat.le_of_ble_eq_true rfl) ?_
  refine s_X7_dayOf hst ?_
  refine v_S3 (rm' := rX7_in) dX7_within_19 km_X7_102 ks_X7_in kz_X7 mk_X7_in rfl ⟨Nat.le_of_ble_eq_true rfl, Nat.le_of_ble_eq_true rfl⟩ ⟨Nat.le_of_ble_eq_true rfl, Nat.le_of_ble_eq_true rfl⟩ (Nat.le_of_ble_eq_true rfl) ?_
  refine s_X7_in hst (fun ri1 ei1 => ?_)
  exact v_zret dX7_within_22 rfl (by exact hQ _ (by omega)) (by first | exact Or.inl rfl | exact Or.inr rfl | omega)
set_option maxRecDepth 100000 in
set_option maxHeartbeats 4000000 in
theorem s_X7_monthWithin {l : Launch} {G : GG} {w : AH} {Q : Option Value → AH → Prop} {X : String → AH → Prop} (hst : l.stackTraces = false) {e : Int} (hQ : ∀ r : Int, (((-119988 ≤ e ∧ e ≤ 119999) ∧ r = 1) ∨ (¬ (-119988 ≤ e ∧ e ≤ 119999) ∧ r = 0)) → Q (some (.int (iI r))) w) (he : -9223372036854775808 ≤ e ∧ e ≤ 9223372036854775807 := by omega) : Ct l G mX7_monthWithin rX7_monthWithin [.long (lI e)] w Q X := by
  refine ct_of hst mk_X7_monthWithin (Nat.le_of_ble_eq_true rfl) ?_
  refine v_lload_n dX7_monthWithin_0 rfl ?_
  refine v_ldc2 (-119988) dX7_monthWithin_1 kl_X7_116 ?_
  refine v_ldc2 (119999) dX7_monthWithin_4 kl_X7_118 ?_
  refine v_S3 (rm' := rX7_in) dX7_monthWithin_7 km_X7_102 ks_X7_in kz_X7 mk_X7_in rfl ⟨Nat.le_of_ble_eq_true rfl, Nat.le_of_ble_eq_true rfl⟩ ⟨Nat.le_of_ble_eq_true rfl, Nat.le_of_ble_eq_true rfl⟩ (Nat.le_of_ble_eq_true rfl) ?_
  refine s_X7_in hst (fun ri1 ei1 => ?_)
  exact v_zret dX7_monthWithin_10 rfl (by exact hQ _ (by omega)) (by first | exact Or.inl rfl | exact Or.inr rfl | omega)
set_option maxRecDepth 100000 in
set_option maxHeartbeats 4000000 in
theorem s_X7_isMoment {l : Launch} {G : GG} {w : AH} {Q : Option Value → AH → Prop} {X : String → AH → Prop} (hst : l.stackTraces = false) {e : Int} (hQ : ∀ r : Int, (((-377700000000 ≤ e ∧ e ≤ 253400000000) ∧ r = 1) ∨ (¬ (-377700000000 ≤ e ∧ e ≤ 253400000000) ∧ r = 0)) → Q (some (.int (iI r))) w) (he : -9223372036854775808 ≤ e ∧ e ≤ 9223372036854775807 := by omega) : Ct l G mX7_isMoment rX7_isMoment [.long (lI e)] w Q X := by
  refine ct_of hst mk_X7_isMoment (Nat.le_of_ble_eq_true rfl) ?_
  refine v_lload_n dX7_isMoment_0 rfl ?_
  refine v_ldc2 (-377700000000) dX7_isMoment_1 kl_X7_212 ?_
  refine v_ldc2 (253400000000) dX7_isMoment_4 kl_X7_214 ?_
  refine v_S3 (rm' := rX7_in) dX7_isMoment_7 km_X7_102 ks_X7_in kz_X7 mk_X7_in rfl ⟨Nat.le_of_ble_eq_true rfl, Nat.le_of_ble_eq_true rfl⟩ ⟨Nat.le_of_ble_eq_true rfl, Nat.le_of_ble_eq_true rfl⟩ (Nat.le_of_ble_eq_true rfl) ?_
  refine s_X7_in hst (fun ri1 ei1 => ?_)
  exact v_zret dX7_isMoment_10 rfl (by exact hQ _ (by omega)) (by first | exact Or.inl rfl | exact Or.inr rfl | omega)
set_option maxRecDepth 100000 in
set_option maxHeartbeats 4000000 in
theorem s_X7_isDate {l : Launch} {G : GG} {w : AH} {Q : Option Value → AH → Prop} {X : String → AH → Prop} (hst : l.stackTraces = false) {y m d : Int} (hQ : ∀ r : Int, ((isDt y m d ∧ r = 1) ∨ (¬ isDt y m d ∧ r = 0)) → Q (some (.int (iI r))) w) (hy : -2147483648 ≤ y ∧ y ≤ 2147483647 := by omega) (hm : -2147483648 ≤ m ∧ m ≤ 2147483647 := by omega) (hd : -2147483648 ≤ d ∧ d ≤ 2147483647 := by omega) : Ct l G mX7_isDate rX7_isDate [.long (lI y), .int (iI m), .int (iI d)] w Q X := by
  have hlen := lenM_rng y m
  refine ct_of hst mk_X7_isDate (Nat.le_of_ble_eq_true rfl) ?_
  refine v_lload_n dX7_isDate_0 rfl ?_
  refine v_ldc2 (-9999) dX7_isDate_1 kl_X7_94 ?_
  refine v_ldc2 (9999) dX7_isDate_4 kl_X7_100 ?_
  refine v_S3 (rm' := rX7_in) dX7_isDate_7 km_X7_102 ks_X7_in kz_X7 mk_X7_in rfl ⟨Nat.le_of_ble_eq_true rfl, Nat.le_of_ble_eq_true rfl⟩ ⟨Nat.le_of_ble_eq_true rfl, Nat.le_of_ble_eq_true rfl⟩ (Nat.le_of_ble_eq_true rfl) ?_
  refine s_X7_in hst (fun ri1 ei1 => ?_)
  refine v_if_eq 43 dX7_isDate_10 (fun h_10 => ?_) (fun h_10 => ?_)
  · refine v_iconst dX7_isDate_43 ?_
    exact v_zret dX7_isDate_44 rfl (by exact hQ _ (by unfold isDt; omega)) (by first | exact Or.inl rfl | exact Or.inr rfl | omega)
  · refine v_iload_n dX7_isDate_13 rfl ?_
    refine v_i2l dX7_isDate_14 ?_
    refine v_lconst1 dX7_isDate_15 ?_
    refine v_ldc2 (12) dX7_isDate_16 kl_X7_110 ?_
    refine v_S3 (rm' := rX7_in) dX7_isDate_19 km_X7_102 ks_X7_in kz_X7 mk_X7_in rfl ⟨Nat.le_of_ble_eq_true rfl, Nat.le_of_ble_eq_true rfl⟩ ⟨Nat.le_of_ble_eq_true rfl, Nat.le_of_ble_eq_true rfl⟩ (Nat.le_of_ble_eq_true rfl) ?_
    refine s_X7_in hst (fun ri2 ei2 => ?_)
    refine v_if_eq 43 dX7_isDate_22 (fun h_22 => ?_) (fun h_22 => ?_)
    · refine v_iconst dX7_isDate_43 ?_
      exact v_zret dX7_isDate_44 rfl (by exact hQ _ (by unfold isDt; omega)) (by first | exact Or.inl rfl | exact Or.inr rfl | omega)
    · refine v_iload_n dX7_isDate_25 rfl ?_
      refine v_iconst dX7_isDate_26 ?_
      refine v_icmp_lt 43 dX7_isDate_27 (fun h_27 => ?_) (fun h_27 => ?_)
      · refine v_iconst dX7_isDate_43 ?_
        exact v_zret dX7_isDate_44 rfl (by exact hQ _ (by unfold isDt; omega)) (by first | exact Or.inl rfl | exact Or.inr rfl | omega)
      · refine v_iload_n dX7_isDate_30 rfl ?_
        refine v_lload_n dX7_isDate_31 rfl ?_
        refine v_iload_n dX7_isDate_32 rfl ?_
        refine v_S2 (rm' := rX7_length) dX7_isDate_33 km_X7_112 ks_X7_length kz_X7 mk_X7_length rfl ⟨Nat.le_of_ble_eq_true rfl, Nat.le_of_ble_eq_true rfl⟩ ⟨Nat.le_of_ble_eq_true rfl, Nat.le_of_ble_eq_true rfl⟩ (Nat.le_of_ble_eq_true rfl) ?_
        refine s_X7_length hst ?_
        refine v_icmp_gt 43 dX7_isDate_36 (fun h_36 => ?_) (fun h_36 => ?_)
        · refine v_iconst dX7_isDate_43 ?_
          exact v_zret dX7_isDate_44 rfl (by exact hQ _ (by unfold isDt; omega)) (by first | exact Or.inl rfl | exact Or.inr rfl | omega)
        · refine v_iconst dX7_isDate_39 ?_
          refine v_goto 44 dX7_isDate_40 ?_
          exact v_zret dX7_isDate_44 rfl (by exact hQ _ (by unfold isDt; omega)) (by first | exact Or.inl rfl | exact Or.inr rfl | omega)
set_option maxRecDepth 100000 in
set_option maxHeartbeats 4000000 in
theorem s_X7_timed {l : Launch} {G : GG} {w : AH} {Q : Option Value → AH → Prop} {X : String → AH → Prop} (hst : l.stackTraces = false) {y m d n f : Int} (hf : 6 ≤ f ∧ f ≤ 11) (hn : 0 ≤ n ∧ n ≤ 86399999999999) (hQ : Q (some (.long (lI (gF y m d n f)))) w) : Ct l G mX7_timed rX7_timed [.long (lI n), .int (iI f)] w Q X := by
  have hg6 : gF y m d n 6 = n / 3600000000000 % 24 := rfl
  have hg7 : gF y m d n 7 = n / 60000000000 % 60 := rfl
  have hg8 : gF y m d n 8 = n / 1000000000 % 60 := rfl
  have hg9 : gF y m d n 9 = n / 1 % 1000000000 := rfl
  have hg10 : gF y m d n 10 = n / 1000000000 % 86400 := rfl
  have hg11 : gF y m d n 11 = n := rfl
  refine ct_of hst mk_X7_timed (Nat.le_of_ble_eq_true rfl) ?_
  refine v_iload_n dX7_timed_0 rfl ?_
  refine v_bipush dX7_timed_1 ?_
  refine v_icmp_ge 48 dX7_timed_3 (fun h_3 => ?_) (fun h_3 => ?_)
  · refine v_iload_n dX7_timed_48 rfl ?_
    refine v_bipush dX7_timed_49 ?_
    refine v_icmp_ne 62 dX7_timed_51 (fun h_51 => ?_) (fun h_51 => ?_)
    · refine v_iload_n dX7_timed_62 rfl ?_
      refine v_bipush dX7_timed_63 ?_
      refine v_icmp_ne 76 dX7_timed_65 (fun h_65 => ?_) (fun h_65 => ?_)
      · refine v_lload_n dX7_timed_76 rfl ?_
        exact v_lret dX7_timed_77 rfl (by first | (exfalso; omega) | (have h9 : f = 6 := (by omega); subst h9; exact ql hQ (by omega)) | (have h9 : f = 7 := (by omega); subst h9; exact ql hQ (by omega)) | (have h9 : f = 8 := (by omega); subst h9; exact ql hQ (by omega)) | (have h9 : f = 9 := (by omega); subst h9; exact ql hQ (by omega)) | (have h9 : f = 10 := (by omega); subst h9; exact ql hQ (by omega)) | (have h9 : f = 11 := (by omega); subst h9; exact ql hQ (by omega)))
      · refine v_lload_n dX7_timed_68 rfl ?_
        refine v_ldc2 (1000000000) dX7_timed_69 kl_X7_134 ?_
        refine v_ldivP dX7_timed_72 ?_
        refine v_goto 77 dX7_timed_73 ?_
        exact v_lret dX7_timed_77 rfl (by first | (exfalso; omega) | (have h9 : f = 6 := (by omega); subst h9; exact ql hQ (by omega)) | (have h9 : f = 7 := (by omega); subst h9; exact ql hQ (by omega)) | (have h9 : f = 8 := (by omega); subst h9; exact ql hQ (by omega)) | (have h9 : f = 9 := (by omega); subst h9; exact ql hQ (by omega)) | (have h9 : f = 10 := (by omega); subst h9; exact ql hQ (by omega)) | (have h9 : f = 11 := (by omega); subst h9; exact ql hQ (by omega)))
    · refine v_lload_n dX7_timed_54 rfl ?_
      refine v_ldc2 (1000000000) dX7_timed_55 kl_X7_134 ?_
      refine v_lremP dX7_timed_58 ?_
      refine v_goto 77 dX7_timed_59 ?_
      exact v_lret dX7_timed_77 rfl (by first | (exfalso; omega) | (have h9 : f = 6 := (by omega); subst h9; exact ql hQ (by omega)) | (have h9 : f = 7 := (by omega); subst h9; exact ql hQ (by omega)) | (have h9 : f = 8 := (by omega); subst h9; exact ql hQ (by omega)) | (have h9 : f = 9 := (by omega); subst h9; exact ql hQ (by omega)) | (have h9 : f = 10 := (by omega); subst h9; exact ql hQ (by omega)) | (have h9 : f = 11 := (by omega); subst h9; exact ql hQ (by omega)))
  · refine v_iload_n dX7_timed_6 rfl ?_
    refine v_bipush dX7_timed_7 ?_
    refine v_icmp_ne 20 dX7_timed_9 (fun h_9 => ?_) (fun h_9 => ?_)
    · refine v_iload_n dX7_timed_20 rfl ?_
      refine v_bipush dX7_timed_21 ?_
      refine v_icmp_ne 38 dX7_timed_23 (fun h_23 => ?_) (fun h_23 => ?_)
      · refine v_lload_n dX7_timed_38 rfl ?_
        refine v_ldc2 (1000000000) dX7_timed_39 kl_X7_134 ?_
        refine v_ldivP dX7_timed_42 ?_
        refine v_ldc2 (60) dX7_timed_43 kl_X7_150 ?_
        refine v_lremP dX7_timed_46 ?_
        exact v_lret dX7_timed_47 rfl (by first | (exfalso; omega) | (have h9 : f = 6 := (by omega); subst h9; exact ql hQ (by omega)) | (have h9 : f = 7 := (by omega); subst h9; exact ql hQ (by omega)) | (have h9 : f = 8 := (by omega); subst h9; exact ql hQ (by omega)) | (have h9 : f = 9 := (by omega); subst h9; exact ql hQ (by omega)) | (have h9 : f = 10 := (by omega); subst h9; exact ql hQ (by omega)) | (have h9 : f = 11 := (by omega); subst h9; exact ql hQ (by omega)))
      · refine v_lload_n dX7_timed_26 rfl ?_
        refine v_ldc2 (60000000000) dX7_timed_27 kl_X7_148 ?_
        refine v_ldivP dX7_timed_30 ?_
        refine v_ldc2 (60) dX7_timed_31 kl_X7_150 ?_
        refine v_lremP dX7_timed_34 ?_
        refine v_goto 47 dX7_timed_35 ?_
        exact v_lret dX7_timed_47 rfl (by first | (exfalso; omega) | (have h9 : f = 6 := (by omega); subst h9; exact ql hQ (by omega)) | (have h9 : f = 7 := (by omega); subst h9; exact ql hQ (by omega)) | (have h9 : f = 8 := (by omega); subst h9; exact ql hQ (by omega)) | (have h9 : f = 9 := (by omega); subst h9; exact ql hQ (by omega)) | (have h9 : f = 10 := (by omega); subst h9; exact ql hQ (by omega)) | (have h9 : f = 11 := (by omega); subst h9; exact ql hQ (by omega)))
    · refine v_lload_n dX7_timed_12 rfl ?_
      refine v_ldc2 (3600000000000) dX7_timed_13 kl_X7_146 ?_
      refine v_ldivP dX7_timed_16 ?_
      refine v_goto 47 dX7_timed_17 ?_
      exact v_lret dX7_timed_47 rfl (by first | (exfalso; omega) | (have h9 : f = 6 := (by omega); subst h9; exact ql hQ (by omega)) | (have h9 : f = 7 := (by omega); subst h9; exact ql hQ (by omega)) | (have h9 : f = 8 := (by omega); subst h9; exact ql hQ (by omega)) | (have h9 : f = 9 := (by omega); subst h9; exact ql hQ (by omega)) | (have h9 : f = 10 := (by omega); subst h9; exact ql hQ (by omega)) | (have h9 : f = 11 := (by omega); subst h9; exact ql hQ (by omega)))
set_option maxRecDepth 100000 in
set_option maxHeartbeats 4000000 in
theorem s_X7_nanosOf {l : Launch} {G : GG} {w : AH} {Q : Option Value → AH → Prop} {X : String → AH → Prop} (hst : l.stackTraces = false) {u : Int} (hu : 0 ≤ u ∧ u ≤ 7) (hQ : Q (some (.long (lI (uSZ u)))) w) : Ct l G mX7_nanosOf rX7_nanosOf [.int (iI u)] w Q X := by
  have huc := uPD_c hu
  refine ct_of hst mk_X7_nanosOf (Nat.le_of_ble_eq_true rfl) ?_
  refine v_iload_n dX7_nanosOf_0 rfl ?_
  refine v_iconst dX7_nanosOf_1 ?_
  refine v_icmp_ge 28 dX7_nanosOf_2 (fun h_2 => ?_) (fun h_2 => ?_)
  · refine v_iload_n dX7_nanosOf_28 rfl ?_
    refine v_iconst dX7_nanosOf_29 ?_
    refine v_icmp_ne 39 dX7_nanosOf_30 (fun h_30 => ?_) (fun h_30 => ?_)
    · refine v_iload_n dX7_nanosOf_39 rfl ?_
      refine v_iconst dX7_nanosOf_40 ?_
      refine v_icmp_ne 50 dX7_nanosOf_41 (fun h_41 => ?_) (fun h_41 => ?_)
      · refine v_iload_n dX7_nanosOf_50 rfl ?_
        refine v_iconst dX7_nanosOf_51 ?_
        refine v_icmp_ne 61 dX7_nanosOf_52 (fun h_52 => ?_) (fun h_52 => ?_)
        · refine v_iload_n dX7_nanosOf_61 rfl ?_
          refine v_bipush dX7_nanosOf_62 ?_
          refine v_icmp_ne 73 dX7_nanosOf_64 (fun h_64 => ?_) (fun h_64 => ?_)
          · refine v_iload_n dX7_nanosOf_73 rfl ?_
            refine v_bipush dX7_nanosOf_74 ?_
            refine v_icmp_ne 85 dX7_nanosOf_76 (fun h_76 => ?_) (fun h_76 => ?_)
            · refine v_ldc2 (604800000000000) dX7_nanosOf_85 kl_X7_179 ?_
              exact v_lret dX7_nanosOf_88 rfl (by first | (exfalso; omega) | exact ql hQ (by omega))
            · refine v_ldc2 (86400000000000) dX7_nanosOf_79 kl_X7_173 ?_
              refine v_goto 88 dX7_nanosOf_82 ?_
              exact v_lret dX7_nanosOf_88 rfl (by first | (exfalso; omega) | exact ql hQ (by omega))
          · refine v_ldc2 (43200000000000) dX7_nanosOf_67 kl_X7_177 ?_
            refine v_goto 88 dX7_nanosOf_70 ?_
            exact v_lret dX7_nanosOf_88 rfl (by first | (exfalso; omega) | exact ql hQ (by omega))
        · refine v_ldc2 (3600000000000) dX7_nanosOf_55 kl_X7_146 ?_
          refine v_goto 88 dX7_nanosOf_58 ?_
          exact v_lret dX7_nanosOf_88 rfl (by first | (exfalso; omega) | exact ql hQ (by omega))
      · refine v_ldc2 (60000000000) dX7_nanosOf_44 kl_X7_148 ?_
        refine v_goto 88 dX7_nanosOf_47 ?_
        exact v_lret dX7_nanosOf_88 rfl (by first | (exfalso; omega) | exact ql hQ (by omega))
    · refine v_ldc2 (1000000000) dX7_nanosOf_33 kl_X7_134 ?_
      refine v_goto 88 dX7_nanosOf_36 ?_
      exact v_lret dX7_nanosOf_88 rfl (by first | (exfalso; omega) | exact ql hQ (by omega))
  · refine v_iload_n dX7_nanosOf_5 rfl ?_
    refine v_if_ne 13 dX7_nanosOf_6 (fun h_6 => ?_) (fun h_6 => ?_)
    · refine v_iload_n dX7_nanosOf_13 rfl ?_
      refine v_iconst dX7_nanosOf_14 ?_
      refine v_icmp_ne 24 dX7_nanosOf_15 (fun h_15 => ?_) (fun h_15 => ?_)
      · refine v_ldc2 (1000000) dX7_nanosOf_24 kl_X7_156 ?_
        exact v_lret dX7_nanosOf_27 rfl (by first | (exfalso; omega) | exact ql hQ (by omega))
      · refine v_ldc2 (1000) dX7_nanosOf_18 kl_X7_175 ?_
        refine v_goto 27 dX7_nanosOf_21 ?_
        exact v_lret dX7_nanosOf_27 rfl (by first | (exfalso; omega) | exact ql hQ (by omega))
    · refine v_lconst1 dX7_nanosOf_9 ?_
      refine v_goto 27 dX7_nanosOf_10 ?_
      exact v_lret dX7_nanosOf_27 rfl (by first | (exfalso; omega) | exact ql hQ (by omega))
set_option maxRecDepth 100000 in
set_option maxHeartbeats 4000000 in
theorem s_X7_monthsOfUnit {l : Launch} {G : GG} {w : AH} {Q : Option Value → AH → Prop} {X : String → AH → Prop} (hst : l.stackTraces = false) {u : Int} (hu : 9 ≤ u ∧ u ≤ 13) (hQ : Q (some (.long (lI (mOU u)))) w) : Ct l G mX7_monthsOfUnit rX7_monthsOfUnit [.int (iI u)] w Q X := by
  have huc := mOU_c hu
  refine ct_of hst mk_X7_monthsOfUnit (Nat.le_of_ble_eq_true rfl) ?_
  refine v_iload_n dX7_monthsOfUnit_0 rfl ?_
  refine v_bipush dX7_monthsOfUnit_1 ?_
  refine v_icmp_ne 10 dX7_monthsOfUnit_3 (fun h_3 => ?_) (fun h_3 => ?_)
  · refine v_iload_n dX7_monthsOfUnit_10 rfl ?_
    refine v_bipush dX7_monthsOfUnit_11 ?_
    refine v_icmp_ne 22 dX7_monthsOfUnit_13 (fun h_13 => ?_) (fun h_13 => ?_)
    · refine v_iload_n dX7_monthsOfUnit_22 rfl ?_
      refine v_bipush dX7_monthsOfUnit_23 ?_
      refine v_icmp_ne 34 dX7_monthsOfUnit_25 (fun h_25 => ?_) (fun h_25 => ?_)
      · refine v_iload_n dX7_monthsOfUnit_34 rfl ?_
        refine v_bipush dX7_monthsOfUnit_35 ?_
        refine v_icmp_ne 46 dX7_monthsOfUnit_37 (fun h_37 => ?_) (fun h_37 => ?_)
        · refine v_ldc2 (1200) dX7_monthsOfUnit_46 kl_X7_183 ?_
          exact v_lret dX7_monthsOfUnit_49 rfl (by first | (exfalso; omega) | exact ql hQ (by omega))
        · refine v_ldc2 (120) dX7_monthsOfUnit_40 kl_X7_181 ?_
          refine v_goto 49 dX7_monthsOfUnit_43 ?_
          exact v_lret dX7_monthsOfUnit_49 rfl (by first | (exfalso; omega) | exact ql hQ (by omega))
      · refine v_ldc2 (12) dX7_monthsOfUnit_28 kl_X7_110 ?_
        refine v_goto 49 dX7_monthsOfUnit_31 ?_
        exact v_lret dX7_monthsOfUnit_49 rfl (by first | (exfalso; omega) | exact ql hQ (by omega))
    · refine v_ldc2 (3) dX7_monthsOfUnit_16 kl_X7_90 ?_
      refine v_goto 49 dX7_monthsOfUnit_19 ?_
      exact v_lret dX7_monthsOfUnit_49 rfl (by first | (exfalso; omega) | exact ql hQ (by omega))
  · refine v_lconst1 dX7_monthsOfUnit_6 ?_
    refine v_goto 49 dX7_monthsOfUnit_7 ?_
    exact v_lret dX7_monthsOfUnit_49 rfl (by first | (exfalso; omega) | exact ql hQ (by omega))
