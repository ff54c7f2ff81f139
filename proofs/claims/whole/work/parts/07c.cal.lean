set_option maxRecDepth 100000 in
set_option maxHeartbeats 4000000 in
theorem s_X0_isLeap {l : Launch} {G : GG} {w : AH} {Q : Option Value → AH → Prop} {X : String → AH → Prop} (hst : l.stackTraces = false) {y : Int} (hQ : Q (some (.int (iI (lp y)))) w) (hy : -2147483648 ≤ y ∧ y ≤ 2147483647 := by omega) : Ct l G mX0_isLeap rX0_isLeap [.int (iI y)] w Q X := by
  have hlp := lp_c y
  refine ct_of hst mk_X0_isLeap (Nat.le_of_ble_eq_true rfl) ?_
  refine v_iload_n dX0_isLeap_0 rfl ?_
  refine v_iconst dX0_isLeap_1 ?_
  refine v_iremK dX0_isLeap_2 (fun r_2 e_2 => ?_)
  refine v_if_ne 25 dX0_isLeap_3 (fun h_3 => ?_) (fun h_3 => ?_)
  · refine v_iconst dX0_isLeap_25 ?_
    exact v_zret dX0_isLeap_26 rfl (by exact qi hQ (by omega)) (by first | exact Or.inl rfl | exact Or.inr rfl | omega)
  · refine v_iload_n dX0_isLeap_6 rfl ?_
    refine v_bipush dX0_isLeap_7 ?_
    refine v_iremK dX0_isLeap_9 (fun r_9 e_9 => ?_)
    refine v_if_ne 21 dX0_isLeap_10 (fun h_10 => ?_) (fun h_10 => ?_)
    · refine v_iconst dX0_isLeap_21 ?_
      refine v_goto 26 dX0_isLeap_22 ?_
      exact v_zret dX0_isLeap_26 rfl (by exact qi hQ (by omega)) (by first | exact Or.inl rfl | exact Or.inr rfl | omega)
    · refine v_iload_n dX0_isLeap_13 rfl ?_
      refine v_sipush dX0_isLeap_14 ?_
      refine v_iremK dX0_isLeap_17 (fun r_17 e_17 => ?_)
      refine v_if_ne 25 dX0_isLeap_18 (fun h_18 => ?_) (fun h_18 => ?_)
      · refine v_iconst dX0_isLeap_25 ?_
        exact v_zret dX0_isLeap_26 rfl (by exact qi hQ (by omega)) (by first | exact Or.inl rfl | exact Or.inr rfl | omega)
      · refine v_iconst dX0_isLeap_21 ?_
        refine v_goto 26 dX0_isLeap_22 ?_
        exact v_zret dX0_isLeap_26 rfl (by exact qi hQ (by omega)) (by first | exact Or.inl rfl | exact Or.inr rfl | omega)
set_option maxRecDepth 100000 in
set_option maxHeartbeats 4000000 in
theorem s_X0_isYear {l : Launch} {G : GG} {w : AH} {Q : Option Value → AH → Prop} {X : String → AH → Prop} (hst : l.stackTraces = false) {v : Int} (hQ : ∀ r : Int, ((-9999 ≤ v ∧ v ≤ 9999 ∧ r = 1) ∨ ((v < -9999 ∨ 9999 < v) ∧ r = 0)) → Q (some (.int (iI r))) w) (hv : -9223372036854775808 ≤ v ∧ v ≤ 9223372036854775807 := by omega) : Ct l G mX0_isYear rX0_isYear [.long (lI v)] w Q X := by
  refine ct_of hst mk_X0_isYear (Nat.le_of_ble_eq_true rfl) ?_
  refine v_lload_n dX0_isYear_0 rfl ?_
  refine v_ldc2 (-9999) dX0_isYear_1 kl_X0_9 ?_
  refine v_lif_lt 20 dX0_isYear_4 dX0_isYear_5 (fun h_4 => ?_) (fun h_4 => ?_)
  · refine v_iconst dX0_isYear_20 ?_
    exact v_zret dX0_isYear_21 rfl (by exact hQ _ (by omega)) (by first | exact Or.inl rfl | exact Or.inr rfl | omega)
  · refine v_lload_n dX0_isYear_8 rfl ?_
    refine v_ldc2 (9999) dX0_isYear_9 kl_X0_11 ?_
    refine v_lif_gt 20 dX0_isYear_12 dX0_isYear_13 (fun h_12 => ?_) (fun h_12 => ?_)
    · refine v_iconst dX0_isYear_20 ?_
      exact v_zret dX0_isYear_21 rfl (by exact hQ _ (by omega)) (by first | exact Or.inl rfl | exact Or.inr rfl | omega)
    · refine v_iconst dX0_isYear_16 ?_
      refine v_goto 21 dX0_isYear_17 ?_
      exact v_zret dX0_isYear_21 rfl (by exact hQ _ (by omega)) (by first | exact Or.inl rfl | exact Or.inr rfl | omega)
set_option maxRecDepth 100000 in
set_option maxHeartbeats 4000000 in
theorem s_X0_isMonth {l : Launch} {G : GG} {w : AH} {Q : Option Value → AH → Prop} {X : String → AH → Prop} (hst : l.stackTraces = false) {v : Int} (hQ : ∀ r : Int, ((1 ≤ v ∧ v ≤ 12 ∧ r = 1) ∨ ((v < 1 ∨ 12 < v) ∧ r = 0)) → Q (some (.int (iI r))) w) (hv : -9223372036854775808 ≤ v ∧ v ≤ 9223372036854775807 := by omega) : Ct l G mX0_isMonth rX0_isMonth [.long (lI v)] w Q X := by
  refine ct_of hst mk_X0_isMonth (Nat.le_of_ble_eq_true rfl) ?_
  refine v_lload_n dX0_isMonth_0 rfl ?_
  refine v_lconst1 dX0_isMonth_1 ?_
  refine v_lif_lt 18 dX0_isMonth_2 dX0_isMonth_3 (fun h_2 => ?_) (fun h_2 => ?_)
  · refine v_iconst dX0_isMonth_18 ?_
    exact v_zret dX0_isMonth_19 rfl (by exact hQ _ (by omega)) (by first | exact Or.inl rfl | exact Or.inr rfl | omega)
  · refine v_lload_n dX0_isMonth_6 rfl ?_
    refine v_ldc2 (12) dX0_isMonth_7 kl_X0_13 ?_
    refine v_lif_gt 18 dX0_isMonth_10 dX0_isMonth_11 (fun h_10 => ?_) (fun h_10 => ?_)
    · refine v_iconst dX0_isMonth_18 ?_
      exact v_zret dX0_isMonth_19 rfl (by exact hQ _ (by omega)) (by first | exact Or.inl rfl | exact Or.inr rfl | omega)
    · refine v_iconst dX0_isMonth_14 ?_
      refine v_goto 19 dX0_isMonth_15 ?_
      exact v_zret dX0_isMonth_19 rfl (by exact hQ _ (by omega)) (by first | exact Or.inl rfl | exact Or.inr rfl | omega)
set_option maxRecDepth 100000 in
set_option maxHeartbeats 4000000 in
theorem s_X0_isWeekday {l : Launch} {G : GG} {w : AH} {Q : Option Value → AH → Prop} {X : String → AH → Prop} (hst : l.stackTraces = false) {v : Int} (hQ : ∀ r : Int, ((1 ≤ v ∧ v ≤ 7 ∧ r = 1) ∨ ((v < 1 ∨ 7 < v) ∧ r = 0)) → Q (some (.int (iI r))) w) (hv : -9223372036854775808 ≤ v ∧ v ≤ 9223372036854775807 := by omega) : Ct l G mX0_isWeekday rX0_isWeekday [.long (lI v)] w Q X := by
  refine ct_of hst mk_X0_isWeekday (Nat.le_of_ble_eq_true rfl) ?_
  refine v_lload_n dX0_isWeekday_0 rfl ?_
  refine v_lconst1 dX0_isWeekday_1 ?_
  refine v_lif_lt 18 dX0_isWeekday_2 dX0_isWeekday_3 (fun h_2 => ?_) (fun h_2 => ?_)
  · refine v_iconst dX0_isWeekday_18 ?_
    exact v_zret dX0_isWeekday_19 rfl (by exact hQ _ (by omega)) (by first | exact Or.inl rfl | exact Or.inr rfl | omega)
  · refine v_lload_n dX0_isWeekday_6 rfl ?_
    refine v_ldc2 (7) dX0_isWeekday_7 kl_X0_15 ?_
    refine v_lif_gt 18 dX0_isWeekday_10 dX0_isWeekday_11 (fun h_10 => ?_) (fun h_10 => ?_)
    · refine v_iconst dX0_isWeekday_18 ?_
      exact v_zret dX0_isWeekday_19 rfl (by exact hQ _ (by omega)) (by first | exact Or.inl rfl | exact Or.inr rfl | omega)
    · refine v_iconst dX0_isWeekday_14 ?_
      refine v_goto 19 dX0_isWeekday_15 ?_
      exact v_zret dX0_isWeekday_19 rfl (by exact hQ _ (by omega)) (by first | exact Or.inl rfl | exact Or.inr rfl | omega)
set_option maxRecDepth 100000 in
set_option maxHeartbeats 4000000 in
theorem s_X0_monthLength {l : Launch} {G : GG} {w : AH} {Q : Option Value → AH → Prop} {X : String → AH → Prop} (hst : l.stackTraces = false) {y m : Int} (hQ : Q (some (.int (iI (lenM y m)))) w) (hy : -2147483648 ≤ y ∧ y ≤ 2147483647 := by omega) (hm : -2147483648 ≤ m ∧ m ≤ 2147483647 := by omega) : Ct l G mX0_monthLength rX0_monthLength [.int (iI y), .int (iI m)] w Q X := by
  have hlen := lenM_c y m
  have hlp := lp_c y
  refine ct_of hst mk_X0_monthLength (Nat.le_of_ble_eq_true rfl) ?_
  refine v_iload_n dX0_monthLength_0 rfl ?_
  rcases (show (m < 2 ∨ 11 < m) ∨ m = 2 ∨ m = 3 ∨ m = 4 ∨ m = 5 ∨ m = 6 ∨ m = 7 ∨ m = 8 ∨ m = 9 ∨ m = 10 ∨ m = 11 by omega) with s_1 | s_1 | s_1 | s_1 | s_1 | s_1 | s_1 | s_1 | s_1 | s_1 | s_1
  · refine v_tabOut 74 dX0_monthLength_1 ?_
    refine v_bipush dX0_monthLength_74 ?_
    exact v_iret dX0_monthLength_76 rfl (by exact qi hQ (by omega))
  · subst s_1
    refine v_tabIn 56 dX0_monthLength_1 rfl ?_
    refine v_iload_n dX0_monthLength_56 rfl ?_
    refine v_S1 (rm' := rX0_isLeap) dX0_monthLength_57 km_X0_36 ks_X0_isLeap kz_X0 mk_X0_isLeap rfl ⟨Nat.le_of_ble_eq_true rfl, Nat.le_of_ble_eq_true rfl⟩ ⟨Nat.le_of_ble_eq_true rfl, Nat.le_of_ble_eq_true rfl⟩ (Nat.le_of_ble_eq_true rfl) ?_
    refine s_X0_isLeap hst ?_
    refine v_if_eq 68 dX0_monthLength_60 (fun h_60 => ?_) (fun h_60 => ?_)
    · refine v_bipush dX0_monthLength_68 ?_
      exact v_iret dX0_monthLength_70 rfl (by exact qi hQ (by omega))
    · refine v_bipush dX0_monthLength_63 ?_
      refine v_goto 70 dX0_monthLength_65 ?_
      exact v_iret dX0_monthLength_70 rfl (by exact qi hQ (by omega))
  · subst s_1
    refine v_tabIn 74 dX0_monthLength_1 rfl ?_
    refine v_bipush dX0_monthLength_74 ?_
    exact v_iret dX0_monthLength_76 rfl (by exact qi hQ (by omega))
  · subst s_1
    refine v_tabIn 71 dX0_monthLength_1 rfl ?_
    refine v_bipush dX0_monthLength_71 ?_
    exact v_iret dX0_monthLength_73 rfl (by exact qi hQ (by omega))
  · subst s_1
    refine v_tabIn 74 dX0_monthLength_1 rfl ?_
    refine v_bipush dX0_monthLength_74 ?_
    exact v_iret dX0_monthLength_76 rfl (by exact qi hQ (by omega))
  · subst s_1
    refine v_tabIn 71 dX0_monthLength_1 rfl ?_
    refine v_bipush dX0_monthLength_71 ?_
    exact v_iret dX0_monthLength_73 rfl (by exact qi hQ (by omega))
  · subst s_1
    refine v_tabIn 74 dX0_monthLength_1 rfl ?_
    refine v_bipush dX0_monthLength_74 ?_
    exact v_iret dX0_monthLength_76 rfl (by exact qi hQ (by omega))
  · subst s_1
    refine v_tabIn 74 dX0_monthLength_1 rfl ?_
    refine v_bipush dX0_monthLength_74 ?_
    exact v_iret dX0_monthLength_76 rfl (by exact qi hQ (by omega))
  · subst s_1
    refine v_tabIn 71 dX0_monthLength_1 rfl ?_
    refine v_bipush dX0_monthLength_71 ?_
    exact v_iret dX0_monthLength_73 rfl (by exact qi hQ (by omega))
  · subst s_1
    refine v_tabIn 74 dX0_monthLength_1 rfl ?_
    refine v_bipush dX0_monthLength_74 ?_
    exact v_iret dX0_monthLength_76 rfl (by exact qi hQ (by omega))
  · subst s_1
    refine v_tabIn 71 dX0_monthLength_1 rfl ?_
    refine v_bipush dX0_monthLength_71 ?_
    exact v_iret dX0_monthLength_73 rfl (by exact qi hQ (by omega))
set_option maxRecDepth 100000 in
set_option maxHeartbeats 4000000 in
theorem s_X0_isDate {l : Launch} {G : GG} {w : AH} {Q : Option Value → AH → Prop} {X : String → AH → Prop} (hst : l.stackTraces = false) {y m d : Int} (hQ : ∀ r : Int, (((-9999 ≤ y ∧ y ≤ 9999 ∧ 1 ≤ m ∧ m ≤ 12 ∧ 1 ≤ d ∧ d ≤ lenM y m) ∧ r = 1) ∨ (¬ (-9999 ≤ y ∧ y ≤ 9999 ∧ 1 ≤ m ∧ m ≤ 12 ∧ 1 ≤ d ∧ d ≤ lenM y m) ∧ r = 0)) → Q (some (.int (iI r))) w) (hy : -2147483648 ≤ y ∧ y ≤ 2147483647 := by omega) (hm : -2147483648 ≤ m ∧ m ≤ 2147483647 := by omega) (hd : -2147483648 ≤ d ∧ d ≤ 2147483647 := by omega) : Ct l G mX0_isDate rX0_isDate [.int (iI y), .int (iI m), .int (iI d)] w Q X := by
  have hlen := lenM_rng y m
  refine ct_of hst mk_X0_isDate (Nat.le_of_ble_eq_true rfl) ?_
  refine v_iload_n dX0_isDate_0 rfl ?_
  refine v_i2l dX0_isDate_1 ?_
  refine v_S1 (rm' := rX0_isYear) dX0_isDate_2 km_X0_17 ks_X0_isYear kz_X0 mk_X0_isYear rfl ⟨Nat.le_of_ble_eq_true rfl, Nat.le_of_ble_eq_true rfl⟩ ⟨Nat.le_of_ble_eq_true rfl, Nat.le_of_ble_eq_true rfl⟩ (Nat.le_of_ble_eq_true rfl) ?_
  refine s_X0_isYear hst (fun ry ey => ?_)
  refine v_if_eq 34 dX0_isDate_5 (fun h_5 => ?_) (fun h_5 => ?_)
  · refine v_iconst dX0_isDate_34 ?_
    exact v_zret dX0_isDate_35 rfl (by exact hQ _ (by omega)) (by first | exact Or.inl rfl | exact Or.inr rfl | omega)
  · refine v_iload_n dX0_isDate_8 rfl ?_
    refine v_i2l dX0_isDate_9 ?_
    refine v_S1 (rm' := rX0_isMonth) dX0_isDate_10 km_X0_23 ks_X0_isMonth kz_X0 mk_X0_isMonth rfl ⟨Nat.le_of_ble_eq_true rfl, Nat.le_of_ble_eq_true rfl⟩ ⟨Nat.le_of_ble_eq_true rfl, Nat.le_of_ble_eq_true rfl⟩ (Nat.le_of_ble_eq_true rfl) ?_
    refine s_X0_isMonth hst (fun rm9 em => ?_)
    refine v_if_eq 34 dX0_isDate_13 (fun h_13 => ?_) (fun h_13 => ?_)
    · refine v_iconst dX0_isDate_34 ?_
      exact v_zret dX0_isDate_35 rfl (by exact hQ _ (by omega)) (by first | exact Or.inl rfl | exact Or.inr rfl | omega)
    · refine v_iload_n dX0_isDate_16 rfl ?_
      refine v_iconst dX0_isDate_17 ?_
      refine v_icmp_lt 34 dX0_isDate_18 (fun h_18 => ?_) (fun h_18 => ?_)
      · refine v_iconst dX0_isDate_34 ?_
        exact v_zret dX0_isDate_35 rfl (by exact hQ _ (by omega)) (by first | exact Or.inl rfl | exact Or.inr rfl | omega)
      · refine v_iload_n dX0_isDate_21 rfl ?_
        refine v_iload_n dX0_isDate_22 rfl ?_
        refine v_iload_n dX0_isDate_23 rfl ?_
        refine v_S2 (rm' := rX0_monthLength) dX0_isDate_24 km_X0_26 ks_X0_monthLength kz_X0 mk_X0_monthLength rfl ⟨Nat.le_of_ble_eq_true rfl, Nat.le_of_ble_eq_true rfl⟩ ⟨Nat.le_of_ble_eq_true rfl, Nat.le_of_ble_eq_true rfl⟩ (Nat.le_of_ble_eq_true rfl) ?_
        refine s_X0_monthLength hst ?_
        refine v_icmp_gt 34 dX0_isDate_27 (fun h_27 => ?_) (fun h_27 => ?_)
        · refine v_iconst dX0_isDate_34 ?_
          exact v_zret dX0_isDate_35 rfl (by exact hQ _ (by omega)) (by first | exact Or.inl rfl | exact Or.inr rfl | omega)
        · refine v_iconst dX0_isDate_30 ?_
          refine v_goto 35 dX0_isDate_31 ?_
          exact v_zret dX0_isDate_35 rfl (by exact hQ _ (by omega)) (by first | exact Or.inl rfl | exact Or.inr rfl | omega)
set_option maxRecDepth 100000 in
set_option maxHeartbeats 4000000 in
theorem s_X0_isTime {l : Launch} {G : GG} {w : AH} {Q : Option Value → AH → Prop} {X : String → AH → Prop} (hst : l.stackTraces = false) {h mi se na : Int} (hQ : ∀ r : Int, (((0 ≤ h ∧ h ≤ 23 ∧ 0 ≤ mi ∧ mi ≤ 59 ∧ 0 ≤ se ∧ se ≤ 59 ∧ 0 ≤ na ∧ na ≤ 999999999) ∧ r = 1) ∨ (¬ (0 ≤ h ∧ h ≤ 23 ∧ 0 ≤ mi ∧ mi ≤ 59 ∧ 0 ≤ se ∧ se ≤ 59 ∧ 0 ≤ na ∧ na ≤ 999999999) ∧ r = 0)) → Q (some (.int (iI r))) w) (hh : -2147483648 ≤ h ∧ h ≤ 2147483647 := by omega) (hmi : -2147483648 ≤ mi ∧ mi ≤ 2147483647 := by omega) (hse : -2147483648 ≤ se ∧ se ≤ 2147483647 := by omega) (hna : -2147483648 ≤ na ∧ na ≤ 2147483647 := by omega) : Ct l G mX0_isTime rX0_isTime [.int (iI h), .int (iI mi), .int (iI se), .int (iI na)] w Q X := by
  refine ct_of hst mk_X0_isTime (Nat.le_of_ble_eq_true rfl) ?_
  refine v_iload_n dX0_isTime_0 rfl ?_
  refine v_if_lt 47 dX0_isTime_1 (fun h_1 => ?_) (fun h_1 => ?_)
  · refine v_iconst dX0_isTime_47 ?_
    exact v_zret dX0_isTime_48 rfl (by exact hQ _ (by omega)) (by first | exact Or.inl rfl | exact Or.inr rfl | omega)
  · refine v_iload_n dX0_isTime_4 rfl ?_
    refine v_bipush dX0_isTime_5 ?_
    refine v_icmp_gt 47 dX0_isTime_7 (fun h_7 => ?_) (fun h_7 => ?_)
    · refine v_iconst dX0_isTime_47 ?_
      exact v_zret dX0_isTime_48 rfl (by exact hQ _ (by omega)) (by first | exact Or.inl rfl | exact Or.inr rfl | omega)
    · refine v_iload_n dX0_isTime_10 rfl ?_
      refine v_if_lt 47 dX0_isTime_11 (fun h_11 => ?_) (fun h_11 => ?_)
      · refine v_iconst dX0_isTime_47 ?_
        exact v_zret dX0_isTime_48 rfl (by exact hQ _ (by omega)) (by first | exact Or.inl rfl | exact Or.inr rfl | omega)
      · refine v_iload_n dX0_isTime_14 rfl ?_
        refine v_bipush dX0_isTime_15 ?_
        refine v_icmp_gt 47 dX0_isTime_17 (fun h_17 => ?_) (fun h_17 => ?_)
        · refine v_iconst dX0_isTime_47 ?_
          exact v_zret dX0_isTime_48 rfl (by exact hQ _ (by omega)) (by first | exact Or.inl rfl | exact Or.inr rfl | omega)
        · refine v_iload_n dX0_isTime_20 rfl ?_
          refine v_if_lt 47 dX0_isTime_21 (fun h_21 => ?_) (fun h_21 => ?_)
          · refine v_iconst dX0_isTime_47 ?_
            exact v_zret dX0_isTime_48 rfl (by exact hQ _ (by omega)) (by first | exact Or.inl rfl | exact Or.inr rfl | omega)
          · refine v_iload_n dX0_isTime_24 rfl ?_
            refine v_bipush dX0_isTime_25 ?_
            refine v_icmp_gt 47 dX0_isTime_27 (fun h_27 => ?_) (fun h_27 => ?_)
            · refine v_iconst dX0_isTime_47 ?_
              exact v_zret dX0_isTime_48 rfl (by exact hQ _ (by omega)) (by first | exact Or.inl rfl | exact Or.inr rfl | omega)
            · refine v_iload_n dX0_isTime_30 rfl ?_
              refine v_if_lt 47 dX0_isTime_31 (fun h_31 => ?_) (fun h_31 => ?_)
              · refine v_iconst dX0_isTime_47 ?_
                exact v_zret dX0_isTime_48 rfl (by exact hQ _ (by omega)) (by first | exact Or.inl rfl | exact Or.inr rfl | omega)
              · refine v_iload_n dX0_isTime_34 rfl ?_
                refine v_i2l dX0_isTime_35 ?_
                refine v_ldc2 (1000000000) dX0_isTime_36 kl_X0_30 ?_
                refine v_lif_ge 47 dX0_isTime_39 dX0_isTime_40 (fun h_39 => ?_) (fun h_39 => ?_)
                · refine v_iconst dX0_isTime_47 ?_
                  exact v_zret dX0_isTime_48 rfl (by exact hQ _ (by omega)) (by first | exact Or.inl rfl | exact Or.inr rfl | omega)
                · refine v_iconst dX0_isTime_43 ?_
                  refine v_goto 48 dX0_isTime_44 ?_
                  exact v_zret dX0_isTime_48 rfl (by exact hQ _ (by omega)) (by first | exact Or.inl rfl | exact Or.inr rfl | omega)
set_option maxRecDepth 100000 in
set_option maxHeartbeats 4000000 in
theorem s_X0_nanoOfDay {l : Launch} {G : GG} {w : AH} {Q : Option Value → AH → Prop} {X : String → AH → Prop} (hst : l.stackTraces = false) {h mi se na : Int} (hQ : Q (some (.long (lI (h * 3600000000000 + mi * 60000000000 + se * 1000000000 + na)))) w) (hh : -2147483648 ≤ h ∧ h ≤ 2147483647 := by omega) (hmi : -2147483648 ≤ mi ∧ mi ≤ 2147483647 := by omega) (hse : -2147483648 ≤ se ∧ se ≤ 2147483647 := by omega) (hna : -2147483648 ≤ na ∧ na ≤ 2147483647 := by omega) : Ct l G mX0_nanoOfDay rX0_nanoOfDay [.int (iI h), .int (iI mi), .int (iI se), .int (iI na)] w Q X := by
  refine ct_of hst mk_X0_nanoOfDay (Nat.le_of_ble_eq_true rfl) ?_
  refine v_iload_n dX0_nanoOfDay_0 rfl ?_
  refine v_i2l dX0_nanoOfDay_1 ?_
  refine v_ldc2 (3600000000000) dX0_nanoOfDay_2 kl_X0_32 ?_
  refine v_lmul dX0_nanoOfDay_5 ?_
  refine v_iload_n dX0_nanoOfDay_6 rfl ?_
  refine v_i2l dX0_nanoOfDay_7 ?_
  refine v_ldc2 (60000000000) dX0_nanoOfDay_8 kl_X0_34 ?_
  refine v_lmul dX0_nanoOfDay_11 ?_
  refine v_ladd dX0_nanoOfDay_12 ?_
  refine v_iload_n dX0_nanoOfDay_13 rfl ?_
  refine v_i2l dX0_nanoOfDay_14 ?_
  refine v_ldc2 (1000000000) dX0_nanoOfDay_15 kl_X0_30 ?_
  refine v_lmul dX0_nanoOfDay_18 ?_
  refine v_ladd dX0_nanoOfDay_19 ?_
  refine v_iload_n dX0_nanoOfDay_20 rfl ?_
  refine v_i2l dX0_nanoOfDay_21 ?_
  refine v_ladd dX0_nanoOfDay_22 ?_
  exact v_lret dX0_nanoOfDay_23 rfl (by exact hQ)
set_option maxRecDepth 100000 in
set_option maxHeartbeats 4000000 in
theorem s_X0_dayOfYear {l : Launch} {G : GG} {w : AH} {Q : Option Value → AH → Prop} {X : String → AH → Prop} (hst : l.stackTraces = false) {y m d : Int} (hQ : Q (some (.int (iI (doy y m d)))) w) (hy : -2147483648 ≤ y ∧ y ≤ 2147483647 := by omega) (hm : 1 ≤ m ∧ m ≤ 12 := by omega) (hd : -100000 ≤ d ∧ d ≤ 100000 := by omega) : Ct l G mX0_dayOfYear rX0_dayOfYear [.int (iI y), .int (iI m), .int (iI d)] w Q X := by
  have hlp := lp_c y
  have hdo := doy_c y m d
  refine ct_of hst mk_X0_dayOfYear (Nat.le_of_ble_eq_true rfl) ?_
  refine v_sipush dX0_dayOfYear_0 ?_
  refine v_iload_n dX0_dayOfYear_3 rfl ?_
  refine v_imul dX0_dayOfYear_4 ?_
  refine v_sipush dX0_dayOfYear_5 ?_
  refine v_isub dX0_dayOfYear_8 ?_
  refine v_bipush dX0_dayOfYear_9 ?_
  refine v_idivP dX0_dayOfYear_11 ?_
  refine v_iload_n dX0_dayOfYear_12 rfl ?_
  refine v_iadd dX0_dayOfYear_13 ?_
  refine v_istore_n dX0_dayOfYear_14 (by decide) ?_
  refine v_iload_n dX0_dayOfYear_15 rfl ?_
  refine v_iconst dX0_dayOfYear_16 ?_
  refine v_icmp_gt 22 dX0_dayOfYear_17 (fun h_17 => ?_) (fun h_17 => ?_)
  · refine v_iload_n dX0_dayOfYear_22 rfl ?_
    refine v_S1 (rm' := rX0_isLeap) dX0_dayOfYear_23 km_X0_36 ks_X0_isLeap kz_X0 mk_X0_isLeap rfl ⟨Nat.le_of_ble_eq_true rfl, Nat.le_of_ble_eq_true rfl⟩ ⟨Nat.le_of_ble_eq_true rfl, Nat.le_of_ble_eq_true rfl⟩ (Nat.le_of_ble_eq_true rfl) ?_
    refine s_X0_isLeap hst ?_
    refine v_if_eq 35 dX0_dayOfYear_26 (fun h_26 => ?_) (fun h_26 => ?_)
    · refine v_iload_n dX0_dayOfYear_35 rfl ?_
      refine v_iconst dX0_dayOfYear_36 ?_
      refine v_isub dX0_dayOfYear_37 ?_
      exact v_iret dX0_dayOfYear_38 rfl (by exact qi hQ (by omega))
    · refine v_iload_n dX0_dayOfYear_29 rfl ?_
      refine v_iconst dX0_dayOfYear_30 ?_
      refine v_isub dX0_dayOfYear_31 ?_
      refine v_goto 38 dX0_dayOfYear_32 ?_
      exact v_iret dX0_dayOfYear_38 rfl (by exact qi hQ (by omega))
  · refine v_iload_n dX0_dayOfYear_20 rfl ?_
    exact v_iret dX0_dayOfYear_21 rfl (by exact qi hQ (by omega))
set_option maxRecDepth 100000 in
set_option maxHeartbeats 4000000 in
theorem s_X0_daysBeforeYear {l : Launch} {G : GG} {w : AH} {Q : Option Value → AH → Prop} {X : String → AH → Prop} (hst : l.stackTraces = false) {y : Int} (hQ : Q (some (.long (lI (dby y)))) w) (hy : -2000000000 ≤ y ∧ y ≤ 2000000000 := by omega) : Ct l G mX0_daysBeforeYear rX0_daysBeforeYear [.int (iI y)] w Q X := by
  refine ct_of hst mk_X0_daysBeforeYear (Nat.le_of_ble_eq_true rfl) ?_
  refine v_ldc2 (365) dX0_daysBeforeYear_0 kl_X0_70 ?_
  refine v_iload_n dX0_daysBeforeYear_3 rfl ?_
  refine v_i2l dX0_daysBeforeYear_4 ?_
  refine v_lmul dX0_daysBeforeYear_5 ?_
  refine v_iload_n dX0_daysBeforeYear_6 rfl ?_
  refine v_iconst dX0_daysBeforeYear_7 ?_
  refine v_iadd dX0_daysBeforeYear_8 ?_
  refine v_iconst dX0_daysBeforeYear_9 ?_
  refine v_S2 (rm' := rJ9_floorDiv_7cf53) dX0_daysBeforeYear_10 km_X0_72 ks_J9_floorDiv_7cf53 kz_J9 mk_J9_floorDiv_7cf53 rfl ⟨Nat.le_of_ble_eq_true rfl, Nat.le_of_ble_eq_true rfl⟩ ⟨Nat.le_of_ble_eq_true rfl, Nat.le_of_ble_eq_true rfl⟩ (Nat.le_of_ble_eq_true rfl) ?_
  refine s_J9_floorDiv_7cf53 hst ?_
  refine v_i2l dX0_daysBeforeYear_13 ?_
  refine v_ladd dX0_daysBeforeYear_14 ?_
  refine v_iload_n dX0_daysBeforeYear_15 rfl ?_
  refine v_bipush dX0_daysBeforeYear_16 ?_
  refine v_iadd dX0_daysBeforeYear_18 ?_
  refine v_bipush dX0_daysBeforeYear_19 ?_
  refine v_S2 (rm' := rJ9_floorDiv_7cf53) dX0_daysBeforeYear_21 km_X0_72 ks_J9_floorDiv_7cf53 kz_J9 mk_J9_floorDiv_7cf53 rfl ⟨Nat.le_of_ble_eq_true rfl, Nat.le_of_ble_eq_true rfl⟩ ⟨Nat.le_of_ble_eq_true rfl, Nat.le_of_ble_eq_true rfl⟩ (Nat.le_of_ble_eq_true rfl) ?_
  refine s_J9_floorDiv_7cf53 hst ?_
  refine v_i2l dX0_daysBeforeYear_24 ?_
  refine v_lsub dX0_daysBeforeYear_25 ?_
  refine v_iload_n dX0_daysBeforeYear_26 rfl ?_
  refine v_sipush dX0_daysBeforeYear_27 ?_
  refine v_iadd dX0_daysBeforeYear_30 ?_
  refine v_sipush dX0_daysBeforeYear_31 ?_
  refine v_S2 (rm' := rJ9_floorDiv_7cf53) dX0_daysBeforeYear_34 km_X0_72 ks_J9_floorDiv_7cf53 kz_J9 mk_J9_floorDiv_7cf53 rfl ⟨Nat.le_of_ble_eq_true rfl, Nat.le_of_ble_eq_true rfl⟩ ⟨Nat.le_of_ble_eq_true rfl, Nat.le_of_ble_eq_true rfl⟩ (Nat.le_of_ble_eq_true rfl) ?_
  refine s_J9_floorDiv_7cf53 hst ?_
  refine v_i2l dX0_daysBeforeYear_37 ?_
  refine v_ladd dX0_daysBeforeYear_38 ?_
  exact v_lret dX0_daysBeforeYear_39 rfl (by exact ql hQ (by unfold dby; omega))
set_option maxRecDepth 100000 in
set_option maxHeartbeats 4000000 in
theorem s_X0_epochDay {l : Launch} {G : GG} {w : AH} {Q : Option Value → AH → Prop} {X : String → AH → Prop} (hst : l.stackTraces = false) {y m d : Int} (hQ : Q (some (.long (lI (ed y m d)))) w) (hy : -2000000000 ≤ y ∧ y ≤ 2000000000 := by omega) (hm : 1 ≤ m ∧ m ≤ 12 := by omega) (hd : -100000 ≤ d ∧ d ≤ 100000 := by omega) : Ct l G mX0_epochDay rX0_epochDay [.int (iI y), .int (iI m), .int (iI d)] w Q X := by
  have hlp := lp_c y
  have hdo := doy_c y m d
  refine ct_of hst mk_X0_epochDay (Nat.le_of_ble_eq_true rfl) ?_
  refine v_iload_n dX0_epochDay_0 rfl ?_
  refine v_S1 (rm' := rX0_daysBeforeYear) dX0_epochDay_1 km_X0_40 ks_X0_daysBeforeYear kz_X0 mk_X0_daysBeforeYear rfl ⟨Nat.le_of_ble_eq_true rfl, Nat.le_of_ble_eq_true rfl⟩ ⟨Nat.le_of_ble_eq_true rfl, Nat.le_of_ble_eq_true rfl⟩ (Nat.le_of_ble_eq_true rfl) ?_
  refine s_X0_daysBeforeYear hst ?_
  refine v_iload_n dX0_epochDay_4 rfl ?_
  refine v_iload_n dX0_epochDay_5 rfl ?_
  refine v_iload_n dX0_epochDay_6 rfl ?_
  refine v_S3 (rm' := rX0_dayOfYear) dX0_epochDay_7 km_X0_44 ks_X0_dayOfYear kz_X0 mk_X0_dayOfYear rfl ⟨Nat.le_of_ble_eq_true rfl, Nat.le_of_ble_eq_true rfl⟩ ⟨Nat.le_of_ble_eq_true rfl, Nat.le_of_ble_eq_true rfl⟩ (Nat.le_of_ble_eq_true rfl) ?_
  refine s_X0_dayOfYear hst ?_
  refine v_i2l dX0_epochDay_10 ?_
  refine v_ladd dX0_epochDay_11 ?_
  refine v_lconst1 dX0_epochDay_12 ?_
  refine v_lsub dX0_epochDay_13 ?_
  refine v_ldc2 (719528) dX0_epochDay_14 kl_X0_48 ?_
  refine v_lsub dX0_epochDay_17 ?_
  exact v_lret dX0_epochDay_18 rfl (by exact ql hQ (by unfold ed; omega))
set_option maxRecDepth 100000 in
set_option maxHeartbeats 4000000 in
theorem s_X0_weekday {l : Launch} {G : GG} {w : AH} {Q : Option Value → AH → Prop} {X : String → AH → Prop} (hst : l.stackTraces = false) {e : Int} (hQ : Q (some (.int (iI (wd e)))) w) (he : -1000000000000000 ≤ e ∧ e ≤ 1000000000000000 := by omega) : Ct l G mX0_weekday rX0_weekday [.long (lI e)] w Q X := by
  refine ct_of hst mk_X0_weekday (Nat.le_of_ble_eq_true rfl) ?_
  refine v_lload_n dX0_weekday_0 rfl ?_
  refine v_ldc2 (3) dX0_weekday_1 kl_X0_74 ?_
  refine v_ladd dX0_weekday_4 ?_
  refine v_ldc2 (7) dX0_weekday_5 kl_X0_15 ?_
  refine v_S2 (rm' := rJ9_floorMod_f86c9) dX0_weekday_8 km_X0_56 ks_J9_floorMod_f86c9 kz_J9 mk_J9_floorMod_f86c9 rfl ⟨Nat.le_of_ble_eq_true rfl, Nat.le_of_ble_eq_true rfl⟩ ⟨Nat.le_of_ble_eq_true rfl, Nat.le_of_ble_eq_true rfl⟩ (Nat.le_of_ble_eq_true rfl) ?_
  refine s_J9_floorMod_f86c9 hst ?_
  refine v_l2i dX0_weekday_11 ?_
  refine v_iconst dX0_weekday_12 ?_
  refine v_iadd dX0_weekday_13 ?_
  exact v_iret dX0_weekday_14 rfl (by exact qi hQ (by unfold wd; omega))
set_option maxRecDepth 100000 in
set_option maxHeartbeats 4000000 in
theorem s_X0_weekdayFrom {l : Launch} {G : GG} {w : AH} {Q : Option Value → AH → Prop} {X : String → AH → Prop} (hst : l.stackTraces = false) {e k : Int} (hQ : Q (some (.long (lI (e + (k - wd e) % 7)))) w) (he : -1000000000000000 ≤ e ∧ e ≤ 1000000000000000 := by omega) (hk : 1 ≤ k ∧ k ≤ 7 := by omega) : Ct l G mX0_weekdayFrom rX0_weekdayFrom [.long (lI e), .int (iI k)] w Q X := by
  have hwd := wd_c e
  refine ct_of hst mk_X0_weekdayFrom (Nat.le_of_ble_eq_true rfl) ?_
  refine v_lload_n dX0_weekdayFrom_0 rfl ?_
  refine v_iload_n dX0_weekdayFrom_1 rfl ?_
  refine v_lload_n dX0_weekdayFrom_2 rfl ?_
  refine v_S1 (rm' := rX0_weekday) dX0_weekdayFrom_3 km_X0_76 ks_X0_weekday kz_X0 mk_X0_weekday rfl ⟨Nat.le_of_ble_eq_true rfl, Nat.le_of_ble_eq_true rfl⟩ ⟨Nat.le_of_ble_eq_true rfl, Nat.le_of_ble_eq_true rfl⟩ (Nat.le_of_ble_eq_true rfl) ?_
  refine s_X0_weekday hst ?_
  refine v_isub dX0_weekdayFrom_6 ?_
  refine v_bipush dX0_weekdayFrom_7 ?_
  refine v_S2 (rm' := rJ9_floorMod_7cf53) dX0_weekdayFrom_9 km_X0_80 ks_J9_floorMod_7cf53 kz_J9 mk_J9_floorMod_7cf53 rfl ⟨Nat.le_of_ble_eq_true rfl, Nat.le_of_ble_eq_true rfl⟩ ⟨Nat.le_of_ble_eq_true rfl, Nat.le_of_ble_eq_true rfl⟩ (Nat.le_of_ble_eq_true rfl) ?_
  refine s_J9_floorMod_7cf53 hst ?_
  refine v_i2l dX0_weekdayFrom_12 ?_
  refine v_ladd dX0_weekdayFrom_13 ?_
  exact v_lret dX0_weekdayFrom_14 rfl (by exact hQ)
set_option maxRecDepth 100000 in
set_option maxHeartbeats 4000000 in
theorem s_X0_weekdayUpTo {l : Launch} {G : GG} {w : AH} {Q : Option Value → AH → Prop} {X : String → AH → Prop} (hst : l.stackTraces = false) {e k : Int} (hQ : Q (some (.long (lI (e - (wd e - k) % 7)))) w) (he : -1000000000000000 ≤ e ∧ e ≤ 1000000000000000 := by omega) (hk : 1 ≤ k ∧ k ≤ 7 := by omega) : Ct l G mX0_weekdayUpTo rX0_weekdayUpTo [.long (lI e), .int (iI k)] w Q X := by
  have hwd := wd_c e
  refine ct_of hst mk_X0_weekdayUpTo (Nat.le_of_ble_eq_true rfl) ?_
  refine v_lload_n dX0_weekdayUpTo_0 rfl ?_
  refine v_lload_n dX0_weekdayUpTo_1 rfl ?_
  refine v_S1 (rm' := rX0_weekday) dX0_weekdayUpTo_2 km_X0_76 ks_X0_weekday kz_X0 mk_X0_weekday rfl ⟨Nat.le_of_ble_eq_true rfl, Nat.le_of_ble_eq_true rfl⟩ ⟨Nat.le_of_ble_eq_true rfl, Nat.le_of_ble_eq_true rfl⟩ (Nat.le_of_ble_eq_true rfl) ?_
  refine s_X0_weekday hst ?_
  refine v_iload_n dX0_weekdayUpTo_5 rfl ?_
  refine v_isub dX0_weekdayUpTo_6 ?_
  refine v_bipush dX0_weekdayUpTo_7 ?_
  refine v_S2 (rm' := rJ9_floorMod_7cf53) dX0_weekdayUpTo_9 km_X0_80 ks_J9_floorMod_7cf53 kz_J9 mk_J9_floorMod_7cf53 rfl ⟨Nat.le_of_ble_eq_true rfl, Nat.le_of_ble_eq_true rfl⟩ ⟨Nat.le_of_ble_eq_true rfl, Nat.le_of_ble_eq_true rfl⟩ (Nat.le_of_ble_eq_true rfl) ?_
  refine s_J9_floorMod_7cf53 hst ?_
  refine v_i2l dX0_weekdayUpTo_12 ?_
  refine v_lsub dX0_weekdayUpTo_13 ?_
  exact v_lret dX0_weekdayUpTo_14 rfl (by exact hQ)
set_option maxRecDepth 100000 in
set_option maxHeartbeats 4000000 in
theorem s_X0_thursday {l : Launch} {G : GG} {w : AH} {Q : Option Value → AH → Prop} {X : String → AH → Prop} (hst : l.stackTraces = false) {e : Int} (hQ : Q (some (.long (lI (e + 4 - wd e)))) w) (he : -1000000000000000 ≤ e ∧ e ≤ 1000000000000000 := by omega) : Ct l G mX0_thursday rX0_thursday [.long (lI e)] w Q X := by
  have hwd := wd_c e
  refine ct_of hst mk_X0_thursday (Nat.le_of_ble_eq_true rfl) ?_
  refine v_lload_n dX0_thursday_0 rfl ?_
  refine v_ldc2 (4) dX0_thursday_1 kl_X0_82 ?_
  refine v_ladd dX0_thursday_4 ?_
  refine v_lload_n dX0_thursday_5 rfl ?_
  refine v_S1 (rm' := rX0_weekday) dX0_thursday_6 km_X0_76 ks_X0_weekday kz_X0 mk_X0_weekday rfl ⟨Nat.le_of_ble_eq_true rfl, Nat.le_of_ble_eq_true rfl⟩ ⟨Nat.le_of_ble_eq_true rfl, Nat.le_of_ble_eq_true rfl⟩ (Nat.le_of_ble_eq_true rfl) ?_
  refine s_X0_weekday hst ?_
  refine v_i2l dX0_thursday_9 ?_
  refine v_lsub dX0_thursday_10 ?_
  exact v_lret dX0_thursday_11 rfl (by exact hQ)
set_option maxRecDepth 100000 in
set_option maxHeartbeats 4000000 in
theorem s_X0_yearOfDay {l : Launch} {G : GG} {w : AH} {Q : Option Value → AH → Prop} {X : String → AH → Prop} (hst : l.stackTraces = false) {e : Int} (hQ : Q (some (.int (iI (yr e)))) w) (he : -100000000 ≤ e ∧ e ≤ 100000000 := by omega) : Ct l G mX0_yearOfDay rX0_yearOfDay [.long (lI e)] w Q X := by
  refine ct_of hst mk_X0_yearOfDay (Nat.le_of_ble_eq_true rfl) ?_
  refine v_lload_n dX0_yearOfDay_0 rfl ?_
  refine v_ldc2 (719528) dX0_yearOfDay_1 kl_X0_48 ?_
  refine v_ladd dX0_yearOfDay_4 ?_
  refine v_lstore_n dX0_yearOfDay_5 (by decide) ?_
  refine v_lload_n dX0_yearOfDay_6 rfl ?_
  refine v_ldc2 (400) dX0_yearOfDay_7 kl_X0_66 ?_
  refine v_lmul dX0_yearOfDay_10 ?_
  refine v_ldc2 (146097) dX0_yearOfDay_11 kl_X0_68 ?_
  refine v_S2 (rm' := rJ9_floorDiv_f86c9) dX0_yearOfDay_14 km_X0_50 ks_J9_floorDiv_f86c9 kz_J9 mk_J9_floorDiv_f86c9 rfl ⟨Nat.le_of_ble_eq_true rfl, Nat.le_of_ble_eq_true rfl⟩ ⟨Nat.le_of_ble_eq_true rfl, Nat.le_of_ble_eq_true rfl⟩ (Nat.le_of_ble_eq_true rfl) ?_
  refine s_J9_floorDiv_f86c9 hst ?_
  refine v_l2i dX0_yearOfDay_17 ?_
  refine v_istore dX0_yearOfDay_18 (by decide) ?_
  refine v_iload dX0_yearOfDay_20 rfl ?_
  refine v_S1 (rm' := rX0_daysBeforeYear) dX0_yearOfDay_22 km_X0_40 ks_X0_daysBeforeYear kz_X0 mk_X0_daysBeforeYear rfl ⟨Nat.le_of_ble_eq_true rfl, Nat.le_of_ble_eq_true rfl⟩ ⟨Nat.le_of_ble_eq_true rfl, Nat.le_of_ble_eq_true rfl⟩ (Nat.le_of_ble_eq_true rfl) ?_
  refine s_X0_daysBeforeYear hst ?_
  have hd1 : dby ((e + 719528) * 400 / 146097) = 365 * ((e + 719528) * 400 / 146097) + ((e + 719528) * 400 / 146097 + 3) / 4 - ((e + 719528) * 400 / 146097 + 99) / 100 + ((e + 719528) * 400 / 146097 + 399) / 400 := rfl
  refine v_lload_n dX0_yearOfDay_25 rfl ?_
  refine v_lif_le 35 dX0_yearOfDay_26 dX0_yearOfDay_27 (fun h_26 => ?_) (fun h_26 => ?_)
  · refine v_iload dX0_yearOfDay_35 rfl ?_
    refine v_iconst dX0_yearOfDay_37 ?_
    refine v_iadd dX0_yearOfDay_38 ?_
    refine v_S1 (rm' := rX0_daysBeforeYear) dX0_yearOfDay_39 km_X0_40 ks_X0_daysBeforeYear kz_X0 mk_X0_daysBeforeYear rfl ⟨Nat.le_of_ble_eq_true rfl, Nat.le_of_ble_eq_true rfl⟩ ⟨Nat.le_of_ble_eq_true rfl, Nat.le_of_ble_eq_true rfl⟩ (Nat.le_of_ble_eq_true rfl) ?_
    refine s_X0_daysBeforeYear hst ?_
    have hd2 : dby ((e + 719528) * 400 / 146097 + 1) = 365 * ((e + 719528) * 400 / 146097 + 1) + ((e + 719528) * 400 / 146097 + 1 + 3) / 4 - ((e + 719528) * 400 / 146097 + 1 + 99) / 100 + ((e + 719528) * 400 / 146097 + 1 + 399) / 400 := rfl
    refine v_lload_n dX0_yearOfDay_42 rfl ?_
    refine v_lif_gt 54 dX0_yearOfDay_43 dX0_yearOfDay_44 (fun h_43 => ?_) (fun h_43 => ?_)
    · refine v_iload dX0_yearOfDay_54 rfl ?_
      exact v_iret dX0_yearOfDay_56 rfl (by exact qi hQ (by unfold yr; first | (rw [if_pos (show e + 719528 < dby ((e + 719528) * 400 / 146097) by omega)]) | (rw [if_neg (show ¬ e + 719528 < dby ((e + 719528) * 400 / 146097) by omega), if_pos (show dby ((e + 719528) * 400 / 146097 + 1) ≤ e + 719528 by omega)]) | (rw [if_neg (show ¬ e + 719528 < dby ((e + 719528) * 400 / 146097) by omega), if_neg (show ¬ dby ((e + 719528) * 400 / 146097 + 1) ≤ e + 719528 by omega)])))
    · refine v_iload dX0_yearOfDay_47 rfl ?_
      refine v_iconst dX0_yearOfDay_49 ?_
      refine v_iadd dX0_yearOfDay_50 ?_
      refine v_goto 56 dX0_yearOfDay_51 ?_
      exact v_iret dX0_yearOfDay_56 rfl (by exact qi hQ (by unfold yr; first | (rw [if_pos (show e + 719528 < dby ((e + 719528) * 400 / 146097) by omega)]) | (rw [if_neg (show ¬ e + 719528 < dby ((e + 719528) * 400 / 146097) by omega), if_pos (show dby ((e + 719528) * 400 / 146097 + 1) ≤ e + 719528 by omega)]) | (rw [if_neg (show ¬ e + 719528 < dby ((e + 719528) * 400 / 146097) by omega), if_neg (show ¬ dby ((e + 719528) * 400 / 146097 + 1) ≤ e + 719528 by omega)])))
  · refine v_iload dX0_yearOfDay_30 rfl ?_
    refine v_iconst dX0_yearOfDay_32 ?_
    refine v_isub dX0_yearOfDay_33 ?_
    exact v_iret dX0_yearOfDay_34 rfl (by exact qi hQ (by unfold yr; first | (rw [if_pos (show e + 719528 < dby ((e + 719528) * 400 / 146097) by omega)]) | (rw [if_neg (show ¬ e + 719528 < dby ((e + 719528) * 400 / 146097) by omega), if_pos (show dby ((e + 719528) * 400 / 146097 + 1) ≤ e + 719528 by omega)]) | (rw [if_neg (show ¬ e + 719528 < dby ((e + 719528) * 400 / 146097) by omega), if_neg (show ¬ dby ((e + 719528) * 400 / 146097 + 1) ≤ e + 719528 by omega)])))
set_option maxRecDepth 100000 in
set_option maxHeartbeats 4000000 in
theorem s_X0_dayInMonth {l : Launch} {G : GG} {w : AH} {Q : Option Value → AH → Prop} {X : String → AH → Prop} (hst : l.stackTraces = false) {n d : Int} (hQ : Q (some (.long (lI (ed (n / 12) (n % 12 + 1) (if d ≤ lenM (n / 12) (n % 12 + 1) then d else lenM (n / 12) (n % 12 + 1)))))) w) (hn : -1000000000 ≤ n ∧ n ≤ 1000000000 := by omega) (hd : -100000 ≤ d ∧ d ≤ 100000 := by omega) : Ct l G mX0_dayInMonth rX0_dayInMonth [.long (lI n), .int (iI d)] w Q X := by
  have hlen := lenM_rng (n / 12) (n % 12 + 1)
  refine ct_of hst mk_X0_dayInMonth (Nat.le_of_ble_eq_true rfl) ?_
  refine v_lload_n dX0_dayInMonth_0 rfl ?_
  refine v_ldc2 (12) dX0_dayInMonth_1 kl_X0_13 ?_
  refine v_S2 (rm' := rJ9_floorDiv_f86c9) dX0_dayInMonth_4 km_X0_50 ks_J9_floorDiv_f86c9 kz_J9 mk_J9_floorDiv_f86c9 rfl ⟨Nat.le_of_ble_eq_true rfl, Nat.le_of_ble_eq_true rfl⟩ ⟨Nat.le_of_ble_eq_true rfl, Nat.le_of_ble_eq_true rfl⟩ (Nat.le_of_ble_eq_true rfl) ?_
  refine s_J9_floorDiv_f86c9 hst ?_
  refine v_l2i dX0_dayInMonth_7 ?_
  refine v_istore_n dX0_dayInMonth_8 (by decide) ?_
  refine v_lload_n dX0_dayInMonth_9 rfl ?_
  refine v_ldc2 (12) dX0_dayInMonth_10 kl_X0_13 ?_
  refine v_S2 (rm' := rJ9_floorMod_f86c9) dX0_dayInMonth_13 km_X0_56 ks_J9_floorMod_f86c9 kz_J9 mk_J9_floorMod_f86c9 rfl ⟨Nat.le_of_ble_eq_true rfl, Nat.le_of_ble_eq_true rfl⟩ ⟨Nat.le_of_ble_eq_true rfl, Nat.le_of_ble_eq_true rfl⟩ (Nat.le_of_ble_eq_true rfl) ?_
  refine s_J9_floorMod_f86c9 hst ?_
  refine v_l2i dX0_dayInMonth_16 ?_
  refine v_iconst dX0_dayInMonth_17 ?_
  refine v_iadd dX0_dayInMonth_18 ?_
  refine v_istore dX0_dayInMonth_19 (by decide) ?_
  refine v_iload_n dX0_dayInMonth_21 rfl ?_
  refine v_iload dX0_dayInMonth_22 rfl ?_
  refine v_iload_n dX0_dayInMonth_24 rfl ?_
  refine v_iload_n dX0_dayInMonth_25 rfl ?_
  refine v_iload dX0_dayInMonth_26 rfl ?_
  refine v_S2 (rm' := rX0_monthLength) dX0_dayInMonth_28 km_X0_26 ks_X0_monthLength kz_X0 mk_X0_monthLength rfl ⟨Nat.le_of_ble_eq_true rfl, Nat.le_of_ble_eq_true rfl⟩ ⟨Nat.le_of_ble_eq_true rfl, Nat.le_of_ble_eq_true rfl⟩ (Nat.le_of_ble_eq_true rfl) ?_
  refine s_X0_monthLength hst ?_
  refine v_S2 (rm' := rJ9_min_7cf53) dX0_dayInMonth_31 km_X0_59 ks_J9_min_7cf53 kz_J9 mk_J9_min_7cf53 rfl ⟨Nat.le_of_ble_eq_true rfl, Nat.le_of_ble_eq_true rfl⟩ ⟨Nat.le_of_ble_eq_true rfl, Nat.le_of_ble_eq_true rfl⟩ (Nat.le_of_ble_eq_true rfl) ?_
  refine s_J9_min_7cf53 hst (fun rmin emin => ?_)
  refine v_S3 (rm' := rX0_epochDay) dX0_dayInMonth_34 km_X0_62 ks_X0_epochDay kz_X0 mk_X0_epochDay rfl ⟨Nat.le_of_ble_eq_true rfl, Nat.le_of_ble_eq_true rfl⟩ ⟨Nat.le_of_ble_eq_true rfl, Nat.le_of_ble_eq_true rfl⟩ (Nat.le_of_ble_eq_true rfl) ?_
  refine s_X0_epochDay hst ?_
  exact v_lret dX0_dayInMonth_37 rfl (by exact ql hQ (by rw [show (if d ≤ lenM (n / 12) (n % 12 + 1) then d else lenM (n / 12) (n % 12 + 1)) = rmin by split <;> omega]))
set_option maxRecDepth 100000 in
set_option maxHeartbeats 4000000 in
theorem s_X0_week {l : Launch} {G : GG} {w : AH} {Q : Option Value → AH → Prop} {X : String → AH → Prop} (hst : l.stackTraces = false) {e : Int} (hQ : Q (some (.int (iI ((e + 4 - wd e - ed (yr (e + 4 - wd e)) 1 1) / 7 + 1)))) w) (he : -50000000 ≤ e ∧ e ≤ 50000000 := by omega) : Ct l G mX0_week rX0_week [.long (lI e)] w Q X := by
  have hwd := wd_c e
  have hy := yr_c (e + 4 - wd e)
  have hd1 : dby (yr (e + 4 - wd e)) = 365 * yr (e + 4 - wd e) + (yr (e + 4 - wd e) + 3) / 4 - (yr (e + 4 - wd e) + 99) / 100 + (yr (e + 4 - wd e) + 399) / 400 := rfl
  have hd2 := dby_lp (yr (e + 4 - wd e))
  have hlp := lp_c (yr (e + 4 - wd e))
  have hed : ed (yr (e + 4 - wd e)) 1 1 = dby (yr (e + 4 - wd e)) + doy (yr (e + 4 - wd e)) 1 1 - 1 - 719528 := rfl
  have hdo := doy_c (yr (e + 4 - wd e)) 1 1
  refine ct_of hst mk_X0_week (Nat.le_of_ble_eq_true rfl) ?_
  refine v_lload_n dX0_week_0 rfl ?_
  refine v_S1 (rm' := rX0_thursday) dX0_week_1 km_X0_84 ks_X0_thursday kz_X0 mk_X0_thursday rfl ⟨Nat.le_of_ble_eq_true rfl, Nat.le_of_ble_eq_true rfl⟩ ⟨Nat.le_of_ble_eq_true rfl, Nat.le_of_ble_eq_true rfl⟩ (Nat.le_of_ble_eq_true rfl) ?_
  refine s_X0_thursday hst ?_
  refine v_lstore_n dX0_week_4 (by decide) ?_
  refine v_lload_n dX0_week_5 rfl ?_
  refine v_S1 (rm' := rX0_yearOfDay) dX0_week_6 km_X0_88 ks_X0_yearOfDay kz_X0 mk_X0_yearOfDay rfl ⟨Nat.le_of_ble_eq_true rfl, Nat.le_of_ble_eq_true rfl⟩ ⟨Nat.le_of_ble_eq_true rfl, Nat.le_of_ble_eq_true rfl⟩ (Nat.le_of_ble_eq_true rfl) ?_
  refine s_X0_yearOfDay hst ?_
  refine v_iconst dX0_week_9 ?_
  refine v_iconst dX0_week_10 ?_
  refine v_S3 (rm' := rX0_epochDay) dX0_week_11 km_X0_62 ks_X0_epochDay kz_X0 mk_X0_epochDay rfl ⟨Nat.le_of_ble_eq_true rfl, Nat.le_of_ble_eq_true rfl⟩ ⟨Nat.le_of_ble_eq_true rfl, Nat.le_of_ble_eq_true rfl⟩ (Nat.le_of_ble_eq_true rfl) ?_
  refine s_X0_epochDay hst ?_
  refine v_lstore dX0_week_14 (by decide) ?_
  refine v_lload_n dX0_week_16 rfl ?_
  refine v_lload dX0_week_17 rfl ?_
  refine v_lsub dX0_week_19 ?_
  refine v_ldc2 (7) dX0_week_20 kl_X0_15 ?_
  refine v_ldivP dX0_week_23 ?_
  refine v_l2i dX0_week_24 ?_
  refine v_iconst dX0_week_25 ?_
  refine v_iadd dX0_week_26 ?_
  exact v_iret dX0_week_27 rfl (by exact hQ)
