section SF
theorem st_set {a : Nat} {w : AH} {y m d n y' m' d' : Int} {Q : Option Value → AH → Prop} {v : Option Value} (h : Q v (aup w a (stC y' m' d' n))) : Q v (aup (aup (aup w a (.inr (3, ([.int (iI y), .int (iI m), .int (iI d), .long (lI n)] : List Value).set 0 (.int (iI y'))))) a (.inr (3, (([.int (iI y), .int (iI m), .int (iI d), .long (lI n)] : List Value).set 0 (.int (iI y'))).set 1 (.int (iI m'))))) a (.inr (3, ((([.int (iI y), .int (iI m), .int (iI d), .long (lI n)] : List Value).set 0 (.int (iI y'))).set 1 (.int (iI m'))).set 2 (.int (iI d'))))) := by
  rw [aup_up, aup_up]
  exact h
end SF
set_option maxRecDepth 100000 in
set_option maxHeartbeats 4000000 in
theorem s_X4_init {l : Launch} {G : GG} {w : AH} {Q : Option Value → AH → Prop} {X : String → AH → Prop} (hst : l.stackTraces = false) {a : Nat} {y m d n : Int} (h0 : w a = some (stC y m d n)) (hQ : Q none (aup w a (stC 1970 1 1 n))) : Ct l G mX4_init rX4_init [.ref a] w Q X := by
  refine ct_of hst mk_X4_init (Nat.le_of_ble_eq_true rfl) ?_
  refine v_aload_n dX4_init_0 rfl ?_
  refine v_objInit dX4_init_1 km_X4_3 kn_obj ko_obj ?_
  refine v_aload_n dX4_init_4 rfl ?_
  refine v_sipush dX4_init_5 ?_
  refine v_put dX4_init_8 f_X4_9 (by first | exact h0 | exact aup_s) rfl rfl (Nat.le_of_ble_eq_true rfl) ?_
  refine v_aload_n dX4_init_11 rfl ?_
  refine v_iconst dX4_init_12 ?_
  refine v_put dX4_init_13 f_X4_15 (by first | exact h0 | exact aup_s) rfl rfl (Nat.le_of_ble_eq_true rfl) ?_
  refine v_aload_n dX4_init_16 rfl ?_
  refine v_iconst dX4_init_17 ?_
  refine v_put dX4_init_18 f_X4_18 (by first | exact h0 | exact aup_s) rfl rfl (Nat.le_of_ble_eq_true rfl) ?_
  exact v_vret dX4_init_21 rfl (by exact st_set hQ)
set_option maxRecDepth 100000 in
set_option maxHeartbeats 4000000 in
theorem s_X4_setDate {l : Launch} {G : GG} {w : AH} {Q : Option Value → AH → Prop} {X : String → AH → Prop} (hst : l.stackTraces = false) {a : Nat} {y m d n y' m' d' : Int} (h0 : w a = some (stC y m d n)) (hQ : Q none (aup w a (stC y' m' d' n))) : Ct l G mX4_setDate rX4_setDate [(.ref a), .int (iI y'), .int (iI m'), .int (iI d')] w Q X := by
  refine ct_of hst mk_X4_setDate (Nat.le_of_ble_eq_true rfl) ?_
  refine v_aload_n dX4_setDate_0 rfl ?_
  refine v_iload_n dX4_setDate_1 rfl ?_
  refine v_put dX4_setDate_2 f_X4_9 (by first | exact h0 | exact aup_s) rfl rfl (Nat.le_of_ble_eq_true rfl) ?_
  refine v_aload_n dX4_setDate_5 rfl ?_
  refine v_iload_n dX4_setDate_6 rfl ?_
  refine v_put dX4_setDate_7 f_X4_15 (by first | exact h0 | exact aup_s) rfl rfl (Nat.le_of_ble_eq_true rfl) ?_
  refine v_aload_n dX4_setDate_10 rfl ?_
  refine v_iload_n dX4_setDate_11 rfl ?_
  refine v_put dX4_setDate_12 f_X4_18 (by first | exact h0 | exact aup_s) rfl rfl (Nat.le_of_ble_eq_true rfl) ?_
  exact v_vret dX4_setDate_15 rfl (by exact st_set hQ)
set_option maxRecDepth 100000 in
set_option maxHeartbeats 4000000 in
theorem s_X4_setNano {l : Launch} {G : GG} {w : AH} {Q : Option Value → AH → Prop} {X : String → AH → Prop} (hst : l.stackTraces = false) {a : Nat} {y m d n n' : Int} (h0 : w a = some (stC y m d n)) (hQ : Q none (aup w a (stC y m d n'))) : Ct l G mX4_setNano rX4_setNano [(.ref a), .long (lI n')] w Q X := by
  refine ct_of hst mk_X4_setNano (Nat.le_of_ble_eq_true rfl) ?_
  refine v_aload_n dX4_setNano_0 rfl ?_
  refine v_lload_n dX4_setNano_1 rfl ?_
  refine v_put dX4_setNano_2 f_X4_21 (by first | exact h0 | exact aup_s) rfl rfl (Nat.le_of_ble_eq_true rfl) ?_
  exact v_vret dX4_setNano_5 rfl (by exact hQ)
set_option maxRecDepth 100000 in
set_option maxHeartbeats 4000000 in
theorem s_X4_epochDay {l : Launch} {G : GG} {w : AH} {Q : Option Value → AH → Prop} {X : String → AH → Prop} (hst : l.stackTraces = false) {a : Nat} {y m d n : Int} (h0 : w a = some (stC y m d n)) (hy : -9999 ≤ y ∧ y ≤ 9999) (hm : 1 ≤ m ∧ m ≤ 12) (hd : 1 ≤ d ∧ d ≤ lenM y m) (hn : 0 ≤ n ∧ n ≤ 86399999999999) (hQ : Q (some (.long (lI (ed y m d)))) w) : Ct l G mX4_epochDay rX4_epochDay [.ref a] w Q X := by
  have hlen := lenM_rng y m
  have hed := ed_rng hy hm hd
  have hwd := wd_c (ed y m d)
  have hdoy := doy_rng hm hd
  have hlp := lp_c y
  refine ct_of hst mk_X4_epochDay (Nat.le_of_ble_eq_true rfl) ?_
  refine v_aload_n dX4_epochDay_0 rfl ?_
  refine v_get dX4_epochDay_1 f_X4_9 (by first | exact h0 | exact aup_s) rfl ?_
  refine v_aload_n dX4_epochDay_4 rfl ?_
  refine v_get dX4_epochDay_5 f_X4_15 (by first | exact h0 | exact aup_s) rfl ?_
  refine v_aload_n dX4_epochDay_8 rfl ?_
  refine v_get dX4_epochDay_9 f_X4_18 (by first | exact h0 | exact aup_s) rfl ?_
  refine v_S3 (rm' := rX0_epochDay) dX4_epochDay_12 km_X4_25 ks_X0_epochDay kz_X0 mk_X0_epochDay rfl ⟨Nat.le_of_ble_eq_true rfl, Nat.le_of_ble_eq_true rfl⟩ ⟨Nat.le_of_ble_eq_true rfl, Nat.le_of_ble_eq_true rfl⟩ (Nat.le_of_ble_eq_true rfl) ?_
  refine s_X0_epochDay hst ?_
  exact v_lret dX4_epochDay_15 rfl (by exact hQ)
set_option maxRecDepth 100000 in
set_option maxHeartbeats 4000000 in
theorem s_X4_epochSecond {l : Launch} {G : GG} {w : AH} {Q : Option Value → AH → Prop} {X : String → AH → Prop} (hst : l.stackTraces = false) {a : Nat} {y m d n : Int} (h0 : w a = some (stC y m d n)) (hy : -9999 ≤ y ∧ y ≤ 9999) (hm : 1 ≤ m ∧ m ≤ 12) (hd : 1 ≤ d ∧ d ≤ lenM y m) (hn : 0 ≤ n ∧ n ≤ 86399999999999) (hQ : Q (some (.long (lI (ed y m d * 86400 + n / 1000000000)))) w) : Ct l G mX4_epochSecond rX4_epochSecond [.ref a] w Q X := by
  have hlen := lenM_rng y m
  have hed := ed_rng hy hm hd
  have hwd := wd_c (ed y m d)
  have hdoy := doy_rng hm hd
  have hlp := lp_c y
  refine ct_of hst mk_X4_epochSecond (Nat.le_of_ble_eq_true rfl) ?_
  refine v_aload_n dX4_epochSecond_0 rfl ?_
  refine v_V0 (rm' := rX4_epochDay) (RX4, TX4, 4) dX4_epochSecond_1 km_X4_31 kn_X4_epochDay kv_X4_epochDay kz_X4 mk_X4_epochDay rfl rfl (by first | exact h0 | exact aup_s) ⟨Nat.le_of_ble_eq_true rfl, Nat.le_of_ble_eq_true rfl⟩ ⟨Nat.le_of_ble_eq_true rfl, Nat.le_of_ble_eq_true rfl⟩ (Nat.le_of_ble_eq_true rfl) ?_
  refine s_X4_epochDay hst h0 hy hm hd hn ?_
  refine v_ldc2 (86400) dX4_epochSecond_4 kl_X4_34 ?_
  refine v_lmul dX4_epochSecond_7 ?_
  refine v_aload_n dX4_epochSecond_8 rfl ?_
  refine v_get dX4_epochSecond_9 f_X4_21 (by first | exact h0 | exact aup_s) rfl ?_
  refine v_ldc2 (1000000000) dX4_epochSecond_12 kl_X4_36 ?_
  refine v_ldivP dX4_epochSecond_15 ?_
  refine v_ladd dX4_epochSecond_16 ?_
  exact v_lret dX4_epochSecond_17 rfl (by exact hQ)
set_option maxRecDepth 100000 in
set_option maxHeartbeats 4000000 in
theorem s_X4_monthNumber {l : Launch} {G : GG} {w : AH} {Q : Option Value → AH → Prop} {X : String → AH → Prop} (hst : l.stackTraces = false) {a : Nat} {y m d n : Int} (h0 : w a = some (stC y m d n)) (hy : -9999 ≤ y ∧ y ≤ 9999) (hm : 1 ≤ m ∧ m ≤ 12) (hd : 1 ≤ d ∧ d ≤ lenM y m) (hn : 0 ≤ n ∧ n ≤ 86399999999999) (hQ : Q (some (.long (lI (y * 12 + m - 1)))) w) : Ct l G mX4_monthNumber rX4_monthNumber [.ref a] w Q X := by
  have hlen := lenM_rng y m
  have hed := ed_rng hy hm hd
  have hwd := wd_c (ed y m d)
  have hdoy := doy_rng hm hd
  have hlp := lp_c y
  refine ct_of hst mk_X4_monthNumber (Nat.le_of_ble_eq_true rfl) ?_
  refine v_aload_n dX4_monthNumber_0 rfl ?_
  refine v_get dX4_monthNumber_1 f_X4_9 (by first | exact h0 | exact aup_s) rfl ?_
  refine v_i2l dX4_monthNumber_4 ?_
  refine v_ldc2 (12) dX4_monthNumber_5 kl_X4_38 ?_
  refine v_lmul dX4_monthNumber_8 ?_
  refine v_aload_n dX4_monthNumber_9 rfl ?_
  refine v_get dX4_monthNumber_10 f_X4_15 (by first | exact h0 | exact aup_s) rfl ?_
  refine v_i2l dX4_monthNumber_13 ?_
  refine v_ladd dX4_monthNumber_14 ?_
  refine v_lconst1 dX4_monthNumber_15 ?_
  refine v_lsub dX4_monthNumber_16 ?_
  exact v_lret dX4_monthNumber_17 rfl (by exact hQ)
set_option maxRecDepth 100000 in
set_option maxHeartbeats 4000000 in
theorem s_X4_quarter {l : Launch} {G : GG} {w : AH} {Q : Option Value → AH → Prop} {X : String → AH → Prop} (hst : l.stackTraces = false) {a : Nat} {y m d n : Int} (h0 : w a = some (stC y m d n)) (hy : -9999 ≤ y ∧ y ≤ 9999) (hm : 1 ≤ m ∧ m ≤ 12) (hd : 1 ≤ d ∧ d ≤ lenM y m) (hn : 0 ≤ n ∧ n ≤ 86399999999999) (hQ : Q (some (.int (iI ((m + 2) / 3)))) w) : Ct l G mX4_quarter rX4_quarter [.ref a] w Q X := by
  have hlen := lenM_rng y m
  have hed := ed_rng hy hm hd
  have hwd := wd_c (ed y m d)
  have hdoy := doy_rng hm hd
  have hlp := lp_c y
  refine ct_of hst mk_X4_quarter (Nat.le_of_ble_eq_true rfl) ?_
  refine v_aload_n dX4_quarter_0 rfl ?_
  refine v_get dX4_quarter_1 f_X4_15 (by first | exact h0 | exact aup_s) rfl ?_
  refine v_iconst dX4_quarter_4 ?_
  refine v_iadd dX4_quarter_5 ?_
  refine v_iconst dX4_quarter_6 ?_
  refine v_idivP dX4_quarter_7 ?_
  exact v_iret dX4_quarter_8 rfl (by exact hQ)
set_option maxRecDepth 100000 in
set_option maxHeartbeats 4000000 in
theorem X4_sed_loop {l : Launch} {G : GG} {w : AH} {Q : Option Value → AH → Prop} {X : String → AH → Prop} (hst : l.stackTraces = false) {a : Nat} {y m d n t Y : Int} (h0 : w a = some (stC y m d n)) (hQ1 : ∀ y' m' d' : Int, (-9999 ≤ y' ∧ y' ≤ 9999) → (1 ≤ m' ∧ m' ≤ 12) → (1 ≤ d' ∧ d' ≤ lenM y' m') → ed y' m' d' = t → Q (some (.int (iI 1))) (aup w a (stC y' m' d' n))) (hY : -9999 ≤ Y ∧ Y ≤ 9999) (ht : t + 719528 < dby (Y + 1)) : ∀ (N : Nat) (k r : Int), 12 - k ≤ N → (1 ≤ k ∧ k ≤ 12) → (1 ≤ r ∧ r ≤ 400) → ed Y k r = t → V l G mX4_setEpochDay rX4_setEpochDay Q X 39 (lof [(0, .ref a), (1, .long (lI t)), (3, .int (iI Y)), (4, .int (iI r)), (5, .int (iI k))]) [] w 0 0 := by
  intro N
  have hlp := lp_c Y
  have hdl := dby_lp Y
  induction N with
  | zero =>
    intro k r hN hk hr he
    have hk12 : k = 12 := by omega
    have hlen := lenM_rng Y k
    have hlc := lenM_c Y k
    have hed : ed Y k r = dby Y + doy Y k r - 1 - 719528 := rfl
    have hdo := doy_c Y k r
    subst hk12
    refine v_iload dX4_setEpochDay_39 rfl ?_
    refine v_bipush dX4_setEpochDay_41 ?_
    refine v_icmp_ge 74 dX4_setEpochDay_43 (fun h_43 => ?_) (fun h_43 => ?_)
    · refine v_aload_n dX4_setEpochDay_74 rfl ?_
      refine v_iload_n dX4_setEpochDay_75 rfl ?_
      refine v_iload dX4_setEpochDay_76 rfl ?_
      refine v_iload dX4_setEpochDay_78 rfl ?_
      refine v_V3 (rm' := rX4_setDate) (RX4, TX4, 4) dX4_setEpochDay_80 km_X4_52 kn_X4_setDate kv_X4_setDate kz_X4 mk_X4_setDate rfl rfl (by first | exact h0 | exact aup_s) ⟨Nat.le_of_ble_eq_true rfl, Nat.le_of_ble_eq_true rfl⟩ ⟨Nat.le_of_ble_eq_true rfl, Nat.le_of_ble_eq_true rfl⟩ (Nat.le_of_ble_eq_true rfl) ?_
      refine s_X4_setDate hst h0 ?_
      refine v_iconst dX4_setEpochDay_83 ?_
      exact v_zret dX4_setEpochDay_84 rfl (by exact hQ1 Y 12 r hY hk (by omega) he) (by first | exact Or.inl rfl | exact Or.inr rfl | omega)
    · refine v_iload dX4_setEpochDay_46 rfl ?_
      refine v_iload_n dX4_setEpochDay_48 rfl ?_
      refine v_iload dX4_setEpochDay_49 rfl ?_
      refine v_S2 (rm' := rX0_monthLength) dX4_setEpochDay_51 km_X4_48 ks_X0_monthLength kz_X0 mk_X0_monthLength rfl ⟨Nat.le_of_ble_eq_true rfl, Nat.le_of_ble_eq_true rfl⟩ ⟨Nat.le_of_ble_eq_true rfl, Nat.le_of_ble_eq_true rfl⟩ (Nat.le_of_ble_eq_true rfl) ?_
      refine s_X0_monthLength hst ?_
      refine v_icmp_le 74 dX4_setEpochDay_54 (fun h_54 => ?_) (fun h_54 => ?_)
      · refine v_aload_n dX4_setEpochDay_74 rfl ?_
        refine v_iload_n dX4_setEpochDay_75 rfl ?_
        refine v_iload dX4_setEpochDay_76 rfl ?_
        refine v_iload dX4_setEpochDay_78 rfl ?_
        refine v_V3 (rm' := rX4_setDate) (RX4, TX4, 4) dX4_setEpochDay_80 km_X4_52 kn_X4_setDate kv_X4_setDate kz_X4 mk_X4_setDate rfl rfl (by first | exact h0 | exact aup_s) ⟨Nat.le_of_ble_eq_true rfl, Nat.le_of_ble_eq_true rfl⟩ ⟨Nat.le_of_ble_eq_true rfl, Nat.le_of_ble_eq_true rfl⟩ (Nat.le_of_ble_eq_true rfl) ?_
        refine s_X4_setDate hst h0 ?_
        refine v_iconst dX4_setEpochDay_83 ?_
        exact v_zret dX4_setEpochDay_84 rfl (by exact hQ1 Y 12 r hY hk (by omega) he) (by first | exact Or.inl rfl | exact Or.inr rfl | omega)
      · refine v_iload dX4_setEpochDay_57 rfl ?_
        refine v_iload_n dX4_setEpochDay_59 rfl ?_
        refine v_iload dX4_setEpochDay_60 rfl ?_
        refine v_S2 (rm' := rX0_monthLength) dX4_setEpochDay_62 km_X4_48 ks_X0_monthLength kz_X0 mk_X0_monthLength rfl ⟨Nat.le_of_ble_eq_true rfl, Nat.le_of_ble_eq_true rfl⟩ ⟨Nat.le_of_ble_eq_true rfl, Nat.le_of_ble_eq_true rfl⟩ (Nat.le_of_ble_eq_true rfl) ?_
        refine s_X0_monthLength hst ?_
        refine v_isub dX4_setEpochDay_65 ?_
        refine v_istore dX4_setEpochDay_66 (by decide) ?_
        refine v_iinc dX4_setEpochDay_68 rfl ?_
        refine v_goto 39 dX4_setEpochDay_71 ?_
        exact absurd h_43 (by omega)
  | succ N ih =>
    intro k r hN hk hr he
    have hlen := lenM_rng Y k
    have hlc := lenM_c Y k
    have hed : ed Y k r = dby Y + doy Y k r - 1 - 719528 := rfl
    have hdo := doy_c Y k r
    refine v_iload dX4_setEpochDay_39 rfl ?_
    refine v_bipush dX4_setEpochDay_41 ?_
    refine v_icmp_ge 74 dX4_setEpochDay_43 (fun h_43 => ?_) (fun h_43 => ?_)
    · refine v_aload_n dX4_setEpochDay_74 rfl ?_
      refine v_iload_n dX4_setEpochDay_75 rfl ?_
      refine v_iload dX4_setEpochDay_76 rfl ?_
      refine v_iload dX4_setEpochDay_78 rfl ?_
      refine v_V3 (rm' := rX4_setDate) (RX4, TX4, 4) dX4_setEpochDay_80 km_X4_52 kn_X4_setDate kv_X4_setDate kz_X4 mk_X4_setDate rfl rfl (by first | exact h0 | exact aup_s) ⟨Nat.le_of_ble_eq_true rfl, Nat.le_of_ble_eq_true rfl⟩ ⟨Nat.le_of_ble_eq_true rfl, Nat.le_of_ble_eq_true rfl⟩ (Nat.le_of_ble_eq_true rfl) ?_
      refine s_X4_setDate hst h0 ?_
      refine v_iconst dX4_setEpochDay_83 ?_
      exact v_zret dX4_setEpochDay_84 rfl (by exact hQ1 Y k r hY hk (by omega) he) (by first | exact Or.inl rfl | exact Or.inr rfl | omega)
    · refine v_iload dX4_setEpochDay_46 rfl ?_
      refine v_iload_n dX4_setEpochDay_48 rfl ?_
      refine v_iload dX4_setEpochDay_49 rfl ?_
      refine v_S2 (rm' := rX0_monthLength) dX4_setEpochDay_51 km_X4_48 ks_X0_monthLength kz_X0 mk_X0_monthLength rfl ⟨Nat.le_of_ble_eq_true rfl, Nat.le_of_ble_eq_true rfl⟩ ⟨Nat.le_of_ble_eq_true rfl, Nat.le_of_ble_eq_true rfl⟩ (Nat.le_of_ble_eq_true rfl) ?_
      refine s_X0_monthLength hst ?_
      refine v_icmp_le 74 dX4_setEpochDay_54 (fun h_54 => ?_) (fun h_54 => ?_)
      · refine v_aload_n dX4_setEpochDay_74 rfl ?_
        refine v_iload_n dX4_setEpochDay_75 rfl ?_
        refine v_iload dX4_setEpochDay_76 rfl ?_
        refine v_iload dX4_setEpochDay_78 rfl ?_
        refine v_V3 (rm' := rX4_setDate) (RX4, TX4, 4) dX4_setEpochDay_80 km_X4_52 kn_X4_setDate kv_X4_setDate kz_X4 mk_X4_setDate rfl rfl (by first | exact h0 | exact aup_s) ⟨Nat.le_of_ble_eq_true rfl, Nat.le_of_ble_eq_true rfl⟩ ⟨Nat.le_of_ble_eq_true rfl, Nat.le_of_ble_eq_true rfl⟩ (Nat.le_of_ble_eq_true rfl) ?_
        refine s_X4_setDate hst h0 ?_
        refine v_iconst dX4_setEpochDay_83 ?_
        exact v_zret dX4_setEpochDay_84 rfl (by exact hQ1 Y k r hY hk (by omega) he) (by first | exact Or.inl rfl | exact Or.inr rfl | omega)
      · refine v_iload dX4_setEpochDay_57 rfl ?_
        refine v_iload_n dX4_setEpochDay_59 rfl ?_
        refine v_iload dX4_setEpochDay_60 rfl ?_
        refine v_S2 (rm' := rX0_monthLength) dX4_setEpochDay_62 km_X4_48 ks_X0_monthLength kz_X0 mk_X0_monthLength rfl ⟨Nat.le_of_ble_eq_true rfl, Nat.le_of_ble_eq_true rfl⟩ ⟨Nat.le_of_ble_eq_true rfl, Nat.le_of_ble_eq_true rfl⟩ (Nat.le_of_ble_eq_true rfl) ?_
        refine s_X0_monthLength hst ?_
        refine v_isub dX4_setEpochDay_65 ?_
        refine v_istore dX4_setEpochDay_66 (by decide) ?_
        refine v_iinc dX4_setEpochDay_68 rfl ?_
        refine v_goto 39 dX4_setEpochDay_71 ?_
        exact v_lof [(0, .ref a), (1, .long (lI t)), (3, .int (iI Y)), (4, .int (iI (r - lenM Y k))), (5, .int (iI (k + 1)))] (List.forall_mem_cons.mpr ⟨rfl, (List.forall_mem_cons.mpr ⟨rfl, (List.forall_mem_cons.mpr ⟨rfl, (List.forall_mem_cons.mpr ⟨rfl, (List.forall_mem_cons.mpr ⟨rfl, (fun _ h => nomatch h)⟩)⟩)⟩)⟩)⟩) (ih (k + 1) (r - lenM Y k) (by omega) (by omega) (by omega) (by rw [ed_step Y k r (by omega)]; exact he))
set_option maxRecDepth 100000 in
set_option maxHeartbeats 4000000 in
theorem s_X4_setEpochDay {l : Launch} {G : GG} {w : AH} {Q : Option Value → AH → Prop} {X : String → AH → Prop} (hst : l.stackTraces = false) {a : Nat} {y m d n t : Int} (h0 : w a = some (stC y m d n)) (hQ1 : ∀ y' m' d' : Int, (-9999 ≤ y' ∧ y' ≤ 9999) → (1 ≤ m' ∧ m' ≤ 12) → (1 ≤ d' ∧ d' ≤ lenM y' m') → ed y' m' d' = t → Q (some (.int (iI 1))) (aup w a (stC y' m' d' n))) (hQ0 : (t < -4371587 ∨ 2932896 < t) → Q (some (.int (iI 0))) w) (ht : -9223372036854775808 ≤ t ∧ t ≤ 9223372036854775807 := by omega) : Ct l G mX4_setEpochDay rX4_setEpochDay [.ref a, .long (lI t)] w Q X := by
  refine ct_of hst mk_X4_setEpochDay (Nat.le_of_ble_eq_true rfl) ?_
  refine v_lload_n dX4_setEpochDay_0 rfl ?_
  refine v_ldc2 (-4371587) dX4_setEpochDay_1 kl_X4_40 ?_
  refine v_lif_lt 16 dX4_setEpochDay_4 dX4_setEpochDay_5 (fun h_4 => ?_) (fun h_4 => ?_)
  · refine v_iconst dX4_setEpochDay_16 ?_
    exact v_zret dX4_setEpochDay_17 rfl (by exact hQ0 (by omega)) (by first | exact Or.inl rfl | exact Or.inr rfl | omega)
  · refine v_lload_n dX4_setEpochDay_8 rfl ?_
    refine v_ldc2 (2932896) dX4_setEpochDay_9 kl_X4_42 ?_
    refine v_lif_le 18 dX4_setEpochDay_12 dX4_setEpochDay_13 (fun h_12 => ?_) (fun h_12 => ?_)
    · have hyr := yr_rng (e := t) (by omega)
      have hyc := yr_c t
      have hj := ed_jan1 (yr t)
      have hdl := dby_lp (yr t)
      have hlp9 := lp_c (yr t)
      refine v_lload_n dX4_setEpochDay_18 rfl ?_
      refine v_S1 (rm' := rX0_yearOfDay) dX4_setEpochDay_19 km_X4_44 ks_X0_yearOfDay kz_X0 mk_X0_yearOfDay rfl ⟨Nat.le_of_ble_eq_true rfl, Nat.le_of_ble_eq_true rfl⟩ ⟨Nat.le_of_ble_eq_true rfl, Nat.le_of_ble_eq_true rfl⟩ (Nat.le_of_ble_eq_true rfl) ?_
      refine s_X0_yearOfDay hst ?_
      refine v_istore_n dX4_setEpochDay_22 (by decide) ?_
      refine v_lload_n dX4_setEpochDay_23 rfl ?_
      refine v_iload_n dX4_setEpochDay_24 rfl ?_
      refine v_iconst dX4_setEpochDay_25 ?_
      refine v_iconst dX4_setEpochDay_26 ?_
      refine v_S3 (rm' := rX0_epochDay) dX4_setEpochDay_27 km_X4_25 ks_X0_epochDay kz_X0 mk_X0_epochDay rfl ⟨Nat.le_of_ble_eq_true rfl, Nat.le_of_ble_eq_true rfl⟩ ⟨Nat.le_of_ble_eq_true rfl, Nat.le_of_ble_eq_true rfl⟩ (Nat.le_of_ble_eq_true rfl) ?_
      refine s_X0_epochDay hst ?_
      refine v_lsub dX4_setEpochDay_30 ?_
      refine v_l2i dX4_setEpochDay_31 ?_
      refine v_iconst dX4_setEpochDay_32 ?_
      refine v_iadd dX4_setEpochDay_33 ?_
      refine v_istore dX4_setEpochDay_34 (by decide) ?_
      refine v_iconst dX4_setEpochDay_36 ?_
      refine v_istore dX4_setEpochDay_37 (by decide) ?_
      exact v_lof [(0, .ref a), (1, .long (lI t)), (3, .int (iI (yr t))), (4, .int (iI (t - ed (yr t) 1 1 + 1))), (5, .int (iI 1))] (List.forall_mem_cons.mpr ⟨rfl, (List.forall_mem_cons.mpr ⟨rfl, (List.forall_mem_cons.mpr ⟨rfl, (List.forall_mem_cons.mpr ⟨rfl, (List.forall_mem_cons.mpr ⟨rfl, (fun _ h => nomatch h)⟩)⟩)⟩)⟩)⟩) (X4_sed_loop hst h0 hQ1 hyr (by omega) 12 1 _ (by omega) (by omega) (by omega) (by have := doy_c (yr t) 1 (t - ed (yr t) 1 1 + 1); have : ed (yr t) 1 (t - ed (yr t) 1 1 + 1) = dby (yr t) + doy (yr t) 1 (t - ed (yr t) 1 1 + 1) - 1 - 719528 := rfl; omega))
    · refine v_iconst dX4_setEpochDay_16 ?_
      exact v_zret dX4_setEpochDay_17 rfl (by exact hQ0 (by omega)) (by first | exact Or.inl rfl | exact Or.inr rfl | omega)
set_option maxRecDepth 100000 in
set_option maxHeartbeats 4000000 in
theorem s_X4_setMonthNumber {l : Launch} {G : GG} {w : AH} {Q : Option Value → AH → Prop} {X : String → AH → Prop} (hst : l.stackTraces = false) {a : Nat} {y m d n t : Int} (h0 : w a = some (stC y m d n)) (hd : 1 ≤ d ∧ d ≤ 31) (hQ1 : (-119988 ≤ t ∧ t ≤ 119999) → Q (some (.int (iI 1))) (aup w a (stC (t / 12) (t % 12 + 1) (if d ≤ lenM (t / 12) (t % 12 + 1) then d else lenM (t / 12) (t % 12 + 1)) n))) (hQ0 : (t < -119988 ∨ 119999 < t) → Q (some (.int (iI 0))) w) (ht : -9223372036854775808 ≤ t ∧ t ≤ 9223372036854775807 := by omega) : Ct l G mX4_setMonthNumber rX4_setMonthNumber [.ref a, .long (lI t)] w Q X := by
  have hlen := lenM_rng (t / 12) (t % 12 + 1)
  have hif : 1 ≤ (if d ≤ lenM (t / 12) (t % 12 + 1) then d else lenM (t / 12) (t % 12 + 1)) ∧ (if d ≤ lenM (t / 12) (t % 12 + 1) then d else lenM (t / 12) (t % 12 + 1)) ≤ lenM (t / 12) (t % 12 + 1) := by
    split <;> omega
  refine ct_of hst mk_X4_setMonthNumber (Nat.le_of_ble_eq_true rfl) ?_
  refine v_lload_n dX4_setMonthNumber_0 rfl ?_
  refine v_ldc2 (-119988) dX4_setMonthNumber_1 kl_X4_56 ?_
  refine v_lif_lt 16 dX4_setMonthNumber_4 dX4_setMonthNumber_5 (fun h_4 => ?_) (fun h_4 => ?_)
  · refine v_iconst dX4_setMonthNumber_16 ?_
    exact v_zret dX4_setMonthNumber_17 rfl (by first | exact hQ0 (by omega) | exact hQ9) (by first | exact Or.inl rfl | exact Or.inr rfl | omega)
  · refine v_lload_n dX4_setMonthNumber_8 rfl ?_
    refine v_ldc2 (119999) dX4_setMonthNumber_9 kl_X4_58 ?_
    refine v_lif_le 18 dX4_setMonthNumber_12 dX4_setMonthNumber_13 (fun h_12 => ?_) (fun h_12 => ?_)
    · refine v_aload_n dX4_setMonthNumber_18 rfl ?_
      refine v_lload_n dX4_setMonthNumber_19 rfl ?_
      refine v_aload_n dX4_setMonthNumber_20 rfl ?_
      refine v_get dX4_setMonthNumber_21 f_X4_18 (by first | exact h0 | exact aup_s) rfl ?_
      refine v_S2 (rm' := rX0_dayInMonth) dX4_setMonthNumber_24 km_X4_60 ks_X0_dayInMonth kz_X0 mk_X0_dayInMonth rfl ⟨Nat.le_of_ble_eq_true rfl, Nat.le_of_ble_eq_true rfl⟩ ⟨Nat.le_of_ble_eq_true rfl, Nat.le_of_ble_eq_true rfl⟩ (Nat.le_of_ble_eq_true rfl) ?_
      refine s_X0_dayInMonth hst ?_
      refine v_V1 (rm' := rX4_setEpochDay) (RX4, TX4, 4) dX4_setMonthNumber_27 km_X4_64 kn_X4_setEpochDay kv_X4_setEpochDay kz_X4 mk_X4_setEpochDay rfl rfl (by first | exact h0 | exact aup_s) ⟨Nat.le_of_ble_eq_true rfl, Nat.le_of_ble_eq_true rfl⟩ ⟨Nat.le_of_ble_eq_true rfl, Nat.le_of_ble_eq_true rfl⟩ (Nat.le_of_ble_eq_true rfl) ?_
      have her := ed_rng (y := t / 12) (m := t % 12 + 1) (d := (if d ≤ lenM (t / 12) (t % 12 + 1) then d else lenM (t / 12) (t % 12 + 1))) (by omega) (by omega) hif
      refine s_X4_setEpochDay hst h0 (fun y' m' d' hy' hm' hd' he' => ?_) (fun h9 => absurd h9 (by omega))
      obtain ⟨e1, e2, e3⟩ := ed_inj hm' hd' (by omega) hif he'
      subst e1 e2 e3
      have hQ9 := hQ1 (by omega)
      exact v_zret dX4_setMonthNumber_30 rfl (by first | exact hQ0 (by omega) | exact hQ9) (by first | exact Or.inl rfl | exact Or.inr rfl | omega)
    · refine v_iconst dX4_setMonthNumber_16 ?_
      exact v_zret dX4_setMonthNumber_17 rfl (by first | exact hQ0 (by omega) | exact hQ9) (by first | exact Or.inl rfl | exact Or.inr rfl | omega)
set_option maxRecDepth 100000 in
set_option maxHeartbeats 4000000 in
theorem s_X4_part {l : Launch} {G : GG} {w : AH} {Q : Option Value → AH → Prop} {X : String → AH → Prop} (hst : l.stackTraces = false) {a : Nat} {y m d n : Int} (h0 : w a = some (stC y m d n)) (hy : -9999 ≤ y ∧ y ≤ 9999) (hm : 1 ≤ m ∧ m ≤ 12) (hd : 1 ≤ d ∧ d ≤ lenM y m) (hn : 0 ≤ n ∧ n ≤ 86399999999999) {s c : Int} (hs : 0 < s ∧ s ≤ 86400000000000) (hc : 0 < c ∧ c ≤ 86400000000000) (hQ : Q (some (.long (lI (n / s % c)))) w) : Ct l G mX4_part rX4_part [.ref a, .long (lI s), .long (lI c)] w Q X := by
  refine ct_of hst mk_X4_part (Nat.le_of_ble_eq_true rfl) ?_
  refine v_lload_n dX4_part_0 rfl ?_
  refine v_lconst0 dX4_part_1 ?_
  refine v_lif_le 23 dX4_part_2 dX4_part_3 (fun h_2 => ?_) (fun h_2 => ?_)
  · refine v_lconst0 dX4_part_23 ?_
    exact v_lret dX4_part_24 rfl (by first | exact hQ | (exfalso; omega))
  · refine v_lload_n dX4_part_6 rfl ?_
    refine v_lconst0 dX4_part_7 ?_
    refine v_lif_le 23 dX4_part_8 dX4_part_9 (fun h_8 => ?_) (fun h_8 => ?_)
    · refine v_lconst0 dX4_part_23 ?_
      exact v_lret dX4_part_24 rfl (by first | exact hQ | (exfalso; omega))
    · refine v_aload_n dX4_part_12 rfl ?_
      refine v_get dX4_part_13 f_X4_21 (by first | exact h0 | exact aup_s) rfl ?_
      refine v_lload_n dX4_part_16 rfl ?_
      refine v_ldivP dX4_part_17 ?_
      refine v_lload_n dX4_part_18 rfl ?_
      have hq0 : 0 ≤ n / s := Int.ediv_nonneg (by omega) (by omega)
      have hq1 : n / s ≤ n := Int.ediv_le_self s (by omega)
      refine v_lremP dX4_part_19 ?_
      refine v_goto 24 dX4_part_20 ?_
      exact v_lret dX4_part_24 rfl (by first | exact hQ | (exfalso; omega))
set_option maxRecDepth 100000 in
set_option maxHeartbeats 4000000 in
theorem s_X4_setPart {l : Launch} {G : GG} {w : AH} {Q : Option Value → AH → Prop} {X : String → AH → Prop} (hst : l.stackTraces = false) {a : Nat} {y m d n : Int} (h0 : w a = some (stC y m d n)) (hy : -9999 ≤ y ∧ y ≤ 9999) (hm : 1 ≤ m ∧ m ≤ 12) (hd : 1 ≤ d ∧ d ≤ lenM y m) (hn : 0 ≤ n ∧ n ≤ 86399999999999) {s c v : Int} (hs : 0 < s ∧ s ≤ 86400000000000) (hc : 0 < c ∧ c ≤ 86400000000000) (hv : -9223372036854775808 ≤ v ∧ v ≤ 9223372036854775807) (hQ1 : (0 ≤ v ∧ v < c) → Q (some (.int (iI 1))) (aup w a (stC y m d (n + (v - n / s % c) * s)))) (hQ0 : (v < 0 ∨ c ≤ v) → Q (some (.int (iI 0))) w) : Ct l G mX4_setPart rX4_setPart [.ref a, .long (lI s), .long (lI c), .long (lI v)] w Q X := by
  refine ct_of hst mk_X4_setPart (Nat.le_of_ble_eq_true rfl) ?_
  refine v_lload dX4_setPart_0 rfl ?_
  refine v_lconst0 dX4_setPart_2 ?_
  refine v_lif_lt 14 dX4_setPart_3 dX4_setPart_4 (fun h_3 => ?_) (fun h_3 => ?_)
  · refine v_iconst dX4_setPart_14 ?_
    exact v_zret dX4_setPart_15 rfl (by first | exact hQ0 (by omega) | exact hQ1 (by omega)) (by first | exact Or.inl rfl | exact Or.inr rfl | omega)
  · refine v_lload dX4_setPart_7 rfl ?_
    refine v_lload_n dX4_setPart_9 rfl ?_
    refine v_lif_lt 16 dX4_setPart_10 dX4_setPart_11 (fun h_10 => ?_) (fun h_10 => ?_)
    · refine v_aload_n dX4_setPart_16 rfl ?_
      refine v_dup dX4_setPart_17 rfl ?_
      refine v_get dX4_setPart_18 f_X4_21 (by first | exact h0 | exact aup_s) rfl ?_
      refine v_lload dX4_setPart_21 rfl ?_
      refine v_aload_n dX4_setPart_23 rfl ?_
      refine v_lload_n dX4_setPart_24 rfl ?_
      refine v_lload_n dX4_setPart_25 rfl ?_
      refine v_V2 (rm' := rX4_part) (RX4, TX4, 4) dX4_setPart_26 km_X4_120 kn_X4_part kv_X4_part kz_X4 mk_X4_part rfl rfl (by first | exact h0 | exact aup_s) ⟨Nat.le_of_ble_eq_true rfl, Nat.le_of_ble_eq_true rfl⟩ ⟨Nat.le_of_ble_eq_true rfl, Nat.le_of_ble_eq_true rfl⟩ (Nat.le_of_ble_eq_true rfl) ?_
      refine s_X4_part hst h0 hy hm hd hn hs hc ?_
      refine v_lsub dX4_setPart_29 ?_
      refine v_lload_n dX4_setPart_30 rfl ?_
      refine v_lmul dX4_setPart_31 ?_
      refine v_ladd dX4_setPart_32 ?_
      refine v_put dX4_setPart_33 f_X4_21 (by first | exact h0 | exact aup_s) rfl rfl (Nat.le_of_ble_eq_true rfl) ?_
      refine v_iconst dX4_setPart_36 ?_
      exact v_zret dX4_setPart_37 rfl (by first | exact hQ0 (by omega) | exact hQ1 (by omega)) (by first | exact Or.inl rfl | exact Or.inr rfl | omega)
    · refine v_iconst dX4_setPart_14 ?_
      exact v_zret dX4_setPart_15 rfl (by first | exact hQ0 (by omega) | exact hQ1 (by omega)) (by first | exact Or.inl rfl | exact Or.inr rfl | omega)
def gF (y m d n f : Int) : Int := if f = 0 then y else if f = 1 then m else if f = 2 then d else if f = 3 then doy y m d else if f = 4 then ed y m d else if f = 5 then wd (ed y m d) else if f = 6 then n / 3600000000000 % 24 else if f = 7 then n / 60000000000 % 60 else if f = 8 then n / 1000000000 % 60 else if f = 9 then n / 1 % 1000000000 else if f = 10 then n / 1000000000 % 86400 else if f = 11 then n else if f = 12 then (m + 2) / 3 else if f = 13 then (ed y m d + 4 - wd (ed y m d) - ed (yr (ed y m d + 4 - wd (ed y m d))) 1 1) / 7 + 1 else if f = 14 then yr (ed y m d + 4 - wd (ed y m d)) else y * 12 + m - 1
set_option maxRecDepth 100000 in
set_option maxHeartbeats 4000000 in
theorem s_X4_timeField {l : Launch} {G : GG} {w : AH} {Q : Option Value → AH → Prop} {X : String → AH → Prop} (hst : l.stackTraces = false) {a : Nat} {y m d n : Int} (h0 : w a = some (stC y m d n)) (hy : -9999 ≤ y ∧ y ≤ 9999) (hm : 1 ≤ m ∧ m ≤ 12) (hd : 1 ≤ d ∧ d ≤ lenM y m) (hn : 0 ≤ n ∧ n ≤ 86399999999999) {f : Int} (hf : 6 ≤ f ∧ f ≤ 11) (hQ : Q (some (.long (lI (gF y m d n f)))) w) : Ct l G mX4_timeField rX4_timeField [.ref a, .int (iI f)] w Q X := by
  refine ct_of hst mk_X4_timeField (Nat.le_of_ble_eq_true rfl) ?_
  refine v_iload_n dX4_timeField_0 rfl ?_
  rcases (show (f < 6 ∨ 10 < f) ∨ f = 6 ∨ f = 7 ∨ f = 8 ∨ f = 9 ∨ f = 10 by omega) with s_1 | s_1 | s_1 | s_1 | s_1 | s_1
  · refine v_tabOut 89 dX4_timeField_1 ?_
    refine v_aload_n dX4_timeField_89 rfl ?_
    refine v_get dX4_timeField_90 f_X4_21 (by first | exact h0 | exact aup_s) rfl ?_
    exact v_lret dX4_timeField_93 rfl (by first | exact ql hQ rfl | (have h9 : f = 11 := (by omega); subst h9; exact ql hQ rfl) | (have h9 : f = 15 := (by omega); subst h9; exact ql hQ rfl))
  · subst s_1
    refine v_tabIn 36 dX4_timeField_1 rfl ?_
    refine v_aload_n dX4_timeField_36 rfl ?_
    refine v_ldc2 (3600000000000) dX4_timeField_37 kl_X4_116 ?_
    refine v_ldc2 (24) dX4_timeField_40 kl_X4_118 ?_
    refine v_V2 (rm' := rX4_part) (RX4, TX4, 4) dX4_timeField_43 km_X4_120 kn_X4_part kv_X4_part kz_X4 mk_X4_part rfl rfl (by first | exact h0 | exact aup_s) ⟨Nat.le_of_ble_eq_true rfl, Nat.le_of_ble_eq_true rfl⟩ ⟨Nat.le_of_ble_eq_true rfl, Nat.le_of_ble_eq_true rfl⟩ (Nat.le_of_ble_eq_true rfl) ?_
    refine s_X4_part hst h0 hy hm hd hn (by omega) (by omega) ?_
    exact v_lret dX4_timeField_46 rfl (by first | exact ql hQ rfl | (have h9 : f = 11 := (by omega); subst h9; exact ql hQ rfl) | (have h9 : f = 15 := (by omega); subst h9; exact ql hQ rfl))
  · subst s_1
    refine v_tabIn 47 dX4_timeField_1 rfl ?_
    refine v_aload_n dX4_timeField_47 rfl ?_
    refine v_ldc2 (60000000000) dX4_timeField_48 kl_X4_123 ?_
    refine v_ldc2 (60) dX4_timeField_51 kl_X4_125 ?_
    refine v_V2 (rm' := rX4_part) (RX4, TX4, 4) dX4_timeField_54 km_X4_120 kn_X4_part kv_X4_part kz_X4 mk_X4_part rfl rfl (by first | exact h0 | exact aup_s) ⟨Nat.le_of_ble_eq_true rfl, Nat.le_of_ble_eq_true rfl⟩ ⟨Nat.le_of_ble_eq_true rfl, Nat.le_of_ble_eq_true rfl⟩ (Nat.le_of_ble_eq_true rfl) ?_
    refine s_X4_part hst h0 hy hm hd hn (by omega) (by omega) ?_
    exact v_lret dX4_timeField_57 rfl (by first | exact ql hQ rfl | (have h9 : f = 11 := (by omega); subst h9; exact ql hQ rfl) | (have h9 : f = 15 := (by omega); subst h9; exact ql hQ rfl))
  · subst s_1
    refine v_tabIn 58 dX4_timeField_1 rfl ?_
    refine v_aload_n dX4_timeField_58 rfl ?_
    refine v_ldc2 (1000000000) dX4_timeField_59 kl_X4_36 ?_
    refine v_ldc2 (60) dX4_timeField_62 kl_X4_125 ?_
    refine v_V2 (rm' := rX4_part) (RX4, TX4, 4) dX4_timeField_65 km_X4_120 kn_X4_part kv_X4_part kz_X4 mk_X4_part rfl rfl (by first | exact h0 | exact aup_s) ⟨Nat.le_of_ble_eq_true rfl, Nat.le_of_ble_eq_true rfl⟩ ⟨Nat.le_of_ble_eq_true rfl, Nat.le_of_ble_eq_true rfl⟩ (Nat.le_of_ble_eq_true rfl) ?_
    refine s_X4_part hst h0 hy hm hd hn (by omega) (by omega) ?_
    exact v_lret dX4_timeField_68 rfl (by first | exact ql hQ rfl | (have h9 : f = 11 := (by omega); subst h9; exact ql hQ rfl) | (have h9 : f = 15 := (by omega); subst h9; exact ql hQ rfl))
  · subst s_1
    refine v_tabIn 69 dX4_timeField_1 rfl ?_
    refine v_aload_n dX4_timeField_69 rfl ?_
    refine v_lconst1 dX4_timeField_70 ?_
    refine v_ldc2 (1000000000) dX4_timeField_71 kl_X4_36 ?_
    refine v_V2 (rm' := rX4_part) (RX4, TX4, 4) dX4_timeField_74 km_X4_120 kn_X4_part kv_X4_part kz_X4 mk_X4_part rfl rfl (by first | exact h0 | exact aup_s) ⟨Nat.le_of_ble_eq_true rfl, Nat.le_of_ble_eq_true rfl⟩ ⟨Nat.le_of_ble_eq_true rfl, Nat.le_of_ble_eq_true rfl⟩ (Nat.le_of_ble_eq_true rfl) ?_
    refine s_X4_part hst h0 hy hm hd hn (by omega) (by omega) ?_
    exact v_lret dX4_timeField_77 rfl (by first | exact ql hQ rfl | (have h9 : f = 11 := (by omega); subst h9; exact ql hQ rfl) | (have h9 : f = 15 := (by omega); subst h9; exact ql hQ rfl))
  · subst s_1
    refine v_tabIn 78 dX4_timeField_1 rfl ?_
    refine v_aload_n dX4_timeField_78 rfl ?_
    refine v_ldc2 (1000000000) dX4_timeField_79 kl_X4_36 ?_
    refine v_ldc2 (86400) dX4_timeField_82 kl_X4_34 ?_
    refine v_V2 (rm' := rX4_part) (RX4, TX4, 4) dX4_timeField_85 km_X4_120 kn_X4_part kv_X4_part kz_X4 mk_X4_part rfl rfl (by first | exact h0 | exact aup_s) ⟨Nat.le_of_ble_eq_true rfl, Nat.le_of_ble_eq_true rfl⟩ ⟨Nat.le_of_ble_eq_true rfl, Nat.le_of_ble_eq_true rfl⟩ (Nat.le_of_ble_eq_true rfl) ?_
    refine s_X4_part hst h0 hy hm hd hn (by omega) (by omega) ?_
    exact v_lret dX4_timeField_88 rfl (by first | exact ql hQ rfl | (have h9 : f = 11 := (by omega); subst h9; exact ql hQ rfl) | (have h9 : f = 15 := (by omega); subst h9; exact ql hQ rfl))
set_option maxRecDepth 100000 in
set_option maxHeartbeats 4000000 in
theorem s_X4_dateField {l : Launch} {G : GG} {w : AH} {Q : Option Value → AH → Prop} {X : String → AH → Prop} (hst : l.stackTraces = false) {a : Nat} {y m d n : Int} (h0 : w a = some (stC y m d n)) (hy : -9999 ≤ y ∧ y ≤ 9999) (hm : 1 ≤ m ∧ m ≤ 12) (hd : 1 ≤ d ∧ d ≤ lenM y m) (hn : 0 ≤ n ∧ n ≤ 86399999999999) {f : Int} (hf : (0 ≤ f ∧ f ≤ 5) ∨ (12 ≤ f ∧ f ≤ 15)) (hQ : Q (some (.long (lI (gF y m d n f)))) w) : Ct l G mX4_dateField rX4_dateField [.ref a, .int (iI f)] w Q X := by
  have hlen := lenM_rng y m
  have hed := ed_rng hy hm hd
  have hwd := wd_c (ed y m d)
  have hdoy := doy_rng hm hd
  have hlp := lp_c y
  have hyw := yr_c (ed y m d + 4 - wd (ed y m d))
  have hdw : dby (yr (ed y m d + 4 - wd (ed y m d))) = 365 * yr (ed y m d + 4 - wd (ed y m d)) + (yr (ed y m d + 4 - wd (ed y m d)) + 3) / 4 - (yr (ed y m d + 4 - wd (ed y m d)) + 99) / 100 + (yr (ed y m d + 4 - wd (ed y m d)) + 399) / 400 := rfl
  have hjw := ed_jan1 (yr (ed y m d + 4 - wd (ed y m d)))
  have hdl := dby_lp (yr (ed y m d + 4 - wd (ed y m d)))
  have hlpw := lp_c (yr (ed y m d + 4 - wd (ed y m d)))
  refine ct_of hst mk_X4_dateField (Nat.le_of_ble_eq_true rfl) ?_
  refine v_iload_n dX4_dateField_0 rfl ?_
  rcases (show (f < 0 ∨ 14 < f) ∨ f = 0 ∨ f = 1 ∨ f = 2 ∨ f = 3 ∨ f = 4 ∨ f = 5 ∨ f = 12 ∨ f = 13 ∨ f = 14 by omega) with s_1 | s_1 | s_1 | s_1 | s_1 | s_1 | s_1 | s_1 | s_1 | s_1
  · refine v_tabOut 152 dX4_dateField_1 ?_
    refine v_aload_n dX4_dateField_152 rfl ?_
    refine v_V0 (rm' := rX4_monthNumber) (RX4, TX4, 4) dX4_dateField_153 km_X4_97 kn_X4_monthNumber kv_X4_monthNumber kz_X4 mk_X4_monthNumber rfl rfl (by first | exact h0 | exact aup_s) ⟨Nat.le_of_ble_eq_true rfl, Nat.le_of_ble_eq_true rfl⟩ ⟨Nat.le_of_ble_eq_true rfl, Nat.le_of_ble_eq_true rfl⟩ (Nat.le_of_ble_eq_true rfl) ?_
    refine s_X4_monthNumber hst h0 hy hm hd hn ?_
    exact v_lret dX4_dateField_156 rfl (by first | exact ql hQ rfl | (have h9 : f = 11 := (by omega); subst h9; exact ql hQ rfl) | (have h9 : f = 15 := (by omega); subst h9; exact ql hQ rfl))
  · subst s_1
    refine v_tabIn 76 dX4_dateField_1 rfl ?_
    refine v_aload_n dX4_dateField_76 rfl ?_
    refine v_get dX4_dateField_77 f_X4_9 (by first | exact h0 | exact aup_s) rfl ?_
    refine v_i2l dX4_dateField_80 ?_
    exact v_lret dX4_dateField_81 rfl (by first | exact ql hQ rfl | (have h9 : f = 11 := (by omega); subst h9; exact ql hQ rfl) | (have h9 : f = 15 := (by omega); subst h9; exact ql hQ rfl))
  · subst s_1
    refine v_tabIn 82 dX4_dateField_1 rfl ?_
    refine v_aload_n dX4_dateField_82 rfl ?_
    refine v_get dX4_dateField_83 f_X4_15 (by first | exact h0 | exact aup_s) rfl ?_
    refine v_i2l dX4_dateField_86 ?_
    exact v_lret dX4_dateField_87 rfl (by first | exact ql hQ rfl | (have h9 : f = 11 := (by omega); subst h9; exact ql hQ rfl) | (have h9 : f = 15 := (by omega); subst h9; exact ql hQ rfl))
  · subst s_1
    refine v_tabIn 88 dX4_dateField_1 rfl ?_
    refine v_aload_n dX4_dateField_88 rfl ?_
    refine v_get dX4_dateField_89 f_X4_18 (by first | exact h0 | exact aup_s) rfl ?_
    refine v_i2l dX4_dateField_92 ?_
    exact v_lret dX4_dateField_93 rfl (by first | exact ql hQ rfl | (have h9 : f = 11 := (by omega); subst h9; exact ql hQ rfl) | (have h9 : f = 15 := (by omega); subst h9; exact ql hQ rfl))
  · subst s_1
    refine v_tabIn 94 dX4_dateField_1 rfl ?_
    refine v_aload_n dX4_dateField_94 rfl ?_
    refine v_get dX4_dateField_95 f_X4_9 (by first | exact h0 | exact aup_s) rfl ?_
    refine v_aload_n dX4_dateField_98 rfl ?_
    refine v_get dX4_dateField_99 f_X4_15 (by first | exact h0 | exact aup_s) rfl ?_
    refine v_aload_n dX4_dateField_102 rfl ?_
    refine v_get dX4_dateField_103 f_X4_18 (by first | exact h0 | exact aup_s) rfl ?_
    refine v_S3 (rm' := rX0_dayOfYear) dX4_dateField_106 km_X4_79 ks_X0_dayOfYear kz_X0 mk_X0_dayOfYear rfl ⟨Nat.le_of_ble_eq_true rfl, Nat.le_of_ble_eq_true rfl⟩ ⟨Nat.le_of_ble_eq_true rfl, Nat.le_of_ble_eq_true rfl⟩ (Nat.le_of_ble_eq_true rfl) ?_
    refine s_X0_dayOfYear hst ?_
    refine v_i2l dX4_dateField_109 ?_
    exact v_lret dX4_dateField_110 rfl (by first | exact ql hQ rfl | (have h9 : f = 11 := (by omega); subst h9; exact ql hQ rfl) | (have h9 : f = 15 := (by omega); subst h9; exact ql hQ rfl))
  · subst s_1
    refine v_tabIn 111 dX4_dateField_1 rfl ?_
    refine v_aload_n dX4_dateField_111 rfl ?_
    refine v_V0 (rm' := rX4_epochDay) (RX4, TX4, 4) dX4_dateField_112 km_X4_31 kn_X4_epochDay kv_X4_epochDay kz_X4 mk_X4_epochDay rfl rfl (by first | exact h0 | exact aup_s) ⟨Nat.le_of_ble_eq_true rfl, Nat.le_of_ble_eq_true rfl⟩ ⟨Nat.le_of_ble_eq_true rfl, Nat.le_of_ble_eq_true rfl⟩ (Nat.le_of_ble_eq_true rfl) ?_
    refine s_X4_epochDay hst h0 hy hm hd hn ?_
    exact v_lret dX4_dateField_115 rfl (by first | exact ql hQ rfl | (have h9 : f = 11 := (by omega); subst h9; exact ql hQ rfl) | (have h9 : f = 15 := (by omega); subst h9; exact ql hQ rfl))
  · subst s_1
    refine v_tabIn 116 dX4_dateField_1 rfl ?_
    refine v_aload_n dX4_dateField_116 rfl ?_
    refine v_V0 (rm' := rX4_epochDay) (RX4, TX4, 4) dX4_dateField_117 km_X4_31 kn_X4_epochDay kv_X4_epochDay kz_X4 mk_X4_epochDay rfl rfl (by first | exact h0 | exact aup_s) ⟨Nat.le_of_ble_eq_true rfl, Nat.le_of_ble_eq_true rfl⟩ ⟨Nat.le_of_ble_eq_true rfl, Nat.le_of_ble_eq_true rfl⟩ (Nat.le_of_ble_eq_true rfl) ?_
    refine s_X4_epochDay hst h0 hy hm hd hn ?_
    refine v_S1 (rm' := rX0_weekday) dX4_dateField_120 km_X4_83 ks_X0_weekday kz_X0 mk_X0_weekday rfl ⟨Nat.le_of_ble_eq_true rfl, Nat.le_of_ble_eq_true rfl⟩ ⟨Nat.le_of_ble_eq_true rfl, Nat.le_of_ble_eq_true rfl⟩ (Nat.le_of_ble_eq_true rfl) ?_
    refine s_X0_weekday hst ?_
    refine v_i2l dX4_dateField_123 ?_
    exact v_lret dX4_dateField_124 rfl (by first | exact ql hQ rfl | (have h9 : f = 11 := (by omega); subst h9; exact ql hQ rfl) | (have h9 : f = 15 := (by omega); subst h9; exact ql hQ rfl))
  · subst s_1
    refine v_tabIn 125 dX4_dateField_1 rfl ?_
    refine v_aload_n dX4_dateField_125 rfl ?_
    refine v_V0 (rm' := rX4_quarter) (RX4, TX4, 4) dX4_dateField_126 km_X4_86 kn_X4_quarter kv_X4_quarter kz_X4 mk_X4_quarter rfl rfl (by first | exact h0 | exact aup_s) ⟨Nat.le_of_ble_eq_true rfl, Nat.le_of_ble_eq_true rfl⟩ ⟨Nat.le_of_ble_eq_true rfl, Nat.le_of_ble_eq_true rfl⟩ (Nat.le_of_ble_eq_true rfl) ?_
    refine s_X4_quarter hst h0 hy hm hd hn ?_
    refine v_i2l dX4_dateField_129 ?_
    exact v_lret dX4_dateField_130 rfl (by first | exact ql hQ rfl | (have h9 : f = 11 := (by omega); subst h9; exact ql hQ rfl) | (have h9 : f = 15 := (by omega); subst h9; exact ql hQ rfl))
  · subst s_1
    refine v_tabIn 131 dX4_dateField_1 rfl ?_
    refine v_aload_n dX4_dateField_131 rfl ?_
    refine v_V0 (rm' := rX4_epochDay) (RX4, TX4, 4) dX4_dateField_132 km_X4_31 kn_X4_epochDay kv_X4_epochDay kz_X4 mk_X4_epochDay rfl rfl (by first | exact h0 | exact aup_s) ⟨Nat.le_of_ble_eq_true rfl, Nat.le_of_ble_eq_true rfl⟩ ⟨Nat.le_of_ble_eq_true rfl, Nat.le_of_ble_eq_true rfl⟩ (Nat.le_of_ble_eq_true rfl) ?_
    refine s_X4_epochDay hst h0 hy hm hd hn ?_
    refine v_S1 (rm' := rX0_week) dX4_dateField_135 km_X4_90 ks_X0_week kz_X0 mk_X0_week rfl ⟨Nat.le_of_ble_eq_true rfl, Nat.le_of_ble_eq_true rfl⟩ ⟨Nat.le_of_ble_eq_true rfl, Nat.le_of_ble_eq_true rfl⟩ (Nat.le_of_ble_eq_true rfl) ?_
    refine s_X0_week hst ?_
    refine v_i2l dX4_dateField_138 ?_
    exact v_lret dX4_dateField_139 rfl (by first | exact ql hQ rfl | (have h9 : f = 11 := (by omega); subst h9; exact ql hQ rfl) | (have h9 : f = 15 := (by omega); subst h9; exact ql hQ rfl))
  · subst s_1
    refine v_tabIn 140 dX4_dateField_1 rfl ?_
    refine v_aload_n dX4_dateField_140 rfl ?_
    refine v_V0 (rm' := rX4_epochDay) (RX4, TX4, 4) dX4_dateField_141 km_X4_31 kn_X4_epochDay kv_X4_epochDay kz_X4 mk_X4_epochDay rfl rfl (by first | exact h0 | exact aup_s) ⟨Nat.le_of_ble_eq_true rfl, Nat.le_of_ble_eq_true rfl⟩ ⟨Nat.le_of_ble_eq_true rfl, Nat.le_of_ble_eq_true rfl⟩ (Nat.le_of_ble_eq_true rfl) ?_
    refine s_X4_epochDay hst h0 hy hm hd hn ?_
    refine v_S1 (rm' := rX0_thursday) dX4_dateField_144 km_X4_93 ks_X0_thursday kz_X0 mk_X0_thursday rfl ⟨Nat.le_of_ble_eq_true rfl, Nat.le_of_ble_eq_true rfl⟩ ⟨Nat.le_of_ble_eq_true rfl, Nat.le_of_ble_eq_true rfl⟩ (Nat.le_of_ble_eq_true rfl) ?_
    refine s_X0_thursday hst ?_
    refine v_S1 (rm' := rX0_yearOfDay) dX4_dateField_147 km_X4_44 ks_X0_yearOfDay kz_X0 mk_X0_yearOfDay rfl ⟨Nat.le_of_ble_eq_true rfl, Nat.le_of_ble_eq_true rfl⟩ ⟨Nat.le_of_ble_eq_true rfl, Nat.le_of_ble_eq_true rfl⟩ (Nat.le_of_ble_eq_true rfl) ?_
    refine s_X0_yearOfDay hst ?_
    refine v_i2l dX4_dateField_150 ?_
    exact v_lret dX4_dateField_151 rfl (by first | exact ql hQ rfl | (have h9 : f = 11 := (by omega); subst h9; exact ql hQ rfl) | (have h9 : f = 15 := (by omega); subst h9; exact ql hQ rfl))
set_option maxRecDepth 100000 in
set_option maxHeartbeats 4000000 in
theorem s_X4_adjustedDay {l : Launch} {G : GG} {w : AH} {Q : Option Value → AH → Prop} {X : String → AH → Prop} (hst : l.stackTraces = false) {a : Nat} {y m d n : Int} (h0 : w a = some (stC y m d n)) (hy : -9999 ≤ y ∧ y ≤ 9999) (hm : 1 ≤ m ∧ m ≤ 12) (hd : 1 ≤ d ∧ d ≤ lenM y m) (hn : 0 ≤ n ∧ n ≤ 86399999999999) {f k : Int} (hf : 0 ≤ f ∧ f ≤ 5) (hk : 1 ≤ k ∧ k ≤ 7) (hQ : ∀ r : Int, ((f = 0 ∧ r = ed y m d + 1 + (k - wd (ed y m d + 1)) % 7) ∨ (f = 1 ∧ r = ed y m d + (k - wd (ed y m d)) % 7) ∨ (f = 2 ∧ r = ed y m d - 1 - (wd (ed y m d - 1) - k) % 7) ∨ (f = 3 ∧ r = ed y m d - (wd (ed y m d) - k) % 7) ∨ (f = 4 ∧ r = ed y m d - d + 1 + (k - wd (ed y m d - d + 1)) % 7) ∨ (f = 5 ∧ r = ed y m d - d + lenM y m - (wd (ed y m d - d + lenM y m) - k) % 7)) → Q (some (.long (lI r))) w) : Ct l G mX4_adjustedDay rX4_adjustedDay [.ref a, .int (iI f), .int (iI k)] w Q X := by
  have hlen := lenM_rng y m
  have hed := ed_rng hy hm hd
  have hwd := wd_c (ed y m d)
  have hdoy := doy_rng hm hd
  have hlp := lp_c y
  refine ct_of hst mk_X4_adjustedDay (Nat.le_of_ble_eq_true rfl) ?_
  refine v_aload_n dX4_adjustedDay_0 rfl ?_
  refine v_V0 (rm' := rX4_epochDay) (RX4, TX4, 4) dX4_adjustedDay_1 km_X4_31 kn_X4_epochDay kv_X4_epochDay kz_X4 mk_X4_epochDay rfl rfl (by first | exact h0 | exact aup_s) ⟨Nat.le_of_ble_eq_true rfl, Nat.le_of_ble_eq_true rfl⟩ ⟨Nat.le_of_ble_eq_true rfl, Nat.le_of_ble_eq_true rfl⟩ (Nat.le_of_ble_eq_true rfl) ?_
  refine s_X4_epochDay hst h0 hy hm hd hn ?_
  refine v_lstore_n dX4_adjustedDay_4 (by decide) ?_
  refine v_iload_n dX4_adjustedDay_5 rfl ?_
  rcases (show (f < 0 ∨ 4 < f) ∨ f = 0 ∨ f = 1 ∨ f = 2 ∨ f = 3 ∨ f = 4 by omega) with s_6 | s_6 | s_6 | s_6 | s_6 | s_6
  · refine v_tabOut 82 dX4_adjustedDay_6 ?_
    refine v_lload_n dX4_adjustedDay_82 rfl ?_
    refine v_aload_n dX4_adjustedDay_83 rfl ?_
    refine v_get dX4_adjustedDay_84 f_X4_18 (by first | exact h0 | exact aup_s) rfl ?_
    refine v_i2l dX4_adjustedDay_87 ?_
    refine v_lsub dX4_adjustedDay_88 ?_
    refine v_aload_n dX4_adjustedDay_89 rfl ?_
    refine v_get dX4_adjustedDay_90 f_X4_9 (by first | exact h0 | exact aup_s) rfl ?_
    refine v_aload_n dX4_adjustedDay_93 rfl ?_
    refine v_get dX4_adjustedDay_94 f_X4_15 (by first | exact h0 | exact aup_s) rfl ?_
    refine v_S2 (rm' := rX0_monthLength) dX4_adjustedDay_97 km_X4_48 ks_X0_monthLength kz_X0 mk_X0_monthLength rfl ⟨Nat.le_of_ble_eq_true rfl, Nat.le_of_ble_eq_true rfl⟩ ⟨Nat.le_of_ble_eq_true rfl, Nat.le_of_ble_eq_true rfl⟩ (Nat.le_of_ble_eq_true rfl) ?_
    refine s_X0_monthLength hst ?_
    refine v_i2l dX4_adjustedDay_100 ?_
    refine v_ladd dX4_adjustedDay_101 ?_
    refine v_iload_n dX4_adjustedDay_102 rfl ?_
    refine v_S2 (rm' := rX0_weekdayUpTo) dX4_adjustedDay_103 km_X4_134 ks_X0_weekdayUpTo kz_X0 mk_X0_weekdayUpTo rfl ⟨Nat.le_of_ble_eq_true rfl, Nat.le_of_ble_eq_true rfl⟩ ⟨Nat.le_of_ble_eq_true rfl, Nat.le_of_ble_eq_true rfl⟩ (Nat.le_of_ble_eq_true rfl) ?_
    refine s_X0_weekdayUpTo hst ?_
    exact v_lret dX4_adjustedDay_106 rfl (by exact hQ _ (by omega))
  · subst s_6
    refine v_tabIn 40 dX4_adjustedDay_6 rfl ?_
    refine v_lload_n dX4_adjustedDay_40 rfl ?_
    refine v_lconst1 dX4_adjustedDay_41 ?_
    refine v_ladd dX4_adjustedDay_42 ?_
    refine v_iload_n dX4_adjustedDay_43 rfl ?_
    refine v_S2 (rm' := rX0_weekdayFrom) dX4_adjustedDay_44 km_X4_131 ks_X0_weekdayFrom kz_X0 mk_X0_weekdayFrom rfl ⟨Nat.le_of_ble_eq_true rfl, Nat.le_of_ble_eq_true rfl⟩ ⟨Nat.le_of_ble_eq_true rfl, Nat.le_of_ble_eq_true rfl⟩ (Nat.le_of_ble_eq_true rfl) ?_
    refine s_X0_weekdayFrom hst ?_
    exact v_lret dX4_adjustedDay_47 rfl (by exact hQ _ (by omega))
  · subst s_6
    refine v_tabIn 48 dX4_adjustedDay_6 rfl ?_
    refine v_lload_n dX4_adjustedDay_48 rfl ?_
    refine v_iload_n dX4_adjustedDay_49 rfl ?_
    refine v_S2 (rm' := rX0_weekdayFrom) dX4_adjustedDay_50 km_X4_131 ks_X0_weekdayFrom kz_X0 mk_X0_weekdayFrom rfl ⟨Nat.le_of_ble_eq_true rfl, Nat.le_of_ble_eq_true rfl⟩ ⟨Nat.le_of_ble_eq_true rfl, Nat.le_of_ble_eq_true rfl⟩ (Nat.le_of_ble_eq_true rfl) ?_
    refine s_X0_weekdayFrom hst ?_
    exact v_lret dX4_adjustedDay_53 rfl (by exact hQ _ (by omega))
  · subst s_6
    refine v_tabIn 54 dX4_adjustedDay_6 rfl ?_
    refine v_lload_n dX4_adjustedDay_54 rfl ?_
    refine v_lconst1 dX4_adjustedDay_55 ?_
    refine v_lsub dX4_adjustedDay_56 ?_
    refine v_iload_n dX4_adjustedDay_57 rfl ?_
    refine v_S2 (rm' := rX0_weekdayUpTo) dX4_adjustedDay_58 km_X4_134 ks_X0_weekdayUpTo kz_X0 mk_X0_weekdayUpTo rfl ⟨Nat.le_of_ble_eq_true rfl, Nat.le_of_ble_eq_true rfl⟩ ⟨Nat.le_of_ble_eq_true rfl, Nat.le_of_ble_eq_true rfl⟩ (Nat.le_of_ble_eq_true rfl) ?_
    refine s_X0_weekdayUpTo hst ?_
    exact v_lret dX4_adjustedDay_61 rfl (by exact hQ _ (by omega))
  · subst s_6
    refine v_tabIn 62 dX4_adjustedDay_6 rfl ?_
    refine v_lload_n dX4_adjustedDay_62 rfl ?_
    refine v_iload_n dX4_adjustedDay_63 rfl ?_
    refine v_S2 (rm' := rX0_weekdayUpTo) dX4_adjustedDay_64 km_X4_134 ks_X0_weekdayUpTo kz_X0 mk_X0_weekdayUpTo rfl ⟨Nat.le_of_ble_eq_true rfl, Nat.le_of_ble_eq_true rfl⟩ ⟨Nat.le_of_ble_eq_true rfl, Nat.le_of_ble_eq_true rfl⟩ (Nat.le_of_ble_eq_true rfl) ?_
    refine s_X0_weekdayUpTo hst ?_
    exact v_lret dX4_adjustedDay_67 rfl (by exact hQ _ (by omega))
  · subst s_6
    refine v_tabIn 68 dX4_adjustedDay_6 rfl ?_
    refine v_lload_n dX4_adjustedDay_68 rfl ?_
    refine v_aload_n dX4_adjustedDay_69 rfl ?_
    refine v_get dX4_adjustedDay_70 f_X4_18 (by first | exact h0 | exact aup_s) rfl ?_
    refine v_i2l dX4_adjustedDay_73 ?_
    refine v_lsub dX4_adjustedDay_74 ?_
    refine v_lconst1 dX4_adjustedDay_75 ?_
    refine v_ladd dX4_adjustedDay_76 ?_
    refine v_iload_n dX4_adjustedDay_77 rfl ?_
    refine v_S2 (rm' := rX0_weekdayFrom) dX4_adjustedDay_78 km_X4_131 ks_X0_weekdayFrom kz_X0 mk_X0_weekdayFrom rfl ⟨Nat.le_of_ble_eq_true rfl, Nat.le_of_ble_eq_true rfl⟩ ⟨Nat.le_of_ble_eq_true rfl, Nat.le_of_ble_eq_true rfl⟩ (Nat.le_of_ble_eq_true rfl) ?_
    refine s_X0_weekdayFrom hst ?_
    exact v_lret dX4_adjustedDay_81 rfl (by exact hQ _ (by omega))
