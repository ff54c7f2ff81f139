def cmpE (e n e' n' r : Int) : Prop := ((e < e' ∨ (e = e' ∧ n < n')) ∧ r = -1) ∨ (e = e' ∧ n = n' ∧ r = 0) ∨ ((e' < e ∨ (e = e' ∧ n' < n)) ∧ r = 1)
def dayE (e n e' n' r : Int) : Prop := (e < e' ∧ n' < n ∧ r = e' - e - 1) ∨ (e' < e ∧ n < n' ∧ r = e' - e + 1) ∨ (¬ (e < e' ∧ n' < n) ∧ ¬ (e' < e ∧ n < n') ∧ r = e' - e)
def rstE (e n e' n' r : Int) : Prop := (e < e' ∧ n' < n ∧ r = 86400000000000 + n' - n) ∨ (e' < e ∧ n < n' ∧ r = n' - n - 86400000000000) ∨ (¬ (e < e' ∧ n' < n) ∧ ¬ (e' < e ∧ n < n') ∧ r = n' - n)
def monE (t d p t' d' p' r : Int) : Prop := (t < t' ∧ (d' < d ∨ (d' = d ∧ p' < p)) ∧ r = t' - t - 1) ∨ (t' < t ∧ (d < d' ∨ (d' = d ∧ p < p')) ∧ r = t' - t + 1) ∨ (¬ (t < t' ∧ (d' < d ∨ (d' = d ∧ p' < p))) ∧ ¬ (t' < t ∧ (d < d' ∨ (d' = d ∧ p < p'))) ∧ r = t' - t)
set_option maxRecDepth 100000 in
set_option maxHeartbeats 4000000 in
theorem s_X4_orderAgainst {l : Launch} {G : GG} {w : AH} {Q : Option Value → AH → Prop} {X : String → AH → Prop} (hst : l.stackTraces = false) {a : Nat} {y m d n : Int} (h0 : w a = some (stC y m d n)) (hy : -9999 ≤ y ∧ y ≤ 9999) (hm : 1 ≤ m ∧ m ≤ 12) (hd : 1 ≤ d ∧ d ≤ lenM y m) (hn : 0 ≤ n ∧ n ≤ 86399999999999) {b : Nat} {y' m' d' n' : Int} (h1 : w b = some (stC y' m' d' n')) (hy' : -9999 ≤ y' ∧ y' ≤ 9999) (hm' : 1 ≤ m' ∧ m' ≤ 12) (hd' : 1 ≤ d' ∧ d' ≤ lenM y' m') (hn' : 0 ≤ n' ∧ n' ≤ 86399999999999) (hQ : ∀ r : Int, cmpE (ed y m d) n (ed y' m' d') n' r → Q (some (.int (iI r))) w) : Ct l G mX4_orderAgainst rX4_orderAgainst [.ref a, .ref b] w Q X := by
  have hlen := lenM_rng y m
  have hed := ed_rng hy hm hd
  have hwd := wd_c (ed y m d)
  have hdoy := doy_rng hm hd
  have hlp := lp_c y
  have hlen' := lenM_rng y' m'
  have hed' := ed_rng hy' hm' hd'
  refine ct_of hst mk_X4_orderAgainst (Nat.le_of_ble_eq_true rfl) ?_
  refine v_aload_n dX4_orderAgainst_0 rfl ?_
  refine v_V0 (rm' := rX4_epochDay) (RX4, TX4, 4) dX4_orderAgainst_1 km_X4_31 kn_X4_epochDay kv_X4_epochDay kz_X4 mk_X4_epochDay rfl rfl (by first | exact h0 | exact h1) ⟨Nat.le_of_ble_eq_true rfl, Nat.le_of_ble_eq_true rfl⟩ ⟨Nat.le_of_ble_eq_true rfl, Nat.le_of_ble_eq_true rfl⟩ (Nat.le_of_ble_eq_true rfl) ?_
  first | refine s_X4_epochDay hst h0 hy hm hd hn ?_ | refine s_X4_epochDay hst h1 hy' hm' hd' hn' ?_
  refine v_aload_n dX4_orderAgainst_4 rfl ?_
  refine v_V0 (rm' := rX4_epochDay) (RX4, TX4, 4) dX4_orderAgainst_5 km_X4_31 kn_X4_epochDay kv_X4_epochDay kz_X4 mk_X4_epochDay rfl rfl (by first | exact h0 | exact h1) ⟨Nat.le_of_ble_eq_true rfl, Nat.le_of_ble_eq_true rfl⟩ ⟨Nat.le_of_ble_eq_true rfl, Nat.le_of_ble_eq_true rfl⟩ (Nat.le_of_ble_eq_true rfl) ?_
  first | refine s_X4_epochDay hst h0 hy hm hd hn ?_ | refine s_X4_epochDay hst h1 hy' hm' hd' hn' ?_
  refine v_S2 (rm' := rJ13_compare_74951) dX4_orderAgainst_8 km_X4_137 ks_J13_compare_74951 kz_J13 mk_J13_compare_74951 rfl ⟨Nat.le_of_ble_eq_true rfl, Nat.le_of_ble_eq_true rfl⟩ ⟨Nat.le_of_ble_eq_true rfl, Nat.le_of_ble_eq_true rfl⟩ (Nat.le_of_ble_eq_true rfl) ?_
  refine s_J13_compare_74951 hst (fun rc ec => ?_)
  refine v_istore_n dX4_orderAgainst_11 (by decide) ?_
  refine v_iload_n dX4_orderAgainst_12 rfl ?_
  refine v_if_eq 20 dX4_orderAgainst_13 (fun h_13 => ?_) (fun h_13 => ?_)
  · refine v_aload_n dX4_orderAgainst_20 rfl ?_
    refine v_get dX4_orderAgainst_21 f_X4_21 (by first | exact h0 | exact h1) rfl ?_
    refine v_aload_n dX4_orderAgainst_24 rfl ?_
    refine v_get dX4_orderAgainst_25 f_X4_21 (by first | exact h0 | exact h1) rfl ?_
    refine v_S2 (rm' := rJ13_compare_74951) dX4_orderAgainst_28 km_X4_137 ks_J13_compare_74951 kz_J13 mk_J13_compare_74951 rfl ⟨Nat.le_of_ble_eq_true rfl, Nat.le_of_ble_eq_true rfl⟩ ⟨Nat.le_of_ble_eq_true rfl, Nat.le_of_ble_eq_true rfl⟩ (Nat.le_of_ble_eq_true rfl) ?_
    refine s_J13_compare_74951 hst (fun rc ec => ?_)
    exact v_iret dX4_orderAgainst_31 rfl (by exact hQ _ (by unfold cmpE; omega))
  · refine v_iload_n dX4_orderAgainst_16 rfl ?_
    refine v_goto 31 dX4_orderAgainst_17 ?_
    exact v_iret dX4_orderAgainst_31 rfl (by exact hQ _ (by unfold cmpE; omega))
set_option maxRecDepth 100000 in
set_option maxHeartbeats 4000000 in
theorem s_X4_wholeDaysUntil {l : Launch} {G : GG} {w : AH} {Q : Option Value → AH → Prop} {X : String → AH → Prop} (hst : l.stackTraces = false) {a : Nat} {y m d n : Int} (h0 : w a = some (stC y m d n)) (hy : -9999 ≤ y ∧ y ≤ 9999) (hm : 1 ≤ m ∧ m ≤ 12) (hd : 1 ≤ d ∧ d ≤ lenM y m) (hn : 0 ≤ n ∧ n ≤ 86399999999999) {b : Nat} {y' m' d' n' : Int} (h1 : w b = some (stC y' m' d' n')) (hy' : -9999 ≤ y' ∧ y' ≤ 9999) (hm' : 1 ≤ m' ∧ m' ≤ 12) (hd' : 1 ≤ d' ∧ d' ≤ lenM y' m') (hn' : 0 ≤ n' ∧ n' ≤ 86399999999999) (hQ : ∀ r : Int, dayE (ed y m d) n (ed y' m' d') n' r → Q (some (.long (lI r))) w) : Ct l G mX4_wholeDaysUntil rX4_wholeDaysUntil [.ref a, .ref b] w Q X := by
  have hlen := lenM_rng y m
  have hed := ed_rng hy hm hd
  have hwd := wd_c (ed y m d)
  have hdoy := doy_rng hm hd
  have hlp := lp_c y
  have hlen' := lenM_rng y' m'
  have hed' := ed_rng hy' hm' hd'
  refine ct_of hst mk_X4_wholeDaysUntil (Nat.le_of_ble_eq_true rfl) ?_
  refine v_aload_n dX4_wholeDaysUntil_0 rfl ?_
  refine v_V0 (rm' := rX4_epochDay) (RX4, TX4, 4) dX4_wholeDaysUntil_1 km_X4_31 kn_X4_epochDay kv_X4_epochDay kz_X4 mk_X4_epochDay rfl rfl (by first | exact h0 | exact h1) ⟨Nat.le_of_ble_eq_true rfl, Nat.le_of_ble_eq_true rfl⟩ ⟨Nat.le_of_ble_eq_true rfl, Nat.le_of_ble_eq_true rfl⟩ (Nat.le_of_ble_eq_true rfl) ?_
  first | refine s_X4_epochDay hst h0 hy hm hd hn ?_ | refine s_X4_epochDay hst h1 hy' hm' hd' hn' ?_
  refine v_aload_n dX4_wholeDaysUntil_4 rfl ?_
  refine v_V0 (rm' := rX4_epochDay) (RX4, TX4, 4) dX4_wholeDaysUntil_5 km_X4_31 kn_X4_epochDay kv_X4_epochDay kz_X4 mk_X4_epochDay rfl rfl (by first | exact h0 | exact h1) ⟨Nat.le_of_ble_eq_true rfl, Nat.le_of_ble_eq_true rfl⟩ ⟨Nat.le_of_ble_eq_true rfl, Nat.le_of_ble_eq_true rfl⟩ (Nat.le_of_ble_eq_true rfl) ?_
  first | refine s_X4_epochDay hst h0 hy hm hd hn ?_ | refine s_X4_epochDay hst h1 hy' hm' hd' hn' ?_
  refine v_lsub dX4_wholeDaysUntil_8 ?_
  refine v_lstore_n dX4_wholeDaysUntil_9 (by decide) ?_
  refine v_lload_n dX4_wholeDaysUntil_10 rfl ?_
  refine v_lconst0 dX4_wholeDaysUntil_11 ?_
  refine v_lif_le 32 dX4_wholeDaysUntil_12 dX4_wholeDaysUntil_13 (fun h_12 => ?_) (fun h_12 => ?_)
  · refine v_lload_n dX4_wholeDaysUntil_32 rfl ?_
    refine v_lconst0 dX4_wholeDaysUntil_33 ?_
    refine v_lif_ge 56 dX4_wholeDaysUntil_34 dX4_wholeDaysUntil_35 (fun h_34 => ?_) (fun h_34 => ?_)
    · refine v_lload_n dX4_wholeDaysUntil_56 rfl ?_
      exact v_lret dX4_wholeDaysUntil_57 rfl (by exact hQ _ (by unfold dayE; omega))
    · refine v_aload_n dX4_wholeDaysUntil_38 rfl ?_
      refine v_get dX4_wholeDaysUntil_39 f_X4_21 (by first | exact h0 | exact h1) rfl ?_
      refine v_aload_n dX4_wholeDaysUntil_42 rfl ?_
      refine v_get dX4_wholeDaysUntil_43 f_X4_21 (by first | exact h0 | exact h1) rfl ?_
      refine v_lif_le 56 dX4_wholeDaysUntil_46 dX4_wholeDaysUntil_47 (fun h_46 => ?_) (fun h_46 => ?_)
      · refine v_lload_n dX4_wholeDaysUntil_56 rfl ?_
        exact v_lret dX4_wholeDaysUntil_57 rfl (by exact hQ _ (by unfold dayE; omega))
      · refine v_lload_n dX4_wholeDaysUntil_50 rfl ?_
        refine v_lconst1 dX4_wholeDaysUntil_51 ?_
        refine v_ladd dX4_wholeDaysUntil_52 ?_
        refine v_goto 57 dX4_wholeDaysUntil_53 ?_
        exact v_lret dX4_wholeDaysUntil_57 rfl (by exact hQ _ (by unfold dayE; omega))
  · refine v_aload_n dX4_wholeDaysUntil_16 rfl ?_
    refine v_get dX4_wholeDaysUntil_17 f_X4_21 (by first | exact h0 | exact h1) rfl ?_
    refine v_aload_n dX4_wholeDaysUntil_20 rfl ?_
    refine v_get dX4_wholeDaysUntil_21 f_X4_21 (by first | exact h0 | exact h1) rfl ?_
    refine v_lif_ge 32 dX4_wholeDaysUntil_24 dX4_wholeDaysUntil_25 (fun h_24 => ?_) (fun h_24 => ?_)
    · refine v_lload_n dX4_wholeDaysUntil_32 rfl ?_
      refine v_lconst0 dX4_wholeDaysUntil_33 ?_
      refine v_lif_ge 56 dX4_wholeDaysUntil_34 dX4_wholeDaysUntil_35 (fun h_34 => ?_) (fun h_34 => ?_)
      · refine v_lload_n dX4_wholeDaysUntil_56 rfl ?_
        exact v_lret dX4_wholeDaysUntil_57 rfl (by exact hQ _ (by unfold dayE; omega))
      · refine v_aload_n dX4_wholeDaysUntil_38 rfl ?_
        refine v_get dX4_wholeDaysUntil_39 f_X4_21 (by first | exact h0 | exact h1) rfl ?_
        refine v_aload_n dX4_wholeDaysUntil_42 rfl ?_
        refine v_get dX4_wholeDaysUntil_43 f_X4_21 (by first | exact h0 | exact h1) rfl ?_
        refine v_lif_le 56 dX4_wholeDaysUntil_46 dX4_wholeDaysUntil_47 (fun h_46 => ?_) (fun h_46 => ?_)
        · refine v_lload_n dX4_wholeDaysUntil_56 rfl ?_
          exact v_lret dX4_wholeDaysUntil_57 rfl (by exact hQ _ (by unfold dayE; omega))
        · refine v_lload_n dX4_wholeDaysUntil_50 rfl ?_
          refine v_lconst1 dX4_wholeDaysUntil_51 ?_
          refine v_ladd dX4_wholeDaysUntil_52 ?_
          refine v_goto 57 dX4_wholeDaysUntil_53 ?_
          exact v_lret dX4_wholeDaysUntil_57 rfl (by exact hQ _ (by unfold dayE; omega))
    · refine v_lload_n dX4_wholeDaysUntil_28 rfl ?_
      refine v_lconst1 dX4_wholeDaysUntil_29 ?_
      refine v_lsub dX4_wholeDaysUntil_30 ?_
      exact v_lret dX4_wholeDaysUntil_31 rfl (by exact hQ _ (by unfold dayE; omega))
set_option maxRecDepth 100000 in
set_option maxHeartbeats 4000000 in
theorem s_X4_restUntil {l : Launch} {G : GG} {w : AH} {Q : Option Value → AH → Prop} {X : String → AH → Prop} (hst : l.stackTraces = false) {a : Nat} {y m d n : Int} (h0 : w a = some (stC y m d n)) (hy : -9999 ≤ y ∧ y ≤ 9999) (hm : 1 ≤ m ∧ m ≤ 12) (hd : 1 ≤ d ∧ d ≤ lenM y m) (hn : 0 ≤ n ∧ n ≤ 86399999999999) {b : Nat} {y' m' d' n' : Int} (h1 : w b = some (stC y' m' d' n')) (hy' : -9999 ≤ y' ∧ y' ≤ 9999) (hm' : 1 ≤ m' ∧ m' ≤ 12) (hd' : 1 ≤ d' ∧ d' ≤ lenM y' m') (hn' : 0 ≤ n' ∧ n' ≤ 86399999999999) (hQ : ∀ r : Int, rstE (ed y m d) n (ed y' m' d') n' r → Q (some (.long (lI r))) w) : Ct l G mX4_restUntil rX4_restUntil [.ref a, .ref b] w Q X := by
  have hlen := lenM_rng y m
  have hed := ed_rng hy hm hd
  have hwd := wd_c (ed y m d)
  have hdoy := doy_rng hm hd
  have hlp := lp_c y
  have hlen' := lenM_rng y' m'
  have hed' := ed_rng hy' hm' hd'
  refine ct_of hst mk_X4_restUntil (Nat.le_of_ble_eq_true rfl) ?_
  refine v_aload_n dX4_restUntil_0 rfl ?_
  refine v_V0 (rm' := rX4_epochDay) (RX4, TX4, 4) dX4_restUntil_1 km_X4_31 kn_X4_epochDay kv_X4_epochDay kz_X4 mk_X4_epochDay rfl rfl (by first | exact h0 | exact h1) ⟨Nat.le_of_ble_eq_true rfl, Nat.le_of_ble_eq_true rfl⟩ ⟨Nat.le_of_ble_eq_true rfl, Nat.le_of_ble_eq_true rfl⟩ (Nat.le_of_ble_eq_true rfl) ?_
  first | refine s_X4_epochDay hst h0 hy hm hd hn ?_ | refine s_X4_epochDay hst h1 hy' hm' hd' hn' ?_
  refine v_aload_n dX4_restUntil_4 rfl ?_
  refine v_V0 (rm' := rX4_epochDay) (RX4, TX4, 4) dX4_restUntil_5 km_X4_31 kn_X4_epochDay kv_X4_epochDay kz_X4 mk_X4_epochDay rfl rfl (by first | exact h0 | exact h1) ⟨Nat.le_of_ble_eq_true rfl, Nat.le_of_ble_eq_true rfl⟩ ⟨Nat.le_of_ble_eq_true rfl, Nat.le_of_ble_eq_true rfl⟩ (Nat.le_of_ble_eq_true rfl) ?_
  first | refine s_X4_epochDay hst h0 hy hm hd hn ?_ | refine s_X4_epochDay hst h1 hy' hm' hd' hn' ?_
  refine v_lsub dX4_restUntil_8 ?_
  refine v_aload_n dX4_restUntil_9 rfl ?_
  refine v_aload_n dX4_restUntil_10 rfl ?_
  refine v_V1 (rm' := rX4_wholeDaysUntil) (RX4, TX4, 4) dX4_restUntil_11 km_X4_143 kn_X4_wholeDaysUntil kv_X4_wholeDaysUntil kz_X4 mk_X4_wholeDaysUntil rfl rfl (by first | exact h0 | exact h1) ⟨Nat.le_of_ble_eq_true rfl, Nat.le_of_ble_eq_true rfl⟩ ⟨Nat.le_of_ble_eq_true rfl, Nat.le_of_ble_eq_true rfl⟩ (Nat.le_of_ble_eq_true rfl) ?_
  refine s_X4_wholeDaysUntil hst h0 hy hm hd hn h1 hy' hm' hd' hn' (fun rW eW => ?_)
  refine v_lsub dX4_restUntil_14 ?_
  refine v_lstore_n dX4_restUntil_15 (by decide) ?_
  refine v_lload_n dX4_restUntil_16 rfl ?_
  refine v_ldc2 (86400000000000) dX4_restUntil_17 kl_X4_77 ?_
  refine v_lmul dX4_restUntil_20 ?_
  refine v_aload_n dX4_restUntil_21 rfl ?_
  refine v_get dX4_restUntil_22 f_X4_21 (by first | exact h0 | exact h1) rfl ?_
  refine v_ladd dX4_restUntil_25 ?_
  refine v_aload_n dX4_restUntil_26 rfl ?_
  refine v_get dX4_restUntil_27 f_X4_21 (by first | exact h0 | exact h1) rfl ?_
  refine v_lsub dX4_restUntil_30 ?_
  exact v_lret dX4_restUntil_31 rfl (by exact hQ _ (by unfold rstE; unfold dayE at eW; omega))
set_option maxRecDepth 100000 in
set_option maxHeartbeats 4000000 in
theorem s_X4_monthsUntil {l : Launch} {G : GG} {w : AH} {Q : Option Value → AH → Prop} {X : String → AH → Prop} (hst : l.stackTraces = false) {a : Nat} {y m d n : Int} (h0 : w a = some (stC y m d n)) (hy : -9999 ≤ y ∧ y ≤ 9999) (hm : 1 ≤ m ∧ m ≤ 12) (hd : 1 ≤ d ∧ d ≤ lenM y m) (hn : 0 ≤ n ∧ n ≤ 86399999999999) {b : Nat} {y' m' d' n' : Int} (h1 : w b = some (stC y' m' d' n')) (hy' : -9999 ≤ y' ∧ y' ≤ 9999) (hm' : 1 ≤ m' ∧ m' ≤ 12) (hd' : 1 ≤ d' ∧ d' ≤ lenM y' m') (hn' : 0 ≤ n' ∧ n' ≤ 86399999999999) {p q : Int} (hp : -9223372036854775808 ≤ p ∧ p ≤ 9223372036854775807) (hq : -9223372036854775808 ≤ q ∧ q ≤ 9223372036854775807) (hQ : ∀ r : Int, monE (y * 12 + m - 1) d p (y' * 12 + m' - 1) d' q r → Q (some (.long (lI r))) w) : Ct l G mX4_monthsUntil rX4_monthsUntil [(.ref a), (.ref b), .long (lI p), .long (lI q)] w Q X := by
  have hlen := lenM_rng y m
  have hed := ed_rng hy hm hd
  have hwd := wd_c (ed y m d)
  have hdoy := doy_rng hm hd
  have hlp := lp_c y
  have hlen' := lenM_rng y' m'
  have hed' := ed_rng hy' hm' hd'
  refine ct_of hst mk_X4_monthsUntil (Nat.le_of_ble_eq_true rfl) ?_
  refine v_aload_n dX4_monthsUntil_0 rfl ?_
  refine v_V0 (rm' := rX4_monthNumber) (RX4, TX4, 4) dX4_monthsUntil_1 km_X4_97 kn_X4_monthNumber kv_X4_monthNumber kz_X4 mk_X4_monthNumber rfl rfl (by first | exact h0 | exact h1) ⟨Nat.le_of_ble_eq_true rfl, Nat.le_of_ble_eq_true rfl⟩ ⟨Nat.le_of_ble_eq_true rfl, Nat.le_of_ble_eq_true rfl⟩ (Nat.le_of_ble_eq_true rfl) ?_
  first | refine s_X4_monthNumber hst h0 hy hm hd hn ?_ | refine s_X4_monthNumber hst h1 hy' hm' hd' hn' ?_
  refine v_aload_n dX4_monthsUntil_4 rfl ?_
  refine v_V0 (rm' := rX4_monthNumber) (RX4, TX4, 4) dX4_monthsUntil_5 km_X4_97 kn_X4_monthNumber kv_X4_monthNumber kz_X4 mk_X4_monthNumber rfl rfl (by first | exact h0 | exact h1) ⟨Nat.le_of_ble_eq_true rfl, Nat.le_of_ble_eq_true rfl⟩ ⟨Nat.le_of_ble_eq_true rfl, Nat.le_of_ble_eq_true rfl⟩ (Nat.le_of_ble_eq_true rfl) ?_
  first | refine s_X4_monthNumber hst h0 hy hm hd hn ?_ | refine s_X4_monthNumber hst h1 hy' hm' hd' hn' ?_
  refine v_lsub dX4_monthsUntil_8 ?_
  refine v_lstore dX4_monthsUntil_9 (by decide) ?_
  refine v_aload_n dX4_monthsUntil_11 rfl ?_
  refine v_get dX4_monthsUntil_12 f_X4_18 (by first | exact h0 | exact h1) rfl ?_
  refine v_aload_n dX4_monthsUntil_15 rfl ?_
  refine v_get dX4_monthsUntil_16 f_X4_18 (by first | exact h0 | exact h1) rfl ?_
  refine v_S2 (rm' := rJ6_compare_7cf53) dX4_monthsUntil_19 km_X4_147 ks_J6_compare_7cf53 kz_J6 mk_J6_compare_7cf53 rfl ⟨Nat.le_of_ble_eq_true rfl, Nat.le_of_ble_eq_true rfl⟩ ⟨Nat.le_of_ble_eq_true rfl, Nat.le_of_ble_eq_true rfl⟩ (Nat.le_of_ble_eq_true rfl) ?_
  refine s_J6_compare_7cf53 hst (fun rc6 ec6 => ?_)
  refine v_istore dX4_monthsUntil_22 (by decide) ?_
  refine v_iload dX4_monthsUntil_24 rfl ?_
  refine v_if_ne 37 dX4_monthsUntil_26 (fun h_26 => ?_) (fun h_26 => ?_)
  · refine v_lload dX4_monthsUntil_37 rfl ?_
    refine v_lconst0 dX4_monthsUntil_39 ?_
    refine v_lif_le 54 dX4_monthsUntil_40 dX4_monthsUntil_41 (fun h_40 => ?_) (fun h_40 => ?_)
    · refine v_lload dX4_monthsUntil_54 rfl ?_
      refine v_lconst0 dX4_monthsUntil_56 ?_
      refine v_lif_ge 73 dX4_monthsUntil_57 dX4_monthsUntil_58 (fun h_57 => ?_) (fun h_57 => ?_)
      · refine v_lload dX4_monthsUntil_73 rfl ?_
        exact v_lret dX4_monthsUntil_75 rfl (by exact hQ _ (by unfold monE; omega))
      · refine v_iload dX4_monthsUntil_61 rfl ?_
        refine v_if_le 73 dX4_monthsUntil_63 (fun h_63 => ?_) (fun h_63 => ?_)
        · refine v_lload dX4_monthsUntil_73 rfl ?_
          exact v_lret dX4_monthsUntil_75 rfl (by exact hQ _ (by unfold monE; omega))
        · refine v_lload dX4_monthsUntil_66 rfl ?_
          refine v_lconst1 dX4_monthsUntil_68 ?_
          refine v_ladd dX4_monthsUntil_69 ?_
          refine v_goto 75 dX4_monthsUntil_70 ?_
          exact v_lret dX4_monthsUntil_75 rfl (by exact hQ _ (by unfold monE; omega))
    · refine v_iload dX4_monthsUntil_44 rfl ?_
      refine v_if_ge 54 dX4_monthsUntil_46 (fun h_46 => ?_) (fun h_46 => ?_)
      · refine v_lload dX4_monthsUntil_54 rfl ?_
        refine v_lconst0 dX4_monthsUntil_56 ?_
        refine v_lif_ge 73 dX4_monthsUntil_57 dX4_monthsUntil_58 (fun h_57 => ?_) (fun h_57 => ?_)
        · refine v_lload dX4_monthsUntil_73 rfl ?_
          exact v_lret dX4_monthsUntil_75 rfl (by exact hQ _ (by unfold monE; omega))
        · refine v_iload dX4_monthsUntil_61 rfl ?_
          refine v_if_le 73 dX4_monthsUntil_63 (fun h_63 => ?_) (fun h_63 => ?_)
          · refine v_lload dX4_monthsUntil_73 rfl ?_
            exact v_lret dX4_monthsUntil_75 rfl (by exact hQ _ (by unfold monE; omega))
          · refine v_lload dX4_monthsUntil_66 rfl ?_
            refine v_lconst1 dX4_monthsUntil_68 ?_
            refine v_ladd dX4_monthsUntil_69 ?_
            refine v_goto 75 dX4_monthsUntil_70 ?_
            exact v_lret dX4_monthsUntil_75 rfl (by exact hQ _ (by unfold monE; omega))
      · refine v_lload dX4_monthsUntil_49 rfl ?_
        refine v_lconst1 dX4_monthsUntil_51 ?_
        refine v_lsub dX4_monthsUntil_52 ?_
        exact v_lret dX4_monthsUntil_53 rfl (by exact hQ _ (by unfold monE; omega))
  · refine v_lload dX4_monthsUntil_29 rfl ?_
    refine v_lload_n dX4_monthsUntil_31 rfl ?_
    refine v_S2 (rm' := rJ13_compare_74951) dX4_monthsUntil_32 km_X4_137 ks_J13_compare_74951 kz_J13 mk_J13_compare_74951 rfl ⟨Nat.le_of_ble_eq_true rfl, Nat.le_of_ble_eq_true rfl⟩ ⟨Nat.le_of_ble_eq_true rfl, Nat.le_of_ble_eq_true rfl⟩ (Nat.le_of_ble_eq_true rfl) ?_
    refine s_J13_compare_74951 hst (fun rc ec => ?_)
    refine v_istore dX4_monthsUntil_35 (by decide) ?_
    refine v_lload dX4_monthsUntil_37 rfl ?_
    refine v_lconst0 dX4_monthsUntil_39 ?_
    refine v_lif_le 54 dX4_monthsUntil_40 dX4_monthsUntil_41 (fun h_40 => ?_) (fun h_40 => ?_)
    · refine v_lload dX4_monthsUntil_54 rfl ?_
      refine v_lconst0 dX4_monthsUntil_56 ?_
      refine v_lif_ge 73 dX4_monthsUntil_57 dX4_monthsUntil_58 (fun h_57 => ?_) (fun h_57 => ?_)
      · refine v_lload dX4_monthsUntil_73 rfl ?_
        exact v_lret dX4_monthsUntil_75 rfl (by exact hQ _ (by unfold monE; omega))
      · refine v_iload dX4_monthsUntil_61 rfl ?_
        refine v_if_le 73 dX4_monthsUntil_63 (fun h_63 => ?_) (fun h_63 => ?_)
        · refine v_lload dX4_monthsUntil_73 rfl ?_
          exact v_lret dX4_monthsUntil_75 rfl (by exact hQ _ (by unfold monE; omega))
        · refine v_lload dX4_monthsUntil_66 rfl ?_
          refine v_lconst1 dX4_monthsUntil_68 ?_
          refine v_ladd dX4_monthsUntil_69 ?_
          refine v_goto 75 dX4_monthsUntil_70 ?_
          exact v_lret dX4_monthsUntil_75 rfl (by exact hQ _ (by unfold monE; omega))
    · refine v_iload dX4_monthsUntil_44 rfl ?_
      refine v_if_ge 54 dX4_monthsUntil_46 (fun h_46 => ?_) (fun h_46 => ?_)
      · refine v_lload dX4_monthsUntil_54 rfl ?_
        refine v_lconst0 dX4_monthsUntil_56 ?_
        refine v_lif_ge 73 dX4_monthsUntil_57 dX4_monthsUntil_58 (fun h_57 => ?_) (fun h_57 => ?_)
        · refine v_lload dX4_monthsUntil_73 rfl ?_
          exact v_lret dX4_monthsUntil_75 rfl (by exact hQ _ (by unfold monE; omega))
        · refine v_iload dX4_monthsUntil_61 rfl ?_
          refine v_if_le 73 dX4_monthsUntil_63 (fun h_63 => ?_) (fun h_63 => ?_)
          · refine v_lload dX4_monthsUntil_73 rfl ?_
            exact v_lret dX4_monthsUntil_75 rfl (by exact hQ _ (by unfold monE; omega))
          · refine v_lload dX4_monthsUntil_66 rfl ?_
            refine v_lconst1 dX4_monthsUntil_68 ?_
            refine v_ladd dX4_monthsUntil_69 ?_
            refine v_goto 75 dX4_monthsUntil_70 ?_
            exact v_lret dX4_monthsUntil_75 rfl (by exact hQ _ (by unfold monE; omega))
      · refine v_lload dX4_monthsUntil_49 rfl ?_
        refine v_lconst1 dX4_monthsUntil_51 ?_
        refine v_lsub dX4_monthsUntil_52 ?_
        exact v_lret dX4_monthsUntil_53 rfl (by exact hQ _ (by unfold monE; omega))
def tS (f : Int) : Int := if f = 6 then 3600000000000 else if f = 7 then 60000000000 else if f = 8 then 1000000000 else if f = 9 then 1 else if f = 10 then 1000000000 else 1
def tC (f : Int) : Int := if f = 6 then 24 else if f = 7 then 60 else if f = 8 then 60 else if f = 9 then 1000000000 else if f = 10 then 86400 else 86400000000000
set_option maxRecDepth 100000 in
set_option maxHeartbeats 4000000 in
theorem s_X4_setTimeField {l : Launch} {G : GG} {w : AH} {Q : Option Value → AH → Prop} {X : String → AH → Prop} (hst : l.stackTraces = false) {a : Nat} {y m d n : Int} (h0 : w a = some (stC y m d n)) (hy : -9999 ≤ y ∧ y ≤ 9999) (hm : 1 ≤ m ∧ m ≤ 12) (hd : 1 ≤ d ∧ d ≤ lenM y m) (hn : 0 ≤ n ∧ n ≤ 86399999999999) {f v : Int} (hf : 6 ≤ f ∧ f ≤ 11) (hv : -9223372036854775808 ≤ v ∧ v ≤ 9223372036854775807) (hQ1 : (0 ≤ v ∧ v < tC f) → Q (some (.int (iI 1))) (aup w a (stC y m d (n + (v - n / tS f % tC f) * tS f)))) (hQ0 : (v < 0 ∨ tC f ≤ v) → Q (some (.int (iI 0))) w) : Ct l G mX4_setTimeField rX4_setTimeField [.ref a, .int (iI f), .long (lI v)] w Q X := by
  refine ct_of hst mk_X4_setTimeField (Nat.le_of_ble_eq_true rfl) ?_
  refine v_iload_n dX4_setTimeField_0 rfl ?_
  rcases (show (f < 6 ∨ 10 < f) ∨ f = 6 ∨ f = 7 ∨ f = 8 ∨ f = 9 ∨ f = 10 by omega) with s_1 | s_1 | s_1 | s_1 | s_1 | s_1
  · refine v_tabOut 94 dX4_setTimeField_1 ?_
    refine v_aload_n dX4_setTimeField_94 rfl ?_
    refine v_lconst1 dX4_setTimeField_95 ?_
    refine v_ldc2 (86400000000000) dX4_setTimeField_96 kl_X4_77 ?_
    refine v_lload_n dX4_setTimeField_99 rfl ?_
    refine v_V3 (rm' := rX4_setPart) (RX4, TX4, 4) dX4_setTimeField_100 km_X4_127 kn_X4_setPart kv_X4_setPart kz_X4 mk_X4_setPart rfl rfl (by first | exact h0 | exact aup_s) ⟨Nat.le_of_ble_eq_true rfl, Nat.le_of_ble_eq_true rfl⟩ ⟨Nat.le_of_ble_eq_true rfl, Nat.le_of_ble_eq_true rfl⟩ (Nat.le_of_ble_eq_true rfl) ?_
    refine s_X4_setPart hst h0 hy hm hd hn (by omega) (by omega) hv (fun h9 => ?_) (fun h9 => ?_)
    · exact v_zret dX4_setTimeField_103 rfl (by first | exact hQ1 h9 | exact hQ0 h9 | (have h8 : f = 11 := (by omega); subst h8; first | exact hQ1 h9 | exact hQ0 h9)) (by first | exact Or.inl rfl | exact Or.inr rfl | omega)
    · exact v_zret dX4_setTimeField_103 rfl (by first | exact hQ1 h9 | exact hQ0 h9 | (have h8 : f = 11 := (by omega); subst h8; first | exact hQ1 h9 | exact hQ0 h9)) (by first | exact Or.inl rfl | exact Or.inr rfl | omega)
  · subst s_1
    refine v_tabIn 36 dX4_setTimeField_1 rfl ?_
    refine v_aload_n dX4_setTimeField_36 rfl ?_
    refine v_ldc2 (3600000000000) dX4_setTimeField_37 kl_X4_116 ?_
    refine v_ldc2 (24) dX4_setTimeField_40 kl_X4_118 ?_
    refine v_lload_n dX4_setTimeField_43 rfl ?_
    refine v_V3 (rm' := rX4_setPart) (RX4, TX4, 4) dX4_setTimeField_44 km_X4_127 kn_X4_setPart kv_X4_setPart kz_X4 mk_X4_setPart rfl rfl (by first | exact h0 | exact aup_s) ⟨Nat.le_of_ble_eq_true rfl, Nat.le_of_ble_eq_true rfl⟩ ⟨Nat.le_of_ble_eq_true rfl, Nat.le_of_ble_eq_true rfl⟩ (Nat.le_of_ble_eq_true rfl) ?_
    refine s_X4_setPart hst h0 hy hm hd hn (by omega) (by omega) hv (fun h9 => ?_) (fun h9 => ?_)
    · exact v_zret dX4_setTimeField_47 rfl (by first | exact hQ1 h9 | exact hQ0 h9 | (have h8 : f = 11 := (by omega); subst h8; first | exact hQ1 h9 | exact hQ0 h9)) (by first | exact Or.inl rfl | exact Or.inr rfl | omega)
    · exact v_zret dX4_setTimeField_47 rfl (by first | exact hQ1 h9 | exact hQ0 h9 | (have h8 : f = 11 := (by omega); subst h8; first | exact hQ1 h9 | exact hQ0 h9)) (by first | exact Or.inl rfl | exact Or.inr rfl | omega)
  · subst s_1
    refine v_tabIn 48 dX4_setTimeField_1 rfl ?_
    refine v_aload_n dX4_setTimeField_48 rfl ?_
    refine v_ldc2 (60000000000) dX4_setTimeField_49 kl_X4_123 ?_
    refine v_ldc2 (60) dX4_setTimeField_52 kl_X4_125 ?_
    refine v_lload_n dX4_setTimeField_55 rfl ?_
    refine v_V3 (rm' := rX4_setPart) (RX4, TX4, 4) dX4_setTimeField_56 km_X4_127 kn_X4_setPart kv_X4_setPart kz_X4 mk_X4_setPart rfl rfl (by first | exact h0 | exact aup_s) ⟨Nat.le_of_ble_eq_true rfl, Nat.le_of_ble_eq_true rfl⟩ ⟨Nat.le_of_ble_eq_true rfl, Nat.le_of_ble_eq_true rfl⟩ (Nat.le_of_ble_eq_true rfl) ?_
    refine s_X4_setPart hst h0 hy hm hd hn (by omega) (by omega) hv (fun h9 => ?_) (fun h9 => ?_)
    · exact v_zret dX4_setTimeField_59 rfl (by first | exact hQ1 h9 | exact hQ0 h9 | (have h8 : f = 11 := (by omega); subst h8; first | exact hQ1 h9 | exact hQ0 h9)) (by first | exact Or.inl rfl | exact Or.inr rfl | omega)
    · exact v_zret dX4_setTimeField_59 rfl (by first | exact hQ1 h9 | exact hQ0 h9 | (have h8 : f = 11 := (by omega); subst h8; first | exact hQ1 h9 | exact hQ0 h9)) (by first | exact Or.inl rfl | exact Or.inr rfl | omega)
  · subst s_1
    refine v_tabIn 60 dX4_setTimeField_1 rfl ?_
    refine v_aload_n dX4_setTimeField_60 rfl ?_
    refine v_ldc2 (1000000000) dX4_setTimeField_61 kl_X4_36 ?_
    refine v_ldc2 (60) dX4_setTimeField_64 kl_X4_125 ?_
    refine v_lload_n dX4_setTimeField_67 rfl ?_
    refine v_V3 (rm' := rX4_setPart) (RX4, TX4, 4) dX4_setTimeField_68 km_X4_127 kn_X4_setPart kv_X4_setPart kz_X4 mk_X4_setPart rfl rfl (by first | exact h0 | exact aup_s) ⟨Nat.le_of_ble_eq_true rfl, Nat.le_of_ble_eq_true rfl⟩ ⟨Nat.le_of_ble_eq_true rfl, Nat.le_of_ble_eq_true rfl⟩ (Nat.le_of_ble_eq_true rfl) ?_
    refine s_X4_setPart hst h0 hy hm hd hn (by omega) (by omega) hv (fun h9 => ?_) (fun h9 => ?_)
    · exact v_zret dX4_setTimeField_71 rfl (by first | exact hQ1 h9 | exact hQ0 h9 | (have h8 : f = 11 := (by omega); subst h8; first | exact hQ1 h9 | exact hQ0 h9)) (by first | exact Or.inl rfl | exact Or.inr rfl | omega)
    · exact v_zret dX4_setTimeField_71 rfl (by first | exact hQ1 h9 | exact hQ0 h9 | (have h8 : f = 11 := (by omega); subst h8; first | exact hQ1 h9 | exact hQ0 h9)) (by first | exact Or.inl rfl | exact Or.inr rfl | omega)
  · subst s_1
    refine v_tabIn 72 dX4_setTimeField_1 rfl ?_
    refine v_aload_n dX4_setTimeField_72 rfl ?_
    refine v_lconst1 dX4_setTimeField_73 ?_
    refine v_ldc2 (1000000000) dX4_setTimeField_74 kl_X4_36 ?_
    refine v_lload_n dX4_setTimeField_77 rfl ?_
    refine v_V3 (rm' := rX4_setPart) (RX4, TX4, 4) dX4_setTimeField_78 km_X4_127 kn_X4_setPart kv_X4_setPart kz_X4 mk_X4_setPart rfl rfl (by first | exact h0 | exact aup_s) ⟨Nat.le_of_ble_eq_true rfl, Nat.le_of_ble_eq_true rfl⟩ ⟨Nat.le_of_ble_eq_true rfl, Nat.le_of_ble_eq_true rfl⟩ (Nat.le_of_ble_eq_true rfl) ?_
    refine s_X4_setPart hst h0 hy hm hd hn (by omega) (by omega) hv (fun h9 => ?_) (fun h9 => ?_)
    · exact v_zret dX4_setTimeField_81 rfl (by first | exact hQ1 h9 | exact hQ0 h9 | (have h8 : f = 11 := (by omega); subst h8; first | exact hQ1 h9 | exact hQ0 h9)) (by first | exact Or.inl rfl | exact Or.inr rfl | omega)
    · exact v_zret dX4_setTimeField_81 rfl (by first | exact hQ1 h9 | exact hQ0 h9 | (have h8 : f = 11 := (by omega); subst h8; first | exact hQ1 h9 | exact hQ0 h9)) (by first | exact Or.inl rfl | exact Or.inr rfl | omega)
  · subst s_1
    refine v_tabIn 82 dX4_setTimeField_1 rfl ?_
    refine v_aload_n dX4_setTimeField_82 rfl ?_
    refine v_ldc2 (1000000000) dX4_setTimeField_83 kl_X4_36 ?_
    refine v_ldc2 (86400) dX4_setTimeField_86 kl_X4_34 ?_
    refine v_lload_n dX4_setTimeField_89 rfl ?_
    refine v_V3 (rm' := rX4_setPart) (RX4, TX4, 4) dX4_setTimeField_90 km_X4_127 kn_X4_setPart kv_X4_setPart kz_X4 mk_X4_setPart rfl rfl (by first | exact h0 | exact aup_s) ⟨Nat.le_of_ble_eq_true rfl, Nat.le_of_ble_eq_true rfl⟩ ⟨Nat.le_of_ble_eq_true rfl, Nat.le_of_ble_eq_true rfl⟩ (Nat.le_of_ble_eq_true rfl) ?_
    refine s_X4_setPart hst h0 hy hm hd hn (by omega) (by omega) hv (fun h9 => ?_) (fun h9 => ?_)
    · exact v_zret dX4_setTimeField_93 rfl (by first | exact hQ1 h9 | exact hQ0 h9 | (have h8 : f = 11 := (by omega); subst h8; first | exact hQ1 h9 | exact hQ0 h9)) (by first | exact Or.inl rfl | exact Or.inr rfl | omega)
    · exact v_zret dX4_setTimeField_93 rfl (by first | exact hQ1 h9 | exact hQ0 h9 | (have h8 : f = 11 := (by omega); subst h8; first | exact hQ1 h9 | exact hQ0 h9)) (by first | exact Or.inl rfl | exact Or.inr rfl | omega)
set_option maxRecDepth 100000 in
set_option maxHeartbeats 4000000 in
theorem s_X4_addParts {l : Launch} {G : GG} {w : AH} {Q : Option Value → AH → Prop} {X : String → AH → Prop} (hst : l.stackTraces = false) {a : Nat} {y m d n : Int} (h0 : w a = some (stC y m d n)) (hy : -9999 ≤ y ∧ y ≤ 9999) (hm : 1 ≤ m ∧ m ≤ 12) (hd : 1 ≤ d ∧ d ≤ lenM y m) (hn : 0 ≤ n ∧ n ≤ 86399999999999) {N p sz : Int} (hN : -9223372036854775808 ≤ N ∧ N ≤ 9223372036854775807) (hp : 0 < p ∧ p ≤ 86400000000000) (hsz : 86400000000000 / p = sz) (hX : 0 ≤ N % p * sz ∧ N % p * sz ≤ 86399999999999) (hD : -4611686018427387904 ≤ N / p ∧ N / p ≤ 4611686018427387904) (hQ1 : ∀ y' m' d' T D : Int, (-9999 ≤ y' ∧ y' ≤ 9999) → (1 ≤ m' ∧ m' ≤ 12) → (1 ≤ d' ∧ d' ≤ lenM y' m') → ed y' m' d' = ed y m d + D → ((n + N % p * sz < 86400000000000 ∧ D = N / p ∧ T = n + N % p * sz) ∨ (86400000000000 ≤ n + N % p * sz ∧ D = N / p + 1 ∧ T = n + N % p * sz - 86400000000000)) → Q (some (.int (iI 1))) (aup w a (stC y' m' d' T))) (hQ0 : ∀ D : Int, ((n + N % p * sz < 86400000000000 ∧ D = N / p) ∨ (86400000000000 ≤ n + N % p * sz ∧ D = N / p + 1)) → (ed y m d + D < -4371587 ∨ 2932896 < ed y m d + D) → Q (some (.int (iI 0))) w) : Ct l G mX4_addParts rX4_addParts [.ref a, .long (lI N), .long (lI p)] w Q X := by
  have hlen := lenM_rng y m
  have hed := ed_rng hy hm hd
  have hwd := wd_c (ed y m d)
  have hdoy := doy_rng hm hd
  have hlp := lp_c y
  refine ct_of hst mk_X4_addParts (Nat.le_of_ble_eq_true rfl) ?_
  refine v_lload_n dX4_addParts_0 rfl ?_
  refine v_lconst0 dX4_addParts_1 ?_
  refine v_lif_gt 8 dX4_addParts_2 dX4_addParts_3 (fun h_2 => ?_) (fun h_2 => ?_)
  · refine v_lload_n dX4_addParts_8 rfl ?_
    refine v_lload_n dX4_addParts_9 rfl ?_
    refine v_S2 (rm' := rJ9_floorDiv_f86c9) dX4_addParts_10 km_X4_68 ks_J9_floorDiv_f86c9 kz_J9 mk_J9_floorDiv_f86c9 rfl ⟨Nat.le_of_ble_eq_true rfl, Nat.le_of_ble_eq_true rfl⟩ ⟨Nat.le_of_ble_eq_true rfl, Nat.le_of_ble_eq_true rfl⟩ (Nat.le_of_ble_eq_true rfl) ?_
    refine s_J9_floorDiv_f86c9 hst ?_
    refine v_lstore dX4_addParts_13 (by decide) ?_
    refine v_aload_n dX4_addParts_15 rfl ?_
    refine v_get dX4_addParts_16 f_X4_21 (by first | exact h0 | exact aup_s) rfl ?_
    refine v_lload_n dX4_addParts_19 rfl ?_
    refine v_lload_n dX4_addParts_20 rfl ?_
    refine v_S2 (rm' := rJ9_floorMod_f86c9) dX4_addParts_21 km_X4_74 ks_J9_floorMod_f86c9 kz_J9 mk_J9_floorMod_f86c9 rfl ⟨Nat.le_of_ble_eq_true rfl, Nat.le_of_ble_eq_true rfl⟩ ⟨Nat.le_of_ble_eq_true rfl, Nat.le_of_ble_eq_true rfl⟩ (Nat.le_of_ble_eq_true rfl) ?_
    refine s_J9_floorMod_f86c9 hst ?_
    refine v_ldc2 (86400000000000) dX4_addParts_24 kl_X4_77 ?_
    refine v_lload_n dX4_addParts_27 rfl ?_
    refine v_ldivP dX4_addParts_28 ?_
    rw [hsz]
    refine v_lmul dX4_addParts_29 ?_
    refine v_ladd dX4_addParts_30 ?_
    refine v_lstore dX4_addParts_31 (by decide) ?_
    refine v_lload dX4_addParts_33 rfl ?_
    refine v_ldc2 (86400000000000) dX4_addParts_35 kl_X4_77 ?_
    refine v_lif_lt 56 dX4_addParts_38 dX4_addParts_39 (fun h_38 => ?_) (fun h_38 => ?_)
    · refine v_aload_n dX4_addParts_56 rfl ?_
      refine v_aload_n dX4_addParts_57 rfl ?_
      refine v_V0 (rm' := rX4_epochDay) (RX4, TX4, 4) dX4_addParts_58 km_X4_31 kn_X4_epochDay kv_X4_epochDay kz_X4 mk_X4_epochDay rfl rfl (by first | exact h0 | exact aup_s) ⟨Nat.le_of_ble_eq_true rfl, Nat.le_of_ble_eq_true rfl⟩ ⟨Nat.le_of_ble_eq_true rfl, Nat.le_of_ble_eq_true rfl⟩ (Nat.le_of_ble_eq_true rfl) ?_
      refine s_X4_epochDay hst h0 hy hm hd hn ?_
      refine v_lload dX4_addParts_61 rfl ?_
      refine v_ladd dX4_addParts_63 ?_
      refine v_V1 (rm' := rX4_setEpochDay) (RX4, TX4, 4) dX4_addParts_64 km_X4_64 kn_X4_setEpochDay kv_X4_setEpochDay kz_X4 mk_X4_setEpochDay rfl rfl (by first | exact h0 | exact aup_s) ⟨Nat.le_of_ble_eq_true rfl, Nat.le_of_ble_eq_true rfl⟩ ⟨Nat.le_of_ble_eq_true rfl, Nat.le_of_ble_eq_true rfl⟩ (Nat.le_of_ble_eq_true rfl) ?_
      refine s_X4_setEpochDay hst h0 (fun y' m' d' hy' hm' hd' he' => ?_) (fun h9 => ?_)
      · refine v_if_ne 72 dX4_addParts_67 (fun h_67 => ?_) (fun h_67 => ?_)
        · refine v_aload_n dX4_addParts_72 rfl ?_
          refine v_lload dX4_addParts_73 rfl ?_
          refine v_put dX4_addParts_75 f_X4_21 (by first | exact h0 | exact aup_s) rfl rfl (Nat.le_of_ble_eq_true rfl) ?_
          refine v_iconst dX4_addParts_78 ?_
          exact v_zret dX4_addParts_79 rfl (by first | exact hQ0 _ (by omega) h9 | (exfalso; omega) | (rw [aup_up]; exact hQ1 _ _ _ _ _ hy' hm' hd' he' (by omega))) (by first | exact Or.inl rfl | exact Or.inr rfl | omega)
        · refine v_iconst dX4_addParts_70 ?_
          exact v_zret dX4_addParts_71 rfl (by first | exact hQ0 _ (by omega) h9 | (exfalso; omega) | (rw [aup_up]; exact hQ1 _ _ _ _ _ hy' hm' hd' he' (by omega))) (by first | exact Or.inl rfl | exact Or.inr rfl | omega)
      · refine v_if_ne 72 dX4_addParts_67 (fun h_67 => ?_) (fun h_67 => ?_)
        · refine v_aload_n dX4_addParts_72 rfl ?_
          refine v_lload dX4_addParts_73 rfl ?_
          refine v_put dX4_addParts_75 f_X4_21 (by first | exact h0 | exact aup_s) rfl rfl (Nat.le_of_ble_eq_true rfl) ?_
          refine v_iconst dX4_addParts_78 ?_
          exact v_zret dX4_addParts_79 rfl (by first | exact hQ0 _ (by omega) h9 | (exfalso; omega) | (rw [aup_up]; exact hQ1 _ _ _ _ _ hy' hm' hd' he' (by omega))) (by first | exact Or.inl rfl | exact Or.inr rfl | omega)
        · refine v_iconst dX4_addParts_70 ?_
          exact v_zret dX4_addParts_71 rfl (by first | exact hQ0 _ (by omega) h9 | (exfalso; omega) | (rw [aup_up]; exact hQ1 _ _ _ _ _ hy' hm' hd' he' (by omega))) (by first | exact Or.inl rfl | exact Or.inr rfl | omega)
    · refine v_lload dX4_addParts_42 rfl ?_
      refine v_ldc2 (86400000000000) dX4_addParts_44 kl_X4_77 ?_
      refine v_lsub dX4_addParts_47 ?_
      refine v_lstore dX4_addParts_48 (by decide) ?_
      refine v_lload dX4_addParts_50 rfl ?_
      refine v_lconst1 dX4_addParts_52 ?_
      refine v_ladd dX4_addParts_53 ?_
      refine v_lstore dX4_addParts_54 (by decide) ?_
      refine v_aload_n dX4_addParts_56 rfl ?_
      refine v_aload_n dX4_addParts_57 rfl ?_
      refine v_V0 (rm' := rX4_epochDay) (RX4, TX4, 4) dX4_addParts_58 km_X4_31 kn_X4_epochDay kv_X4_epochDay kz_X4 mk_X4_epochDay rfl rfl (by first | exact h0 | exact aup_s) ⟨Nat.le_of_ble_eq_true rfl, Nat.le_of_ble_eq_true rfl⟩ ⟨Nat.le_of_ble_eq_true rfl, Nat.le_of_ble_eq_true rfl⟩ (Nat.le_of_ble_eq_true rfl) ?_
      refine s_X4_epochDay hst h0 hy hm hd hn ?_
      refine v_lload dX4_addParts_61 rfl ?_
      refine v_ladd dX4_addParts_63 ?_
      refine v_V1 (rm' := rX4_setEpochDay) (RX4, TX4, 4) dX4_addParts_64 km_X4_64 kn_X4_setEpochDay kv_X4_setEpochDay kz_X4 mk_X4_setEpochDay rfl rfl (by first | exact h0 | exact aup_s) ⟨Nat.le_of_ble_eq_true rfl, Nat.le_of_ble_eq_true rfl⟩ ⟨Nat.le_of_ble_eq_true rfl, Nat.le_of_ble_eq_true rfl⟩ (Nat.le_of_ble_eq_true rfl) ?_
      refine s_X4_setEpochDay hst h0 (fun y' m' d' hy' hm' hd' he' => ?_) (fun h9 => ?_)
      · refine v_if_ne 72 dX4_addParts_67 (fun h_67 => ?_) (fun h_67 => ?_)
        · refine v_aload_n dX4_addParts_72 rfl ?_
          refine v_lload dX4_addParts_73 rfl ?_
          refine v_put dX4_addParts_75 f_X4_21 (by first | exact h0 | exact aup_s) rfl rfl (Nat.le_of_ble_eq_true rfl) ?_
          refine v_iconst dX4_addParts_78 ?_
          exact v_zret dX4_addParts_79 rfl (by first | exact hQ0 _ (by omega) h9 | (exfalso; omega) | (rw [aup_up]; exact hQ1 _ _ _ _ _ hy' hm' hd' he' (by omega))) (by first | exact Or.inl rfl | exact Or.inr rfl | omega)
        · refine v_iconst dX4_addParts_70 ?_
          exact v_zret dX4_addParts_71 rfl (by first | exact hQ0 _ (by omega) h9 | (exfalso; omega) | (rw [aup_up]; exact hQ1 _ _ _ _ _ hy' hm' hd' he' (by omega))) (by first | exact Or.inl rfl | exact Or.inr rfl | omega)
      · refine v_if_ne 72 dX4_addParts_67 (fun h_67 => ?_) (fun h_67 => ?_)
        · refine v_aload_n dX4_addParts_72 rfl ?_
          refine v_lload dX4_addParts_73 rfl ?_
          refine v_put dX4_addParts_75 f_X4_21 (by first | exact h0 | exact aup_s) rfl rfl (Nat.le_of_ble_eq_true rfl) ?_
          refine v_iconst dX4_addParts_78 ?_
          exact v_zret dX4_addParts_79 rfl (by first | exact hQ0 _ (by omega) h9 | (exfalso; omega) | (rw [aup_up]; exact hQ1 _ _ _ _ _ hy' hm' hd' he' (by omega))) (by first | exact Or.inl rfl | exact Or.inr rfl | omega)
        · refine v_iconst dX4_addParts_70 ?_
          exact v_zret dX4_addParts_71 rfl (by first | exact hQ0 _ (by omega) h9 | (exfalso; omega) | (rw [aup_up]; exact hQ1 _ _ _ _ _ hy' hm' hd' he' (by omega))) (by first | exact Or.inl rfl | exact Or.inr rfl | omega)
  · refine v_iconst dX4_addParts_6 ?_
    exact v_zret dX4_addParts_7 rfl (by first | exact hQ0 _ (by omega) h9 | (exfalso; omega) | (rw [aup_up]; exact hQ1 _ _ _ _ _ hy' hm' hd' he' (by omega))) (by first | exact Or.inl rfl | exact Or.inr rfl | omega)
def monT (t d : Int) : Int := ed (t / 12) (t % 12 + 1) (if d ≤ lenM (t / 12) (t % 12 + 1) then d else lenM (t / 12) (t % 12 + 1))
def wT (y m d f v : Int) : Int := if f = 0 then monT (v * 12 + m - 1) d else if f = 1 then monT (y * 12 + v - 1) d else if f = 2 then ed y m d + v - d else if f = 3 then ed y 1 1 + v - 1 else if f = 4 then v else if f = 5 then ed y m d + v - wd (ed y m d) else if f = 12 then monT (y * 12 + m - 1 + 3 * (v - (m + 2) / 3)) d else monT v d
def wG (y m d f v : Int) : Prop := if f = 0 then -9999 ≤ v ∧ v ≤ 9999 else if f = 1 then 1 ≤ v ∧ v ≤ 12 else if f = 2 then 1 ≤ v ∧ v ≤ lenM y m else if f = 3 then 1 ≤ v ∧ v ≤ 365 + lp y else if f = 4 then -4371587 ≤ v ∧ v ≤ 2932896 else if f = 5 then (1 ≤ v ∧ v ≤ 7) ∧ (-4371587 ≤ ed y m d + v - wd (ed y m d) ∧ ed y m d + v - wd (ed y m d) ≤ 2932896) else if f = 12 then 1 ≤ v ∧ v ≤ 4 else -119988 ≤ v ∧ v ≤ 119999
theorem monT_ok (t d : Int) (ht : -119988 ≤ t ∧ t ≤ 119999) (hd : 1 ≤ d) : (-9999 ≤ t / 12 ∧ t / 12 ≤ 9999) ∧ (1 ≤ t % 12 + 1 ∧ t % 12 + 1 ≤ 12) ∧ (1 ≤ (if d ≤ lenM (t / 12) (t % 12 + 1) then d else lenM (t / 12) (t % 12 + 1)) ∧ (if d ≤ lenM (t / 12) (t % 12 + 1) then d else lenM (t / 12) (t % 12 + 1)) ≤ lenM (t / 12) (t % 12 + 1)) := by
  have hlen := lenM_rng (t / 12) (t % 12 + 1)
  refine ⟨by omega, by omega, ?_⟩
  split <;> omega
theorem doy_1231 (y : Int) : doy y 12 31 = 365 + lp y := by
  have := doy_c y 12 31
  omega
set_option maxRecDepth 100000 in
set_option maxHeartbeats 4000000 in
theorem s_X4_setDateField {l : Launch} {G : GG} {w : AH} {Q : Option Value → AH → Prop} {X : String → AH → Prop} (hst : l.stackTraces = false) {a : Nat} {y m d n : Int} (h0 : w a = some (stC y m d n)) (hy : -9999 ≤ y ∧ y ≤ 9999) (hm : 1 ≤ m ∧ m ≤ 12) (hd : 1 ≤ d ∧ d ≤ lenM y m) (hn : 0 ≤ n ∧ n ≤ 86399999999999) {f v : Int} (hf : (0 ≤ f ∧ f ≤ 5) ∨ f = 12 ∨ f = 15) (hv : -9223372036854775808 ≤ v ∧ v ≤ 9223372036854775807) (hQ1 : ∀ y' m' d' : Int, (-9999 ≤ y' ∧ y' ≤ 9999) → (1 ≤ m' ∧ m' ≤ 12) → (1 ≤ d' ∧ d' ≤ lenM y' m') → ed y' m' d' = wT y m d f v → wG y m d f v → Q (some (.int (iI 1))) (aup w a (stC y' m' d' n))) (hQ0 : ¬ wG y m d f v → Q (some (.int (iI 0))) w) : Ct l G mX4_setDateField rX4_setDateField [.ref a, .int (iI f), .long (lI v)] w Q X := by
  have hlen := lenM_rng y m
  have hed := ed_rng hy hm hd
  have hwd := wd_c (ed y m d)
  have hdoy := doy_rng hm hd
  have hlp := lp_c y
  have hj := ed_jan1 y
  have hdl := dby_lp y
  have hye := ed_yr hm hd
  have h1231 := doy_1231 y
  have hdo1 := doy_c y 1 1
  have hedm : ed y m d = dby y + doy y m d - 1 - 719528 := rfl
  have hyd : dby y = 365 * y + (y + 3) / 4 - (y + 99) / 100 + (y + 399) / 400 := rfl
  have hdr1 := ed_rng (y := y) (m := m) (d := 1) hy hm (by omega)
  have hdr2 := ed_rng (y := y) (m := m) (d := lenM y m) hy hm (by omega)
  have hdr3 := ed_rng (y := y) (m := 1) (d := 1) hy (by omega) (by have := lenM_rng y 1; omega)
  have hdr4 := ed_rng (y := y) (m := 12) (d := 31) hy (by omega) (by have := lenM_c y 12; omega)
  have hed1 : ed y m 1 = dby y + doy y m 1 - 1 - 719528 := rfl
  have hed2 : ed y m (lenM y m) = dby y + doy y m (lenM y m) - 1 - 719528 := rfl
  have hed4 : ed y 12 31 = dby y + doy y 12 31 - 1 - 719528 := rfl
  have hdc := doy_c y m d
  have hdc1 := doy_c y m 1
  have hdc2 := doy_c y m (lenM y m)
  refine ct_of hst mk_X4_setDateField (Nat.le_of_ble_eq_true rfl) ?_
  refine v_iload_n dX4_setDateField_0 rfl ?_
  rcases (show (f < 0 ∨ 12 < f) ∨ f = 0 ∨ f = 1 ∨ f = 2 ∨ f = 3 ∨ f = 4 ∨ f = 5 ∨ f = 12 by omega) with s_1 | s_1 | s_1 | s_1 | s_1 | s_1 | s_1 | s_1
  · refine v_tabOut 315 dX4_setDateField_1 ?_
    have h15 : f = 15 := (by omega)
    subst h15
    refine v_aload_n dX4_setDateField_315 rfl ?_
    refine v_lload_n dX4_setDateField_316 rfl ?_
    refine v_V1 (rm' := rX4_setMonthNumber) (RX4, TX4, 4) dX4_setDateField_317 km_X4_103 kn_X4_setMonthNumber kv_X4_setMonthNumber kz_X4 mk_X4_setMonthNumber rfl rfl (by first | exact h0 | exact aup_s) ⟨Nat.le_of_ble_eq_true rfl, Nat.le_of_ble_eq_true rfl⟩ ⟨Nat.le_of_ble_eq_true rfl, Nat.le_of_ble_eq_true rfl⟩ (Nat.le_of_ble_eq_true rfl) ?_
    refine s_X4_setMonthNumber hst h0 (by omega) (fun h9 => ?_) (fun h9 => ?_)
    · have hq := monT_ok _ d h9 (by omega)
      have hQ9 := hQ1 _ _ _ hq.1 hq.2.1 hq.2.2 rfl (show -119988 ≤ v ∧ v ≤ 119999 by omega)
      exact v_zret dX4_setDateField_320 rfl (by first | exact hQ9 | (exfalso; omega) | exact hQ0 (show ¬ (-9999 ≤ v ∧ v ≤ 9999) by omega) | exact hQ0 (show ¬ (1 ≤ v ∧ v ≤ 12) by omega) | exact hQ0 (show ¬ (1 ≤ v ∧ v ≤ lenM y m) by omega) | exact hQ0 (show ¬ (1 ≤ v ∧ v ≤ 365 + lp y) by omega) | exact hQ0 (show ¬ (-4371587 ≤ v ∧ v ≤ 2932896) by omega) | exact hQ0 (show ¬ ((1 ≤ v ∧ v ≤ 7) ∧ (-4371587 ≤ ed y m d + v - wd (ed y m d) ∧ ed y m d + v - wd (ed y m d) ≤ 2932896)) by omega) | exact hQ0 (show ¬ (1 ≤ v ∧ v ≤ 4) by omega) | exact hQ0 (show ¬ (-119988 ≤ v ∧ v ≤ 119999) by omega)) (by first | exact Or.inl rfl | exact Or.inr rfl | omega)
    · have hdummy : True := trivial
      exact v_zret dX4_setDateField_320 rfl (by first | exact hQ9 | (exfalso; omega) | exact hQ0 (show ¬ (-9999 ≤ v ∧ v ≤ 9999) by omega) | exact hQ0 (show ¬ (1 ≤ v ∧ v ≤ 12) by omega) | exact hQ0 (show ¬ (1 ≤ v ∧ v ≤ lenM y m) by omega) | exact hQ0 (show ¬ (1 ≤ v ∧ v ≤ 365 + lp y) by omega) | exact hQ0 (show ¬ (-4371587 ≤ v ∧ v ≤ 2932896) by omega) | exact hQ0 (show ¬ ((1 ≤ v ∧ v ≤ 7) ∧ (-4371587 ≤ ed y m d + v - wd (ed y m d) ∧ ed y m d + v - wd (ed y m d) ≤ 2932896)) by omega) | exact hQ0 (show ¬ (1 ≤ v ∧ v ≤ 4) by omega) | exact hQ0 (show ¬ (-119988 ≤ v ∧ v ≤ 119999) by omega)) (by first | exact Or.inl rfl | exact Or.inr rfl | omega)
  · subst s_1
    refine v_tabIn 68 dX4_setDateField_1 rfl ?_
    refine v_lload_n dX4_setDateField_68 rfl ?_
    refine v_S1 (rm' := rX0_isYear) dX4_setDateField_69 km_X4_100 ks_X0_isYear kz_X0 mk_X0_isYear rfl ⟨Nat.le_of_ble_eq_true rfl, Nat.le_of_ble_eq_true rfl⟩ ⟨Nat.le_of_ble_eq_true rfl, Nat.le_of_ble_eq_true rfl⟩ (Nat.le_of_ble_eq_true rfl) ?_
    refine s_X0_isYear hst (fun rb eb => ?_)
    refine v_if_eq 99 dX4_setDateField_72 (fun h_72 => ?_) (fun h_72 => ?_)
    · refine v_iconst dX4_setDateField_99 ?_
      exact v_zret dX4_setDateField_100 rfl (by first | exact hQ9 | (exfalso; omega) | exact hQ0 (show ¬ (-9999 ≤ v ∧ v ≤ 9999) by omega) | exact hQ0 (show ¬ (1 ≤ v ∧ v ≤ 12) by omega) | exact hQ0 (show ¬ (1 ≤ v ∧ v ≤ lenM y m) by omega) | exact hQ0 (show ¬ (1 ≤ v ∧ v ≤ 365 + lp y) by omega) | exact hQ0 (show ¬ (-4371587 ≤ v ∧ v ≤ 2932896) by omega) | exact hQ0 (show ¬ ((1 ≤ v ∧ v ≤ 7) ∧ (-4371587 ≤ ed y m d + v - wd (ed y m d) ∧ ed y m d + v - wd (ed y m d) ≤ 2932896)) by omega) | exact hQ0 (show ¬ (1 ≤ v ∧ v ≤ 4) by omega) | exact hQ0 (show ¬ (-119988 ≤ v ∧ v ≤ 119999) by omega)) (by first | exact Or.inl rfl | exact Or.inr rfl | omega)
    · refine v_aload_n dX4_setDateField_75 rfl ?_
      refine v_lload_n dX4_setDateField_76 rfl ?_
      refine v_ldc2 (12) dX4_setDateField_77 kl_X4_38 ?_
      refine v_lmul dX4_setDateField_80 ?_
      refine v_aload_n dX4_setDateField_81 rfl ?_
      refine v_get dX4_setDateField_82 f_X4_15 (by first | exact h0 | exact aup_s) rfl ?_
      refine v_i2l dX4_setDateField_85 ?_
      refine v_ladd dX4_setDateField_86 ?_
      refine v_lconst1 dX4_setDateField_87 ?_
      refine v_lsub dX4_setDateField_88 ?_
      refine v_V1 (rm' := rX4_setMonthNumber) (RX4, TX4, 4) dX4_setDateField_89 km_X4_103 kn_X4_setMonthNumber kv_X4_setMonthNumber kz_X4 mk_X4_setMonthNumber rfl rfl (by first | exact h0 | exact aup_s) ⟨Nat.le_of_ble_eq_true rfl, Nat.le_of_ble_eq_true rfl⟩ ⟨Nat.le_of_ble_eq_true rfl, Nat.le_of_ble_eq_true rfl⟩ (Nat.le_of_ble_eq_true rfl) ?_
      refine s_X4_setMonthNumber hst h0 (by omega) (fun h9 => ?_) (fun h9 => ?_)
      · have hq := monT_ok _ d h9 (by omega)
        have hQ9 := hQ1 _ _ _ hq.1 hq.2.1 hq.2.2 rfl (show -9999 ≤ v ∧ v ≤ 9999 by omega)
        refine v_if_eq 99 dX4_setDateField_92 (fun h_92 => ?_) (fun h_92 => ?_)
        · refine v_iconst dX4_setDateField_99 ?_
          exact v_zret dX4_setDateField_100 rfl (by first | exact hQ9 | (exfalso; omega) | exact hQ0 (show ¬ (-9999 ≤ v ∧ v ≤ 9999) by omega) | exact hQ0 (show ¬ (1 ≤ v ∧ v ≤ 12) by omega) | exact hQ0 (show ¬ (1 ≤ v ∧ v ≤ lenM y m) by omega) | exact hQ0 (show ¬ (1 ≤ v ∧ v ≤ 365 + lp y) by omega) | exact hQ0 (show ¬ (-4371587 ≤ v ∧ v ≤ 2932896) by omega) | exact hQ0 (show ¬ ((1 ≤ v ∧ v ≤ 7) ∧ (-4371587 ≤ ed y m d + v - wd (ed y m d) ∧ ed y m d + v - wd (ed y m d) ≤ 2932896)) by omega) | exact hQ0 (show ¬ (1 ≤ v ∧ v ≤ 4) by omega) | exact hQ0 (show ¬ (-119988 ≤ v ∧ v ≤ 119999) by omega)) (by first | exact Or.inl rfl | exact Or.inr rfl | omega)
        · refine v_iconst dX4_setDateField_95 ?_
          refine v_goto 100 dX4_setDateField_96 ?_
          exact v_zret dX4_setDateField_100 rfl (by first | exact hQ9 | (exfalso; omega) | exact hQ0 (show ¬ (-9999 ≤ v ∧ v ≤ 9999) by omega) | exact hQ0 (show ¬ (1 ≤ v ∧ v ≤ 12) by omega) | exact hQ0 (show ¬ (1 ≤ v ∧ v ≤ lenM y m) by omega) | exact hQ0 (show ¬ (1 ≤ v ∧ v ≤ 365 + lp y) by omega) | exact hQ0 (show ¬ (-4371587 ≤ v ∧ v ≤ 2932896) by omega) | exact hQ0 (show ¬ ((1 ≤ v ∧ v ≤ 7) ∧ (-4371587 ≤ ed y m d + v - wd (ed y m d) ∧ ed y m d + v - wd (ed y m d) ≤ 2932896)) by omega) | exact hQ0 (show ¬ (1 ≤ v ∧ v ≤ 4) by omega) | exact hQ0 (show ¬ (-119988 ≤ v ∧ v ≤ 119999) by omega)) (by first | exact Or.inl rfl | exact Or.inr rfl | omega)
      · have hdummy : True := trivial
        refine v_if_eq 99 dX4_setDateField_92 (fun h_92 => ?_) (fun h_92 => ?_)
        · refine v_iconst dX4_setDateField_99 ?_
          exact v_zret dX4_setDateField_100 rfl (by first | exact hQ9 | (exfalso; omega) | exact hQ0 (show ¬ (-9999 ≤ v ∧ v ≤ 9999) by omega) | exact hQ0 (show ¬ (1 ≤ v ∧ v ≤ 12) by omega) | exact hQ0 (show ¬ (1 ≤ v ∧ v ≤ lenM y m) by omega) | exact hQ0 (show ¬ (1 ≤ v ∧ v ≤ 365 + lp y) by omega) | exact hQ0 (show ¬ (-4371587 ≤ v ∧ v ≤ 2932896) by omega) | exact hQ0 (show ¬ ((1 ≤ v ∧ v ≤ 7) ∧ (-4371587 ≤ ed y m d + v - wd (ed y m d) ∧ ed y m d + v - wd (ed y m d) ≤ 2932896)) by omega) | exact hQ0 (show ¬ (1 ≤ v ∧ v ≤ 4) by omega) | exact hQ0 (show ¬ (-119988 ≤ v ∧ v ≤ 119999) by omega)) (by first | exact Or.inl rfl | exact Or.inr rfl | omega)
        · refine v_iconst dX4_setDateField_95 ?_
          refine v_goto 100 dX4_setDateField_96 ?_
          exact v_zret dX4_setDateField_100 rfl (by first | exact hQ9 | (exfalso; omega) | exact hQ0 (show ¬ (-9999 ≤ v ∧ v ≤ 9999) by omega) | exact hQ0 (show ¬ (1 ≤ v ∧ v ≤ 12) by omega) | exact hQ0 (show ¬ (1 ≤ v ∧ v ≤ lenM y m) by omega) | exact hQ0 (show ¬ (1 ≤ v ∧ v ≤ 365 + lp y) by omega) | exact hQ0 (show ¬ (-4371587 ≤ v ∧ v ≤ 2932896) by omega) | exact hQ0 (show ¬ ((1 ≤ v ∧ v ≤ 7) ∧ (-4371587 ≤ ed y m d + v - wd (ed y m d) ∧ ed y m d + v - wd (ed y m d) ≤ 2932896)) by omega) | exact hQ0 (show ¬ (1 ≤ v ∧ v ≤ 4) by omega) | exact hQ0 (show ¬ (-119988 ≤ v ∧ v ≤ 119999) by omega)) (by first | exact Or.inl rfl | exact Or.inr rfl | omega)
  · subst s_1
    refine v_tabIn 101 dX4_setDateField_1 rfl ?_
    refine v_lload_n dX4_setDateField_101 rfl ?_
    refine v_S1 (rm' := rX0_isMonth) dX4_setDateField_102 km_X4_106 ks_X0_isMonth kz_X0 mk_X0_isMonth rfl ⟨Nat.le_of_ble_eq_true rfl, Nat.le_of_ble_eq_true rfl⟩ ⟨Nat.le_of_ble_eq_true rfl, Nat.le_of_ble_eq_true rfl⟩ (Nat.le_of_ble_eq_true rfl) ?_
    refine s_X0_isMonth hst (fun rb eb => ?_)
    refine v_if_eq 132 dX4_setDateField_105 (fun h_105 => ?_) (fun h_105 => ?_)
    · refine v_iconst dX4_setDateField_132 ?_
      exact v_zret dX4_setDateField_133 rfl (by first | exact hQ9 | (exfalso; omega) | exact hQ0 (show ¬ (-9999 ≤ v ∧ v ≤ 9999) by omega) | exact hQ0 (show ¬ (1 ≤ v ∧ v ≤ 12) by omega) | exact hQ0 (show ¬ (1 ≤ v ∧ v ≤ lenM y m) by omega) | exact hQ0 (show ¬ (1 ≤ v ∧ v ≤ 365 + lp y) by omega) | exact hQ0 (show ¬ (-4371587 ≤ v ∧ v ≤ 2932896) by omega) | exact hQ0 (show ¬ ((1 ≤ v ∧ v ≤ 7) ∧ (-4371587 ≤ ed y m d + v - wd (ed y m d) ∧ ed y m d + v - wd (ed y m d) ≤ 2932896)) by omega) | exact hQ0 (show ¬ (1 ≤ v ∧ v ≤ 4) by omega) | exact hQ0 (show ¬ (-119988 ≤ v ∧ v ≤ 119999) by omega)) (by first | exact Or.inl rfl | exact Or.inr rfl | omega)
    · refine v_aload_n dX4_setDateField_108 rfl ?_
      refine v_aload_n dX4_setDateField_109 rfl ?_
      refine v_get dX4_setDateField_110 f_X4_9 (by first | exact h0 | exact aup_s) rfl ?_
      refine v_i2l dX4_setDateField_113 ?_
      refine v_ldc2 (12) dX4_setDateField_114 kl_X4_38 ?_
      refine v_lmul dX4_setDateField_117 ?_
      refine v_lload_n dX4_setDateField_118 rfl ?_
      refine v_ladd dX4_setDateField_119 ?_
      refine v_lconst1 dX4_setDateField_120 ?_
      refine v_lsub dX4_setDateField_121 ?_
      refine v_V1 (rm' := rX4_setMonthNumber) (RX4, TX4, 4) dX4_setDateField_122 km_X4_103 kn_X4_setMonthNumber kv_X4_setMonthNumber kz_X4 mk_X4_setMonthNumber rfl rfl (by first | exact h0 | exact aup_s) ⟨Nat.le_of_ble_eq_true rfl, Nat.le_of_ble_eq_true rfl⟩ ⟨Nat.le_of_ble_eq_true rfl, Nat.le_of_ble_eq_true rfl⟩ (Nat.le_of_ble_eq_true rfl) ?_
      refine s_X4_setMonthNumber hst h0 (by omega) (fun h9 => ?_) (fun h9 => ?_)
      · have hq := monT_ok _ d h9 (by omega)
        have hQ9 := hQ1 _ _ _ hq.1 hq.2.1 hq.2.2 rfl (show 1 ≤ v ∧ v ≤ 12 by omega)
        refine v_if_eq 132 dX4_setDateField_125 (fun h_125 => ?_) (fun h_125 => ?_)
        · refine v_iconst dX4_setDateField_132 ?_
          exact v_zret dX4_setDateField_133 rfl (by first | exact hQ9 | (exfalso; omega) | exact hQ0 (show ¬ (-9999 ≤ v ∧ v ≤ 9999) by omega) | exact hQ0 (show ¬ (1 ≤ v ∧ v ≤ 12) by omega) | exact hQ0 (show ¬ (1 ≤ v ∧ v ≤ lenM y m) by omega) | exact hQ0 (show ¬ (1 ≤ v ∧ v ≤ 365 + lp y) by omega) | exact hQ0 (show ¬ (-4371587 ≤ v ∧ v ≤ 2932896) by omega) | exact hQ0 (show ¬ ((1 ≤ v ∧ v ≤ 7) ∧ (-4371587 ≤ ed y m d + v - wd (ed y m d) ∧ ed y m d + v - wd (ed y m d) ≤ 2932896)) by omega) | exact hQ0 (show ¬ (1 ≤ v ∧ v ≤ 4) by omega) | exact hQ0 (show ¬ (-119988 ≤ v ∧ v ≤ 119999) by omega)) (by first | exact Or.inl rfl | exact Or.inr rfl | omega)
        · refine v_iconst dX4_setDateField_128 ?_
          refine v_goto 133 dX4_setDateField_129 ?_
          exact v_zret dX4_setDateField_133 rfl (by first | exact hQ9 | (exfalso; omega) | exact hQ0 (show ¬ (-9999 ≤ v ∧ v ≤ 9999) by omega) | exact hQ0 (show ¬ (1 ≤ v ∧ v ≤ 12) by omega) | exact hQ0 (show ¬ (1 ≤ v ∧ v ≤ lenM y m) by omega) | exact hQ0 (show ¬ (1 ≤ v ∧ v ≤ 365 + lp y) by omega) | exact hQ0 (show ¬ (-4371587 ≤ v ∧ v ≤ 2932896) by omega) | exact hQ0 (show ¬ ((1 ≤ v ∧ v ≤ 7) ∧ (-4371587 ≤ ed y m d + v - wd (ed y m d) ∧ ed y m d + v - wd (ed y m d) ≤ 2932896)) by omega) | exact hQ0 (show ¬ (1 ≤ v ∧ v ≤ 4) by omega) | exact hQ0 (show ¬ (-119988 ≤ v ∧ v ≤ 119999) by omega)) (by first | exact Or.inl rfl | exact Or.inr rfl | omega)
      · have hdummy : True := trivial
        refine v_if_eq 132 dX4_setDateField_125 (fun h_125 => ?_) (fun h_125 => ?_)
        · refine v_iconst dX4_setDateField_132 ?_
          exact v_zret dX4_setDateField_133 rfl (by first | exact hQ9 | (exfalso; omega) | exact hQ0 (show ¬ (-9999 ≤ v ∧ v ≤ 9999) by omega) | exact hQ0 (show ¬ (1 ≤ v ∧ v ≤ 12) by omega) | exact hQ0 (show ¬ (1 ≤ v ∧ v ≤ lenM y m) by omega) | exact hQ0 (show ¬ (1 ≤ v ∧ v ≤ 365 + lp y) by omega) | exact hQ0 (show ¬ (-4371587 ≤ v ∧ v ≤ 2932896) by omega) | exact hQ0 (show ¬ ((1 ≤ v ∧ v ≤ 7) ∧ (-4371587 ≤ ed y m d + v - wd (ed y m d) ∧ ed y m d + v - wd (ed y m d) ≤ 2932896)) by omega) | exact hQ0 (show ¬ (1 ≤ v ∧ v ≤ 4) by omega) | exact hQ0 (show ¬ (-119988 ≤ v ∧ v ≤ 119999) by omega)) (by first | exact Or.inl rfl | exact Or.inr rfl | omega)
        · refine v_iconst dX4_setDateField_128 ?_
          refine v_goto 133 dX4_setDateField_129 ?_
          exact v_zret dX4_setDateField_133 rfl (by first | exact hQ9 | (exfalso; omega) | exact hQ0 (show ¬ (-9999 ≤ v ∧ v ≤ 9999) by omega) | exact hQ0 (show ¬ (1 ≤ v ∧ v ≤ 12) by omega) | exact hQ0 (show ¬ (1 ≤ v ∧ v ≤ lenM y m) by omega) | exact hQ0 (show ¬ (1 ≤ v ∧ v ≤ 365 + lp y) by omega) | exact hQ0 (show ¬ (-4371587 ≤ v ∧ v ≤ 2932896) by omega) | exact hQ0 (show ¬ ((1 ≤ v ∧ v ≤ 7) ∧ (-4371587 ≤ ed y m d + v - wd (ed y m d) ∧ ed y m d + v - wd (ed y m d) ≤ 2932896)) by omega) | exact hQ0 (show ¬ (1 ≤ v ∧ v ≤ 4) by omega) | exact hQ0 (show ¬ (-119988 ≤ v ∧ v ≤ 119999) by omega)) (by first | exact Or.inl rfl | exact Or.inr rfl | omega)
  · subst s_1
    refine v_tabIn 134 dX4_setDateField_1 rfl ?_
    refine v_lload_n dX4_setDateField_134 rfl ?_
    refine v_lconst1 dX4_setDateField_135 ?_
    refine v_lif_lt 180 dX4_setDateField_136 dX4_setDateField_137 (fun h_136 => ?_) (fun h_136 => ?_)
    · refine v_iconst dX4_setDateField_180 ?_
      exact v_zret dX4_setDateField_181 rfl (by first | exact hQ9 | (exfalso; omega) | exact hQ0 (show ¬ (-9999 ≤ v ∧ v ≤ 9999) by omega) | exact hQ0 (show ¬ (1 ≤ v ∧ v ≤ 12) by omega) | exact hQ0 (show ¬ (1 ≤ v ∧ v ≤ lenM y m) by omega) | exact hQ0 (show ¬ (1 ≤ v ∧ v ≤ 365 + lp y) by omega) | exact hQ0 (show ¬ (-4371587 ≤ v ∧ v ≤ 2932896) by omega) | exact hQ0 (show ¬ ((1 ≤ v ∧ v ≤ 7) ∧ (-4371587 ≤ ed y m d + v - wd (ed y m d) ∧ ed y m d + v - wd (ed y m d) ≤ 2932896)) by omega) | exact hQ0 (show ¬ (1 ≤ v ∧ v ≤ 4) by omega) | exact hQ0 (show ¬ (-119988 ≤ v ∧ v ≤ 119999) by omega)) (by first | exact Or.inl rfl | exact Or.inr rfl | omega)
    · refine v_lload_n dX4_setDateField_140 rfl ?_
      refine v_aload_n dX4_setDateField_141 rfl ?_
      refine v_get dX4_setDateField_142 f_X4_9 (by first | exact h0 | exact aup_s) rfl ?_
      refine v_aload_n dX4_setDateField_145 rfl ?_
      refine v_get dX4_setDateField_146 f_X4_15 (by first | exact h0 | exact aup_s) rfl ?_
      refine v_S2 (rm' := rX0_monthLength) dX4_setDateField_149 km_X4_48 ks_X0_monthLength kz_X0 mk_X0_monthLength rfl ⟨Nat.le_of_ble_eq_true rfl, Nat.le_of_ble_eq_true rfl⟩ ⟨Nat.le_of_ble_eq_true rfl, Nat.le_of_ble_eq_true rfl⟩ (Nat.le_of_ble_eq_true rfl) ?_
      refine s_X0_monthLength hst ?_
      refine v_i2l dX4_setDateField_152 ?_
      refine v_lif_gt 180 dX4_setDateField_153 dX4_setDateField_154 (fun h_153 => ?_) (fun h_153 => ?_)
      · refine v_iconst dX4_setDateField_180 ?_
        exact v_zret dX4_setDateField_181 rfl (by first | exact hQ9 | (exfalso; omega) | exact hQ0 (show ¬ (-9999 ≤ v ∧ v ≤ 9999) by omega) | exact hQ0 (show ¬ (1 ≤ v ∧ v ≤ 12) by omega) | exact hQ0 (show ¬ (1 ≤ v ∧ v ≤ lenM y m) by omega) | exact hQ0 (show ¬ (1 ≤ v ∧ v ≤ 365 + lp y) by omega) | exact hQ0 (show ¬ (-4371587 ≤ v ∧ v ≤ 2932896) by omega) | exact hQ0 (show ¬ ((1 ≤ v ∧ v ≤ 7) ∧ (-4371587 ≤ ed y m d + v - wd (ed y m d) ∧ ed y m d + v - wd (ed y m d) ≤ 2932896)) by omega) | exact hQ0 (show ¬ (1 ≤ v ∧ v ≤ 4) by omega) | exact hQ0 (show ¬ (-119988 ≤ v ∧ v ≤ 119999) by omega)) (by first | exact Or.inl rfl | exact Or.inr rfl | omega)
      · refine v_aload_n dX4_setDateField_157 rfl ?_
        refine v_aload_n dX4_setDateField_158 rfl ?_
        refine v_V0 (rm' := rX4_epochDay) (RX4, TX4, 4) dX4_setDateField_159 km_X4_31 kn_X4_epochDay kv_X4_epochDay kz_X4 mk_X4_epochDay rfl rfl (by first | exact h0 | exact aup_s) ⟨Nat.le_of_ble_eq_true rfl, Nat.le_of_ble_eq_true rfl⟩ ⟨Nat.le_of_ble_eq_true rfl, Nat.le_of_ble_eq_true rfl⟩ (Nat.le_of_ble_eq_true rfl) ?_
        refine s_X4_epochDay hst h0 hy hm hd hn ?_
        refine v_lload_n dX4_setDateField_162 rfl ?_
        refine v_ladd dX4_setDateField_163 ?_
        refine v_aload_n dX4_setDateField_164 rfl ?_
        refine v_get dX4_setDateField_165 f_X4_18 (by first | exact h0 | exact aup_s) rfl ?_
        refine v_i2l dX4_setDateField_168 ?_
        refine v_lsub dX4_setDateField_169 ?_
        refine v_V1 (rm' := rX4_setEpochDay) (RX4, TX4, 4) dX4_setDateField_170 km_X4_64 kn_X4_setEpochDay kv_X4_setEpochDay kz_X4 mk_X4_setEpochDay rfl rfl (by first | exact h0 | exact aup_s) ⟨Nat.le_of_ble_eq_true rfl, Nat.le_of_ble_eq_true rfl⟩ ⟨Nat.le_of_ble_eq_true rfl, Nat.le_of_ble_eq_true rfl⟩ (Nat.le_of_ble_eq_true rfl) ?_
        refine s_X4_setEpochDay hst h0 (fun y' m' d' hy' hm' hd' he' => ?_) (fun h9 => ?_)
        · have hr9 := ed_rng hy' hm' hd'
          have hQ9 := hQ1 y' m' d' hy' hm' hd' (he'.trans (show _ = _ from rfl)) (show 1 ≤ v ∧ v ≤ lenM y m by omega)
          refine v_if_eq 180 dX4_setDateField_173 (fun h_173 => ?_) (fun h_173 => ?_)
          · refine v_iconst dX4_setDateField_180 ?_
            exact v_zret dX4_setDateField_181 rfl (by first | exact hQ9 | (exfalso; omega) | exact hQ0 (show ¬ (-9999 ≤ v ∧ v ≤ 9999) by omega) | exact hQ0 (show ¬ (1 ≤ v ∧ v ≤ 12) by omega) | exact hQ0 (show ¬ (1 ≤ v ∧ v ≤ lenM y m) by omega) | exact hQ0 (show ¬ (1 ≤ v ∧ v ≤ 365 + lp y) by omega) | exact hQ0 (show ¬ (-4371587 ≤ v ∧ v ≤ 2932896) by omega) | exact hQ0 (show ¬ ((1 ≤ v ∧ v ≤ 7) ∧ (-4371587 ≤ ed y m d + v - wd (ed y m d) ∧ ed y m d + v - wd (ed y m d) ≤ 2932896)) by omega) | exact hQ0 (show ¬ (1 ≤ v ∧ v ≤ 4) by omega) | exact hQ0 (show ¬ (-119988 ≤ v ∧ v ≤ 119999) by omega)) (by first | exact Or.inl rfl | exact Or.inr rfl | omega)
          · refine v_iconst dX4_setDateField_176 ?_
            refine v_goto 181 dX4_setDateField_177 ?_
            exact v_zret dX4_setDateField_181 rfl (by first | exact hQ9 | (exfalso; omega) | exact hQ0 (show ¬ (-9999 ≤ v ∧ v ≤ 9999) by omega) | exact hQ0 (show ¬ (1 ≤ v ∧ v ≤ 12) by omega) | exact hQ0 (show ¬ (1 ≤ v ∧ v ≤ lenM y m) by omega) | exact hQ0 (show ¬ (1 ≤ v ∧ v ≤ 365 + lp y) by omega) | exact hQ0 (show ¬ (-4371587 ≤ v ∧ v ≤ 2932896) by omega) | exact hQ0 (show ¬ ((1 ≤ v ∧ v ≤ 7) ∧ (-4371587 ≤ ed y m d + v - wd (ed y m d) ∧ ed y m d + v - wd (ed y m d) ≤ 2932896)) by omega) | exact hQ0 (show ¬ (1 ≤ v ∧ v ≤ 4) by omega) | exact hQ0 (show ¬ (-119988 ≤ v ∧ v ≤ 119999) by omega)) (by first | exact Or.inl rfl | exact Or.inr rfl | omega)
        · have hdummy : True := trivial
          refine v_if_eq 180 dX4_setDateField_173 (fun h_173 => ?_) (fun h_173 => ?_)
          · refine v_iconst dX4_setDateField_180 ?_
            exact v_zret dX4_setDateField_181 rfl (by first | exact hQ9 | (exfalso; omega) | exact hQ0 (show ¬ (-9999 ≤ v ∧ v ≤ 9999) by omega) | exact hQ0 (show ¬ (1 ≤ v ∧ v ≤ 12) by omega) | exact hQ0 (show ¬ (1 ≤ v ∧ v ≤ lenM y m) by omega) | exact hQ0 (show ¬ (1 ≤ v ∧ v ≤ 365 + lp y) by omega) | exact hQ0 (show ¬ (-4371587 ≤ v ∧ v ≤ 2932896) by omega) | exact hQ0 (show ¬ ((1 ≤ v ∧ v ≤ 7) ∧ (-4371587 ≤ ed y m d + v - wd (ed y m d) ∧ ed y m d + v - wd (ed y m d) ≤ 2932896)) by omega) | exact hQ0 (show ¬ (1 ≤ v ∧ v ≤ 4) by omega) | exact hQ0 (show ¬ (-119988 ≤ v ∧ v ≤ 119999) by omega)) (by first | exact Or.inl rfl | exact Or.inr rfl | omega)
          · refine v_iconst dX4_setDateField_176 ?_
            refine v_goto 181 dX4_setDateField_177 ?_
            exact v_zret dX4_setDateField_181 rfl (by first | exact hQ9 | (exfalso; omega) | exact hQ0 (show ¬ (-9999 ≤ v ∧ v ≤ 9999) by omega) | exact hQ0 (show ¬ (1 ≤ v ∧ v ≤ 12) by omega) | exact hQ0 (show ¬ (1 ≤ v ∧ v ≤ lenM y m) by omega) | exact hQ0 (show ¬ (1 ≤ v ∧ v ≤ 365 + lp y) by omega) | exact hQ0 (show ¬ (-4371587 ≤ v ∧ v ≤ 2932896) by omega) | exact hQ0 (show ¬ ((1 ≤ v ∧ v ≤ 7) ∧ (-4371587 ≤ ed y m d + v - wd (ed y m d) ∧ ed y m d + v - wd (ed y m d) ≤ 2932896)) by omega) | exact hQ0 (show ¬ (1 ≤ v ∧ v ≤ 4) by omega) | exact hQ0 (show ¬ (-119988 ≤ v ∧ v ≤ 119999) by omega)) (by first | exact Or.inl rfl | exact Or.inr rfl | omega)
  · subst s_1
    refine v_tabIn 182 dX4_setDateField_1 rfl ?_
    refine v_lload_n dX4_setDateField_182 rfl ?_
    refine v_lconst1 dX4_setDateField_183 ?_
    refine v_lif_lt 229 dX4_setDateField_184 dX4_setDateField_185 (fun h_184 => ?_) (fun h_184 => ?_)
    · refine v_iconst dX4_setDateField_229 ?_
      exact v_zret dX4_setDateField_230 rfl (by first | exact hQ9 | (exfalso; omega) | exact hQ0 (show ¬ (-9999 ≤ v ∧ v ≤ 9999) by omega) | exact hQ0 (show ¬ (1 ≤ v ∧ v ≤ 12) by omega) | exact hQ0 (show ¬ (1 ≤ v ∧ v ≤ lenM y m) by omega) | exact hQ0 (show ¬ (1 ≤ v ∧ v ≤ 365 + lp y) by omega) | exact hQ0 (show ¬ (-4371587 ≤ v ∧ v ≤ 2932896) by omega) | exact hQ0 (show ¬ ((1 ≤ v ∧ v ≤ 7) ∧ (-4371587 ≤ ed y m d + v - wd (ed y m d) ∧ ed y m d + v - wd (ed y m d) ≤ 2932896)) by omega) | exact hQ0 (show ¬ (1 ≤ v ∧ v ≤ 4) by omega) | exact hQ0 (show ¬ (-119988 ≤ v ∧ v ≤ 119999) by omega)) (by first | exact Or.inl rfl | exact Or.inr rfl | omega)
    · refine v_lload_n dX4_setDateField_188 rfl ?_
      refine v_aload_n dX4_setDateField_189 rfl ?_
      refine v_get dX4_setDateField_190 f_X4_9 (by first | exact h0 | exact aup_s) rfl ?_
      refine v_bipush dX4_setDateField_193 ?_
      refine v_bipush dX4_setDateField_195 ?_
      refine v_S3 (rm' := rX0_dayOfYear) dX4_setDateField_197 km_X4_79 ks_X0_dayOfYear kz_X0 mk_X0_dayOfYear rfl ⟨Nat.le_of_ble_eq_true rfl, Nat.le_of_ble_eq_true rfl⟩ ⟨Nat.le_of_ble_eq_true rfl, Nat.le_of_ble_eq_true rfl⟩ (Nat.le_of_ble_eq_true rfl) ?_
      refine s_X0_dayOfYear hst ?_
      refine v_i2l dX4_setDateField_200 ?_
      refine v_lif_gt 229 dX4_setDateField_201 dX4_setDateField_202 (fun h_201 => ?_) (fun h_201 => ?_)
      · refine v_iconst dX4_setDateField_229 ?_
        exact v_zret dX4_setDateField_230 rfl (by first | exact hQ9 | (exfalso; omega) | exact hQ0 (show ¬ (-9999 ≤ v ∧ v ≤ 9999) by omega) | exact hQ0 (show ¬ (1 ≤ v ∧ v ≤ 12) by omega) | exact hQ0 (show ¬ (1 ≤ v ∧ v ≤ lenM y m) by omega) | exact hQ0 (show ¬ (1 ≤ v ∧ v ≤ 365 + lp y) by omega) | exact hQ0 (show ¬ (-4371587 ≤ v ∧ v ≤ 2932896) by omega) | exact hQ0 (show ¬ ((1 ≤ v ∧ v ≤ 7) ∧ (-4371587 ≤ ed y m d + v - wd (ed y m d) ∧ ed y m d + v - wd (ed y m d) ≤ 2932896)) by omega) | exact hQ0 (show ¬ (1 ≤ v ∧ v ≤ 4) by omega) | exact hQ0 (show ¬ (-119988 ≤ v ∧ v ≤ 119999) by omega)) (by first | exact Or.inl rfl | exact Or.inr rfl | omega)
      · refine v_aload_n dX4_setDateField_205 rfl ?_
        refine v_aload_n dX4_setDateField_206 rfl ?_
        refine v_get dX4_setDateField_207 f_X4_9 (by first | exact h0 | exact aup_s) rfl ?_
        refine v_iconst dX4_setDateField_210 ?_
        refine v_iconst dX4_setDateField_211 ?_
        refine v_S3 (rm' := rX0_epochDay) dX4_setDateField_212 km_X4_25 ks_X0_epochDay kz_X0 mk_X0_epochDay rfl ⟨Nat.le_of_ble_eq_true rfl, Nat.le_of_ble_eq_true rfl⟩ ⟨Nat.le_of_ble_eq_true rfl, Nat.le_of_ble_eq_true rfl⟩ (Nat.le_of_ble_eq_true rfl) ?_
        refine s_X0_epochDay hst ?_
        refine v_lload_n dX4_setDateField_215 rfl ?_
        refine v_ladd dX4_setDateField_216 ?_
        refine v_lconst1 dX4_setDateField_217 ?_
        refine v_lsub dX4_setDateField_218 ?_
        refine v_V1 (rm' := rX4_setEpochDay) (RX4, TX4, 4) dX4_setDateField_219 km_X4_64 kn_X4_setEpochDay kv_X4_setEpochDay kz_X4 mk_X4_setEpochDay rfl rfl (by first | exact h0 | exact aup_s) ⟨Nat.le_of_ble_eq_true rfl, Nat.le_of_ble_eq_true rfl⟩ ⟨Nat.le_of_ble_eq_true rfl, Nat.le_of_ble_eq_true rfl⟩ (Nat.le_of_ble_eq_true rfl) ?_
        refine s_X4_setEpochDay hst h0 (fun y' m' d' hy' hm' hd' he' => ?_) (fun h9 => ?_)
        · have hr9 := ed_rng hy' hm' hd'
          have hQ9 := hQ1 y' m' d' hy' hm' hd' (he'.trans (show _ = _ from rfl)) (show 1 ≤ v ∧ v ≤ 365 + lp y by omega)
          refine v_if_eq 229 dX4_setDateField_222 (fun h_222 => ?_) (fun h_222 => ?_)
          · refine v_iconst dX4_setDateField_229 ?_
            exact v_zret dX4_setDateField_230 rfl (by first | exact hQ9 | (exfalso; omega) | exact hQ0 (show ¬ (-9999 ≤ v ∧ v ≤ 9999) by omega) | exact hQ0 (show ¬ (1 ≤ v ∧ v ≤ 12) by omega) | exact hQ0 (show ¬ (1 ≤ v ∧ v ≤ lenM y m) by omega) | exact hQ0 (show ¬ (1 ≤ v ∧ v ≤ 365 + lp y) by omega) | exact hQ0 (show ¬ (-4371587 ≤ v ∧ v ≤ 2932896) by omega) | exact hQ0 (show ¬ ((1 ≤ v ∧ v ≤ 7) ∧ (-4371587 ≤ ed y m d + v - wd (ed y m d) ∧ ed y m d + v - wd (ed y m d) ≤ 2932896)) by omega) | exact hQ0 (show ¬ (1 ≤ v ∧ v ≤ 4) by omega) | exact hQ0 (show ¬ (-119988 ≤ v ∧ v ≤ 119999) by omega)) (by first | exact Or.inl rfl | exact Or.inr rfl | omega)
          · refine v_iconst dX4_setDateField_225 ?_
            refine v_goto 230 dX4_setDateField_226 ?_
            exact v_zret dX4_setDateField_230 rfl (by first | exact hQ9 | (exfalso; omega) | exact hQ0 (show ¬ (-9999 ≤ v ∧ v ≤ 9999) by omega) | exact hQ0 (show ¬ (1 ≤ v ∧ v ≤ 12) by omega) | exact hQ0 (show ¬ (1 ≤ v ∧ v ≤ lenM y m) by omega) | exact hQ0 (show ¬ (1 ≤ v ∧ v ≤ 365 + lp y) by omega) | exact hQ0 (show ¬ (-4371587 ≤ v ∧ v ≤ 2932896) by omega) | exact hQ0 (show ¬ ((1 ≤ v ∧ v ≤ 7) ∧ (-4371587 ≤ ed y m d + v - wd (ed y m d) ∧ ed y m d + v - wd (ed y m d) ≤ 2932896)) by omega) | exact hQ0 (show ¬ (1 ≤ v ∧ v ≤ 4) by omega) | exact hQ0 (show ¬ (-119988 ≤ v ∧ v ≤ 119999) by omega)) (by first | exact Or.inl rfl | exact Or.inr rfl | omega)
        · have hdummy : True := trivial
          refine v_if_eq 229 dX4_setDateField_222 (fun h_222 => ?_) (fun h_222 => ?_)
          · refine v_iconst dX4_setDateField_229 ?_
            exact v_zret dX4_setDateField_230 rfl (by first | exact hQ9 | (exfalso; omega) | exact hQ0 (show ¬ (-9999 ≤ v ∧ v ≤ 9999) by omega) | exact hQ0 (show ¬ (1 ≤ v ∧ v ≤ 12) by omega) | exact hQ0 (show ¬ (1 ≤ v ∧ v ≤ lenM y m) by omega) | exact hQ0 (show ¬ (1 ≤ v ∧ v ≤ 365 + lp y) by omega) | exact hQ0 (show ¬ (-4371587 ≤ v ∧ v ≤ 2932896) by omega) | exact hQ0 (show ¬ ((1 ≤ v ∧ v ≤ 7) ∧ (-4371587 ≤ ed y m d + v - wd (ed y m d) ∧ ed y m d + v - wd (ed y m d) ≤ 2932896)) by omega) | exact hQ0 (show ¬ (1 ≤ v ∧ v ≤ 4) by omega) | exact hQ0 (show ¬ (-119988 ≤ v ∧ v ≤ 119999) by omega)) (by first | exact Or.inl rfl | exact Or.inr rfl | omega)
          · refine v_iconst dX4_setDateField_225 ?_
            refine v_goto 230 dX4_setDateField_226 ?_
            exact v_zret dX4_setDateField_230 rfl (by first | exact hQ9 | (exfalso; omega) | exact hQ0 (show ¬ (-9999 ≤ v ∧ v ≤ 9999) by omega) | exact hQ0 (show ¬ (1 ≤ v ∧ v ≤ 12) by omega) | exact hQ0 (show ¬ (1 ≤ v ∧ v ≤ lenM y m) by omega) | exact hQ0 (show ¬ (1 ≤ v ∧ v ≤ 365 + lp y) by omega) | exact hQ0 (show ¬ (-4371587 ≤ v ∧ v ≤ 2932896) by omega) | exact hQ0 (show ¬ ((1 ≤ v ∧ v ≤ 7) ∧ (-4371587 ≤ ed y m d + v - wd (ed y m d) ∧ ed y m d + v - wd (ed y m d) ≤ 2932896)) by omega) | exact hQ0 (show ¬ (1 ≤ v ∧ v ≤ 4) by omega) | exact hQ0 (show ¬ (-119988 ≤ v ∧ v ≤ 119999) by omega)) (by first | exact Or.inl rfl | exact Or.inr rfl | omega)
  · subst s_1
    refine v_tabIn 231 dX4_setDateField_1 rfl ?_
    refine v_aload_n dX4_setDateField_231 rfl ?_
    refine v_lload_n dX4_setDateField_232 rfl ?_
    refine v_V1 (rm' := rX4_setEpochDay) (RX4, TX4, 4) dX4_setDateField_233 km_X4_64 kn_X4_setEpochDay kv_X4_setEpochDay kz_X4 mk_X4_setEpochDay rfl rfl (by first | exact h0 | exact aup_s) ⟨Nat.le_of_ble_eq_true rfl, Nat.le_of_ble_eq_true rfl⟩ ⟨Nat.le_of_ble_eq_true rfl, Nat.le_of_ble_eq_true rfl⟩ (Nat.le_of_ble_eq_true rfl) ?_
    refine s_X4_setEpochDay hst h0 (fun y' m' d' hy' hm' hd' he' => ?_) (fun h9 => ?_)
    · have hr9 := ed_rng hy' hm' hd'
      have hQ9 := hQ1 y' m' d' hy' hm' hd' (he'.trans (show _ = _ from rfl)) (show -4371587 ≤ v ∧ v ≤ 2932896 by omega)
      exact v_zret dX4_setDateField_236 rfl (by first | exact hQ9 | (exfalso; omega) | exact hQ0 (show ¬ (-9999 ≤ v ∧ v ≤ 9999) by omega) | exact hQ0 (show ¬ (1 ≤ v ∧ v ≤ 12) by omega) | exact hQ0 (show ¬ (1 ≤ v ∧ v ≤ lenM y m) by omega) | exact hQ0 (show ¬ (1 ≤ v ∧ v ≤ 365 + lp y) by omega) | exact hQ0 (show ¬ (-4371587 ≤ v ∧ v ≤ 2932896) by omega) | exact hQ0 (show ¬ ((1 ≤ v ∧ v ≤ 7) ∧ (-4371587 ≤ ed y m d + v - wd (ed y m d) ∧ ed y m d + v - wd (ed y m d) ≤ 2932896)) by omega) | exact hQ0 (show ¬ (1 ≤ v ∧ v ≤ 4) by omega) | exact hQ0 (show ¬ (-119988 ≤ v ∧ v ≤ 119999) by omega)) (by first | exact Or.inl rfl | exact Or.inr rfl | omega)
    · have hdummy : True := trivial
      exact v_zret dX4_setDateField_236 rfl (by first | exact hQ9 | (exfalso; omega) | exact hQ0 (show ¬ (-9999 ≤ v ∧ v ≤ 9999) by omega) | exact hQ0 (show ¬ (1 ≤ v ∧ v ≤ 12) by omega) | exact hQ0 (show ¬ (1 ≤ v ∧ v ≤ lenM y m) by omega) | exact hQ0 (show ¬ (1 ≤ v ∧ v ≤ 365 + lp y) by omega) | exact hQ0 (show ¬ (-4371587 ≤ v ∧ v ≤ 2932896) by omega) | exact hQ0 (show ¬ ((1 ≤ v ∧ v ≤ 7) ∧ (-4371587 ≤ ed y m d + v - wd (ed y m d) ∧ ed y m d + v - wd (ed y m d) ≤ 2932896)) by omega) | exact hQ0 (show ¬ (1 ≤ v ∧ v ≤ 4) by omega) | exact hQ0 (show ¬ (-119988 ≤ v ∧ v ≤ 119999) by omega)) (by first | exact Or.inl rfl | exact Or.inr rfl | omega)
  · subst s_1
    refine v_tabIn 237 dX4_setDateField_1 rfl ?_
    refine v_lload_n dX4_setDateField_237 rfl ?_
    refine v_S1 (rm' := rX0_isWeekday) dX4_setDateField_238 km_X4_109 ks_X0_isWeekday kz_X0 mk_X0_isWeekday rfl ⟨Nat.le_of_ble_eq_true rfl, Nat.le_of_ble_eq_true rfl⟩ ⟨Nat.le_of_ble_eq_true rfl, Nat.le_of_ble_eq_true rfl⟩ (Nat.le_of_ble_eq_true rfl) ?_
    refine s_X0_isWeekday hst (fun rb eb => ?_)
    refine v_if_eq 270 dX4_setDateField_241 (fun h_241 => ?_) (fun h_241 => ?_)
    · refine v_iconst dX4_setDateField_270 ?_
      exact v_zret dX4_setDateField_271 rfl (by first | exact hQ9 | (exfalso; omega) | exact hQ0 (show ¬ (-9999 ≤ v ∧ v ≤ 9999) by omega) | exact hQ0 (show ¬ (1 ≤ v ∧ v ≤ 12) by omega) | exact hQ0 (show ¬ (1 ≤ v ∧ v ≤ lenM y m) by omega) | exact hQ0 (show ¬ (1 ≤ v ∧ v ≤ 365 + lp y) by omega) | exact hQ0 (show ¬ (-4371587 ≤ v ∧ v ≤ 2932896) by omega) | exact hQ0 (show ¬ ((1 ≤ v ∧ v ≤ 7) ∧ (-4371587 ≤ ed y m d + v - wd (ed y m d) ∧ ed y m d + v - wd (ed y m d) ≤ 2932896)) by omega) | exact hQ0 (show ¬ (1 ≤ v ∧ v ≤ 4) by omega) | exact hQ0 (show ¬ (-119988 ≤ v ∧ v ≤ 119999) by omega)) (by first | exact Or.inl rfl | exact Or.inr rfl | omega)
    · refine v_aload_n dX4_setDateField_244 rfl ?_
      refine v_aload_n dX4_setDateField_245 rfl ?_
      refine v_V0 (rm' := rX4_epochDay) (RX4, TX4, 4) dX4_setDateField_246 km_X4_31 kn_X4_epochDay kv_X4_epochDay kz_X4 mk_X4_epochDay rfl rfl (by first | exact h0 | exact aup_s) ⟨Nat.le_of_ble_eq_true rfl, Nat.le_of_ble_eq_true rfl⟩ ⟨Nat.le_of_ble_eq_true rfl, Nat.le_of_ble_eq_true rfl⟩ (Nat.le_of_ble_eq_true rfl) ?_
      refine s_X4_epochDay hst h0 hy hm hd hn ?_
      refine v_lload_n dX4_setDateField_249 rfl ?_
      refine v_ladd dX4_setDateField_250 ?_
      refine v_aload_n dX4_setDateField_251 rfl ?_
      refine v_V0 (rm' := rX4_epochDay) (RX4, TX4, 4) dX4_setDateField_252 km_X4_31 kn_X4_epochDay kv_X4_epochDay kz_X4 mk_X4_epochDay rfl rfl (by first | exact h0 | exact aup_s) ⟨Nat.le_of_ble_eq_true rfl, Nat.le_of_ble_eq_true rfl⟩ ⟨Nat.le_of_ble_eq_true rfl, Nat.le_of_ble_eq_true rfl⟩ (Nat.le_of_ble_eq_true rfl) ?_
      refine s_X4_epochDay hst h0 hy hm hd hn ?_
      refine v_S1 (rm' := rX0_weekday) dX4_setDateField_255 km_X4_83 ks_X0_weekday kz_X0 mk_X0_weekday rfl ⟨Nat.le_of_ble_eq_true rfl, Nat.le_of_ble_eq_true rfl⟩ ⟨Nat.le_of_ble_eq_true rfl, Nat.le_of_ble_eq_true rfl⟩ (Nat.le_of_ble_eq_true rfl) ?_
      refine s_X0_weekday hst ?_
      refine v_i2l dX4_setDateField_258 ?_
      refine v_lsub dX4_setDateField_259 ?_
      refine v_V1 (rm' := rX4_setEpochDay) (RX4, TX4, 4) dX4_setDateField_260 km_X4_64 kn_X4_setEpochDay kv_X4_setEpochDay kz_X4 mk_X4_setEpochDay rfl rfl (by first | exact h0 | exact aup_s) ⟨Nat.le_of_ble_eq_true rfl, Nat.le_of_ble_eq_true rfl⟩ ⟨Nat.le_of_ble_eq_true rfl, Nat.le_of_ble_eq_true rfl⟩ (Nat.le_of_ble_eq_true rfl) ?_
      refine s_X4_setEpochDay hst h0 (fun y' m' d' hy' hm' hd' he' => ?_) (fun h9 => ?_)
      · have hr9 := ed_rng hy' hm' hd'
        have hQ9 := hQ1 y' m' d' hy' hm' hd' (he'.trans (show _ = _ from rfl)) (show (1 ≤ v ∧ v ≤ 7) ∧ (-4371587 ≤ ed y m d + v - wd (ed y m d) ∧ ed y m d + v - wd (ed y m d) ≤ 2932896) by omega)
        refine v_if_eq 270 dX4_setDateField_263 (fun h_263 => ?_) (fun h_263 => ?_)
        · refine v_iconst dX4_setDateField_270 ?_
          exact v_zret dX4_setDateField_271 rfl (by first | exact hQ9 | (exfalso; omega) | exact hQ0 (show ¬ (-9999 ≤ v ∧ v ≤ 9999) by omega) | exact hQ0 (show ¬ (1 ≤ v ∧ v ≤ 12) by omega) | exact hQ0 (show ¬ (1 ≤ v ∧ v ≤ lenM y m) by omega) | exact hQ0 (show ¬ (1 ≤ v ∧ v ≤ 365 + lp y) by omega) | exact hQ0 (show ¬ (-4371587 ≤ v ∧ v ≤ 2932896) by omega) | exact hQ0 (show ¬ ((1 ≤ v ∧ v ≤ 7) ∧ (-4371587 ≤ ed y m d + v - wd (ed y m d) ∧ ed y m d + v - wd (ed y m d) ≤ 2932896)) by omega) | exact hQ0 (show ¬ (1 ≤ v ∧ v ≤ 4) by omega) | exact hQ0 (show ¬ (-119988 ≤ v ∧ v ≤ 119999) by omega)) (by first | exact Or.inl rfl | exact Or.inr rfl | omega)
        · refine v_iconst dX4_setDateField_266 ?_
          refine v_goto 271 dX4_setDateField_267 ?_
          exact v_zret dX4_setDateField_271 rfl (by first | exact hQ9 | (exfalso; omega) | exact hQ0 (show ¬ (-9999 ≤ v ∧ v ≤ 9999) by omega) | exact hQ0 (show ¬ (1 ≤ v ∧ v ≤ 12) by omega) | exact hQ0 (show ¬ (1 ≤ v ∧ v ≤ lenM y m) by omega) | exact hQ0 (show ¬ (1 ≤ v ∧ v ≤ 365 + lp y) by omega) | exact hQ0 (show ¬ (-4371587 ≤ v ∧ v ≤ 2932896) by omega) | exact hQ0 (show ¬ ((1 ≤ v ∧ v ≤ 7) ∧ (-4371587 ≤ ed y m d + v - wd (ed y m d) ∧ ed y m d + v - wd (ed y m d) ≤ 2932896)) by omega) | exact hQ0 (show ¬ (1 ≤ v ∧ v ≤ 4) by omega) | exact hQ0 (show ¬ (-119988 ≤ v ∧ v ≤ 119999) by omega)) (by first | exact Or.inl rfl | exact Or.inr rfl | omega)
      · have hdummy : True := trivial
        refine v_if_eq 270 dX4_setDateField_263 (fun h_263 => ?_) (fun h_263 => ?_)
        · refine v_iconst dX4_setDateField_270 ?_
          exact v_zret dX4_setDateField_271 rfl (by first | exact hQ9 | (exfalso; omega) | exact hQ0 (show ¬ (-9999 ≤ v ∧ v ≤ 9999) by omega) | exact hQ0 (show ¬ (1 ≤ v ∧ v ≤ 12) by omega) | exact hQ0 (show ¬ (1 ≤ v ∧ v ≤ lenM y m) by omega) | exact hQ0 (show ¬ (1 ≤ v ∧ v ≤ 365 + lp y) by omega) | exact hQ0 (show ¬ (-4371587 ≤ v ∧ v ≤ 2932896) by omega) | exact hQ0 (show ¬ ((1 ≤ v ∧ v ≤ 7) ∧ (-4371587 ≤ ed y m d + v - wd (ed y m d) ∧ ed y m d + v - wd (ed y m d) ≤ 2932896)) by omega) | exact hQ0 (show ¬ (1 ≤ v ∧ v ≤ 4) by omega) | exact hQ0 (show ¬ (-119988 ≤ v ∧ v ≤ 119999) by omega)) (by first | exact Or.inl rfl | exact Or.inr rfl | omega)
        · refine v_iconst dX4_setDateField_266 ?_
          refine v_goto 271 dX4_setDateField_267 ?_
          exact v_zret dX4_setDateField_271 rfl (by first | exact hQ9 | (exfalso; omega) | exact hQ0 (show ¬ (-9999 ≤ v ∧ v ≤ 9999) by omega) | exact hQ0 (show ¬ (1 ≤ v ∧ v ≤ 12) by omega) | exact hQ0 (show ¬ (1 ≤ v ∧ v ≤ lenM y m) by omega) | exact hQ0 (show ¬ (1 ≤ v ∧ v ≤ 365 + lp y) by omega) | exact hQ0 (show ¬ (-4371587 ≤ v ∧ v ≤ 2932896) by omega) | exact hQ0 (show ¬ ((1 ≤ v ∧ v ≤ 7) ∧ (-4371587 ≤ ed y m d + v - wd (ed y m d) ∧ ed y m d + v - wd (ed y m d) ≤ 2932896)) by omega) | exact hQ0 (show ¬ (1 ≤ v ∧ v ≤ 4) by omega) | exact hQ0 (show ¬ (-119988 ≤ v ∧ v ≤ 119999) by omega)) (by first | exact Or.inl rfl | exact Or.inr rfl | omega)
  · subst s_1
    refine v_tabIn 272 dX4_setDateField_1 rfl ?_
    refine v_lload_n dX4_setDateField_272 rfl ?_
    refine v_lconst1 dX4_setDateField_273 ?_
    refine v_lif_lt 313 dX4_setDateField_274 dX4_setDateField_275 (fun h_274 => ?_) (fun h_274 => ?_)
    · refine v_iconst dX4_setDateField_313 ?_
      exact v_zret dX4_setDateField_314 rfl (by first | exact hQ9 | (exfalso; omega) | exact hQ0 (show ¬ (-9999 ≤ v ∧ v ≤ 9999) by omega) | exact hQ0 (show ¬ (1 ≤ v ∧ v ≤ 12) by omega) | exact hQ0 (show ¬ (1 ≤ v ∧ v ≤ lenM y m) by omega) | exact hQ0 (show ¬ (1 ≤ v ∧ v ≤ 365 + lp y) by omega) | exact hQ0 (show ¬ (-4371587 ≤ v ∧ v ≤ 2932896) by omega) | exact hQ0 (show ¬ ((1 ≤ v ∧ v ≤ 7) ∧ (-4371587 ≤ ed y m d + v - wd (ed y m d) ∧ ed y m d + v - wd (ed y m d) ≤ 2932896)) by omega) | exact hQ0 (show ¬ (1 ≤ v ∧ v ≤ 4) by omega) | exact hQ0 (show ¬ (-119988 ≤ v ∧ v ≤ 119999) by omega)) (by first | exact Or.inl rfl | exact Or.inr rfl | omega)
    · refine v_lload_n dX4_setDateField_278 rfl ?_
      refine v_ldc2 (4) dX4_setDateField_279 kl_X4_112 ?_
      refine v_lif_gt 313 dX4_setDateField_282 dX4_setDateField_283 (fun h_282 => ?_) (fun h_282 => ?_)
      · refine v_iconst dX4_setDateField_313 ?_
        exact v_zret dX4_setDateField_314 rfl (by first | exact hQ9 | (exfalso; omega) | exact hQ0 (show ¬ (-9999 ≤ v ∧ v ≤ 9999) by omega) | exact hQ0 (show ¬ (1 ≤ v ∧ v ≤ 12) by omega) | exact hQ0 (show ¬ (1 ≤ v ∧ v ≤ lenM y m) by omega) | exact hQ0 (show ¬ (1 ≤ v ∧ v ≤ 365 + lp y) by omega) | exact hQ0 (show ¬ (-4371587 ≤ v ∧ v ≤ 2932896) by omega) | exact hQ0 (show ¬ ((1 ≤ v ∧ v ≤ 7) ∧ (-4371587 ≤ ed y m d + v - wd (ed y m d) ∧ ed y m d + v - wd (ed y m d) ≤ 2932896)) by omega) | exact hQ0 (show ¬ (1 ≤ v ∧ v ≤ 4) by omega) | exact hQ0 (show ¬ (-119988 ≤ v ∧ v ≤ 119999) by omega)) (by first | exact Or.inl rfl | exact Or.inr rfl | omega)
      · refine v_aload_n dX4_setDateField_286 rfl ?_
        refine v_aload_n dX4_setDateField_287 rfl ?_
        refine v_V0 (rm' := rX4_monthNumber) (RX4, TX4, 4) dX4_setDateField_288 km_X4_97 kn_X4_monthNumber kv_X4_monthNumber kz_X4 mk_X4_monthNumber rfl rfl (by first | exact h0 | exact aup_s) ⟨Nat.le_of_ble_eq_true rfl, Nat.le_of_ble_eq_true rfl⟩ ⟨Nat.le_of_ble_eq_true rfl, Nat.le_of_ble_eq_true rfl⟩ (Nat.le_of_ble_eq_true rfl) ?_
        refine s_X4_monthNumber hst h0 hy hm hd hn ?_
        refine v_ldc2 (3) dX4_setDateField_291 kl_X4_114 ?_
        refine v_lload_n dX4_setDateField_294 rfl ?_
        refine v_aload_n dX4_setDateField_295 rfl ?_
        refine v_V0 (rm' := rX4_quarter) (RX4, TX4, 4) dX4_setDateField_296 km_X4_86 kn_X4_quarter kv_X4_quarter kz_X4 mk_X4_quarter rfl rfl (by first | exact h0 | exact aup_s) ⟨Nat.le_of_ble_eq_true rfl, Nat.le_of_ble_eq_true rfl⟩ ⟨Nat.le_of_ble_eq_true rfl, Nat.le_of_ble_eq_true rfl⟩ (Nat.le_of_ble_eq_true rfl) ?_
        refine s_X4_quarter hst h0 hy hm hd hn ?_
        refine v_i2l dX4_setDateField_299 ?_
        refine v_lsub dX4_setDateField_300 ?_
        refine v_lmul dX4_setDateField_301 ?_
        refine v_ladd dX4_setDateField_302 ?_
        refine v_V1 (rm' := rX4_setMonthNumber) (RX4, TX4, 4) dX4_setDateField_303 km_X4_103 kn_X4_setMonthNumber kv_X4_setMonthNumber kz_X4 mk_X4_setMonthNumber rfl rfl (by first | exact h0 | exact aup_s) ⟨Nat.le_of_ble_eq_true rfl, Nat.le_of_ble_eq_true rfl⟩ ⟨Nat.le_of_ble_eq_true rfl, Nat.le_of_ble_eq_true rfl⟩ (Nat.le_of_ble_eq_true rfl) ?_
        refine s_X4_setMonthNumber hst h0 (by omega) (fun h9 => ?_) (fun h9 => ?_)
        · have hq := monT_ok _ d h9 (by omega)
          have hQ9 := hQ1 _ _ _ hq.1 hq.2.1 hq.2.2 rfl (show 1 ≤ v ∧ v ≤ 4 by omega)
          refine v_if_eq 313 dX4_setDateField_306 (fun h_306 => ?_) (fun h_306 => ?_)
          · refine v_iconst dX4_setDateField_313 ?_
            exact v_zret dX4_setDateField_314 rfl (by first | exact hQ9 | (exfalso; omega) | exact hQ0 (show ¬ (-9999 ≤ v ∧ v ≤ 9999) by omega) | exact hQ0 (show ¬ (1 ≤ v ∧ v ≤ 12) by omega) | exact hQ0 (show ¬ (1 ≤ v ∧ v ≤ lenM y m) by omega) | exact hQ0 (show ¬ (1 ≤ v ∧ v ≤ 365 + lp y) by omega) | exact hQ0 (show ¬ (-4371587 ≤ v ∧ v ≤ 2932896) by omega) | exact hQ0 (show ¬ ((1 ≤ v ∧ v ≤ 7) ∧ (-4371587 ≤ ed y m d + v - wd (ed y m d) ∧ ed y m d + v - wd (ed y m d) ≤ 2932896)) by omega) | exact hQ0 (show ¬ (1 ≤ v ∧ v ≤ 4) by omega) | exact hQ0 (show ¬ (-119988 ≤ v ∧ v ≤ 119999) by omega)) (by first | exact Or.inl rfl | exact Or.inr rfl | omega)
          · refine v_iconst dX4_setDateField_309 ?_
            refine v_goto 314 dX4_setDateField_310 ?_
            exact v_zret dX4_setDateField_314 rfl (by first | exact hQ9 | (exfalso; omega) | exact hQ0 (show ¬ (-9999 ≤ v ∧ v ≤ 9999) by omega) | exact hQ0 (show ¬ (1 ≤ v ∧ v ≤ 12) by omega) | exact hQ0 (show ¬ (1 ≤ v ∧ v ≤ lenM y m) by omega) | exact hQ0 (show ¬ (1 ≤ v ∧ v ≤ 365 + lp y) by omega) | exact hQ0 (show ¬ (-4371587 ≤ v ∧ v ≤ 2932896) by omega) | exact hQ0 (show ¬ ((1 ≤ v ∧ v ≤ 7) ∧ (-4371587 ≤ ed y m d + v - wd (ed y m d) ∧ ed y m d + v - wd (ed y m d) ≤ 2932896)) by omega) | exact hQ0 (show ¬ (1 ≤ v ∧ v ≤ 4) by omega) | exact hQ0 (show ¬ (-119988 ≤ v ∧ v ≤ 119999) by omega)) (by first | exact Or.inl rfl | exact Or.inr rfl | omega)
        · have hdummy : True := trivial
          refine v_if_eq 313 dX4_setDateField_306 (fun h_306 => ?_) (fun h_306 => ?_)
          · refine v_iconst dX4_setDateField_313 ?_
            exact v_zret dX4_setDateField_314 rfl (by first | exact hQ9 | (exfalso; omega) | exact hQ0 (show ¬ (-9999 ≤ v ∧ v ≤ 9999) by omega) | exact hQ0 (show ¬ (1 ≤ v ∧ v ≤ 12) by omega) | exact hQ0 (show ¬ (1 ≤ v ∧ v ≤ lenM y m) by omega) | exact hQ0 (show ¬ (1 ≤ v ∧ v ≤ 365 + lp y) by omega) | exact hQ0 (show ¬ (-4371587 ≤ v ∧ v ≤ 2932896) by omega) | exact hQ0 (show ¬ ((1 ≤ v ∧ v ≤ 7) ∧ (-4371587 ≤ ed y m d + v - wd (ed y m d) ∧ ed y m d + v - wd (ed y m d) ≤ 2932896)) by omega) | exact hQ0 (show ¬ (1 ≤ v ∧ v ≤ 4) by omega) | exact hQ0 (show ¬ (-119988 ≤ v ∧ v ≤ 119999) by omega)) (by first | exact Or.inl rfl | exact Or.inr rfl | omega)
          · refine v_iconst dX4_setDateField_309 ?_
            refine v_goto 314 dX4_setDateField_310 ?_
            exact v_zret dX4_setDateField_314 rfl (by first | exact hQ9 | (exfalso; omega) | exact hQ0 (show ¬ (-9999 ≤ v ∧ v ≤ 9999) by omega) | exact hQ0 (show ¬ (1 ≤ v ∧ v ≤ 12) by omega) | exact hQ0 (show ¬ (1 ≤ v ∧ v ≤ lenM y m) by omega) | exact hQ0 (show ¬ (1 ≤ v ∧ v ≤ 365 + lp y) by omega) | exact hQ0 (show ¬ (-4371587 ≤ v ∧ v ≤ 2932896) by omega) | exact hQ0 (show ¬ ((1 ≤ v ∧ v ≤ 7) ∧ (-4371587 ≤ ed y m d + v - wd (ed y m d) ∧ ed y m d + v - wd (ed y m d) ≤ 2932896)) by omega) | exact hQ0 (show ¬ (1 ≤ v ∧ v ≤ 4) by omega) | exact hQ0 (show ¬ (-119988 ≤ v ∧ v ≤ 119999) by omega)) (by first | exact Or.inl rfl | exact Or.inr rfl | omega)
