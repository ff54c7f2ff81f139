def tdC (sl zn li pg : Nat) : va_E := .inr (5, [.ref sl, .ref zn, .ref li, .ref pg])
def SV (w : AH) (a : Nat) : Prop := ∃ y m d n : Int, w a = some (stC y m d n) ∧ (-9999 ≤ y ∧ y ≤ 9999) ∧ (1 ≤ m ∧ m ≤ 12) ∧ (1 ≤ d ∧ d ≤ lenM y m) ∧ (0 ≤ n ∧ n ≤ 86399999999999)
def isTm (h mi se na : Int) : Prop := 0 ≤ h ∧ h ≤ 23 ∧ 0 ≤ mi ∧ mi ≤ 59 ∧ 0 ≤ se ∧ se ≤ 59 ∧ 0 ≤ na ∧ na ≤ 999999999
theorem tFr_le {v : Int} {s : TS} : (tFr v s).1 ≤ s.1 + 10 := by
  unfold tFr
  split
  · omega
  · split
    · simp only [tDg_1, tCh_1]; omega
    · split
      · simp only [tDg_1, tCh_1]; omega
      · simp only [tDg_1, tCh_1]; omega
theorem tSec_le {n : Int} {s : TS} : (tSec n s).1 ≤ s.1 + 13 := by
  unfold tSec
  split
  · omega
  · have := tFr_le (v := n / 1 % 1000000000) (s := tDg (n / 1000000000 % 60) 2 (tCh 58 s))
    simp only [tDg_1, tCh_1] at this
    omega
theorem tTxt_le {y m d n : Int} {g : Nat → Int} (hn : 0 ≤ n ∧ n ≤ 86399999999999) : (tTxt y m d n (0, g)).1 ≤ 30 := by
  unfold tTxt tTim tDat
  have h1 := tSec_le (n := n) (s := tDg (n / 60000000000 % 60) 2 (tCh 58 (tDg (n / 3600000000000 % 24) 2 (tCh 84 (tDg d 2 (tCh 45 (tDg m 2 (tCh 45 (tDg (if y < 0 then -y else y) 4 (if y < 0 then tCh 45 (0, g) else (0, g))))))))))) 
  simp only [tDg_1, tCh_1] at h1
  have h2 : (if y < 0 then tCh 45 ((0, g) : TS) else (0, g)).1 ≤ 1 := by
    split
    · simp only [tCh_1]; omega
    · exact Nat.zero_le 1
  omega
theorem tdli {sl zn li pg ac p : Nat} {L : Int} : tdC sl zn li pg ≠ liC ac L p := by
  intro h
  unfold tdC liC at h
  cases h
theorem tdst {sl zn li pg : Nat} {y m d n : Int} : tdC sl zn li pg ≠ stC y m d n := by
  intro h
  unfold tdC stC at h
  cases h
theorem tdpa {sl zn li pg ac L : Nat} : tdC sl zn li pg ≠ paC ac L := by
  intro h
  unfold tdC paC at h
  cases h
theorem tdca {G : GG} {sl zn li pg k : Nat} {g : Nat → Int} : tdC sl zn li pg ≠ acA G k g := by
  intro h
  unfold tdC acA at h
  exact nomatch h
theorem aup_comm {w : AH} {a b : Nat} {e f : va_E} (h : a ≠ b) : aup (aup w a e) b f = aup (aup w b f) a e := by
  funext q
  by_cases e1 : q = a
  · rw [e1, aup_n h, aup_s, aup_s]
  · rw [aup_n e1]
    by_cases e2 : q = b
    · rw [e2, aup_s, aup_s]
    · rw [aup_n e2, aup_n e2, aup_n e1]
def adE (y m d f k r : Int) : Prop := (f = 0 ∧ r = ed y m d + 1 + (k - wd (ed y m d + 1)) % 7) ∨ (f = 1 ∧ r = ed y m d + (k - wd (ed y m d)) % 7) ∨ (f = 2 ∧ r = ed y m d - 1 - (wd (ed y m d - 1) - k) % 7) ∨ (f = 3 ∧ r = ed y m d - (wd (ed y m d) - k) % 7) ∨ (f = 4 ∧ r = ed y m d - d + 1 + (k - wd (ed y m d - d + 1)) % 7) ∨ (f = 5 ∧ r = ed y m d - d + lenM y m - (wd (ed y m d - d + lenM y m) - k) % 7)
theorem lI_inj9 {a b : Int} (ha : 0 ≤ a ∧ a ≤ 86399999999999) (hb : 0 ≤ b ∧ b ≤ 86399999999999) (h : lI a = lI b) : a = b := (lI_eq (by omega) (by omega)).mp h
theorem stn0 {y m d n y' m' d' n' : Int} (h : stC y m d n = stC y' m' d' n') : lI n = lI n' := by
  unfold stC at h
  injection h with h
  injection h with h1 h2
  injection h2 with a1 h2
  injection h2 with a2 h2
  injection h2 with a3 h2
  injection h2 with a4 h2
  injection a4
set_option maxRecDepth 100000 in
set_option maxHeartbeats 4000000 in
theorem s_X6_slotAt {l : Launch} {G : GG} {w : AH} {Q : Option Value → AH → Prop} {X : String → AH → Prop} (hst : l.stackTraces = false) {x sl zn li pg : Nat} {sa : Nat → Nat} (hx : w x = some (tdC sl zn li pg)) (hsl : w sl = some (arA G 4 8 (fun k => some (sa k)))) {i : Int} (hi : -2147483648 ≤ i ∧ i ≤ 2147483647) (hX : (i < 0 ∨ 7 < i) → X "java/lang/IndexOutOfBoundsException" w) (hQ : (0 ≤ i ∧ i ≤ 7) → Q (some (.ref (sa i.toNat))) w) : Ct l G mX6_slotAt rX6_slotAt [.ref x, .int (iI i)] w Q X := by
  refine ct_of hst mk_X6_slotAt (Nat.le_of_ble_eq_true rfl) ?_
  refine v_iload_n dX6_slotAt_0 rfl ?_
  refine v_if_lt 10 dX6_slotAt_1 (fun h_1 => ?_) (fun h_1 => ?_)
  · exact v_throwW (E := "java/lang/IndexOutOfBoundsException") (sk := 0) dX6_slotAt_10 dX6_slotAt_13 dX6_slotAt_14 dX6_slotAt_17 dX6_slotAt_20 rfl kc_X6_279 kz_java_lang_IndexOutOfBoundsException tw_283 (by decide +kernel) rfl (by exact hX (by omega))
  · refine v_iload_n dX6_slotAt_4 rfl ?_
    refine v_bipush dX6_slotAt_5 ?_
    refine v_icmp_lt 21 dX6_slotAt_7 (fun h_7 => ?_) (fun h_7 => ?_)
    · refine v_aload_n dX6_slotAt_21 rfl ?_
      refine v_get dX6_slotAt_22 f_X6_13 (by first | exact hx | exact hsl) rfl ?_
      refine v_iload_n dX6_slotAt_25 rfl ?_
      refine v_aald (t := 4) dX6_slotAt_26 (fun _ => rfl) (by first | exact hx | exact hsl) (by exact rfl) ?_
      exact v_aret dX6_slotAt_27 rfl (by exact hQ (by omega))
    · exact v_throwW (E := "java/lang/IndexOutOfBoundsException") (sk := 0) dX6_slotAt_10 dX6_slotAt_13 dX6_slotAt_14 dX6_slotAt_17 dX6_slotAt_20 rfl kc_X6_279 kz_java_lang_IndexOutOfBoundsException tw_283 (by decide +kernel) rfl (by exact hX (by omega))
set_option maxRecDepth 100000 in
set_option maxHeartbeats 4000000 in
theorem s_X6_isZone {l : Launch} {G : GG} {w : AH} {Q : Option Value → AH → Prop} {X : String → AH → Prop} (hst : l.stackTraces = false) {v : Int} (hv : -2147483648 ≤ v ∧ v ≤ 2147483647) (hQ : ∀ r : Int, (((0 ≤ v ∧ v ≤ 3) ∧ r = 1) ∨ (¬ (0 ≤ v ∧ v ≤ 3) ∧ r = 0)) → Q (some (.int (iI r))) w) : Ct l G mX6_isZone rX6_isZone [.int (iI v)] w Q X := by
  refine ct_of hst mk_X6_isZone (Nat.le_of_ble_eq_true rfl) ?_
  refine v_iload_n dX6_isZone_0 rfl ?_
  refine v_if_lt 13 dX6_isZone_1 (fun h_1 => ?_) (fun h_1 => ?_)
  · refine v_iconst dX6_isZone_13 ?_
    exact v_zret dX6_isZone_14 rfl (by exact hQ _ (by omega)) (by first | exact Or.inl rfl | exact Or.inr rfl | omega)
  · refine v_iload_n dX6_isZone_4 rfl ?_
    refine v_iconst dX6_isZone_5 ?_
    refine v_icmp_ge 13 dX6_isZone_6 (fun h_6 => ?_) (fun h_6 => ?_)
    · refine v_iconst dX6_isZone_13 ?_
      exact v_zret dX6_isZone_14 rfl (by exact hQ _ (by omega)) (by first | exact Or.inl rfl | exact Or.inr rfl | omega)
    · refine v_iconst dX6_isZone_9 ?_
      refine v_goto 14 dX6_isZone_10 ?_
      exact v_zret dX6_isZone_14 rfl (by exact hQ _ (by omega)) (by first | exact Or.inl rfl | exact Or.inr rfl | omega)
set_option maxRecDepth 100000 in
set_option maxHeartbeats 4000000 in
theorem s_X6_isOffset {l : Launch} {G : GG} {w : AH} {Q : Option Value → AH → Prop} {X : String → AH → Prop} (hst : l.stackTraces = false) {v : Int} (hv : -2147483648 ≤ v ∧ v ≤ 2147483647) (hQ : ∀ r : Int, (((-64800 ≤ v ∧ v ≤ 64800) ∧ r = 1) ∨ (¬ (-64800 ≤ v ∧ v ≤ 64800) ∧ r = 0)) → Q (some (.int (iI r))) w) : Ct l G mX6_isOffset rX6_isOffset [.int (iI v)] w Q X := by
  refine ct_of hst mk_X6_isOffset (Nat.le_of_ble_eq_true rfl) ?_
  refine v_iload_n dX6_isOffset_0 rfl ?_
  refine v_ldcwi (-64800) dX6_isOffset_1 kl_X6_284 ?_
  refine v_icmp_lt 18 dX6_isOffset_4 (fun h_4 => ?_) (fun h_4 => ?_)
  · refine v_iconst dX6_isOffset_18 ?_
    exact v_zret dX6_isOffset_19 rfl (by exact hQ _ (by omega)) (by first | exact Or.inl rfl | exact Or.inr rfl | omega)
  · refine v_iload_n dX6_isOffset_7 rfl ?_
    refine v_ldcwi (64800) dX6_isOffset_8 kl_X6_285 ?_
    refine v_icmp_gt 18 dX6_isOffset_11 (fun h_11 => ?_) (fun h_11 => ?_)
    · refine v_iconst dX6_isOffset_18 ?_
      exact v_zret dX6_isOffset_19 rfl (by exact hQ _ (by omega)) (by first | exact Or.inl rfl | exact Or.inr rfl | omega)
    · refine v_iconst dX6_isOffset_14 ?_
      refine v_goto 19 dX6_isOffset_15 ?_
      exact v_zret dX6_isOffset_19 rfl (by exact hQ _ (by omega)) (by first | exact Or.inl rfl | exact Or.inr rfl | omega)
set_option maxRecDepth 100000 in
set_option maxHeartbeats 4000000 in
theorem s_X6_isMoment {l : Launch} {G : GG} {w : AH} {Q : Option Value → AH → Prop} {X : String → AH → Prop} (hst : l.stackTraces = false) {v : Int} (hv : -9223372036854775808 ≤ v ∧ v ≤ 9223372036854775807) (hQ : ∀ r : Int, (((-377700000000 ≤ v ∧ v ≤ 253400000000) ∧ r = 1) ∨ (¬ (-377700000000 ≤ v ∧ v ≤ 253400000000) ∧ r = 0)) → Q (some (.int (iI r))) w) : Ct l G mX6_isMoment rX6_isMoment [.long (lI v)] w Q X := by
  refine ct_of hst mk_X6_isMoment (Nat.le_of_ble_eq_true rfl) ?_
  refine v_lload_n dX6_isMoment_0 rfl ?_
  refine v_ldc2 (-377700000000) dX6_isMoment_1 kl_X6_286 ?_
  refine v_lif_lt 20 dX6_isMoment_4 dX6_isMoment_5 (fun h_4 => ?_) (fun h_4 => ?_)
  · refine v_iconst dX6_isMoment_20 ?_
    exact v_zret dX6_isMoment_21 rfl (by exact hQ _ (by omega)) (by first | exact Or.inl rfl | exact Or.inr rfl | omega)
  · refine v_lload_n dX6_isMoment_8 rfl ?_
    refine v_ldc2 (253400000000) dX6_isMoment_9 kl_X6_288 ?_
    refine v_lif_gt 20 dX6_isMoment_12 dX6_isMoment_13 (fun h_12 => ?_) (fun h_12 => ?_)
    · refine v_iconst dX6_isMoment_20 ?_
      exact v_zret dX6_isMoment_21 rfl (by exact hQ _ (by omega)) (by first | exact Or.inl rfl | exact Or.inr rfl | omega)
    · refine v_iconst dX6_isMoment_16 ?_
      refine v_goto 21 dX6_isMoment_17 ?_
      exact v_zret dX6_isMoment_21 rfl (by exact hQ _ (by omega)) (by first | exact Or.inl rfl | exact Or.inr rfl | omega)
set_option maxRecDepth 100000 in
set_option maxHeartbeats 4000000 in
theorem s_X6_isTimeField {l : Launch} {G : GG} {w : AH} {Q : Option Value → AH → Prop} {X : String → AH → Prop} (hst : l.stackTraces = false) {v : Int} (hv : -2147483648 ≤ v ∧ v ≤ 2147483647) (hQ : ∀ r : Int, (((6 ≤ v ∧ v ≤ 11) ∧ r = 1) ∨ (¬ (6 ≤ v ∧ v ≤ 11) ∧ r = 0)) → Q (some (.int (iI r))) w) : Ct l G mX6_isTimeField rX6_isTimeField [.int (iI v)] w Q X := by
  refine ct_of hst mk_X6_isTimeField (Nat.le_of_ble_eq_true rfl) ?_
  refine v_iload_n dX6_isTimeField_0 rfl ?_
  refine v_bipush dX6_isTimeField_1 ?_
  refine v_icmp_lt 16 dX6_isTimeField_3 (fun h_3 => ?_) (fun h_3 => ?_)
  · refine v_iconst dX6_isTimeField_16 ?_
    exact v_zret dX6_isTimeField_17 rfl (by exact hQ _ (by omega)) (by first | exact Or.inl rfl | exact Or.inr rfl | omega)
  · refine v_iload_n dX6_isTimeField_6 rfl ?_
    refine v_bipush dX6_isTimeField_7 ?_
    refine v_icmp_gt 16 dX6_isTimeField_9 (fun h_9 => ?_) (fun h_9 => ?_)
    · refine v_iconst dX6_isTimeField_16 ?_
      exact v_zret dX6_isTimeField_17 rfl (by exact hQ _ (by omega)) (by first | exact Or.inl rfl | exact Or.inr rfl | omega)
    · refine v_iconst dX6_isTimeField_12 ?_
      refine v_goto 17 dX6_isTimeField_13 ?_
      exact v_zret dX6_isTimeField_17 rfl (by exact hQ _ (by omega)) (by first | exact Or.inl rfl | exact Or.inr rfl | omega)
set_option maxRecDepth 100000 in
set_option maxHeartbeats 4000000 in
theorem s_X6_isUnit {l : Launch} {G : GG} {w : AH} {Q : Option Value → AH → Prop} {X : String → AH → Prop} (hst : l.stackTraces = false) {v : Int} (hv : -2147483648 ≤ v ∧ v ≤ 2147483647) (hQ : ∀ r : Int, (((0 ≤ v ∧ v ≤ 13) ∧ r = 1) ∨ (¬ (0 ≤ v ∧ v ≤ 13) ∧ r = 0)) → Q (some (.int (iI r))) w) : Ct l G mX6_isUnit rX6_isUnit [.int (iI v)] w Q X := by
  refine ct_of hst mk_X6_isUnit (Nat.le_of_ble_eq_true rfl) ?_
  refine v_iload_n dX6_isUnit_0 rfl ?_
  refine v_if_lt 14 dX6_isUnit_1 (fun h_1 => ?_) (fun h_1 => ?_)
  · refine v_iconst dX6_isUnit_14 ?_
    exact v_zret dX6_isUnit_15 rfl (by exact hQ _ (by omega)) (by first | exact Or.inl rfl | exact Or.inr rfl | omega)
  · refine v_iload_n dX6_isUnit_4 rfl ?_
    refine v_bipush dX6_isUnit_5 ?_
    refine v_icmp_gt 14 dX6_isUnit_7 (fun h_7 => ?_) (fun h_7 => ?_)
    · refine v_iconst dX6_isUnit_14 ?_
      exact v_zret dX6_isUnit_15 rfl (by exact hQ _ (by omega)) (by first | exact Or.inl rfl | exact Or.inr rfl | omega)
    · refine v_iconst dX6_isUnit_10 ?_
      refine v_goto 15 dX6_isUnit_11 ?_
      exact v_zret dX6_isUnit_15 rfl (by exact hQ _ (by omega)) (by first | exact Or.inl rfl | exact Or.inr rfl | omega)
set_option maxRecDepth 100000 in
set_option maxHeartbeats 4000000 in
theorem s_X6_date {l : Launch} {G : GG} {w : AH} {Q : Option Value → AH → Prop} {X : String → AH → Prop} (hst : l.stackTraces = false) {x sl zn li pg : Nat} {sa : Nat → Nat} {i : Int} (hx : w x = some (tdC sl zn li pg)) (hsl : w sl = some (arA G 4 8 (fun k => some (sa k)))) (hS : ∀ k : Nat, k < 8 → SV w (sa k)) (hi : -2147483648 ≤ i ∧ i ≤ 2147483647) (hXI : (i < 0 ∨ 7 < i) → X "java/lang/IndexOutOfBoundsException" w) {y' m' d' : Int} (hy' : -2147483648 ≤ y' ∧ y' ≤ 2147483647) (hm' : -2147483648 ≤ m' ∧ m' ≤ 2147483647) (hd' : -2147483648 ≤ d' ∧ d' ≤ 2147483647) (hXA : (0 ≤ i ∧ i ≤ 7) → ¬ isDt y' m' d' → X "java/lang/IllegalArgumentException" w) (hQ : ∀ y m d n : Int, (0 ≤ i ∧ i ≤ 7) → w (sa i.toNat) = some (stC y m d n) → (-9999 ≤ y ∧ y ≤ 9999) → (1 ≤ m ∧ m ≤ 12) → (1 ≤ d ∧ d ≤ lenM y m) → (0 ≤ n ∧ n ≤ 86399999999999) →  isDt y' m' d' → Q none (aup w (sa i.toNat) (stC y' m' d' n))) : Ct l G mX6_date rX6_date [(.ref x), .int (iI i), .int (iI y'), .int (iI m'), .int (iI d')] w Q X := by
  refine ct_of hst mk_X6_date (Nat.le_of_ble_eq_true rfl) ?_
  refine v_aload_n dX6_date_0 rfl ?_
  refine v_iload_n dX6_date_1 rfl ?_
  refine v_V1 (rm' := rX6_slotAt) (RX6, TX6, 4) dX6_date_2 km_X6_39 kn_X6_slotAt kv_X6_slotAt kz_X6 mk_X6_slotAt rfl rfl (by first | exact hx | exact hsl | exact h0 | exact aup_s) ⟨Nat.le_of_ble_eq_true rfl, Nat.le_of_ble_eq_true rfl⟩ ⟨Nat.le_of_ble_eq_true rfl, Nat.le_of_ble_eq_true rfl⟩ (Nat.le_of_ble_eq_true rfl) ?_
  refine s_X6_slotAt hst hx hsl hi (fun h9 => vx_leave rfl (hXI h9)) (fun h7 => ?_)
  obtain ⟨y, m, d, n, h0, hy, hm, hd, hn⟩ := hS i.toNat (by omega)
  have hlen := lenM_rng y m
  have hed := ed_rng hy hm hd
  refine v_astore dX6_date_5 (by decide) ?_
  refine v_iload_n dX6_date_7 rfl ?_
  refine v_iload_n dX6_date_8 rfl ?_
  refine v_iload dX6_date_9 rfl ?_
  refine v_S3 (rm' := rX0_isDate) dX6_date_11 km_X6_43 ks_X0_isDate kz_X0 mk_X0_isDate rfl ⟨Nat.le_of_ble_eq_true rfl, Nat.le_of_ble_eq_true rfl⟩ ⟨Nat.le_of_ble_eq_true rfl, Nat.le_of_ble_eq_true rfl⟩ (Nat.le_of_ble_eq_true rfl) ?_
  refine s_X0_isDate hst (fun rt et => ?_)
  refine v_if_ne 27 dX6_date_14 (fun h_14 => ?_) (fun h_14 => ?_)
  · refine v_aload dX6_date_27 rfl ?_
    refine v_iload_n dX6_date_29 rfl ?_
    refine v_iload_n dX6_date_30 rfl ?_
    refine v_iload dX6_date_31 rfl ?_
    refine v_V3 (rm' := rX4_setDate) (RX4, TX4, 4) dX6_date_33 km_X6_56 kn_X4_setDate kv_X4_setDate kz_X4 mk_X4_setDate rfl rfl (by first | exact hx | exact hsl | exact h0 | exact aup_s) ⟨Nat.le_of_ble_eq_true rfl, Nat.le_of_ble_eq_true rfl⟩ ⟨Nat.le_of_ble_eq_true rfl, Nat.le_of_ble_eq_true rfl⟩ (Nat.le_of_ble_eq_true rfl) ?_
    refine s_X4_setDate hst h0 ?_
    exact v_vret dX6_date_36 rfl (by exact hQ y m d n h7 h0 hy hm hd hn (by unfold isDt; omega))
  · exact v_throwS (E := "java/lang/IllegalArgumentException") (sk := 1) dX6_date_17 dX6_date_20 dX6_date_21 dX6_date_23 dX6_date_26 rfl kc_X6_49 kz_java_lang_IllegalArgumentException tw_53 (by decide +kernel) rfl (by exact hXA h7 (by unfold isDt; omega))
set_option maxRecDepth 100000 in
set_option maxHeartbeats 4000000 in
theorem s_X6_time {l : Launch} {G : GG} {w : AH} {Q : Option Value → AH → Prop} {X : String → AH → Prop} (hst : l.stackTraces = false) {x sl zn li pg : Nat} {sa : Nat → Nat} {i : Int} (hx : w x = some (tdC sl zn li pg)) (hsl : w sl = some (arA G 4 8 (fun k => some (sa k)))) (hS : ∀ k : Nat, k < 8 → SV w (sa k)) (hi : -2147483648 ≤ i ∧ i ≤ 2147483647) (hXI : (i < 0 ∨ 7 < i) → X "java/lang/IndexOutOfBoundsException" w) {h mi se na : Int} (hh : -2147483648 ≤ h ∧ h ≤ 2147483647) (hmi : -2147483648 ≤ mi ∧ mi ≤ 2147483647) (hse : -2147483648 ≤ se ∧ se ≤ 2147483647) (hna : -2147483648 ≤ na ∧ na ≤ 2147483647) (hXA : (0 ≤ i ∧ i ≤ 7) → ¬ isTm h mi se na → X "java/lang/IllegalArgumentException" w) (hQ : ∀ y m d n : Int, (0 ≤ i ∧ i ≤ 7) → w (sa i.toNat) = some (stC y m d n) → (-9999 ≤ y ∧ y ≤ 9999) → (1 ≤ m ∧ m ≤ 12) → (1 ≤ d ∧ d ≤ lenM y m) → (0 ≤ n ∧ n ≤ 86399999999999) →  isTm h mi se na → Q none (aup w (sa i.toNat) (stC y m d (h * 3600000000000 + mi * 60000000000 + se * 1000000000 + na)))) : Ct l G mX6_time rX6_time [(.ref x), .int (iI i), .int (iI h), .int (iI mi), .int (iI se), .int (iI na)] w Q X := by
  refine ct_of hst mk_X6_time (Nat.le_of_ble_eq_true rfl) ?_
  refine v_aload_n dX6_time_0 rfl ?_
  refine v_iload_n dX6_time_1 rfl ?_
  refine v_V1 (rm' := rX6_slotAt) (RX6, TX6, 4) dX6_time_2 km_X6_39 kn_X6_slotAt kv_X6_slotAt kz_X6 mk_X6_slotAt rfl rfl (by first | exact hx | exact hsl | exact h0 | exact aup_s) ⟨Nat.le_of_ble_eq_true rfl, Nat.le_of_ble_eq_true rfl⟩ ⟨Nat.le_of_ble_eq_true rfl, Nat.le_of_ble_eq_true rfl⟩ (Nat.le_of_ble_eq_true rfl) ?_
  refine s_X6_slotAt hst hx hsl hi (fun h9 => vx_leave rfl (hXI h9)) (fun h7 => ?_)
  obtain ⟨y, m, d, n, h0, hy, hm, hd, hn⟩ := hS i.toNat (by omega)
  have hlen := lenM_rng y m
  have hed := ed_rng hy hm hd
  refine v_astore dX6_time_5 (by decide) ?_
  refine v_iload_n dX6_time_7 rfl ?_
  refine v_iload_n dX6_time_8 rfl ?_
  refine v_iload dX6_time_9 rfl ?_
  refine v_iload dX6_time_11 rfl ?_
  refine v_S4 (rm' := rX0_isTime) dX6_time_13 km_X6_60 ks_X0_isTime kz_X0 mk_X0_isTime rfl ⟨Nat.le_of_ble_eq_true rfl, Nat.le_of_ble_eq_true rfl⟩ ⟨Nat.le_of_ble_eq_true rfl, Nat.le_of_ble_eq_true rfl⟩ (Nat.le_of_ble_eq_true rfl) ?_
  refine s_X0_isTime hst (fun rt et => ?_)
  refine v_if_ne 29 dX6_time_16 (fun h_16 => ?_) (fun h_16 => ?_)
  · refine v_aload dX6_time_29 rfl ?_
    refine v_iload_n dX6_time_31 rfl ?_
    refine v_iload_n dX6_time_32 rfl ?_
    refine v_iload dX6_time_33 rfl ?_
    refine v_iload dX6_time_35 rfl ?_
    refine v_S4 (rm' := rX0_nanoOfDay) dX6_time_37 km_X6_66 ks_X0_nanoOfDay kz_X0 mk_X0_nanoOfDay rfl ⟨Nat.le_of_ble_eq_true rfl, Nat.le_of_ble_eq_true rfl⟩ ⟨Nat.le_of_ble_eq_true rfl, Nat.le_of_ble_eq_true rfl⟩ (Nat.le_of_ble_eq_true rfl) ?_
    refine s_X0_nanoOfDay hst ?_
    refine v_V1 (rm' := rX4_setNano) (RX4, TX4, 4) dX6_time_40 km_X6_70 kn_X4_setNano kv_X4_setNano kz_X4 mk_X4_setNano rfl rfl (by first | exact hx | exact hsl | exact h0 | exact aup_s) ⟨Nat.le_of_ble_eq_true rfl, Nat.le_of_ble_eq_true rfl⟩ ⟨Nat.le_of_ble_eq_true rfl, Nat.le_of_ble_eq_true rfl⟩ (Nat.le_of_ble_eq_true rfl) ?_
    refine s_X4_setNano hst h0 ?_
    exact v_vret dX6_time_43 rfl (by exact hQ y m d n h7 h0 hy hm hd hn (by unfold isTm; omega))
  · exact v_throwS (E := "java/lang/IllegalArgumentException") (sk := 2) dX6_time_19 dX6_time_22 dX6_time_23 dX6_time_25 dX6_time_28 rfl kc_X6_49 kz_java_lang_IllegalArgumentException tw_53 (by decide +kernel) rfl (by exact hXA h7 (by unfold isTm; omega))
set_option maxRecDepth 100000 in
set_option maxHeartbeats 4000000 in
theorem s_X6_get {l : Launch} {G : GG} {w : AH} {Q : Option Value → AH → Prop} {X : String → AH → Prop} (hst : l.stackTraces = false) {x sl zn li pg : Nat} {sa : Nat → Nat} {i : Int} (hx : w x = some (tdC sl zn li pg)) (hsl : w sl = some (arA G 4 8 (fun k => some (sa k)))) (hS : ∀ k : Nat, k < 8 → SV w (sa k)) (hi : -2147483648 ≤ i ∧ i ≤ 2147483647) (hXI : (i < 0 ∨ 7 < i) → X "java/lang/IndexOutOfBoundsException" w) {f : Int} (hf : -2147483648 ≤ f ∧ f ≤ 2147483647) (hXU : (0 ≤ i ∧ i ≤ 7) → (f < 0 ∨ 15 < f) → X "java/lang/UnsupportedOperationException" w) (hQ : ∀ y m d n : Int, (0 ≤ i ∧ i ≤ 7) → w (sa i.toNat) = some (stC y m d n) → (-9999 ≤ y ∧ y ≤ 9999) → (1 ≤ m ∧ m ≤ 12) → (1 ≤ d ∧ d ≤ lenM y m) → (0 ≤ n ∧ n ≤ 86399999999999) →  (0 ≤ f ∧ f ≤ 15) → Q (some (.long (lI (gF y m d n f)))) w) : Ct l G mX6_get rX6_get [(.ref x), .int (iI i), .int (iI f)] w Q X := by
  refine ct_of hst mk_X6_get (Nat.le_of_ble_eq_true rfl) ?_
  refine v_aload_n dX6_get_0 rfl ?_
  refine v_iload_n dX6_get_1 rfl ?_
  refine v_V1 (rm' := rX6_slotAt) (RX6, TX6, 4) dX6_get_2 km_X6_39 kn_X6_slotAt kv_X6_slotAt kz_X6 mk_X6_slotAt rfl rfl (by first | exact hx | exact hsl | exact h0 | exact aup_s) ⟨Nat.le_of_ble_eq_true rfl, Nat.le_of_ble_eq_true rfl⟩ ⟨Nat.le_of_ble_eq_true rfl, Nat.le_of_ble_eq_true rfl⟩ (Nat.le_of_ble_eq_true rfl) ?_
  refine s_X6_slotAt hst hx hsl hi (fun h9 => vx_leave rfl (hXI h9)) (fun h7 => ?_)
  obtain ⟨y, m, d, n, h0, hy, hm, hd, hn⟩ := hS i.toNat (by omega)
  have hlen := lenM_rng y m
  have hed := ed_rng hy hm hd
  refine v_astore_n dX6_get_5 (by decide) ?_
  refine v_iload_n dX6_get_6 rfl ?_
  refine v_if_lt 16 dX6_get_7 (fun h_7 => ?_) (fun h_7 => ?_)
  · exact v_throwS (E := "java/lang/UnsupportedOperationException") (sk := 3) dX6_get_16 dX6_get_19 dX6_get_20 dX6_get_22 dX6_get_25 rfl kc_X6_74 kz_java_lang_UnsupportedOperationException tw_78 (by decide +kernel) rfl (by exact hXU h7 (by omega))
  · refine v_iload_n dX6_get_10 rfl ?_
    refine v_bipush dX6_get_11 ?_
    refine v_icmp_le 26 dX6_get_13 (fun h_13 => ?_) (fun h_13 => ?_)
    · refine v_iload_n dX6_get_26 rfl ?_
      refine v_S1 (rm' := rX6_isTimeField) dX6_get_27 km_X6_79 ks_X6_isTimeField kz_X6 mk_X6_isTimeField rfl ⟨Nat.le_of_ble_eq_true rfl, Nat.le_of_ble_eq_true rfl⟩ ⟨Nat.le_of_ble_eq_true rfl, Nat.le_of_ble_eq_true rfl⟩ (Nat.le_of_ble_eq_true rfl) ?_
      refine s_X6_isTimeField hst (by omega) (fun r_X6_isTimeField e_X6_isTimeField => ?_)
      refine v_if_eq 41 dX6_get_30 (fun h_30 => ?_) (fun h_30 => ?_)
      · refine v_aload_n dX6_get_41 rfl ?_
        refine v_iload_n dX6_get_42 rfl ?_
        refine v_V1 (rm' := rX4_dateField) (RX4, TX4, 4) dX6_get_43 km_X6_87 kn_X4_dateField kv_X4_dateField kz_X4 mk_X4_dateField rfl rfl (by first | exact hx | exact hsl | exact h0 | exact aup_s) ⟨Nat.le_of_ble_eq_true rfl, Nat.le_of_ble_eq_true rfl⟩ ⟨Nat.le_of_ble_eq_true rfl, Nat.le_of_ble_eq_true rfl⟩ (Nat.le_of_ble_eq_true rfl) ?_
        refine s_X4_dateField hst h0 hy hm hd hn (by omega) ?_
        exact v_lret dX6_get_46 rfl (by exact hQ y m d n h7 h0 hy hm hd hn (by omega))
      · refine v_aload_n dX6_get_33 rfl ?_
        refine v_iload_n dX6_get_34 rfl ?_
        refine v_V1 (rm' := rX4_timeField) (RX4, TX4, 4) dX6_get_35 km_X6_83 kn_X4_timeField kv_X4_timeField kz_X4 mk_X4_timeField rfl rfl (by first | exact hx | exact hsl | exact h0 | exact aup_s) ⟨Nat.le_of_ble_eq_true rfl, Nat.le_of_ble_eq_true rfl⟩ ⟨Nat.le_of_ble_eq_true rfl, Nat.le_of_ble_eq_true rfl⟩ (Nat.le_of_ble_eq_true rfl) ?_
        refine s_X4_timeField hst h0 hy hm hd hn (by omega) ?_
        refine v_goto 46 dX6_get_38 ?_
        exact v_lret dX6_get_46 rfl (by exact hQ y m d n h7 h0 hy hm hd hn (by omega))
    · exact v_throwS (E := "java/lang/UnsupportedOperationException") (sk := 3) dX6_get_16 dX6_get_19 dX6_get_20 dX6_get_22 dX6_get_25 rfl kc_X6_74 kz_java_lang_UnsupportedOperationException tw_78 (by decide +kernel) rfl (by exact hXU h7 (by omega))
set_option maxRecDepth 100000 in
set_option maxHeartbeats 4000000 in
theorem s_X6_with {l : Launch} {G : GG} {w : AH} {Q : Option Value → AH → Prop} {X : String → AH → Prop} (hst : l.stackTraces = false) {x sl zn li pg : Nat} {sa : Nat → Nat} {i : Int} (hx : w x = some (tdC sl zn li pg)) (hsl : w sl = some (arA G 4 8 (fun k => some (sa k)))) (hS : ∀ k : Nat, k < 8 → SV w (sa k)) (hi : -2147483648 ≤ i ∧ i ≤ 2147483647) (hXI : (i < 0 ∨ 7 < i) → X "java/lang/IndexOutOfBoundsException" w) {f v : Int} (hf : -2147483648 ≤ f ∧ f ≤ 2147483647) (hv : -9223372036854775808 ≤ v ∧ v ≤ 9223372036854775807) (hXU : (0 ≤ i ∧ i ≤ 7) → ¬ ((0 ≤ f ∧ f ≤ 12) ∨ f = 15) → X "java/lang/UnsupportedOperationException" w) (hXt : (0 ≤ i ∧ i ≤ 7) → (6 ≤ f ∧ f ≤ 11) → (v < 0 ∨ tC f ≤ v) → X "java/lang/IllegalArgumentException" w) (hQt : ∀ y m d n : Int, (0 ≤ i ∧ i ≤ 7) → w (sa i.toNat) = some (stC y m d n) → (-9999 ≤ y ∧ y ≤ 9999) → (1 ≤ m ∧ m ≤ 12) → (1 ≤ d ∧ d ≤ lenM y m) → (0 ≤ n ∧ n ≤ 86399999999999) →  (6 ≤ f ∧ f ≤ 11) → (0 ≤ v ∧ v < tC f) → Q none (aup w (sa i.toNat) (stC y m d (n + (v - n / tS f % tC f) * tS f)))) (hXd : ∀ y m d n : Int, (0 ≤ i ∧ i ≤ 7) → w (sa i.toNat) = some (stC y m d n) → (-9999 ≤ y ∧ y ≤ 9999) → (1 ≤ m ∧ m ≤ 12) → (1 ≤ d ∧ d ≤ lenM y m) → (0 ≤ n ∧ n ≤ 86399999999999) →  ((0 ≤ f ∧ f ≤ 5) ∨ f = 12 ∨ f = 15) → ¬ wG y m d f v → X "java/lang/IllegalArgumentException" w) (hQd : ∀ y m d n : Int, (0 ≤ i ∧ i ≤ 7) → w (sa i.toNat) = some (stC y m d n) → (-9999 ≤ y ∧ y ≤ 9999) → (1 ≤ m ∧ m ≤ 12) → (1 ≤ d ∧ d ≤ lenM y m) → (0 ≤ n ∧ n ≤ 86399999999999) →  ((0 ≤ f ∧ f ≤ 5) ∨ f = 12 ∨ f = 15) → ∀ y' m' d' : Int, (-9999 ≤ y' ∧ y' ≤ 9999) → (1 ≤ m' ∧ m' ≤ 12) → (1 ≤ d' ∧ d' ≤ lenM y' m') →  ed y' m' d' = wT y m d f v → wG y m d f v → Q none (aup w (sa i.toNat) (stC y' m' d' n))) : Ct l G mX6_with rX6_with [(.ref x), .int (iI i), .int (iI f), .long (lI v)] w Q X := by
  refine ct_of hst mk_X6_with (Nat.le_of_ble_eq_true rfl) ?_
  refine v_aload_n dX6_with_0 rfl ?_
  refine v_iload_n dX6_with_1 rfl ?_
  refine v_V1 (rm' := rX6_slotAt) (RX6, TX6, 4) dX6_with_2 km_X6_39 kn_X6_slotAt kv_X6_slotAt kz_X6 mk_X6_slotAt rfl rfl (by first | exact hx | exact hsl | exact h0 | exact aup_s) ⟨Nat.le_of_ble_eq_true rfl, Nat.le_of_ble_eq_true rfl⟩ ⟨Nat.le_of_ble_eq_true rfl, Nat.le_of_ble_eq_true rfl⟩ (Nat.le_of_ble_eq_true rfl) ?_
  refine s_X6_slotAt hst hx hsl hi (fun h9 => vx_leave rfl (hXI h9)) (fun h7 => ?_)
  obtain ⟨y, m, d, n, h0, hy, hm, hd, hn⟩ := hS i.toNat (by omega)
  have hlen := lenM_rng y m
  have hed := ed_rng hy hm hd
  refine v_astore dX6_with_5 (by decide) ?_
  refine v_iload_n dX6_with_7 rfl ?_
  refine v_if_lt 29 dX6_with_8 (fun h_8 => ?_) (fun h_8 => ?_)
  · exact v_throwS (E := "java/lang/UnsupportedOperationException") (sk := 4) dX6_with_29 dX6_with_32 dX6_with_33 dX6_with_35 dX6_with_38 rfl kc_X6_74 kz_java_lang_UnsupportedOperationException tw_78 (by decide +kernel) rfl (by first | exact hXU h7 (by omega) | exact hXt h7 (by omega) h9 | exact hXd y m d n h7 h0 hy hm hd hn (by omega) h9 | (exfalso; omega))
  · refine v_iload_n dX6_with_11 rfl ?_
    refine v_bipush dX6_with_12 ?_
    refine v_icmp_gt 29 dX6_with_14 (fun h_14 => ?_) (fun h_14 => ?_)
    · exact v_throwS (E := "java/lang/UnsupportedOperationException") (sk := 4) dX6_with_29 dX6_with_32 dX6_with_33 dX6_with_35 dX6_with_38 rfl kc_X6_74 kz_java_lang_UnsupportedOperationException tw_78 (by decide +kernel) rfl (by first | exact hXU h7 (by omega) | exact hXt h7 (by omega) h9 | exact hXd y m d n h7 h0 hy hm hd hn (by omega) h9 | (exfalso; omega))
    · refine v_iload_n dX6_with_17 rfl ?_
      refine v_bipush dX6_with_18 ?_
      refine v_icmp_eq 29 dX6_with_20 (fun h_20 => ?_) (fun h_20 => ?_)
      · exact v_throwS (E := "java/lang/UnsupportedOperationException") (sk := 4) dX6_with_29 dX6_with_32 dX6_with_33 dX6_with_35 dX6_with_38 rfl kc_X6_74 kz_java_lang_UnsupportedOperationException tw_78 (by decide +kernel) rfl (by first | exact hXU h7 (by omega) | exact hXt h7 (by omega) h9 | exact hXd y m d n h7 h0 hy hm hd hn (by omega) h9 | (exfalso; omega))
      · refine v_iload_n dX6_with_23 rfl ?_
        refine v_bipush dX6_with_24 ?_
        refine v_icmp_ne 39 dX6_with_26 (fun h_26 => ?_) (fun h_26 => ?_)
        · refine v_iload_n dX6_with_39 rfl ?_
          refine v_S1 (rm' := rX6_isTimeField) dX6_with_40 km_X6_79 ks_X6_isTimeField kz_X6 mk_X6_isTimeField rfl ⟨Nat.le_of_ble_eq_true rfl, Nat.le_of_ble_eq_true rfl⟩ ⟨Nat.le_of_ble_eq_true rfl, Nat.le_of_ble_eq_true rfl⟩ (Nat.le_of_ble_eq_true rfl) ?_
          refine s_X6_isTimeField hst (by omega) (fun r_X6_isTimeField e_X6_isTimeField => ?_)
          refine v_if_eq 56 dX6_with_43 (fun h_43 => ?_) (fun h_43 => ?_)
          · refine v_aload dX6_with_56 rfl ?_
            refine v_iload_n dX6_with_58 rfl ?_
            refine v_lload_n dX6_with_59 rfl ?_
            refine v_V2 (rm' := rX4_setDateField) (RX4, TX4, 4) dX6_with_60 km_X6_96 kn_X4_setDateField kv_X4_setDateField kz_X4 mk_X4_setDateField rfl rfl (by first | exact hx | exact hsl | exact h0 | exact aup_s) ⟨Nat.le_of_ble_eq_true rfl, Nat.le_of_ble_eq_true rfl⟩ ⟨Nat.le_of_ble_eq_true rfl, Nat.le_of_ble_eq_true rfl⟩ (Nat.le_of_ble_eq_true rfl) ?_
            refine s_X4_setDateField hst h0 hy hm hd hn (by omega) hv (fun y' m' d' hy' hm' hd' he' hg' => ?_) (fun h9 => ?_)
            · refine v_istore dX6_with_63 (by decide) ?_
              refine v_iload dX6_with_65 rfl ?_
              refine v_if_ne 80 dX6_with_67 (fun h_67 => ?_) (fun h_67 => ?_)
              · exact v_vret dX6_with_80 rfl (by first | exact hQt y m d n h7 h0 hy hm hd hn (by omega) h9 | exact hQd y m d n h7 h0 hy hm hd hn (by omega) y' m' d' hy' hm' hd' he' hg' | (exfalso; omega))
              · exact v_throwS (E := "java/lang/IllegalArgumentException") (sk := 5) dX6_with_70 dX6_with_73 dX6_with_74 dX6_with_76 dX6_with_79 rfl kc_X6_49 kz_java_lang_IllegalArgumentException tw_53 (by decide +kernel) rfl (by first | exact hXU h7 (by omega) | exact hXt h7 (by omega) h9 | exact hXd y m d n h7 h0 hy hm hd hn (by omega) h9 | (exfalso; omega))
            · refine v_istore dX6_with_63 (by decide) ?_
              refine v_iload dX6_with_65 rfl ?_
              refine v_if_ne 80 dX6_with_67 (fun h_67 => ?_) (fun h_67 => ?_)
              · exact v_vret dX6_with_80 rfl (by first | exact hQt y m d n h7 h0 hy hm hd hn (by omega) h9 | exact hQd y m d n h7 h0 hy hm hd hn (by omega) y' m' d' hy' hm' hd' he' hg' | (exfalso; omega))
              · exact v_throwS (E := "java/lang/IllegalArgumentException") (sk := 5) dX6_with_70 dX6_with_73 dX6_with_74 dX6_with_76 dX6_with_79 rfl kc_X6_49 kz_java_lang_IllegalArgumentException tw_53 (by decide +kernel) rfl (by first | exact hXU h7 (by omega) | exact hXt h7 (by omega) h9 | exact hXd y m d n h7 h0 hy hm hd hn (by omega) h9 | (exfalso; omega))
          · refine v_aload dX6_with_46 rfl ?_
            refine v_iload_n dX6_with_48 rfl ?_
            refine v_lload_n dX6_with_49 rfl ?_
            refine v_V2 (rm' := rX4_setTimeField) (RX4, TX4, 4) dX6_with_50 km_X6_92 kn_X4_setTimeField kv_X4_setTimeField kz_X4 mk_X4_setTimeField rfl rfl (by first | exact hx | exact hsl | exact h0 | exact aup_s) ⟨Nat.le_of_ble_eq_true rfl, Nat.le_of_ble_eq_true rfl⟩ ⟨Nat.le_of_ble_eq_true rfl, Nat.le_of_ble_eq_true rfl⟩ (Nat.le_of_ble_eq_true rfl) ?_
            refine s_X4_setTimeField hst h0 hy hm hd hn (by omega) hv (fun h9 => ?_) (fun h9 => ?_)
            · refine v_goto 63 dX6_with_53 ?_
              refine v_istore dX6_with_63 (by decide) ?_
              refine v_iload dX6_with_65 rfl ?_
              refine v_if_ne 80 dX6_with_67 (fun h_67 => ?_) (fun h_67 => ?_)
              · exact v_vret dX6_with_80 rfl (by first | exact hQt y m d n h7 h0 hy hm hd hn (by omega) h9 | exact hQd y m d n h7 h0 hy hm hd hn (by omega) y' m' d' hy' hm' hd' he' hg' | (exfalso; omega))
              · exact v_throwS (E := "java/lang/IllegalArgumentException") (sk := 5) dX6_with_70 dX6_with_73 dX6_with_74 dX6_with_76 dX6_with_79 rfl kc_X6_49 kz_java_lang_IllegalArgumentException tw_53 (by decide +kernel) rfl (by first | exact hXU h7 (by omega) | exact hXt h7 (by omega) h9 | exact hXd y m d n h7 h0 hy hm hd hn (by omega) h9 | (exfalso; omega))
            · refine v_goto 63 dX6_with_53 ?_
              refine v_istore dX6_with_63 (by decide) ?_
              refine v_iload dX6_with_65 rfl ?_
              refine v_if_ne 80 dX6_with_67 (fun h_67 => ?_) (fun h_67 => ?_)
              · exact v_vret dX6_with_80 rfl (by first | exact hQt y m d n h7 h0 hy hm hd hn (by omega) h9 | exact hQd y m d n h7 h0 hy hm hd hn (by omega) y' m' d' hy' hm' hd' he' hg' | (exfalso; omega))
              · exact v_throwS (E := "java/lang/IllegalArgumentException") (sk := 5) dX6_with_70 dX6_with_73 dX6_with_74 dX6_with_76 dX6_with_79 rfl kc_X6_49 kz_java_lang_IllegalArgumentException tw_53 (by decide +kernel) rfl (by first | exact hXU h7 (by omega) | exact hXt h7 (by omega) h9 | exact hXd y m d n h7 h0 hy hm hd hn (by omega) h9 | (exfalso; omega))
        · exact v_throwS (E := "java/lang/UnsupportedOperationException") (sk := 4) dX6_with_29 dX6_with_32 dX6_with_33 dX6_with_35 dX6_with_38 rfl kc_X6_74 kz_java_lang_UnsupportedOperationException tw_78 (by decide +kernel) rfl (by first | exact hXU h7 (by omega) | exact hXt h7 (by omega) h9 | exact hXd y m d n h7 h0 hy hm hd hn (by omega) h9 | (exfalso; omega))
set_option maxRecDepth 100000 in
set_option maxHeartbeats 4000000 in
theorem s_X6_copy {l : Launch} {G : GG} {w : AH} {Q : Option Value → AH → Prop} {X : String → AH → Prop} (hst : l.stackTraces = false) {x sl zn li pg : Nat} {sa : Nat → Nat} {i : Int} (hx : w x = some (tdC sl zn li pg)) (hsl : w sl = some (arA G 4 8 (fun k => some (sa k)))) (hS : ∀ k : Nat, k < 8 → SV w (sa k)) (hi : -2147483648 ≤ i ∧ i ≤ 2147483647) (hXI : (i < 0 ∨ 7 < i) → X "java/lang/IndexOutOfBoundsException" w) {j : Int} (hj : -2147483648 ≤ j ∧ j ≤ 2147483647) (hXJ : (0 ≤ i ∧ i ≤ 7) → (j < 0 ∨ 7 < j) → X "java/lang/IndexOutOfBoundsException" w) (hQ : ∀ y m d n : Int, (0 ≤ i ∧ i ≤ 7) → w (sa i.toNat) = some (stC y m d n) → (-9999 ≤ y ∧ y ≤ 9999) → (1 ≤ m ∧ m ≤ 12) → (1 ≤ d ∧ d ≤ lenM y m) → (0 ≤ n ∧ n ≤ 86399999999999) → ∀ y' m' d' n' : Int, (0 ≤ j ∧ j ≤ 7) → w (sa j.toNat) = some (stC y' m' d' n') → (-9999 ≤ y' ∧ y' ≤ 9999) → (1 ≤ m' ∧ m' ≤ 12) → (1 ≤ d' ∧ d' ≤ lenM y' m') → (0 ≤ n' ∧ n' ≤ 86399999999999) →  ∀ r : Int, cmpE (ed y' m' d') n' (ed y m d) n r → Q (some (.int (iI r))) (aup w (sa j.toNat) (stC y m d n))) : Ct l G mX6_copy rX6_copy [(.ref x), .int (iI i), .int (iI j)] w Q X := by
  refine ct_of hst mk_X6_copy (Nat.le_of_ble_eq_true rfl) ?_
  refine v_aload_n dX6_copy_0 rfl ?_
  refine v_iload_n dX6_copy_1 rfl ?_
  refine v_V1 (rm' := rX6_slotAt) (RX6, TX6, 4) dX6_copy_2 km_X6_39 kn_X6_slotAt kv_X6_slotAt kz_X6 mk_X6_slotAt rfl rfl (by first | exact hx | exact hsl | exact h0 | exact h1 | exact aup_s | exact h6) ⟨Nat.le_of_ble_eq_true rfl, Nat.le_of_ble_eq_true rfl⟩ ⟨Nat.le_of_ble_eq_true rfl, Nat.le_of_ble_eq_true rfl⟩ (Nat.le_of_ble_eq_true rfl) ?_
  refine s_X6_slotAt hst hx hsl hi (fun h9 => vx_leave rfl (hXI h9)) (fun h7 => ?_)
  obtain ⟨y, m, d, n, h0, hy, hm, hd, hn⟩ := hS i.toNat (by omega)
  have hlen := lenM_rng y m
  have hed := ed_rng hy hm hd
  refine v_astore_n dX6_copy_5 (by decide) ?_
  refine v_aload_n dX6_copy_6 rfl ?_
  refine v_iload_n dX6_copy_7 rfl ?_
  refine v_V1 (rm' := rX6_slotAt) (RX6, TX6, 4) dX6_copy_8 km_X6_39 kn_X6_slotAt kv_X6_slotAt kz_X6 mk_X6_slotAt rfl rfl (by first | exact hx | exact hsl | exact h0 | exact h1 | exact aup_s | exact h6) ⟨Nat.le_of_ble_eq_true rfl, Nat.le_of_ble_eq_true rfl⟩ ⟨Nat.le_of_ble_eq_true rfl, Nat.le_of_ble_eq_true rfl⟩ (Nat.le_of_ble_eq_true rfl) ?_
  refine s_X6_slotAt hst hx hsl hj (fun h9 => vx_leave rfl (hXJ h7 h9)) (fun h8 => ?_)
  obtain ⟨y', m', d', n', h1, hy', hm', hd', hn'⟩ := hS j.toNat (by omega)
  have hlen' := lenM_rng y' m'
  have hed' := ed_rng hy' hm' hd'
  refine v_astore dX6_copy_11 (by decide) ?_
  refine v_aload dX6_copy_13 rfl ?_
  refine v_aload_n dX6_copy_15 rfl ?_
  refine v_V1 (rm' := rX4_orderAgainst) (RX4, TX4, 4) dX6_copy_16 km_X6_182 kn_X4_orderAgainst kv_X4_orderAgainst kz_X4 mk_X4_orderAgainst rfl rfl (by first | exact hx | exact hsl | exact h0 | exact h1 | exact aup_s | exact h6) ⟨Nat.le_of_ble_eq_true rfl, Nat.le_of_ble_eq_true rfl⟩ ⟨Nat.le_of_ble_eq_true rfl, Nat.le_of_ble_eq_true rfl⟩ (Nat.le_of_ble_eq_true rfl) ?_
  refine s_X4_orderAgainst hst h1 hy' hm' hd' hn' h0 hy hm hd hn (fun rc ec => ?_)
  refine v_istore dX6_copy_19 (by decide) ?_
  refine v_aload dX6_copy_21 rfl ?_
  refine v_aload_n dX6_copy_23 rfl ?_
  refine v_getN dX6_copy_24 f_X6_186 (by first | exact hx | exact hsl | exact h0 | exact h1 | exact aup_s | exact h6) rfl ?_
  refine v_aload_n dX6_copy_27 rfl ?_
  refine v_getN dX6_copy_28 f_X6_189 (by first | exact hx | exact hsl | exact h0 | exact h1 | exact aup_s | exact h6) rfl ?_
  refine v_aload_n dX6_copy_31 rfl ?_
  refine v_getN dX6_copy_32 f_X6_161 (by first | exact hx | exact hsl | exact h0 | exact h1 | exact aup_s | exact h6) rfl ?_
  refine v_V3 (rm' := rX4_setDate) (RX4, TX4, 4) dX6_copy_35 km_X6_56 kn_X4_setDate kv_X4_setDate kz_X4 mk_X4_setDate rfl rfl (by first | exact hx | exact hsl | exact h0 | exact h1 | exact aup_s | exact h6) ⟨Nat.le_of_ble_eq_true rfl, Nat.le_of_ble_eq_true rfl⟩ ⟨Nat.le_of_ble_eq_true rfl, Nat.le_of_ble_eq_true rfl⟩ (Nat.le_of_ble_eq_true rfl) ?_
  refine s_X4_setDate hst h1 ?_
  refine v_aload dX6_copy_38 rfl ?_
  refine v_aload_n dX6_copy_40 rfl ?_
  by_cases e9 : sa i.toNat = sa j.toNat
  · have e8 : stC y m d n = stC y' m' d' n' := Option.some.inj (h0.symm.trans ((congrArg w e9).trans h1))
    have e7 : n = n' := lI_inj9 hn hn' (stn0 e8)
    subst e7
    have h6 : aup w (sa j.toNat) (stC y m d n) (sa i.toNat) = some (stC y m d n) := (by rw [e9]; exact aup_s)
    refine v_getN dX6_copy_41 f_X6_115 (by exact h6) rfl ?_
    refine v_V1 (rm' := rX4_setNano) (RX4, TX4, 4) dX6_copy_44 km_X6_70 kn_X4_setNano kv_X4_setNano kz_X4 mk_X4_setNano rfl rfl (by exact aup_s) ⟨Nat.le_of_ble_eq_true rfl, Nat.le_of_ble_eq_true rfl⟩ ⟨Nat.le_of_ble_eq_true rfl, Nat.le_of_ble_eq_true rfl⟩ (Nat.le_of_ble_eq_true rfl) ?_
    refine s_X4_setNano hst aup_s ?_
    refine v_iload dX6_copy_47 rfl ?_
    exact v_iret dX6_copy_49 rfl (by (rw [aup_up]; exact hQ y m d n h7 h0 hy hm hd hn y' m' d' n h8 h1 hy' hm' hd' hn' rc ec))
  have h6 : aup w (sa j.toNat) (stC y m d n') (sa i.toNat) = some (stC y m d n) := (aup_n e9).trans h0
  refine v_getN dX6_copy_41 f_X6_115 (by exact h6) rfl ?_
  refine v_V1 (rm' := rX4_setNano) (RX4, TX4, 4) dX6_copy_44 km_X6_70 kn_X4_setNano kv_X4_setNano kz_X4 mk_X4_setNano rfl rfl (by first | exact hx | exact hsl | exact h0 | exact h1 | exact aup_s | exact h6) ⟨Nat.le_of_ble_eq_true rfl, Nat.le_of_ble_eq_true rfl⟩ ⟨Nat.le_of_ble_eq_true rfl, Nat.le_of_ble_eq_true rfl⟩ (Nat.le_of_ble_eq_true rfl) ?_
  refine s_X4_setNano hst aup_s ?_
  refine v_iload dX6_copy_47 rfl ?_
  exact v_iret dX6_copy_49 rfl (by (rw [aup_up]; exact hQ y m d n h7 h0 hy hm hd hn y' m' d' n' h8 h1 hy' hm' hd' hn' rc ec))
set_option maxRecDepth 100000 in
set_option maxHeartbeats 4000000 in
theorem s_X6_adjust {l : Launch} {G : GG} {w : AH} {Q : Option Value → AH → Prop} {X : String → AH → Prop} (hst : l.stackTraces = false) {x sl zn li pg : Nat} {sa : Nat → Nat} {i : Int} (hx : w x = some (tdC sl zn li pg)) (hsl : w sl = some (arA G 4 8 (fun k => some (sa k)))) (hS : ∀ k : Nat, k < 8 → SV w (sa k)) (hi : -2147483648 ≤ i ∧ i ≤ 2147483647) (hXI : (i < 0 ∨ 7 < i) → X "java/lang/IndexOutOfBoundsException" w) {f k : Int} (hf : -2147483648 ≤ f ∧ f ≤ 2147483647) (hk : -2147483648 ≤ k ∧ k ≤ 2147483647) (hXA : (0 ≤ i ∧ i ≤ 7) → ¬ ((0 ≤ f ∧ f ≤ 5) ∧ 1 ≤ k ∧ k ≤ 7) → X "java/lang/IllegalArgumentException" w) (hXE : ∀ y m d n : Int, (0 ≤ i ∧ i ≤ 7) → w (sa i.toNat) = some (stC y m d n) → (-9999 ≤ y ∧ y ≤ 9999) → (1 ≤ m ∧ m ≤ 12) → (1 ≤ d ∧ d ≤ lenM y m) → (0 ≤ n ∧ n ≤ 86399999999999) →  ((0 ≤ f ∧ f ≤ 5) ∧ 1 ≤ k ∧ k ≤ 7) → ∀ r : Int, adE y m d f k r → (r < -4371587 ∨ 2932896 < r) → X "java/lang/ArithmeticException" w) (hQ : ∀ y m d n : Int, (0 ≤ i ∧ i ≤ 7) → w (sa i.toNat) = some (stC y m d n) → (-9999 ≤ y ∧ y ≤ 9999) → (1 ≤ m ∧ m ≤ 12) → (1 ≤ d ∧ d ≤ lenM y m) → (0 ≤ n ∧ n ≤ 86399999999999) →  ((0 ≤ f ∧ f ≤ 5) ∧ 1 ≤ k ∧ k ≤ 7) → ∀ r y' m' d' : Int, adE y m d f k r → (-9999 ≤ y' ∧ y' ≤ 9999) → (1 ≤ m' ∧ m' ≤ 12) → (1 ≤ d' ∧ d' ≤ lenM y' m') →  ed y' m' d' = r → Q none (aup w (sa i.toNat) (stC y' m' d' n))) : Ct l G mX6_adjust rX6_adjust [(.ref x), .int (iI i), .int (iI f), .int (iI k)] w Q X := by
  refine ct_of hst mk_X6_adjust (Nat.le_of_ble_eq_true rfl) ?_
  refine v_aload_n dX6_adjust_0 rfl ?_
  refine v_iload_n dX6_adjust_1 rfl ?_
  refine v_V1 (rm' := rX6_slotAt) (RX6, TX6, 4) dX6_adjust_2 km_X6_39 kn_X6_slotAt kv_X6_slotAt kz_X6 mk_X6_slotAt rfl rfl (by first | exact hx | exact hsl | exact h0 | exact aup_s) ⟨Nat.le_of_ble_eq_true rfl, Nat.le_of_ble_eq_true rfl⟩ ⟨Nat.le_of_ble_eq_true rfl, Nat.le_of_ble_eq_true rfl⟩ (Nat.le_of_ble_eq_true rfl) ?_
  refine s_X6_slotAt hst hx hsl hi (fun h9 => vx_leave rfl (hXI h9)) (fun h7 => ?_)
  obtain ⟨y, m, d, n, h0, hy, hm, hd, hn⟩ := hS i.toNat (by omega)
  have hlen := lenM_rng y m
  have hed := ed_rng hy hm hd
  refine v_astore dX6_adjust_5 (by decide) ?_
  refine v_iload_n dX6_adjust_7 rfl ?_
  refine v_if_lt 24 dX6_adjust_8 (fun h_8 => ?_) (fun h_8 => ?_)
  · exact v_throwS (E := "java/lang/IllegalArgumentException") (sk := 10) dX6_adjust_24 dX6_adjust_27 dX6_adjust_28 dX6_adjust_30 dX6_adjust_33 rfl kc_X6_49 kz_java_lang_IllegalArgumentException tw_53 (by decide +kernel) rfl (by first | exact hXA h7 (by omega) | exact hXE y m d n h7 h0 hy hm hd hn (by omega) rA eA h9 | (exfalso; omega))
  · refine v_iload_n dX6_adjust_11 rfl ?_
    refine v_iconst dX6_adjust_12 ?_
    refine v_icmp_gt 24 dX6_adjust_13 (fun h_13 => ?_) (fun h_13 => ?_)
    · exact v_throwS (E := "java/lang/IllegalArgumentException") (sk := 10) dX6_adjust_24 dX6_adjust_27 dX6_adjust_28 dX6_adjust_30 dX6_adjust_33 rfl kc_X6_49 kz_java_lang_IllegalArgumentException tw_53 (by decide +kernel) rfl (by first | exact hXA h7 (by omega) | exact hXE y m d n h7 h0 hy hm hd hn (by omega) rA eA h9 | (exfalso; omega))
    · refine v_iload_n dX6_adjust_16 rfl ?_
      refine v_i2l dX6_adjust_17 ?_
      refine v_S1 (rm' := rX0_isWeekday) dX6_adjust_18 km_X6_169 ks_X0_isWeekday kz_X0 mk_X0_isWeekday rfl ⟨Nat.le_of_ble_eq_true rfl, Nat.le_of_ble_eq_true rfl⟩ ⟨Nat.le_of_ble_eq_true rfl, Nat.le_of_ble_eq_true rfl⟩ (Nat.le_of_ble_eq_true rfl) ?_
      refine s_X0_isWeekday hst (fun rw9 ew9 => ?_)
      refine v_if_ne 34 dX6_adjust_21 (fun h_21 => ?_) (fun h_21 => ?_)
      · refine v_aload dX6_adjust_34 rfl ?_
        refine v_aload dX6_adjust_36 rfl ?_
        refine v_iload_n dX6_adjust_38 rfl ?_
        refine v_iload_n dX6_adjust_39 rfl ?_
        refine v_V2 (rm' := rX4_adjustedDay) (RX4, TX4, 4) dX6_adjust_40 km_X6_175 kn_X4_adjustedDay kv_X4_adjustedDay kz_X4 mk_X4_adjustedDay rfl rfl (by first | exact hx | exact hsl | exact h0 | exact aup_s) ⟨Nat.le_of_ble_eq_true rfl, Nat.le_of_ble_eq_true rfl⟩ ⟨Nat.le_of_ble_eq_true rfl, Nat.le_of_ble_eq_true rfl⟩ (Nat.le_of_ble_eq_true rfl) ?_
        refine s_X4_adjustedDay hst h0 hy hm hd hn (by omega) (by omega) (fun rA eA => ?_)
        have hw1 := wd_c (ed y m d + 1)
        have hw2 := wd_c (ed y m d)
        refine v_V1 (rm' := rX4_setEpochDay) (RX4, TX4, 4) dX6_adjust_43 km_X6_179 kn_X4_setEpochDay kv_X4_setEpochDay kz_X4 mk_X4_setEpochDay rfl rfl (by first | exact hx | exact hsl | exact h0 | exact aup_s) ⟨Nat.le_of_ble_eq_true rfl, Nat.le_of_ble_eq_true rfl⟩ ⟨Nat.le_of_ble_eq_true rfl, Nat.le_of_ble_eq_true rfl⟩ (Nat.le_of_ble_eq_true rfl) ?_
        refine s_X4_setEpochDay hst h0 (fun y' m' d' hy' hm' hd' he' => ?_) (fun h9 => ?_)
        · refine v_if_ne 59 dX6_adjust_46 (fun h_46 => ?_) (fun h_46 => ?_)
          · exact v_vret dX6_adjust_59 rfl (by first | (exfalso; omega) | exact hQ y m d n h7 h0 hy hm hd hn (by omega) rA y' m' d' eA hy' hm' hd' he')
          · exact v_throwS (E := "java/lang/ArithmeticException") (sk := 7) dX6_adjust_49 dX6_adjust_52 dX6_adjust_53 dX6_adjust_55 dX6_adjust_58 rfl kc_X6_110 kz_java_lang_ArithmeticException tw_114 (by decide +kernel) rfl (by first | exact hXA h7 (by omega) | exact hXE y m d n h7 h0 hy hm hd hn (by omega) rA eA h9 | (exfalso; omega))
        · refine v_if_ne 59 dX6_adjust_46 (fun h_46 => ?_) (fun h_46 => ?_)
          · exact v_vret dX6_adjust_59 rfl (by first | (exfalso; omega) | exact hQ y m d n h7 h0 hy hm hd hn (by omega) rA y' m' d' eA hy' hm' hd' he')
          · exact v_throwS (E := "java/lang/ArithmeticException") (sk := 7) dX6_adjust_49 dX6_adjust_52 dX6_adjust_53 dX6_adjust_55 dX6_adjust_58 rfl kc_X6_110 kz_java_lang_ArithmeticException tw_114 (by decide +kernel) rfl (by first | exact hXA h7 (by omega) | exact hXE y m d n h7 h0 hy hm hd hn (by omega) rA eA h9 | (exfalso; omega))
      · exact v_throwS (E := "java/lang/IllegalArgumentException") (sk := 10) dX6_adjust_24 dX6_adjust_27 dX6_adjust_28 dX6_adjust_30 dX6_adjust_33 rfl kc_X6_49 kz_java_lang_IllegalArgumentException tw_53 (by decide +kernel) rfl (by first | exact hXA h7 (by omega) | exact hXE y m d n h7 h0 hy hm hd hn (by omega) rA eA h9 | (exfalso; omega))
set_option maxRecDepth 100000 in
set_option maxHeartbeats 4000000 in
theorem s_X6_type {l : Launch} {G : GG} {w : AH} {Q : Option Value → AH → Prop} {X : String → AH → Prop} (hst : l.stackTraces = false) {x sl zn li pg : Nat} (hx : w x = some (tdC sl zn li pg)) {ac p : Nat} {L : Int} {g : Nat → Int} (hl0 : w li = some (liC ac L p)) (hl1 : w ac = some (acA G 30 g)) (hL : 0 ≤ L ∧ L ≤ 30) (hp : p ≤ 30) (hg : ∀ k, 0 ≤ g k ∧ g k ≤ 65535) {c : Int} (hc : 0 ≤ c ∧ c ≤ 65535) (hQ1 : (32 ≤ c ∧ c ≤ 126 ∧ L < 30) → Q (some (.int (iI 1))) (aup (aup w ac (acA G 30 (gup g L.toNat c))) li (liC ac (L + 1) p))) (hQ0 : ¬ (32 ≤ c ∧ c ≤ 126 ∧ L < 30) → Q (some (.int (iI 0))) w) : Ct l G mX6_type rX6_type [.ref x, .int (iI c)] w Q X := by
  refine ct_of hst mk_X6_type (Nat.le_of_ble_eq_true rfl) ?_
  refine v_aload_n dX6_type_0 rfl ?_
  refine v_get dX6_type_1 f_X6_28 (by first | exact hx | exact hl0) rfl ?_
  refine v_iload_n dX6_type_4 rfl ?_
  refine v_V1 (rm' := rX1_append) (RX1, TX1, 3) dX6_type_5 km_X6_256 kn_X1_append kv_X1_append kz_X1 mk_X1_append rfl rfl (by first | exact hx | exact hl0) ⟨Nat.le_of_ble_eq_true rfl, Nat.le_of_ble_eq_true rfl⟩ ⟨Nat.le_of_ble_eq_true rfl, Nat.le_of_ble_eq_true rfl⟩ (Nat.le_of_ble_eq_true rfl) ?_
  refine s_X1_append hst hl0 hl1 hL hp hg hc (fun h9 => ?_) (fun h9 => ?_)
  · exact v_zret dX6_type_8 rfl (by first | exact hQ1 h9 | exact hQ0 h9) (by first | exact Or.inl rfl | exact Or.inr rfl | omega)
  · exact v_zret dX6_type_8 rfl (by first | exact hQ1 h9 | exact hQ0 h9) (by first | exact Or.inl rfl | exact Or.inr rfl | omega)
set_option maxRecDepth 100000 in
set_option maxHeartbeats 4000000 in
theorem s_X6_parse {l : Launch} {G : GG} {w : AH} {Q : Option Value → AH → Prop} {X : String → AH → Prop} (hst : l.stackTraces = false) {x sl zn li pg : Nat} {sa : Nat → Nat} {i : Int} (hx : w x = some (tdC sl zn li pg)) (hsl : w sl = some (arA G 4 8 (fun k => some (sa k)))) (hS : ∀ k : Nat, k < 8 → SV w (sa k)) (hi : -2147483648 ≤ i ∧ i ≤ 2147483647) (hXI : (i < 0 ∨ 7 < i) → X "java/lang/IndexOutOfBoundsException" w) {ac p : Nat} {L : Int} {g : Nat → Int} (hl0 : w li = some (liC ac L p)) (hl1 : w ac = some (acA G 30 g)) (hL : 0 ≤ L ∧ L ≤ 30) (hp : p ≤ 30) (hg : ∀ k, 0 ≤ g k ∧ g k ≤ 65535) {o : Nat} (ho : o = 0) (hXA : ∀ p' : Nat, p' ≤ 30 → (0 ≤ i ∧ i ≤ 7) → (∀ y m d T : Int, ¬ PO g L o y m d T) → X "java/lang/IllegalArgumentException" (aup w li (liC ac 0 p'))) (hQ : ∀ (p' : Nat) (y m d T : Int), (0 ≤ i ∧ i ≤ 7) → PO g L o y m d T → Q none (aup (aup w li (liC ac 0 p')) (sa i.toNat) (stC y m d T))) : Ct l G mX6_parse rX6_parse [.ref x, .int (iI i)] w Q X := by
  refine ct_of hst mk_X6_parse (Nat.le_of_ble_eq_true rfl) ?_
  refine v_aload_n dX6_parse_0 rfl ?_
  refine v_iload_n dX6_parse_1 rfl ?_
  refine v_V1 (rm' := rX6_slotAt) (RX6, TX6, 4) dX6_parse_2 km_X6_39 kn_X6_slotAt kv_X6_slotAt kz_X6 mk_X6_slotAt rfl rfl (by first | exact hx | exact hl0 | exact (aup_n nxl).trans hx | exact (aup_n nxs).trans ((aup_n nxl).trans hx) | exact aup_s | exact (aup_n nls).trans aup_s) ⟨Nat.le_of_ble_eq_true rfl, Nat.le_of_ble_eq_true rfl⟩ ⟨Nat.le_of_ble_eq_true rfl, Nat.le_of_ble_eq_true rfl⟩ (Nat.le_of_ble_eq_true rfl) ?_
  refine s_X6_slotAt hst hx hsl hi (fun h9 => vx_leave rfl (hXI h9)) (fun h7 => ?_)
  obtain ⟨y, m, d, n, h0, hy, hm, hd, hn⟩ := hS i.toNat (by omega)
  have hlen := lenM_rng y m
  have hed := ed_rng hy hm hd
  refine v_astore_n dX6_parse_5 (by decide) ?_
  have nxl : x ≠ li := ne_of hx hl0 tdli
  have nxs : x ≠ sa i.toNat := ne_of hx h0 tdst
  have nls : li ≠ sa i.toNat := fun e => ne_of h0 hl0 stli e.symm
  refine v_aload_n dX6_parse_6 rfl ?_
  refine v_get dX6_parse_7 f_X6_28 (by first | exact hx | exact hl0 | exact (aup_n nxl).trans hx | exact (aup_n nxs).trans ((aup_n nxl).trans hx) | exact aup_s | exact (aup_n nls).trans aup_s) rfl ?_
  refine v_aload_n dX6_parse_10 rfl ?_
  refine v_V1 (rm' := rX1_readInto) (RX1, TX1, 3) dX6_parse_11 km_X6_260 kn_X1_readInto kv_X1_readInto kz_X1 mk_X1_readInto rfl rfl (by first | exact hx | exact hl0 | exact (aup_n nxl).trans hx | exact (aup_n nxs).trans ((aup_n nxl).trans hx) | exact aup_s | exact (aup_n nls).trans aup_s) ⟨Nat.le_of_ble_eq_true rfl, Nat.le_of_ble_eq_true rfl⟩ ⟨Nat.le_of_ble_eq_true rfl, Nat.le_of_ble_eq_true rfl⟩ (Nat.le_of_ble_eq_true rfl) ?_
  refine s_X1_readInto hst ho hl0 hl1 h0 hL hg (fun y' m' d' T p' hP9 => ?_) (fun p' hp9 hN9 => ?_)
  · refine v_istore_n dX6_parse_14 (by decide) ?_
    refine v_aload_n dX6_parse_15 rfl ?_
    refine v_get dX6_parse_16 f_X6_28 (by first | exact hx | exact hl0 | exact (aup_n nxl).trans hx | exact (aup_n nxs).trans ((aup_n nxl).trans hx) | exact aup_s | exact (aup_n nls).trans aup_s) rfl ?_
    refine v_V0 (rm' := rX1_clear) (RX1, TX1, 3) dX6_parse_19 km_X6_264 kn_X1_clear kv_X1_clear kz_X1 mk_X1_clear rfl rfl (by first | exact hx | exact hl0 | exact (aup_n nxl).trans hx | exact (aup_n nxs).trans ((aup_n nxl).trans hx) | exact aup_s | exact (aup_n nls).trans aup_s) ⟨Nat.le_of_ble_eq_true rfl, Nat.le_of_ble_eq_true rfl⟩ ⟨Nat.le_of_ble_eq_true rfl, Nat.le_of_ble_eq_true rfl⟩ (Nat.le_of_ble_eq_true rfl) ?_
    first | refine s_X1_clear hst aup_s ?_ | refine s_X1_clear hst ((aup_n nls).trans aup_s) ?_
    try rw [aup_up]
    refine v_iload_n dX6_parse_22 rfl ?_
    refine v_if_ne 37 dX6_parse_23 (fun h_23 => ?_) (fun h_23 => ?_)
    · exact v_vret dX6_parse_37 rfl (by first | (exfalso; omega) | (rw [aup_comm nls, aup_up, aup_comm nls.symm]; exact hQ _ _ _ _ _ h7 hP9))
    · exact v_throwW (E := "java/lang/IllegalArgumentException") (sk := 14) dX6_parse_26 dX6_parse_29 dX6_parse_30 dX6_parse_33 dX6_parse_36 rfl kc_X6_49 kz_java_lang_IllegalArgumentException tw_53 (by decide +kernel) rfl (by first | exact hXA _ hp9 h7 hN9 | (exfalso; omega))
  · refine v_istore_n dX6_parse_14 (by decide) ?_
    refine v_aload_n dX6_parse_15 rfl ?_
    refine v_get dX6_parse_16 f_X6_28 (by first | exact hx | exact hl0 | exact (aup_n nxl).trans hx | exact (aup_n nxs).trans ((aup_n nxl).trans hx) | exact aup_s | exact (aup_n nls).trans aup_s) rfl ?_
    refine v_V0 (rm' := rX1_clear) (RX1, TX1, 3) dX6_parse_19 km_X6_264 kn_X1_clear kv_X1_clear kz_X1 mk_X1_clear rfl rfl (by first | exact hx | exact hl0 | exact (aup_n nxl).trans hx | exact (aup_n nxs).trans ((aup_n nxl).trans hx) | exact aup_s | exact (aup_n nls).trans aup_s) ⟨Nat.le_of_ble_eq_true rfl, Nat.le_of_ble_eq_true rfl⟩ ⟨Nat.le_of_ble_eq_true rfl, Nat.le_of_ble_eq_true rfl⟩ (Nat.le_of_ble_eq_true rfl) ?_
    first | refine s_X1_clear hst aup_s ?_ | refine s_X1_clear hst ((aup_n nls).trans aup_s) ?_
    try rw [aup_up]
    refine v_iload_n dX6_parse_22 rfl ?_
    refine v_if_ne 37 dX6_parse_23 (fun h_23 => ?_) (fun h_23 => ?_)
    · exact v_vret dX6_parse_37 rfl (by first | (exfalso; omega) | (rw [aup_comm nls, aup_up, aup_comm nls.symm]; exact hQ _ _ _ _ _ h7 hP9))
    · exact v_throwW (E := "java/lang/IllegalArgumentException") (sk := 14) dX6_parse_26 dX6_parse_29 dX6_parse_30 dX6_parse_33 dX6_parse_36 rfl kc_X6_49 kz_java_lang_IllegalArgumentException tw_53 (by decide +kernel) rfl (by first | exact hXA _ hp9 h7 hN9 | (exfalso; omega))
set_option maxRecDepth 100000 in
set_option maxHeartbeats 4000000 in
theorem s_X6_text {l : Launch} {G : GG} {w : AH} {Q : Option Value → AH → Prop} {X : String → AH → Prop} (hst : l.stackTraces = false) {x sl zn li pg : Nat} {sa : Nat → Nat} {i : Int} (hx : w x = some (tdC sl zn li pg)) (hsl : w sl = some (arA G 4 8 (fun k => some (sa k)))) (hS : ∀ k : Nat, k < 8 → SV w (sa k)) (hi : -2147483648 ≤ i ∧ i ≤ 2147483647) (hXI : (i < 0 ∨ 7 < i) → X "java/lang/IndexOutOfBoundsException" w) {pc9 : Nat} {s0 : TS} (hp0 : w pg = some (paC pc9 s0.1)) (hp1 : w pc9 = some (acA G 30 s0.2)) {k : Int} (hk : -2147483648 ≤ k ∧ k ≤ 2147483647) (hXA : (0 ≤ i ∧ i ≤ 7) → k < 0 → X "java/lang/IllegalArgumentException" w) (hQ : ∀ y m d n : Int, (0 ≤ i ∧ i ≤ 7) → w (sa i.toNat) = some (stC y m d n) → (-9999 ≤ y ∧ y ≤ 9999) → (1 ≤ m ∧ m ≤ 12) → (1 ≤ d ∧ d ≤ lenM y m) → (0 ≤ n ∧ n ≤ 86399999999999) →  0 ≤ k → Q (some (.int (iI (if k < (tTxt y m d n (0, s0.2)).1 then (tTxt y m d n (0, s0.2)).2 k.toNat else -1)))) (PH G w pg pc9 (tTxt y m d n (0, s0.2)))) : Ct l G mX6_text rX6_text [.ref x, .int (iI i), .int (iI k)] w Q X := by
  refine ct_of hst mk_X6_text (Nat.le_of_ble_eq_true rfl) ?_
  refine v_aload_n dX6_text_0 rfl ?_
  refine v_iload_n dX6_text_1 rfl ?_
  refine v_V1 (rm' := rX6_slotAt) (RX6, TX6, 4) dX6_text_2 km_X6_39 kn_X6_slotAt kv_X6_slotAt kz_X6 mk_X6_slotAt rfl rfl (by first | exact hx | exact hp0 | exact (ph_o nxl nxs).trans hx | exact ph_z) ⟨Nat.le_of_ble_eq_true rfl, Nat.le_of_ble_eq_true rfl⟩ ⟨Nat.le_of_ble_eq_true rfl, Nat.le_of_ble_eq_true rfl⟩ (Nat.le_of_ble_eq_true rfl) ?_
  refine s_X6_slotAt hst hx hsl hi (fun h9 => vx_leave rfl (hXI h9)) (fun h7 => ?_)
  obtain ⟨y, m, d, n, h0, hy, hm, hd, hn⟩ := hS i.toNat (by omega)
  have hlen := lenM_rng y m
  have hed := ed_rng hy hm hd
  refine v_astore_n dX6_text_5 (by decide) ?_
  refine v_iload_n dX6_text_6 rfl ?_
  refine v_if_ge 21 dX6_text_7 (fun h_7 => ?_) (fun h_7 => ?_)
  · have nxl : x ≠ pg := ne_of hx hp0 tdpa
    have nxs : x ≠ pc9 := ne_of hx hp1 tdca
    have npp : pc9 ≠ pg := fun e => ne_of hp0 hp1 paca e.symm
    refine v_aload_n dX6_text_21 rfl ?_
    refine v_get dX6_text_22 f_X6_35 (by first | exact hx | exact hp0 | exact (ph_o nxl nxs).trans hx | exact ph_z) rfl ?_
    refine v_aload_n dX6_text_25 rfl ?_
    refine v_V1 (rm' := rX2_write) (RX2, TX2, 2) dX6_text_26 km_X6_271 kn_X2_write kv_X2_write kz_X2 mk_X2_write rfl rfl (by first | exact hx | exact hp0 | exact (ph_o nxl nxs).trans hx | exact ph_z) ⟨Nat.le_of_ble_eq_true rfl, Nat.le_of_ble_eq_true rfl⟩ ⟨Nat.le_of_ble_eq_true rfl, Nat.le_of_ble_eq_true rfl⟩ (Nat.le_of_ble_eq_true rfl) ?_
    refine s_X2_write hst hp0 hp1 h0 hy hm hd hn ?_
    refine v_aload_n dX6_text_29 rfl ?_
    refine v_get dX6_text_30 f_X6_35 (by first | exact hx | exact hp0 | exact (ph_o nxl nxs).trans hx | exact ph_z) rfl ?_
    refine v_iload_n dX6_text_33 rfl ?_
    refine v_V1 (rm' := rX2_characterAt) (RX2, TX2, 2) dX6_text_34 km_X6_275 kn_X2_characterAt kv_X2_characterAt kz_X2 mk_X2_characterAt rfl rfl (by first | exact hx | exact hp0 | exact (ph_o nxl nxs).trans hx | exact ph_z) ⟨Nat.le_of_ble_eq_true rfl, Nat.le_of_ble_eq_true rfl⟩ ⟨Nat.le_of_ble_eq_true rfl, Nat.le_of_ble_eq_true rfl⟩ (Nat.le_of_ble_eq_true rfl) ?_
    refine s_X2_characterAt hst ph_z (ph_a npp) (by omega) (tTxt_le hn) ?_
    exact v_iret dX6_text_37 rfl (by exact hQ y m d n h7 h0 hy hm hd hn (by omega))
  · exact v_throwW (E := "java/lang/IllegalArgumentException") (sk := 15) dX6_text_10 dX6_text_13 dX6_text_14 dX6_text_17 dX6_text_20 rfl kc_X6_49 kz_java_lang_IllegalArgumentException tw_53 (by decide +kernel) rfl (by exact hXA h7 (by omega))
set_option maxRecDepth 100000 in
set_option maxHeartbeats 4000000 in
theorem s_X6_zone {l : Launch} {G : GG} {w : AH} {Q : Option Value → AH → Prop} {X : String → AH → Prop} (hst : l.stackTraces = false) {x sl zn li pg : Nat} {za : Nat → Nat} {i : Int} (hx : w x = some (tdC sl zn li pg)) (hzn : w zn = some (arA G 5 4 (fun k => some (za k)))) (hi : -2147483648 ≤ i ∧ i ≤ 2147483647) {v : Int} (hv : -2147483648 ≤ v ∧ v ≤ 2147483647) (hZ : (0 ≤ i ∧ i ≤ 3) → ∃ (f c r : Int) (am ao ar : Nat), w (za i.toNat) = some (zoC f am ao c ar r)) (hQ0 : ¬ ((0 ≤ i ∧ i ≤ 3) ∧ -64800 ≤ v ∧ v ≤ 64800) → Q (some (.int (iI 0))) w) (hQ1 : ∀ (f c r : Int) (am ao ar : Nat), (0 ≤ i ∧ i ≤ 3) → (-64800 ≤ v ∧ v ≤ 64800) → w (za i.toNat) = some (zoC f am ao c ar r) → Q (some (.int (iI 1))) (aup w (za i.toNat) (zoC v am ao 0 ar 0))) : Ct l G mX6_zone rX6_zone [.ref x, .int (iI i), .int (iI v)] w Q X := by
  refine ct_of hst mk_X6_zone (Nat.le_of_ble_eq_true rfl) ?_
  refine v_iload_n dX6_zone_0 rfl ?_
  refine v_S1 (rm' := rX6_isZone) dX6_zone_1 km_X6_192 ks_X6_isZone kz_X6 mk_X6_isZone rfl ⟨Nat.le_of_ble_eq_true rfl, Nat.le_of_ble_eq_true rfl⟩ ⟨Nat.le_of_ble_eq_true rfl, Nat.le_of_ble_eq_true rfl⟩ (Nat.le_of_ble_eq_true rfl) ?_
  refine s_X6_isZone hst (by omega) (fun r_X6_isZone e_X6_isZone => ?_)
  refine v_if_eq 14 dX6_zone_4 (fun h_4 => ?_) (fun h_4 => ?_)
  · refine v_iconst dX6_zone_14 ?_
    exact v_zret dX6_zone_15 rfl (by first | exact hQ0 (by omega) | exact hQ1 f c r am ao ar (by omega) (by omega) h0) (by first | exact Or.inl rfl | exact Or.inr rfl | omega)
  · refine v_iload_n dX6_zone_7 rfl ?_
    refine v_S1 (rm' := rX6_isOffset) dX6_zone_8 km_X6_195 ks_X6_isOffset kz_X6 mk_X6_isOffset rfl ⟨Nat.le_of_ble_eq_true rfl, Nat.le_of_ble_eq_true rfl⟩ ⟨Nat.le_of_ble_eq_true rfl, Nat.le_of_ble_eq_true rfl⟩ (Nat.le_of_ble_eq_true rfl) ?_
    refine s_X6_isOffset hst (by omega) (fun r_X6_isOffset e_X6_isOffset => ?_)
    refine v_if_ne 16 dX6_zone_11 (fun h_11 => ?_) (fun h_11 => ?_)
    · obtain ⟨f, c, r, am, ao, ar, h0⟩ := hZ (by omega)
      refine v_aload_n dX6_zone_16 rfl ?_
      refine v_get dX6_zone_17 f_X6_20 (by first | exact hx | exact hzn | exact h0) rfl ?_
      refine v_iload_n dX6_zone_20 rfl ?_
      refine v_aald (t := 5) dX6_zone_21 (fun _ => rfl) (by first | exact hx | exact hzn | exact h0) (by exact rfl) ?_
      refine v_iload_n dX6_zone_22 rfl ?_
      refine v_V1 (rm' := rX5_startWith) (RX5, TX5, 6) dX6_zone_23 km_X6_198 kn_X5_startWith kv_X5_startWith kz_X5 mk_X5_startWith rfl rfl (by first | exact hx | exact hzn | exact h0) ⟨Nat.le_of_ble_eq_true rfl, Nat.le_of_ble_eq_true rfl⟩ ⟨Nat.le_of_ble_eq_true rfl, Nat.le_of_ble_eq_true rfl⟩ (Nat.le_of_ble_eq_true rfl) ?_
      refine s_X5_startWith hst h0 ?_
      refine v_iconst dX6_zone_26 ?_
      exact v_zret dX6_zone_27 rfl (by first | exact hQ0 (by omega) | exact hQ1 f c r am ao ar (by omega) (by omega) h0) (by first | exact Or.inl rfl | exact Or.inr rfl | omega)
    · refine v_iconst dX6_zone_14 ?_
      exact v_zret dX6_zone_15 rfl (by first | exact hQ0 (by omega) | exact hQ1 f c r am ao ar (by omega) (by omega) h0) (by first | exact Or.inl rfl | exact Or.inr rfl | omega)
set_option maxRecDepth 100000 in
set_option maxHeartbeats 4000000 in
theorem s_X6_change {l : Launch} {G : GG} {w : AH} {Q : Option Value → AH → Prop} {X : String → AH → Prop} (hst : l.stackTraces = false) {x sl zn li pg : Nat} {za : Nat → Nat} {i : Int} (hx : w x = some (tdC sl zn li pg)) (hzn : w zn = some (arA G 5 4 (fun k => some (za k)))) (hi : -2147483648 ≤ i ∧ i ≤ 2147483647) {t v : Int} (hv : -2147483648 ≤ v ∧ v ≤ 2147483647) (ht : -9223372036854775808 ≤ t ∧ t ≤ 9223372036854775807) (hZ : (0 ≤ i ∧ i ≤ 3) → ∃ (f c r : Int) (am ao ar : Nat) (gm go : Nat → Int), w (za i.toNat) = some (zoC f am ao c ar r) ∧ w am = some (alA G 8 gm) ∧ w ao = some (aiA G 8 go) ∧ (0 ≤ c ∧ c ≤ 8) ∧ (0 ≤ r ∧ r ≤ 2) ∧ (∀ k, -9223372036854775808 ≤ gm k ∧ gm k ≤ 9223372036854775807)) (hQ0 : ¬ ((0 ≤ i ∧ i ≤ 3) ∧ (-64800 ≤ v ∧ v ≤ 64800) ∧ -377700000000 ≤ t ∧ t ≤ 253400000000) → Q (some (.int (iI 0))) w) (hQz : ∀ (f c r : Int) (am ao ar : Nat) (gm go : Nat → Int), (0 ≤ i ∧ i ≤ 3) → w (za i.toNat) = some (zoC f am ao c ar r) → w am = some (alA G 8 gm) → w ao = some (aiA G 8 go) →  ((-64800 ≤ v ∧ v ≤ 64800) ∧ -377700000000 ≤ t ∧ t ≤ 253400000000) → (0 < r ∨ 8 ≤ c ∨ t ≤ lastC gm c) → Q (some (.int (iI 0))) w) (hQ1 : ∀ (f c r : Int) (am ao ar : Nat) (gm go : Nat → Int), (0 ≤ i ∧ i ≤ 3) → w (za i.toNat) = some (zoC f am ao c ar r) → w am = some (alA G 8 gm) → w ao = some (aiA G 8 go) →  ((-64800 ≤ v ∧ v ≤ 64800) ∧ -377700000000 ≤ t ∧ t ≤ 253400000000) → ¬ (0 < r ∨ 8 ≤ c ∨ t ≤ lastC gm c) → Q (some (.int (iI 1))) (aup (aup (aup w am (alA G 8 (gup gm c.toNat t))) ao (aiA G 8 (gup go c.toNat v))) (za i.toNat) (zoC f am ao (c + 1) ar r))) : Ct l G mX6_change rX6_change [(.ref x), .int (iI i), .long (lI t), .int (iI v)] w Q X := by
  refine ct_of hst mk_X6_change (Nat.le_of_ble_eq_true rfl) ?_
  refine v_iload_n dX6_change_0 rfl ?_
  refine v_S1 (rm' := rX6_isZone) dX6_change_1 km_X6_192 ks_X6_isZone kz_X6 mk_X6_isZone rfl ⟨Nat.le_of_ble_eq_true rfl, Nat.le_of_ble_eq_true rfl⟩ ⟨Nat.le_of_ble_eq_true rfl, Nat.le_of_ble_eq_true rfl⟩ (Nat.le_of_ble_eq_true rfl) ?_
  refine s_X6_isZone hst (by omega) (fun r_X6_isZone e_X6_isZone => ?_)
  refine v_if_eq 22 dX6_change_4 (fun h_4 => ?_) (fun h_4 => ?_)
  · refine v_iconst dX6_change_22 ?_
    exact v_zret dX6_change_23 rfl (by first | exact hQ0 (by omega) | exact hQ1 f c r am ao ar gm go (by omega) h0 h1 h2 (by omega) h9 | exact hQz f c r am ao ar gm go (by omega) h0 h1 h2 (by omega) h9) (by first | exact Or.inl rfl | exact Or.inr rfl | omega)
  · refine v_iload dX6_change_7 rfl ?_
    refine v_S1 (rm' := rX6_isOffset) dX6_change_9 km_X6_195 ks_X6_isOffset kz_X6 mk_X6_isOffset rfl ⟨Nat.le_of_ble_eq_true rfl, Nat.le_of_ble_eq_true rfl⟩ ⟨Nat.le_of_ble_eq_true rfl, Nat.le_of_ble_eq_true rfl⟩ (Nat.le_of_ble_eq_true rfl) ?_
    refine s_X6_isOffset hst (by omega) (fun r_X6_isOffset e_X6_isOffset => ?_)
    refine v_if_eq 22 dX6_change_12 (fun h_12 => ?_) (fun h_12 => ?_)
    · refine v_iconst dX6_change_22 ?_
      exact v_zret dX6_change_23 rfl (by first | exact hQ0 (by omega) | exact hQ1 f c r am ao ar gm go (by omega) h0 h1 h2 (by omega) h9 | exact hQz f c r am ao ar gm go (by omega) h0 h1 h2 (by omega) h9) (by first | exact Or.inl rfl | exact Or.inr rfl | omega)
    · refine v_lload_n dX6_change_15 rfl ?_
      refine v_S1 (rm' := rX6_isMoment) dX6_change_16 km_X6_202 ks_X6_isMoment kz_X6 mk_X6_isMoment rfl ⟨Nat.le_of_ble_eq_true rfl, Nat.le_of_ble_eq_true rfl⟩ ⟨Nat.le_of_ble_eq_true rfl, Nat.le_of_ble_eq_true rfl⟩ (Nat.le_of_ble_eq_true rfl) ?_
      refine s_X6_isMoment hst (by omega) (fun r_X6_isMoment e_X6_isMoment => ?_)
      refine v_if_ne 24 dX6_change_19 (fun h_19 => ?_) (fun h_19 => ?_)
      · obtain ⟨f, c, r, am, ao, ar, gm, go, h0, h1, h2, hc, hr, hgm⟩ := hZ (by omega)
        refine v_aload_n dX6_change_24 rfl ?_
        refine v_get dX6_change_25 f_X6_20 (by first | exact hx | exact hzn | exact h0) rfl ?_
        refine v_iload_n dX6_change_28 rfl ?_
        refine v_aald (t := 5) dX6_change_29 (fun _ => rfl) (by first | exact hx | exact hzn | exact h0) (by exact rfl) ?_
        refine v_lload_n dX6_change_30 rfl ?_
        refine v_iload dX6_change_31 rfl ?_
        refine v_V2 (rm' := rX5_addChange) (RX5, TX5, 6) dX6_change_33 km_X6_205 kn_X5_addChange kv_X5_addChange kz_X5 mk_X5_addChange rfl rfl (by first | exact hx | exact hzn | exact h0) ⟨Nat.le_of_ble_eq_true rfl, Nat.le_of_ble_eq_true rfl⟩ ⟨Nat.le_of_ble_eq_true rfl, Nat.le_of_ble_eq_true rfl⟩ (Nat.le_of_ble_eq_true rfl) ?_
        refine s_X5_addChange hst h0 h1 h2 hc hr ht hgm (fun h9 => ?_) (fun h9 => ?_)
        · exact v_zret dX6_change_36 rfl (by first | exact hQ0 (by omega) | exact hQ1 f c r am ao ar gm go (by omega) h0 h1 h2 (by omega) h9 | exact hQz f c r am ao ar gm go (by omega) h0 h1 h2 (by omega) h9) (by first | exact Or.inl rfl | exact Or.inr rfl | omega)
        · exact v_zret dX6_change_36 rfl (by first | exact hQ0 (by omega) | exact hQ1 f c r am ao ar gm go (by omega) h0 h1 h2 (by omega) h9 | exact hQz f c r am ao ar gm go (by omega) h0 h1 h2 (by omega) h9) (by first | exact Or.inl rfl | exact Or.inr rfl | omega)
      · refine v_iconst dX6_change_22 ?_
        exact v_zret dX6_change_23 rfl (by first | exact hQ0 (by omega) | exact hQ1 f c r am ao ar gm go (by omega) h0 h1 h2 (by omega) h9 | exact hQz f c r am ao ar gm go (by omega) h0 h1 h2 (by omega) h9) (by first | exact Or.inl rfl | exact Or.inr rfl | omega)
set_option maxRecDepth 100000 in
set_option maxHeartbeats 4000000 in
theorem s_X6_rule {l : Launch} {G : GG} {w : AH} {Q : Option Value → AH → Prop} {X : String → AH → Prop} (hst : l.stackTraces = false) {x sl zn li pg : Nat} {za : Nat → Nat} {i : Int} (hx : w x = some (tdC sl zn li pg)) (hzn : w zn = some (arA G 5 4 (fun k => some (za k)))) (hi : -2147483648 ≤ i ∧ i ≤ 2147483647) {mo da wk se of : Int} (hmo : -2147483648 ≤ mo ∧ mo ≤ 2147483647) (hda : -2147483648 ≤ da ∧ da ≤ 2147483647) (hwk : -2147483648 ≤ wk ∧ wk ≤ 2147483647) (hse : -2147483648 ≤ se ∧ se ≤ 2147483647) (hof : -2147483648 ≤ of ∧ of ≤ 2147483647) (hZ : (0 ≤ i ∧ i ≤ 3) → ∃ (f c r : Int) (am ao ar : Nat) (ra : Nat → Nat), w (za i.toNat) = some (zoC f am ao c ar r) ∧ w ar = some (arA G 6 2 (fun k => some (ra k))) ∧ (0 ≤ c ∧ c ≤ 8) ∧ (0 ≤ r ∧ r ≤ 2) ∧ (∀ k, k < 2 → ∃ mo da wk se of, w (ra k) = some (ruC mo da wk se of))) (hQ0 : ¬ ((0 ≤ i ∧ i ≤ 3) ∧ ((1 ≤ mo ∧ mo ≤ 12) ∧ (da = -1 ∨ (1 ≤ da ∧ da ≤ 28)) ∧ (1 ≤ wk ∧ wk ≤ 7) ∧ (0 ≤ se ∧ se ≤ 86400) ∧ (-64800 ≤ of ∧ of ≤ 64800))) → Q (some (.int (iI 0))) w) (hQz : ∀ (f c r : Int) (am ao ar : Nat) (ra : Nat → Nat), (0 ≤ i ∧ i ≤ 3) → w (za i.toNat) = some (zoC f am ao c ar r) → w ar = some (arA G 6 2 (fun k => some (ra k))) →  ((1 ≤ mo ∧ mo ≤ 12) ∧ (da = -1 ∨ (1 ≤ da ∧ da ≤ 28)) ∧ (1 ≤ wk ∧ wk ≤ 7) ∧ (0 ≤ se ∧ se ≤ 86400) ∧ (-64800 ≤ of ∧ of ≤ 64800)) → 2 ≤ r → Q (some (.int (iI 0))) w) (hQ1 : ∀ (f c r : Int) (am ao ar : Nat) (ra : Nat → Nat), (0 ≤ i ∧ i ≤ 3) → w (za i.toNat) = some (zoC f am ao c ar r) → w ar = some (arA G 6 2 (fun k => some (ra k))) →  ((1 ≤ mo ∧ mo ≤ 12) ∧ (da = -1 ∨ (1 ≤ da ∧ da ≤ 28)) ∧ (1 ≤ wk ∧ wk ≤ 7) ∧ (0 ≤ se ∧ se ≤ 86400) ∧ (-64800 ≤ of ∧ of ≤ 64800)) → r < 2 → Q (some (.int (iI 1))) (aup (aup w (ra r.toNat) (ruC mo da wk se of)) (za i.toNat) (zoC f am ao c ar (r + 1)))) : Ct l G mX6_rule rX6_rule [(.ref x), .int (iI i), .int (iI mo), .int (iI da), .int (iI wk), .int (iI se), .int (iI of)] w Q X := by
  refine ct_of hst mk_X6_rule (Nat.le_of_ble_eq_true rfl) ?_
  refine v_iload_n dX6_rule_0 rfl ?_
  refine v_S1 (rm' := rX6_isZone) dX6_rule_1 km_X6_192 ks_X6_isZone kz_X6 mk_X6_isZone rfl ⟨Nat.le_of_ble_eq_true rfl, Nat.le_of_ble_eq_true rfl⟩ ⟨Nat.le_of_ble_eq_true rfl, Nat.le_of_ble_eq_true rfl⟩ (Nat.le_of_ble_eq_true rfl) ?_
  refine s_X6_isZone hst (by omega) (fun r_X6_isZone e_X6_isZone => ?_)
  refine v_if_eq 32 dX6_rule_4 (fun h_4 => ?_) (fun h_4 => ?_)
  · refine v_iconst dX6_rule_32 ?_
    exact v_zret dX6_rule_33 rfl (by first | exact hQ0 (by omega) | exact hQ1 f c r am ao ar ra (by omega) h0 h3 (by omega) h9 | exact hQz f c r am ao ar ra (by omega) h0 h3 (by omega) h9) (by first | exact Or.inl rfl | exact Or.inr rfl | omega)
  · refine v_iload dX6_rule_7 rfl ?_
    refine v_S1 (rm' := rX6_isOffset) dX6_rule_9 km_X6_195 ks_X6_isOffset kz_X6 mk_X6_isOffset rfl ⟨Nat.le_of_ble_eq_true rfl, Nat.le_of_ble_eq_true rfl⟩ ⟨Nat.le_of_ble_eq_true rfl, Nat.le_of_ble_eq_true rfl⟩ (Nat.le_of_ble_eq_true rfl) ?_
    refine s_X6_isOffset hst (by omega) (fun r_X6_isOffset e_X6_isOffset => ?_)
    refine v_if_eq 32 dX6_rule_12 (fun h_12 => ?_) (fun h_12 => ?_)
    · refine v_iconst dX6_rule_32 ?_
      exact v_zret dX6_rule_33 rfl (by first | exact hQ0 (by omega) | exact hQ1 f c r am ao ar ra (by omega) h0 h3 (by omega) h9 | exact hQz f c r am ao ar ra (by omega) h0 h3 (by omega) h9) (by first | exact Or.inl rfl | exact Or.inr rfl | omega)
    · refine v_iload_n dX6_rule_15 rfl ?_
      refine v_i2l dX6_rule_16 ?_
      refine v_S1 (rm' := rX0_isMonth) dX6_rule_17 km_X6_209 ks_X0_isMonth kz_X0 mk_X0_isMonth rfl ⟨Nat.le_of_ble_eq_true rfl, Nat.le_of_ble_eq_true rfl⟩ ⟨Nat.le_of_ble_eq_true rfl, Nat.le_of_ble_eq_true rfl⟩ (Nat.le_of_ble_eq_true rfl) ?_
      refine s_X0_isMonth hst (fun rm9 em9 => ?_)
      refine v_if_eq 32 dX6_rule_20 (fun h_20 => ?_) (fun h_20 => ?_)
      · refine v_iconst dX6_rule_32 ?_
        exact v_zret dX6_rule_33 rfl (by first | exact hQ0 (by omega) | exact hQ1 f c r am ao ar ra (by omega) h0 h3 (by omega) h9 | exact hQz f c r am ao ar ra (by omega) h0 h3 (by omega) h9) (by first | exact Or.inl rfl | exact Or.inr rfl | omega)
      · refine v_iload dX6_rule_23 rfl ?_
        refine v_i2l dX6_rule_25 ?_
        refine v_S1 (rm' := rX0_isWeekday) dX6_rule_26 km_X6_169 ks_X0_isWeekday kz_X0 mk_X0_isWeekday rfl ⟨Nat.le_of_ble_eq_true rfl, Nat.le_of_ble_eq_true rfl⟩ ⟨Nat.le_of_ble_eq_true rfl, Nat.le_of_ble_eq_true rfl⟩ (Nat.le_of_ble_eq_true rfl) ?_
        refine s_X0_isWeekday hst (fun rw9 ew9 => ?_)
        refine v_if_ne 34 dX6_rule_29 (fun h_29 => ?_) (fun h_29 => ?_)
        · refine v_iload_n dX6_rule_34 rfl ?_
          refine v_iconst dX6_rule_35 ?_
          refine v_icmp_lt 45 dX6_rule_36 (fun h_36 => ?_) (fun h_36 => ?_)
          · refine v_iload_n dX6_rule_45 rfl ?_
            refine v_iconst dX6_rule_46 ?_
            refine v_icmp_ne 65 dX6_rule_47 (fun h_47 => ?_) (fun h_47 => ?_)
            · refine v_iconst dX6_rule_65 ?_
              exact v_zret dX6_rule_66 rfl (by first | exact hQ0 (by omega) | exact hQ1 f c r am ao ar ra (by omega) h0 h3 (by omega) h9 | exact hQz f c r am ao ar ra (by omega) h0 h3 (by omega) h9) (by first | exact Or.inl rfl | exact Or.inr rfl | omega)
            · refine v_iload dX6_rule_50 rfl ?_
              refine v_if_lt 65 dX6_rule_52 (fun h_52 => ?_) (fun h_52 => ?_)
              · refine v_iconst dX6_rule_65 ?_
                exact v_zret dX6_rule_66 rfl (by first | exact hQ0 (by omega) | exact hQ1 f c r am ao ar ra (by omega) h0 h3 (by omega) h9 | exact hQz f c r am ao ar ra (by omega) h0 h3 (by omega) h9) (by first | exact Or.inl rfl | exact Or.inr rfl | omega)
              · refine v_iload dX6_rule_55 rfl ?_
                refine v_i2l dX6_rule_57 ?_
                refine v_ldc2 (86400) dX6_rule_58 kl_X6_214 ?_
                refine v_lif_le 67 dX6_rule_61 dX6_rule_62 (fun h_61 => ?_) (fun h_61 => ?_)
                · obtain ⟨f, c, r, am, ao, ar, ra, h0, h3, hc, hr, h4⟩ := hZ (by omega)
                  refine v_aload_n dX6_rule_67 rfl ?_
                  refine v_get dX6_rule_68 f_X6_20 (by first | exact hx | exact hzn | exact h0) rfl ?_
                  refine v_iload_n dX6_rule_71 rfl ?_
                  refine v_aald (t := 5) dX6_rule_72 (fun _ => rfl) (by first | exact hx | exact hzn | exact h0) (by exact rfl) ?_
                  refine v_iload_n dX6_rule_73 rfl ?_
                  refine v_iload_n dX6_rule_74 rfl ?_
                  refine v_iload dX6_rule_75 rfl ?_
                  refine v_iload dX6_rule_77 rfl ?_
                  refine v_iload dX6_rule_79 rfl ?_
                  refine v_V5 (rm' := rX5_addRule) (RX5, TX5, 6) dX6_rule_81 km_X6_216 kn_X5_addRule kv_X5_addRule kz_X5 mk_X5_addRule rfl rfl (by first | exact hx | exact hzn | exact h0) ⟨Nat.le_of_ble_eq_true rfl, Nat.le_of_ble_eq_true rfl⟩ ⟨Nat.le_of_ble_eq_true rfl, Nat.le_of_ble_eq_true rfl⟩ (Nat.le_of_ble_eq_true rfl) ?_
                  refine s_X5_addRule hst h0 h3 hc hr h4 (fun h9 => ?_) (fun h9 => ?_)
                  · exact v_zret dX6_rule_84 rfl (by first | exact hQ0 (by omega) | exact hQ1 f c r am ao ar ra (by omega) h0 h3 (by omega) h9 | exact hQz f c r am ao ar ra (by omega) h0 h3 (by omega) h9) (by first | exact Or.inl rfl | exact Or.inr rfl | omega)
                  · exact v_zret dX6_rule_84 rfl (by first | exact hQ0 (by omega) | exact hQ1 f c r am ao ar ra (by omega) h0 h3 (by omega) h9 | exact hQz f c r am ao ar ra (by omega) h0 h3 (by omega) h9) (by first | exact Or.inl rfl | exact Or.inr rfl | omega)
                · refine v_iconst dX6_rule_65 ?_
                  exact v_zret dX6_rule_66 rfl (by first | exact hQ0 (by omega) | exact hQ1 f c r am ao ar ra (by omega) h0 h3 (by omega) h9 | exact hQz f c r am ao ar ra (by omega) h0 h3 (by omega) h9) (by first | exact Or.inl rfl | exact Or.inr rfl | omega)
          · refine v_iload_n dX6_rule_39 rfl ?_
            refine v_bipush dX6_rule_40 ?_
            refine v_icmp_le 50 dX6_rule_42 (fun h_42 => ?_) (fun h_42 => ?_)
            · refine v_iload dX6_rule_50 rfl ?_
              refine v_if_lt 65 dX6_rule_52 (fun h_52 => ?_) (fun h_52 => ?_)
              · refine v_iconst dX6_rule_65 ?_
                exact v_zret dX6_rule_66 rfl (by first | exact hQ0 (by omega) | exact hQ1 f c r am ao ar ra (by omega) h0 h3 (by omega) h9 | exact hQz f c r am ao ar ra (by omega) h0 h3 (by omega) h9) (by first | exact Or.inl rfl | exact Or.inr rfl | omega)
              · refine v_iload dX6_rule_55 rfl ?_
                refine v_i2l dX6_rule_57 ?_
                refine v_ldc2 (86400) dX6_rule_58 kl_X6_214 ?_
                refine v_lif_le 67 dX6_rule_61 dX6_rule_62 (fun h_61 => ?_) (fun h_61 => ?_)
                · obtain ⟨f, c, r, am, ao, ar, ra, h0, h3, hc, hr, h4⟩ := hZ (by omega)
                  refine v_aload_n dX6_rule_67 rfl ?_
                  refine v_get dX6_rule_68 f_X6_20 (by first | exact hx | exact hzn | exact h0) rfl ?_
                  refine v_iload_n dX6_rule_71 rfl ?_
                  refine v_aald (t := 5) dX6_rule_72 (fun _ => rfl) (by first | exact hx | exact hzn | exact h0) (by exact rfl) ?_
                  refine v_iload_n dX6_rule_73 rfl ?_
                  refine v_iload_n dX6_rule_74 rfl ?_
                  refine v_iload dX6_rule_75 rfl ?_
                  refine v_iload dX6_rule_77 rfl ?_
                  refine v_iload dX6_rule_79 rfl ?_
                  refine v_V5 (rm' := rX5_addRule) (RX5, TX5, 6) dX6_rule_81 km_X6_216 kn_X5_addRule kv_X5_addRule kz_X5 mk_X5_addRule rfl rfl (by first | exact hx | exact hzn | exact h0) ⟨Nat.le_of_ble_eq_true rfl, Nat.le_of_ble_eq_true rfl⟩ ⟨Nat.le_of_ble_eq_true rfl, Nat.le_of_ble_eq_true rfl⟩ (Nat.le_of_ble_eq_true rfl) ?_
                  refine s_X5_addRule hst h0 h3 hc hr h4 (fun h9 => ?_) (fun h9 => ?_)
                  · exact v_zret dX6_rule_84 rfl (by first | exact hQ0 (by omega) | exact hQ1 f c r am ao ar ra (by omega) h0 h3 (by omega) h9 | exact hQz f c r am ao ar ra (by omega) h0 h3 (by omega) h9) (by first | exact Or.inl rfl | exact Or.inr rfl | omega)
                  · exact v_zret dX6_rule_84 rfl (by first | exact hQ0 (by omega) | exact hQ1 f c r am ao ar ra (by omega) h0 h3 (by omega) h9 | exact hQz f c r am ao ar ra (by omega) h0 h3 (by omega) h9) (by first | exact Or.inl rfl | exact Or.inr rfl | omega)
                · refine v_iconst dX6_rule_65 ?_
                  exact v_zret dX6_rule_66 rfl (by first | exact hQ0 (by omega) | exact hQ1 f c r am ao ar ra (by omega) h0 h3 (by omega) h9 | exact hQz f c r am ao ar ra (by omega) h0 h3 (by omega) h9) (by first | exact Or.inl rfl | exact Or.inr rfl | omega)
            · refine v_iload_n dX6_rule_45 rfl ?_
              refine v_iconst dX6_rule_46 ?_
              refine v_icmp_ne 65 dX6_rule_47 (fun h_47 => ?_) (fun h_47 => ?_)
              · refine v_iconst dX6_rule_65 ?_
                exact v_zret dX6_rule_66 rfl (by first | exact hQ0 (by omega) | exact hQ1 f c r am ao ar ra (by omega) h0 h3 (by omega) h9 | exact hQz f c r am ao ar ra (by omega) h0 h3 (by omega) h9) (by first | exact Or.inl rfl | exact Or.inr rfl | omega)
              · refine v_iload dX6_rule_50 rfl ?_
                refine v_if_lt 65 dX6_rule_52 (fun h_52 => ?_) (fun h_52 => ?_)
                · refine v_iconst dX6_rule_65 ?_
                  exact v_zret dX6_rule_66 rfl (by first | exact hQ0 (by omega) | exact hQ1 f c r am ao ar ra (by omega) h0 h3 (by omega) h9 | exact hQz f c r am ao ar ra (by omega) h0 h3 (by omega) h9) (by first | exact Or.inl rfl | exact Or.inr rfl | omega)
                · refine v_iload dX6_rule_55 rfl ?_
                  refine v_i2l dX6_rule_57 ?_
                  refine v_ldc2 (86400) dX6_rule_58 kl_X6_214 ?_
                  refine v_lif_le 67 dX6_rule_61 dX6_rule_62 (fun h_61 => ?_) (fun h_61 => ?_)
                  · obtain ⟨f, c, r, am, ao, ar, ra, h0, h3, hc, hr, h4⟩ := hZ (by omega)
                    refine v_aload_n dX6_rule_67 rfl ?_
                    refine v_get dX6_rule_68 f_X6_20 (by first | exact hx | exact hzn | exact h0) rfl ?_
                    refine v_iload_n dX6_rule_71 rfl ?_
                    refine v_aald (t := 5) dX6_rule_72 (fun _ => rfl) (by first | exact hx | exact hzn | exact h0) (by exact rfl) ?_
                    refine v_iload_n dX6_rule_73 rfl ?_
                    refine v_iload_n dX6_rule_74 rfl ?_
                    refine v_iload dX6_rule_75 rfl ?_
                    refine v_iload dX6_rule_77 rfl ?_
                    refine v_iload dX6_rule_79 rfl ?_
                    refine v_V5 (rm' := rX5_addRule) (RX5, TX5, 6) dX6_rule_81 km_X6_216 kn_X5_addRule kv_X5_addRule kz_X5 mk_X5_addRule rfl rfl (by first | exact hx | exact hzn | exact h0) ⟨Nat.le_of_ble_eq_true rfl, Nat.le_of_ble_eq_true rfl⟩ ⟨Nat.le_of_ble_eq_true rfl, Nat.le_of_ble_eq_true rfl⟩ (Nat.le_of_ble_eq_true rfl) ?_
                    refine s_X5_addRule hst h0 h3 hc hr h4 (fun h9 => ?_) (fun h9 => ?_)
                    · exact v_zret dX6_rule_84 rfl (by first | exact hQ0 (by omega) | exact hQ1 f c r am ao ar ra (by omega) h0 h3 (by omega) h9 | exact hQz f c r am ao ar ra (by omega) h0 h3 (by omega) h9) (by first | exact Or.inl rfl | exact Or.inr rfl | omega)
                    · exact v_zret dX6_rule_84 rfl (by first | exact hQ0 (by omega) | exact hQ1 f c r am ao ar ra (by omega) h0 h3 (by omega) h9 | exact hQz f c r am ao ar ra (by omega) h0 h3 (by omega) h9) (by first | exact Or.inl rfl | exact Or.inr rfl | omega)
                  · refine v_iconst dX6_rule_65 ?_
                    exact v_zret dX6_rule_66 rfl (by first | exact hQ0 (by omega) | exact hQ1 f c r am ao ar ra (by omega) h0 h3 (by omega) h9 | exact hQz f c r am ao ar ra (by omega) h0 h3 (by omega) h9) (by first | exact Or.inl rfl | exact Or.inr rfl | omega)
        · refine v_iconst dX6_rule_32 ?_
          exact v_zret dX6_rule_33 rfl (by first | exact hQ0 (by omega) | exact hQ1 f c r am ao ar ra (by omega) h0 h3 (by omega) h9 | exact hQz f c r am ao ar ra (by omega) h0 h3 (by omega) h9) (by first | exact Or.inl rfl | exact Or.inr rfl | omega)
