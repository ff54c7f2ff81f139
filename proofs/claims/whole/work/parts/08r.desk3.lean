set_option maxRecDepth 100000 in
set_option maxHeartbeats 4000000 in
theorem s_X6_offset {l : Launch} {G : GG} {w : AH} {Q : Option Value → AH → Prop} {X : String → AH → Prop} (hst : l.stackTraces = false) {x sl zn li pg : Nat} {za : Nat → Nat} {i : Int} (hx : w x = some (tdC sl zn li pg)) (hzn : w zn = some (arA G 5 4 (fun k => some (za k)))) (hi : -2147483648 ≤ i ∧ i ≤ 2147483647) {t : Int} (ht : -9223372036854775808 ≤ t ∧ t ≤ 9223372036854775807) {f c r : Int} {am ao ar : Nat} {ra : Nat → Nat} {gm go : Nat → Int} {ru : Nat → Nat → Int} (hZH : (0 ≤ i ∧ i ≤ 3) → w (za i.toNat) = some (zoC f am ao c ar r) ∧ w am = some (alA G 8 gm) ∧ w ao = some (aiA G 8 go) ∧ w ar = some (arA G 6 2 (fun i => some (ra i))) ∧ (∀ k, k < 2 → w (ra k) = some (ruC (ru k 0) (ru k 1) (ru k 2) (ru k 3) (ru k 4))) ∧ ZOK f c r gm go ru) (hXA : ¬ ((0 ≤ i ∧ i ≤ 3) ∧ (-377700000000 ≤ t ∧ t ≤ 253400000000)) → X "java/lang/IllegalArgumentException" w) (hQ : (0 ≤ i ∧ i ≤ 3) → (-377700000000 ≤ t ∧ t ≤ 253400000000) → Q (some (.int (iI (oA f c r gm go ru t)))) w) : Ct l G mX6_offset rX6_offset [(.ref x), .int (iI i), .long (lI t)] w Q X := by
  refine ct_of hst mk_X6_offset (Nat.le_of_ble_eq_true rfl) ?_
  refine v_iload_n dX6_offset_0 rfl ?_
  refine v_S1 (rm' := rX6_isZone) dX6_offset_1 km_X6_192 ks_X6_isZone kz_X6 mk_X6_isZone rfl ⟨Nat.le_of_ble_eq_true rfl, Nat.le_of_ble_eq_true rfl⟩ ⟨Nat.le_of_ble_eq_true rfl, Nat.le_of_ble_eq_true rfl⟩ (Nat.le_of_ble_eq_true rfl) ?_
  refine s_X6_isZone hst (by omega) (fun r_X6_isZone e_X6_isZone => ?_)
  refine v_if_eq 14 dX6_offset_4 (fun h_4 => ?_) (fun h_4 => ?_)
  · exact v_throwS (E := "java/lang/IllegalArgumentException") (sk := 11) dX6_offset_14 dX6_offset_17 dX6_offset_18 dX6_offset_20 dX6_offset_23 rfl kc_X6_49 kz_java_lang_IllegalArgumentException tw_53 (by decide +kernel) rfl (by exact hXA (by omega))
  · refine v_lload_n dX6_offset_7 rfl ?_
    refine v_S1 (rm' := rX6_isMoment) dX6_offset_8 km_X6_202 ks_X6_isMoment kz_X6 mk_X6_isMoment rfl ⟨Nat.le_of_ble_eq_true rfl, Nat.le_of_ble_eq_true rfl⟩ ⟨Nat.le_of_ble_eq_true rfl, Nat.le_of_ble_eq_true rfl⟩ (Nat.le_of_ble_eq_true rfl) ?_
    refine s_X6_isMoment hst (by omega) (fun r_X6_isMoment e_X6_isMoment => ?_)
    refine v_if_ne 24 dX6_offset_11 (fun h_11 => ?_) (fun h_11 => ?_)
    · obtain ⟨q0, q1, q2, q3, q4, hZ⟩ := hZH (by omega)
      refine v_aload_n dX6_offset_24 rfl ?_
      refine v_get dX6_offset_25 f_X6_20 (by first | exact hx | exact hzn | exact q0) rfl ?_
      refine v_iload_n dX6_offset_28 rfl ?_
      refine v_aald (t := 5) dX6_offset_29 (fun _ => rfl) (by first | exact hx | exact hzn | exact q0) (by exact rfl) ?_
      refine v_lload_n dX6_offset_30 rfl ?_
      refine v_V1 (rm' := rX5_offsetAt) (RX5, TX5, 6) dX6_offset_31 km_X6_222 kn_X5_offsetAt kv_X5_offsetAt kz_X5 mk_X5_offsetAt rfl rfl (by first | exact hx | exact hzn | exact q0) ⟨Nat.le_of_ble_eq_true rfl, Nat.le_of_ble_eq_true rfl⟩ ⟨Nat.le_of_ble_eq_true rfl, Nat.le_of_ble_eq_true rfl⟩ (Nat.le_of_ble_eq_true rfl) ?_
      refine s_X5_offsetAt hst q0 q1 q2 q3 q4 hZ (by omega) ?_
      exact v_iret dX6_offset_34 rfl (by exact hQ (by omega) (by omega))
    · exact v_throwS (E := "java/lang/IllegalArgumentException") (sk := 11) dX6_offset_14 dX6_offset_17 dX6_offset_18 dX6_offset_20 dX6_offset_23 rfl kc_X6_49 kz_java_lang_IllegalArgumentException tw_53 (by decide +kernel) rfl (by exact hXA (by omega))
set_option maxRecDepth 100000 in
set_option maxHeartbeats 4000000 in
theorem s_X6_moment {l : Launch} {G : GG} {w : AH} {Q : Option Value → AH → Prop} {X : String → AH → Prop} (hst : l.stackTraces = false) {x sl zn li pg : Nat} {sa : Nat → Nat} {i : Int} (hx : w x = some (tdC sl zn li pg)) (hsl : w sl = some (arA G 4 8 (fun k => some (sa k)))) (hS : ∀ k : Nat, k < 8 → SV w (sa k)) (hi : -2147483648 ≤ i ∧ i ≤ 2147483647) (hXI : (i < 0 ∨ 7 < i) → X "java/lang/IndexOutOfBoundsException" w) {za : Nat → Nat} (hzn : w zn = some (arA G 5 4 (fun k => some (za k)))) {j : Int} (hj : -2147483648 ≤ j ∧ j ≤ 2147483647) {f c r : Int} {am ao ar : Nat} {ra : Nat → Nat} {gm go : Nat → Int} {ru : Nat → Nat → Int} (hZH : (0 ≤ j ∧ j ≤ 3) → w (za j.toNat) = some (zoC f am ao c ar r) ∧ w am = some (alA G 8 gm) ∧ w ao = some (aiA G 8 go) ∧ w ar = some (arA G 6 2 (fun i => some (ra i))) ∧ (∀ k, k < 2 → w (ra k) = some (ruC (ru k 0) (ru k 1) (ru k 2) (ru k 3) (ru k 4))) ∧ ZOK f c r gm go ru) {la : Int} (hla : la = 0 ∨ la = 1) (hXA : (0 ≤ i ∧ i ≤ 7) → ¬ (0 ≤ j ∧ j ≤ 3) → X "java/lang/IllegalArgumentException" w) (hQ1 : ∀ y m d n : Int, (0 ≤ i ∧ i ≤ 7) → w (sa i.toNat) = some (stC y m d n) → (-9999 ≤ y ∧ y ≤ 9999) → (1 ≤ m ∧ m ≤ 12) → (1 ≤ d ∧ d ≤ lenM y m) → (0 ≤ n ∧ n ≤ 86399999999999) →  (0 ≤ j ∧ j ≤ 3) → mS f c r gm go ru (ed y m d * 86400 + n / 1000000000) la (1 + c + r).toNat ≠ -9223372036854775808 → Q (some (.long (lI (mS f c r gm go ru (ed y m d * 86400 + n / 1000000000) la (1 + c + r).toNat)))) w) (hQ2 : ∀ y m d n : Int, (0 ≤ i ∧ i ≤ 7) → w (sa i.toNat) = some (stC y m d n) → (-9999 ≤ y ∧ y ≤ 9999) → (1 ≤ m ∧ m ≤ 12) → (1 ≤ d ∧ d ≤ lenM y m) → (0 ≤ n ∧ n ≤ 86399999999999) →  (0 ≤ j ∧ j ≤ 3) → mS f c r gm go ru (ed y m d * 86400 + n / 1000000000) la (1 + c + r).toNat = -9223372036854775808 → ∀ E : Int, CE f c r gm go ru (ed y m d * 86400 + n / 1000000000) (yr ((ed y m d * 86400 + n / 1000000000) / 86400)) E → Q (some (.long (lI ((ed y m d * 86400 + n / 1000000000) - oA f c r gm go ru (E - 1))))) w) : Ct l G mX6_moment rX6_moment [(.ref x), .int (iI i), .int (iI j), .int (iI la)] w Q X := by
  refine ct_of hst mk_X6_moment (Nat.le_of_ble_eq_true rfl) ?_
  refine v_aload_n dX6_moment_0 rfl ?_
  refine v_iload_n dX6_moment_1 rfl ?_
  refine v_V1 (rm' := rX6_slotAt) (RX6, TX6, 4) dX6_moment_2 km_X6_39 kn_X6_slotAt kv_X6_slotAt kz_X6 mk_X6_slotAt rfl rfl (by first | exact hx | exact hsl | exact hzn | exact h0 | exact q0) ⟨Nat.le_of_ble_eq_true rfl, Nat.le_of_ble_eq_true rfl⟩ ⟨Nat.le_of_ble_eq_true rfl, Nat.le_of_ble_eq_true rfl⟩ (Nat.le_of_ble_eq_true rfl) ?_
  refine s_X6_slotAt hst hx hsl hi (fun h9 => vx_leave rfl (hXI h9)) (fun h7 => ?_)
  obtain ⟨y, m, d, n, h0, hy, hm, hd, hn⟩ := hS i.toNat (by omega)
  have hlen := lenM_rng y m
  have hed := ed_rng hy hm hd
  refine v_astore dX6_moment_5 (by decide) ?_
  refine v_iload_n dX6_moment_7 rfl ?_
  refine v_S1 (rm' := rX6_isZone) dX6_moment_8 km_X6_192 ks_X6_isZone kz_X6 mk_X6_isZone rfl ⟨Nat.le_of_ble_eq_true rfl, Nat.le_of_ble_eq_true rfl⟩ ⟨Nat.le_of_ble_eq_true rfl, Nat.le_of_ble_eq_true rfl⟩ (Nat.le_of_ble_eq_true rfl) ?_
  refine s_X6_isZone hst (by omega) (fun r_X6_isZone e_X6_isZone => ?_)
  refine v_if_ne 24 dX6_moment_11 (fun h_11 => ?_) (fun h_11 => ?_)
  · obtain ⟨q0, q1, q2, q3, q4, hZ⟩ := hZH (by omega)
    refine v_aload dX6_moment_24 rfl ?_
    refine v_V0 (rm' := rX4_epochSecond) (RX4, TX4, 4) dX6_moment_26 km_X6_228 kn_X4_epochSecond kv_X4_epochSecond kz_X4 mk_X4_epochSecond rfl rfl (by first | exact hx | exact hsl | exact hzn | exact h0 | exact q0) ⟨Nat.le_of_ble_eq_true rfl, Nat.le_of_ble_eq_true rfl⟩ ⟨Nat.le_of_ble_eq_true rfl, Nat.le_of_ble_eq_true rfl⟩ (Nat.le_of_ble_eq_true rfl) ?_
    refine s_X4_epochSecond hst h0 hy hm hd hn ?_
    have hlo : -377705116800 ≤ ed y m d * 86400 + n / 1000000000 ∧ ed y m d * 86400 + n / 1000000000 ≤ 253402300799 := (by omega)
    refine v_lstore dX6_moment_29 (by decide) ?_
    refine v_aload_n dX6_moment_31 rfl ?_
    refine v_get dX6_moment_32 f_X6_20 (by first | exact hx | exact hsl | exact hzn | exact h0 | exact q0) rfl ?_
    refine v_iload_n dX6_moment_35 rfl ?_
    refine v_aald (t := 5) dX6_moment_36 (fun _ => rfl) (by first | exact hx | exact hsl | exact hzn | exact h0 | exact q0) (by exact rfl) ?_
    refine v_lload dX6_moment_37 rfl ?_
    refine v_iload_n dX6_moment_39 rfl ?_
    refine v_V2 (rm' := rX5_momentOf) (RX5, TX5, 6) dX6_moment_40 km_X6_231 kn_X5_momentOf kv_X5_momentOf kz_X5 mk_X5_momentOf rfl rfl (by first | exact hx | exact hsl | exact hzn | exact h0 | exact q0) ⟨Nat.le_of_ble_eq_true rfl, Nat.le_of_ble_eq_true rfl⟩ ⟨Nat.le_of_ble_eq_true rfl, Nat.le_of_ble_eq_true rfl⟩ (Nat.le_of_ble_eq_true rfl) ?_
    refine s_X5_momentOf hst q0 q1 q2 q3 q4 hZ hlo hla ?_
    have hmr := mS_rng (la := la) hZ hlo (1 + c + r).toNat (by have := hZ.1; have := hZ.2.1; omega)
    refine v_lstore dX6_moment_43 (by decide) ?_
    refine v_lload dX6_moment_45 rfl ?_
    refine v_ldc2 (-9223372036854775808) dX6_moment_47 kl_X6_235 ?_
    refine v_lif_ne 72 dX6_moment_50 dX6_moment_51 (fun h_50 => ?_) (fun h_50 => ?_)
    · refine v_lload dX6_moment_72 rfl ?_
      exact v_lret dX6_moment_74 rfl (by first | exact hQ1 y m d n h7 h0 hy hm hd hn (by omega) h_50 | exact hQ2 y m d n h7 h0 hy hm hd hn (by omega) h_50 E hE)
    · refine v_lload dX6_moment_54 rfl ?_
      refine v_aload_n dX6_moment_56 rfl ?_
      refine v_get dX6_moment_57 f_X6_20 (by first | exact hx | exact hsl | exact hzn | exact h0 | exact q0) rfl ?_
      refine v_iload_n dX6_moment_60 rfl ?_
      refine v_aald (t := 5) dX6_moment_61 (fun _ => rfl) (by first | exact hx | exact hsl | exact hzn | exact h0 | exact q0) (by exact rfl) ?_
      refine v_lload dX6_moment_62 rfl ?_
      refine v_V1 (rm' := rX5_offsetBeforeGap) (RX5, TX5, 6) dX6_moment_64 km_X6_237 kn_X5_offsetBeforeGap kv_X5_offsetBeforeGap kz_X5 mk_X5_offsetBeforeGap rfl rfl (by first | exact hx | exact hsl | exact hzn | exact h0 | exact q0) ⟨Nat.le_of_ble_eq_true rfl, Nat.le_of_ble_eq_true rfl⟩ ⟨Nat.le_of_ble_eq_true rfl, Nat.le_of_ble_eq_true rfl⟩ (Nat.le_of_ble_eq_true rfl) ?_
      refine s_X5_offsetBeforeGap hst q0 q1 q2 q3 q4 hZ hlo (fun E hE => ?_)
      have hor := oA_rng (t := E - 1) hZ
      refine v_i2l dX6_moment_67 ?_
      refine v_lsub dX6_moment_68 ?_
      refine v_goto 74 dX6_moment_69 ?_
      exact v_lret dX6_moment_74 rfl (by first | exact hQ1 y m d n h7 h0 hy hm hd hn (by omega) h_50 | exact hQ2 y m d n h7 h0 hy hm hd hn (by omega) h_50 E hE)
  · exact v_throwS (E := "java/lang/IllegalArgumentException") (sk := 12) dX6_moment_14 dX6_moment_17 dX6_moment_18 dX6_moment_20 dX6_moment_23 rfl kc_X6_49 kz_java_lang_IllegalArgumentException tw_53 (by decide +kernel) rfl (by exact hXA h7 (by omega))
set_option maxRecDepth 100000 in
set_option maxHeartbeats 4000000 in
theorem s_X6_show {l : Launch} {G : GG} {w : AH} {Q : Option Value → AH → Prop} {X : String → AH → Prop} (hst : l.stackTraces = false) {x sl zn li pg : Nat} {sa : Nat → Nat} {i : Int} (hx : w x = some (tdC sl zn li pg)) (hsl : w sl = some (arA G 4 8 (fun k => some (sa k)))) (hS : ∀ k : Nat, k < 8 → SV w (sa k)) (hi : -2147483648 ≤ i ∧ i ≤ 2147483647) (hXI : (i < 0 ∨ 7 < i) → X "java/lang/IndexOutOfBoundsException" w) {za : Nat → Nat} (hzn : w zn = some (arA G 5 4 (fun k => some (za k)))) {j : Int} (hj : -2147483648 ≤ j ∧ j ≤ 2147483647) {f c r : Int} {am ao ar : Nat} {ra : Nat → Nat} {gm go : Nat → Int} {ru : Nat → Nat → Int} (hZH : (0 ≤ j ∧ j ≤ 3) → w (za j.toNat) = some (zoC f am ao c ar r) ∧ w am = some (alA G 8 gm) ∧ w ao = some (aiA G 8 go) ∧ w ar = some (arA G 6 2 (fun i => some (ra i))) ∧ (∀ k, k < 2 → w (ra k) = some (ruC (ru k 0) (ru k 1) (ru k 2) (ru k 3) (ru k 4))) ∧ ZOK f c r gm go ru) {t : Int} (ht : -9223372036854775808 ≤ t ∧ t ≤ 9223372036854775807) (hXA : (0 ≤ i ∧ i ≤ 7) → ¬ (0 ≤ j ∧ j ≤ 3) → X "java/lang/IllegalArgumentException" w) (hXM : (0 ≤ i ∧ i ≤ 7) → (0 ≤ j ∧ j ≤ 3) → ¬ (-377700000000 ≤ t ∧ t ≤ 253400000000) → X "java/lang/ArithmeticException" w) (hXD : (0 ≤ i ∧ i ≤ 7) → (0 ≤ j ∧ j ≤ 3) → (-377700000000 ≤ t ∧ t ≤ 253400000000) → ((t + oA f c r gm go ru t) / 86400 < -4371587 ∨ 2932896 < (t + oA f c r gm go ru t) / 86400) → X "java/lang/ArithmeticException" w) (hQ : ∀ y m d n : Int, (0 ≤ i ∧ i ≤ 7) → w (sa i.toNat) = some (stC y m d n) → (-9999 ≤ y ∧ y ≤ 9999) → (1 ≤ m ∧ m ≤ 12) → (1 ≤ d ∧ d ≤ lenM y m) → (0 ≤ n ∧ n ≤ 86399999999999) →  (0 ≤ j ∧ j ≤ 3) → (-377700000000 ≤ t ∧ t ≤ 253400000000) → ∀ y' m' d' : Int, (-9999 ≤ y' ∧ y' ≤ 9999) → (1 ≤ m' ∧ m' ≤ 12) → (1 ≤ d' ∧ d' ≤ lenM y' m') →  ed y' m' d' = (t + oA f c r gm go ru t) / 86400 → Q none (aup w (sa i.toNat) (stC y' m' d' ((t + oA f c r gm go ru t) % 86400 * 1000000000)))) : Ct l G mX6_show rX6_show [(.ref x), .int (iI i), .int (iI j), .long (lI t)] w Q X := by
  refine ct_of hst mk_X6_show (Nat.le_of_ble_eq_true rfl) ?_
  refine v_aload_n dX6_show_0 rfl ?_
  refine v_iload_n dX6_show_1 rfl ?_
  refine v_V1 (rm' := rX6_slotAt) (RX6, TX6, 4) dX6_show_2 km_X6_39 kn_X6_slotAt kv_X6_slotAt kz_X6 mk_X6_slotAt rfl rfl (by first | exact hx | exact hsl | exact hzn | exact h0 | exact q0 | exact aup_s) ⟨Nat.le_of_ble_eq_true rfl, Nat.le_of_ble_eq_true rfl⟩ ⟨Nat.le_of_ble_eq_true rfl, Nat.le_of_ble_eq_true rfl⟩ (Nat.le_of_ble_eq_true rfl) ?_
  refine s_X6_slotAt hst hx hsl hi (fun h9 => vx_leave rfl (hXI h9)) (fun h7 => ?_)
  obtain ⟨y, m, d, n, h0, hy, hm, hd, hn⟩ := hS i.toNat (by omega)
  have hlen := lenM_rng y m
  have hed := ed_rng hy hm hd
  refine v_astore dX6_show_5 (by decide) ?_
  refine v_iload_n dX6_show_7 rfl ?_
  refine v_S1 (rm' := rX6_isZone) dX6_show_8 km_X6_192 ks_X6_isZone kz_X6 mk_X6_isZone rfl ⟨Nat.le_of_ble_eq_true rfl, Nat.le_of_ble_eq_true rfl⟩ ⟨Nat.le_of_ble_eq_true rfl, Nat.le_of_ble_eq_true rfl⟩ (Nat.le_of_ble_eq_true rfl) ?_
  refine s_X6_isZone hst (by omega) (fun r_X6_isZone e_X6_isZone => ?_)
  refine v_if_ne 24 dX6_show_11 (fun h_11 => ?_) (fun h_11 => ?_)
  · refine v_lload_n dX6_show_24 rfl ?_
    refine v_S1 (rm' := rX6_isMoment) dX6_show_25 km_X6_202 ks_X6_isMoment kz_X6 mk_X6_isMoment rfl ⟨Nat.le_of_ble_eq_true rfl, Nat.le_of_ble_eq_true rfl⟩ ⟨Nat.le_of_ble_eq_true rfl, Nat.le_of_ble_eq_true rfl⟩ (Nat.le_of_ble_eq_true rfl) ?_
    refine s_X6_isMoment hst (by omega) (fun r_X6_isMoment e_X6_isMoment => ?_)
    refine v_if_ne 41 dX6_show_28 (fun h_28 => ?_) (fun h_28 => ?_)
    · obtain ⟨q0, q1, q2, q3, q4, hZ⟩ := hZH (by omega)
      refine v_lload_n dX6_show_41 rfl ?_
      refine v_aload_n dX6_show_42 rfl ?_
      refine v_get dX6_show_43 f_X6_20 (by first | exact hx | exact hsl | exact hzn | exact h0 | exact q0 | exact aup_s) rfl ?_
      refine v_iload_n dX6_show_46 rfl ?_
      refine v_aald (t := 5) dX6_show_47 (fun _ => rfl) (by first | exact hx | exact hsl | exact hzn | exact h0 | exact q0 | exact aup_s) (by exact rfl) ?_
      refine v_lload_n dX6_show_48 rfl ?_
      refine v_V1 (rm' := rX5_offsetAt) (RX5, TX5, 6) dX6_show_49 km_X6_222 kn_X5_offsetAt kv_X5_offsetAt kz_X5 mk_X5_offsetAt rfl rfl (by first | exact hx | exact hsl | exact hzn | exact h0 | exact q0 | exact aup_s) ⟨Nat.le_of_ble_eq_true rfl, Nat.le_of_ble_eq_true rfl⟩ ⟨Nat.le_of_ble_eq_true rfl, Nat.le_of_ble_eq_true rfl⟩ (Nat.le_of_ble_eq_true rfl) ?_
      refine s_X5_offsetAt hst q0 q1 q2 q3 q4 hZ (by omega) ?_
      have hor := oA_rng (t := t) hZ
      refine v_i2l dX6_show_52 ?_
      refine v_ladd dX6_show_53 ?_
      refine v_lstore dX6_show_54 (by decide) ?_
      refine v_aload dX6_show_56 rfl ?_
      refine v_lload dX6_show_58 rfl ?_
      refine v_ldc2 (86400) dX6_show_60 kl_X6_214 ?_
      refine v_S2 (rm' := rJ9_floorDiv_f86c9) dX6_show_63 km_X6_242 ks_J9_floorDiv_f86c9 kz_J9 mk_J9_floorDiv_f86c9 rfl ⟨Nat.le_of_ble_eq_true rfl, Nat.le_of_ble_eq_true rfl⟩ ⟨Nat.le_of_ble_eq_true rfl, Nat.le_of_ble_eq_true rfl⟩ (Nat.le_of_ble_eq_true rfl) ?_
      refine s_J9_floorDiv_f86c9 hst ?_
      refine v_V1 (rm' := rX4_setEpochDay) (RX4, TX4, 4) dX6_show_66 km_X6_179 kn_X4_setEpochDay kv_X4_setEpochDay kz_X4 mk_X4_setEpochDay rfl rfl (by first | exact hx | exact hsl | exact hzn | exact h0 | exact q0 | exact aup_s) ⟨Nat.le_of_ble_eq_true rfl, Nat.le_of_ble_eq_true rfl⟩ ⟨Nat.le_of_ble_eq_true rfl, Nat.le_of_ble_eq_true rfl⟩ (Nat.le_of_ble_eq_true rfl) ?_
      refine s_X4_setEpochDay hst h0 (fun y' m' d' hy' hm' hd' he' => ?_) (fun h9 => ?_)
      · refine v_if_ne 82 dX6_show_69 (fun h_69 => ?_) (fun h_69 => ?_)
        rotate_left
        · (exfalso; omega)
        refine v_aload dX6_show_82 rfl ?_
        refine v_lload dX6_show_84 rfl ?_
        refine v_ldc2 (86400) dX6_show_86 kl_X6_214 ?_
        refine v_S2 (rm' := rJ9_floorMod_f86c9) dX6_show_89 km_X6_247 ks_J9_floorMod_f86c9 kz_J9 mk_J9_floorMod_f86c9 rfl ⟨Nat.le_of_ble_eq_true rfl, Nat.le_of_ble_eq_true rfl⟩ ⟨Nat.le_of_ble_eq_true rfl, Nat.le_of_ble_eq_true rfl⟩ (Nat.le_of_ble_eq_true rfl) ?_
        refine s_J9_floorMod_f86c9 hst ?_
        refine v_ldc2 (1000000000) dX6_show_92 kl_X6_250 ?_
        refine v_lmul dX6_show_95 ?_
        refine v_V1 (rm' := rX4_setNano) (RX4, TX4, 4) dX6_show_96 km_X6_70 kn_X4_setNano kv_X4_setNano kz_X4 mk_X4_setNano rfl rfl (by first | exact hx | exact hsl | exact hzn | exact h0 | exact q0 | exact aup_s) ⟨Nat.le_of_ble_eq_true rfl, Nat.le_of_ble_eq_true rfl⟩ ⟨Nat.le_of_ble_eq_true rfl, Nat.le_of_ble_eq_true rfl⟩ (Nat.le_of_ble_eq_true rfl) ?_
        refine s_X4_setNano hst aup_s ?_
        exact v_vret dX6_show_99 rfl (by first | (exfalso; omega) | (rw [aup_up]; exact hQ y m d n h7 h0 hy hm hd hn (by omega) (by omega) y' m' d' hy' hm' hd' he'))
      · refine v_if_ne 82 dX6_show_69 (fun h_69 => ?_) (fun h_69 => ?_)
        · (exfalso; omega)
        exact v_throwS (E := "java/lang/ArithmeticException") (sk := 7) dX6_show_72 dX6_show_75 dX6_show_76 dX6_show_78 dX6_show_81 rfl kc_X6_110 kz_java_lang_ArithmeticException tw_114 (by decide +kernel) rfl (by first | (exfalso; omega) | exact hXA h7 (by omega) | exact hXM h7 (by omega) (by omega) | exact hXD h7 (by omega) (by omega) h9)
    · exact v_throwS (E := "java/lang/ArithmeticException") (sk := 13) dX6_show_31 dX6_show_34 dX6_show_35 dX6_show_37 dX6_show_40 rfl kc_X6_110 kz_java_lang_ArithmeticException tw_114 (by decide +kernel) rfl (by first | (exfalso; omega) | exact hXA h7 (by omega) | exact hXM h7 (by omega) (by omega) | exact hXD h7 (by omega) (by omega) h9)
  · exact v_throwS (E := "java/lang/IllegalArgumentException") (sk := 12) dX6_show_14 dX6_show_17 dX6_show_18 dX6_show_20 dX6_show_23 rfl kc_X6_49 kz_java_lang_IllegalArgumentException tw_53 (by decide +kernel) rfl (by first | (exfalso; omega) | exact hXA h7 (by omega) | exact hXM h7 (by omega) (by omega) | exact hXD h7 (by omega) (by omega) h9)
set_option maxRecDepth 100000 in
set_option maxHeartbeats 4000000 in
theorem s_X6_julian {l : Launch} {G : GG} {w : AH} {Q : Option Value → AH → Prop} {X : String → AH → Prop} (hst : l.stackTraces = false) {x sl zn li pg : Nat} {sa : Nat → Nat} {i : Int} (hx : w x = some (tdC sl zn li pg)) (hsl : w sl = some (arA G 4 8 (fun k => some (sa k)))) (hS : ∀ k : Nat, k < 8 → SV w (sa k)) (hi : -2147483648 ≤ i ∧ i ≤ 2147483647) (hXI : (i < 0 ∨ 7 < i) → X "java/lang/IndexOutOfBoundsException" w) (hQ : ∀ y m d n : Int, (0 ≤ i ∧ i ≤ 7) → w (sa i.toNat) = some (stC y m d n) → (-9999 ≤ y ∧ y ≤ 9999) → (1 ≤ m ∧ m ≤ 12) → (1 ≤ d ∧ d ≤ lenM y m) → (0 ≤ n ∧ n ≤ 86399999999999) →  Q (some (.double (jD (ed y m d) n))) w) : Ct l G mX6_julian rX6_julian [(.ref x), .int (iI i)] w Q X := by
  refine ct_of hst mk_X6_julian (Nat.le_of_ble_eq_true rfl) ?_
  refine v_aload_n dX6_julian_0 rfl ?_
  refine v_iload_n dX6_julian_1 rfl ?_
  refine v_V1 (rm' := rX6_slotAt) (RX6, TX6, 4) dX6_julian_2 km_X6_39 kn_X6_slotAt kv_X6_slotAt kz_X6 mk_X6_slotAt rfl rfl (by first | exact hx | exact hsl | exact h0 | exact aup_s) ⟨Nat.le_of_ble_eq_true rfl, Nat.le_of_ble_eq_true rfl⟩ ⟨Nat.le_of_ble_eq_true rfl, Nat.le_of_ble_eq_true rfl⟩ (Nat.le_of_ble_eq_true rfl) ?_
  refine s_X6_slotAt hst hx hsl hi (fun h9 => vx_leave rfl (hXI h9)) (fun h7 => ?_)
  obtain ⟨y, m, d, n, h0, hy, hm, hd, hn⟩ := hS i.toNat (by omega)
  have hlen := lenM_rng y m
  have hed := ed_rng hy hm hd
  refine v_astore_n dX6_julian_5 (by decide) ?_
  refine v_aload_n dX6_julian_6 rfl ?_
  refine v_V0 (rm' := rX4_epochDay) (RX4, TX4, 4) dX6_julian_7 km_X6_154 kn_X4_epochDay kv_X4_epochDay kz_X4 mk_X4_epochDay rfl rfl (by first | exact hx | exact hsl | exact h0 | exact aup_s) ⟨Nat.le_of_ble_eq_true rfl, Nat.le_of_ble_eq_true rfl⟩ ⟨Nat.le_of_ble_eq_true rfl, Nat.le_of_ble_eq_true rfl⟩ (Nat.le_of_ble_eq_true rfl) ?_
  refine s_X4_epochDay hst h0 hy hm hd hn ?_
  refine v_l2d dX6_julian_10 ?_
  refine v_ldc2d dX6_julian_11 kd_X6_252 ?_
  refine v_dadd dX6_julian_14 f_j1.1 ?_
  refine v_aload_n dX6_julian_15 rfl ?_
  refine v_getN dX6_julian_16 f_X6_115 (by first | exact hx | exact hsl | exact h0 | exact aup_s) rfl ?_
  refine v_l2d dX6_julian_19 ?_
  refine v_ldc2d dX6_julian_20 kd_X6_254 ?_
  refine v_ddiv dX6_julian_23 f_j2.1 ?_
  refine v_dadd dX6_julian_24 f_j3.1 ?_
  exact v_dret dX6_julian_25 rfl (by exact hQ y m d n h7 h0 hy hm hd hn)
