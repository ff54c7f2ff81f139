set_option maxRecDepth 100000 in
set_option maxHeartbeats 4000000 in
theorem s_X7_possible {l : Launch} {G : GG} {w : AH} {Q : Option Value → AH → Prop} {X : String → AH → Prop} (hst : l.stackTraces = false) {z : Nat} {A : Nat → Nat} {th yq mq dq ty ap wr sz : Int} (h0 : w z = some (mdC A th yq mq dq ty ap wr sz)) {f c r : Int} {gm go : Nat → Int} {ru : Nat → Nat → Int} {zi : Nat} (hi4 : zi < 4) (hZ : ZOK f c r gm go ru) (hM : MZ G w A zi f c r gm go ru) {k : Nat} (hk : (k : Int) < 1 + c + r) (hQ : Q (some (.int (iI (kOff f go c (fun k => ru k 4) (k : Int))))) w) : Ct l G mX7_possible rX7_possible [(.ref z), .int (iI (zi : Int)), .int (iI (k : Int))] w Q X := by
  obtain ⟨hc, hr, hgm, hmono, hf, hgo, hru⟩ := hZ
  obtain ⟨gF, gC, gM, gO, gK, gR, z2, z3, z4, z5, z6, z7, l2, l3, l6, l4, l5, l7⟩ := hM
  refine ct_of hst mk_X7_possible (Nat.le_of_ble_eq_true rfl) ?_
  refine v_iload_n dX7_possible_0 rfl ?_
  refine v_if_ne 13 dX7_possible_1 (fun h_1 => ?_) (fun h_1 => ?_)
  · refine v_iload_n dX7_possible_13 rfl ?_
    refine v_aload_n dX7_possible_14 rfl ?_
    refine v_get dX7_possible_15 f_X7_20 (by first | exact h0 | exact z2 | exact z3 | exact z4 | exact z5 | exact z6 | exact z7 | exact aup_s) rfl ?_
    refine v_iload_n dX7_possible_18 rfl ?_
    refine v_iald dX7_possible_19 (by first | exact h0 | exact z2 | exact z3 | exact z4 | exact z5 | exact z6 | exact z7 | exact aup_s) ?_
    rw [show gC ((zi : Int).toNat) = c from l3]
    refine v_icmp_gt 39 dX7_possible_20 (fun h_20 => ?_) (fun h_20 => ?_)
    · refine v_aload_n dX7_possible_39 rfl ?_
      refine v_get dX7_possible_40 f_X7_32 (by first | exact h0 | exact z2 | exact z3 | exact z4 | exact z5 | exact z6 | exact z7 | exact aup_s) rfl ?_
      refine v_bipush dX7_possible_43 ?_
      refine v_iload_n dX7_possible_45 rfl ?_
      refine v_imul dX7_possible_46 ?_
      refine v_iconst dX7_possible_47 ?_
      refine v_iload_n dX7_possible_48 rfl ?_
      refine v_aload_n dX7_possible_49 rfl ?_
      refine v_get dX7_possible_50 f_X7_20 (by first | exact h0 | exact z2 | exact z3 | exact z4 | exact z5 | exact z6 | exact z7 | exact aup_s) rfl ?_
      refine v_iload_n dX7_possible_53 rfl ?_
      refine v_iald dX7_possible_54 (by first | exact h0 | exact z2 | exact z3 | exact z4 | exact z5 | exact z6 | exact z7 | exact aup_s) ?_
      rw [show gC ((zi : Int).toNat) = c from l3]
      refine v_isub dX7_possible_55 ?_
      refine v_iconst dX7_possible_56 ?_
      refine v_isub dX7_possible_57 ?_
      refine v_imul dX7_possible_58 ?_
      refine v_iadd dX7_possible_59 ?_
      refine v_iconst dX7_possible_60 ?_
      refine v_iadd dX7_possible_61 ?_
      refine v_iald dX7_possible_62 (by first | exact h0 | exact z2 | exact z3 | exact z4 | exact z5 | exact z6 | exact z7 | exact aup_s) ?_
      exact v_iret dX7_possible_63 rfl (by first | exact qi hQ (by unfold kOff; rw [if_pos (by omega)]) | exact qi hQ (by unfold kOff; rw [if_neg (by omega), if_pos (by omega), show (8 * (zi : Int) + (k : Int) - 1).toNat = 8 * zi + ((k : Int) - 1).toNat by omega]; exact l5 _ (by omega)) | exact qi hQ (by unfold kOff; rw [if_neg (by omega), if_neg (by omega), show (10 * (zi : Int) + 5 * ((k : Int) - c - 1) + 4).toNat = 10 * zi + 5 * ((k : Int) - 1 - c).toNat + 4 by omega]; exact l7 _ 4 (by omega) (by omega)))
    · refine v_aload_n dX7_possible_23 rfl ?_
      refine v_get dX7_possible_24 f_X7_26 (by first | exact h0 | exact z2 | exact z3 | exact z4 | exact z5 | exact z6 | exact z7 | exact aup_s) rfl ?_
      refine v_bipush dX7_possible_27 ?_
      refine v_iload_n dX7_possible_29 rfl ?_
      refine v_imul dX7_possible_30 ?_
      refine v_iload_n dX7_possible_31 rfl ?_
      refine v_iadd dX7_possible_32 ?_
      refine v_iconst dX7_possible_33 ?_
      refine v_isub dX7_possible_34 ?_
      refine v_iald dX7_possible_35 (by first | exact h0 | exact z2 | exact z3 | exact z4 | exact z5 | exact z6 | exact z7 | exact aup_s) ?_
      refine v_goto 63 dX7_possible_36 ?_
      exact v_iret dX7_possible_63 rfl (by first | exact qi hQ (by unfold kOff; rw [if_pos (by omega)]) | exact qi hQ (by unfold kOff; rw [if_neg (by omega), if_pos (by omega), show (8 * (zi : Int) + (k : Int) - 1).toNat = 8 * zi + ((k : Int) - 1).toNat by omega]; exact l5 _ (by omega)) | exact qi hQ (by unfold kOff; rw [if_neg (by omega), if_neg (by omega), show (10 * (zi : Int) + 5 * ((k : Int) - c - 1) + 4).toNat = 10 * zi + 5 * ((k : Int) - 1 - c).toNat + 4 by omega]; exact l7 _ 4 (by omega) (by omega)))
  · refine v_aload_n dX7_possible_4 rfl ?_
    refine v_get dX7_possible_5 f_X7_16 (by first | exact h0 | exact z2 | exact z3 | exact z4 | exact z5 | exact z6 | exact z7 | exact aup_s) rfl ?_
    refine v_iload_n dX7_possible_8 rfl ?_
    refine v_iald dX7_possible_9 (by first | exact h0 | exact z2 | exact z3 | exact z4 | exact z5 | exact z6 | exact z7 | exact aup_s) ?_
    rw [show gF ((zi : Int).toNat) = f from l2]
    refine v_goto 63 dX7_possible_10 ?_
    exact v_iret dX7_possible_63 rfl (by first | exact qi hQ (by unfold kOff; rw [if_pos (by omega)]) | exact qi hQ (by unfold kOff; rw [if_neg (by omega), if_pos (by omega), show (8 * (zi : Int) + (k : Int) - 1).toNat = 8 * zi + ((k : Int) - 1).toNat by omega]; exact l5 _ (by omega)) | exact qi hQ (by unfold kOff; rw [if_neg (by omega), if_neg (by omega), show (10 * (zi : Int) + 5 * ((k : Int) - c - 1) + 4).toNat = 10 * zi + 5 * ((k : Int) - 1 - c).toNat + 4 by omega]; exact l7 _ 4 (by omega) (by omega)))
set_option maxRecDepth 100000 in
set_option maxHeartbeats 4000000 in
theorem s_X7_opened {l : Launch} {G : GG} {w : AH} {Q : Option Value → AH → Prop} {X : String → AH → Prop} (hst : l.stackTraces = false) {z : Nat} {A : Nat → Nat} {th yq mq dq ty ap wr sz : Int} (h0 : w z = some (mdC A th yq mq dq ty ap wr sz)) {f c r : Int} {gm go : Nat → Int} {ru : Nat → Nat → Int} {zi : Nat} (hi4 : zi < 4) (hZ : ZOK f c r gm go ru) (hM : MZ G w A zi f c r gm go ru) {lo at9 be : Int} (hlo : -377705116800 ≤ lo ∧ lo ≤ 253402300799) (hat : at9 = -9223372036854775808 ∨ (-378000000000 ≤ at9 ∧ at9 ≤ 254000000000)) (hbe : be = -9223372036854775808 ∨ (-378000000000 ≤ be ∧ be ≤ 254000000000)) (hQ : ∀ yr' mo' da' : Int,  ∀ v : Int, (((at9 ≠ -9223372036854775808 ∧ lo < at9 + oA f c r gm go ru (at9) ∧ (be = -9223372036854775808 ∨ at9 < be)) ∧ v = at9) ∨ (¬ (at9 ≠ -9223372036854775808 ∧ lo < at9 + oA f c r gm go ru (at9) ∧ (be = -9223372036854775808 ∨ at9 < be)) ∧ v = be)) → Q (some (.long (lI v))) (aup w z (mdC A th yr' mo' da' ty ap wr sz))) : Ct l G mX7_opened rX7_opened [(.ref z), .int (iI (zi : Int)), .long (lI lo), .long (lI at9), .long (lI be)] w Q X := by
  have hor := oA_rng (t := at9) hZ
  refine ct_of hst mk_X7_opened (Nat.le_of_ble_eq_true rfl) ?_
  refine v_lload dX7_opened_0 rfl ?_
  refine v_ldc2 (-9223372036854775808) dX7_opened_2 kl_X7_206 ?_
  refine v_lif_eq 46 dX7_opened_5 dX7_opened_6 (fun h_5 => ?_) (fun h_5 => ?_)
  · refine v_iconst dX7_opened_46 ?_
    refine v_istore dX7_opened_47 (by decide) ?_
    refine v_iload dX7_opened_49 rfl ?_
    refine v_if_eq 59 dX7_opened_51 (fun h_51 => ?_) (fun h_51 => ?_)
    · refine v_lload dX7_opened_59 rfl ?_
      exact v_lret dX7_opened_61 rfl (by first | (exfalso; omega) | exact hQ yr' mo' da' _ (by omega) | (have g9 : at9 = -9223372036854775808 := (by omega); rw [← aup_id h0]; exact hQ _ _ _ _ (by omega)))
    · refine v_lload dX7_opened_54 rfl ?_
      refine v_goto 61 dX7_opened_56 ?_
      exact v_lret dX7_opened_61 rfl (by first | (exfalso; omega) | exact hQ yr' mo' da' _ (by omega) | (have g9 : at9 = -9223372036854775808 := (by omega); rw [← aup_id h0]; exact hQ _ _ _ _ (by omega)))
  · refine v_lload dX7_opened_9 rfl ?_
    refine v_aload_n dX7_opened_11 rfl ?_
    refine v_iload_n dX7_opened_12 rfl ?_
    refine v_lload dX7_opened_13 rfl ?_
    refine v_V2 (rm' := rX7_offsetAt) (RX7, TX7, 18) dX7_opened_15 km_X7_235 kn_X7_offsetAt kv_X7_offsetAt kz_X7 mk_X7_offsetAt rfl rfl (by first | exact h0 | exact aup_s) ⟨Nat.le_of_ble_eq_true rfl, Nat.le_of_ble_eq_true rfl⟩ ⟨Nat.le_of_ble_eq_true rfl, Nat.le_of_ble_eq_true rfl⟩ (Nat.le_of_ble_eq_true rfl) ?_
    refine s_X7_offsetAt hst h0 hi4 hZ hM (by omega) (fun yr' mo' da' => ?_)
    refine v_i2l dX7_opened_18 ?_
    refine v_ladd dX7_opened_19 ?_
    refine v_lload_n dX7_opened_20 rfl ?_
    refine v_lif_le 46 dX7_opened_21 dX7_opened_22 (fun h_21 => ?_) (fun h_21 => ?_)
    · refine v_iconst dX7_opened_46 ?_
      refine v_istore dX7_opened_47 (by decide) ?_
      refine v_iload dX7_opened_49 rfl ?_
      refine v_if_eq 59 dX7_opened_51 (fun h_51 => ?_) (fun h_51 => ?_)
      · refine v_lload dX7_opened_59 rfl ?_
        exact v_lret dX7_opened_61 rfl (by first | (exfalso; omega) | exact hQ yr' mo' da' _ (by omega) | (have g9 : at9 = -9223372036854775808 := (by omega); rw [← aup_id h0]; exact hQ _ _ _ _ (by omega)))
      · refine v_lload dX7_opened_54 rfl ?_
        refine v_goto 61 dX7_opened_56 ?_
        exact v_lret dX7_opened_61 rfl (by first | (exfalso; omega) | exact hQ yr' mo' da' _ (by omega) | (have g9 : at9 = -9223372036854775808 := (by omega); rw [← aup_id h0]; exact hQ _ _ _ _ (by omega)))
    · refine v_lload dX7_opened_25 rfl ?_
      refine v_ldc2 (-9223372036854775808) dX7_opened_27 kl_X7_206 ?_
      refine v_lif_eq 42 dX7_opened_30 dX7_opened_31 (fun h_30 => ?_) (fun h_30 => ?_)
      · refine v_iconst dX7_opened_42 ?_
        refine v_goto 47 dX7_opened_43 ?_
        refine v_istore dX7_opened_47 (by decide) ?_
        refine v_iload dX7_opened_49 rfl ?_
        refine v_if_eq 59 dX7_opened_51 (fun h_51 => ?_) (fun h_51 => ?_)
        · refine v_lload dX7_opened_59 rfl ?_
          exact v_lret dX7_opened_61 rfl (by first | (exfalso; omega) | exact hQ yr' mo' da' _ (by omega) | (have g9 : at9 = -9223372036854775808 := (by omega); rw [← aup_id h0]; exact hQ _ _ _ _ (by omega)))
        · refine v_lload dX7_opened_54 rfl ?_
          refine v_goto 61 dX7_opened_56 ?_
          exact v_lret dX7_opened_61 rfl (by first | (exfalso; omega) | exact hQ yr' mo' da' _ (by omega) | (have g9 : at9 = -9223372036854775808 := (by omega); rw [← aup_id h0]; exact hQ _ _ _ _ (by omega)))
      · refine v_lload dX7_opened_34 rfl ?_
        refine v_lload dX7_opened_36 rfl ?_
        refine v_lif_ge 46 dX7_opened_38 dX7_opened_39 (fun h_38 => ?_) (fun h_38 => ?_)
        · refine v_iconst dX7_opened_46 ?_
          refine v_istore dX7_opened_47 (by decide) ?_
          refine v_iload dX7_opened_49 rfl ?_
          refine v_if_eq 59 dX7_opened_51 (fun h_51 => ?_) (fun h_51 => ?_)
          · refine v_lload dX7_opened_59 rfl ?_
            exact v_lret dX7_opened_61 rfl (by first | (exfalso; omega) | exact hQ yr' mo' da' _ (by omega) | (have g9 : at9 = -9223372036854775808 := (by omega); rw [← aup_id h0]; exact hQ _ _ _ _ (by omega)))
          · refine v_lload dX7_opened_54 rfl ?_
            refine v_goto 61 dX7_opened_56 ?_
            exact v_lret dX7_opened_61 rfl (by first | (exfalso; omega) | exact hQ yr' mo' da' _ (by omega) | (have g9 : at9 = -9223372036854775808 := (by omega); rw [← aup_id h0]; exact hQ _ _ _ _ (by omega)))
        · refine v_iconst dX7_opened_42 ?_
          refine v_goto 47 dX7_opened_43 ?_
          refine v_istore dX7_opened_47 (by decide) ?_
          refine v_iload dX7_opened_49 rfl ?_
          refine v_if_eq 59 dX7_opened_51 (fun h_51 => ?_) (fun h_51 => ?_)
          · refine v_lload dX7_opened_59 rfl ?_
            exact v_lret dX7_opened_61 rfl (by first | (exfalso; omega) | exact hQ yr' mo' da' _ (by omega) | (have g9 : at9 = -9223372036854775808 := (by omega); rw [← aup_id h0]; exact hQ _ _ _ _ (by omega)))
          · refine v_lload dX7_opened_54 rfl ?_
            refine v_goto 61 dX7_opened_56 ?_
            exact v_lret dX7_opened_61 rfl (by first | (exfalso; omega) | exact hQ yr' mo' da' _ (by omega) | (have g9 : at9 = -9223372036854775808 := (by omega); rw [← aup_id h0]; exact hQ _ _ _ _ (by omega)))
set_option maxRecDepth 100000 in
set_option maxHeartbeats 4000000 in
theorem s_X7_offset {l : Launch} {G : GG} {w : AH} {Q : Option Value → AH → Prop} {X : String → AH → Prop} (hst : l.stackTraces = false) {z : Nat} {A : Nat → Nat} {th yq mq dq ty ap wr sz : Int} (h0 : w z = some (mdC A th yq mq dq ty ap wr sz)) {i t : Int} (hi : -2147483648 ≤ i ∧ i ≤ 2147483647) (ht : -9223372036854775808 ≤ t ∧ t ≤ 9223372036854775807) {f c r : Int} {gm go : Nat → Int} {ru : Nat → Nat → Int} (hMH : (0 ≤ i ∧ i ≤ 3) → MZ G w A i.toNat f c r gm go ru ∧ ZOK f c r gm go ru) (hQ1 : ¬ ((0 ≤ i ∧ i ≤ 3) ∧ (-377700000000 ≤ t ∧ t ≤ 253400000000)) → ∀ v : Int, Q (some (.int (iI v))) (aup w z (mdC A 1 yq mq dq ty ap wr sz))) (hQ : ∀ yr' mo' da' : Int,  (0 ≤ i ∧ i ≤ 3) → (-377700000000 ≤ t ∧ t ≤ 253400000000) → Q (some (.int (iI (oA f c r gm go ru t)))) (aup w z (mdC A 0 yr' mo' da' ty ap wr sz))) : Ct l G mX7_offset rX7_offset [(.ref z), .int (iI i), .long (lI t)] w Q X := by
  refine ct_of hst mk_X7_offset (Nat.le_of_ble_eq_true rfl) ?_
  refine v_aload_n dX7_offset_0 rfl ?_
  refine v_iload_n dX7_offset_1 rfl ?_
  refine v_i2l dX7_offset_2 ?_
  refine v_lconst0 dX7_offset_3 ?_
  refine v_ldc2 (3) dX7_offset_4 kl_X7_90 ?_
  refine v_S3 (rm' := rX7_in) dX7_offset_7 km_X7_102 ks_X7_in kz_X7 mk_X7_in rfl ⟨Nat.le_of_ble_eq_true rfl, Nat.le_of_ble_eq_true rfl⟩ ⟨Nat.le_of_ble_eq_true rfl, Nat.le_of_ble_eq_true rfl⟩ (Nat.le_of_ble_eq_true rfl) ?_
  refine s_X7_in hst (fun ri ei => ?_)
  refine v_if_eq 24 dX7_offset_10 (fun h_10 => ?_) (fun h_10 => ?_)
  · refine v_iconst dX7_offset_24 ?_
    refine v_put dX7_offset_25 f_X7_41 (by first | exact h0 | exact aup_s) rfl rfl (Nat.le_of_ble_eq_true rfl) ?_
    try rw [aup_up]
    refine v_aload_n dX7_offset_28 rfl ?_
    refine v_get dX7_offset_29 f_X7_41 (by first | exact h0 | exact aup_s) rfl ?_
    refine v_if_ne 44 dX7_offset_32 (fun h_32 => ?_) (fun h_32 => ?_)
    · refine v_iconst dX7_offset_44 ?_
      exact v_iret dX7_offset_45 rfl (by first | (exfalso; omega) | exact hQ1 (by omega) _)
    · first
      | (exfalso; omega)
      | (obtain ⟨hM, hZ⟩ := hMH (by omega)
         obtain ⟨zi, ezi⟩ := Int.eq_ofNat_of_zero_le (show 0 ≤ i by omega)
         rw [ezi] at hM
         simp only [Int.toNat_natCast] at hM
         refine v_aload_n dX7_offset_35 rfl ?_
         refine v_iload_n dX7_offset_36 rfl ?_
         refine v_lload_n dX7_offset_37 rfl ?_
         refine v_V2 (rm' := rX7_offsetAt) (RX7, TX7, 18) dX7_offset_38 km_X7_235 kn_X7_offsetAt kv_X7_offsetAt kz_X7 mk_X7_offsetAt rfl rfl (by first | exact h0 | exact aup_s) ⟨Nat.le_of_ble_eq_true rfl, Nat.le_of_ble_eq_true rfl⟩ ⟨Nat.le_of_ble_eq_true rfl, Nat.le_of_ble_eq_true rfl⟩ (Nat.le_of_ble_eq_true rfl) ?_
         rw [ezi]
         refine s_X7_offsetAt hst aup_s (by omega) hZ (MZ.up h0 hM) (by omega) (fun yr' mo' da' => ?_)
         rw [aup_up]
         refine v_goto 45 dX7_offset_41 ?_
         exact v_iret dX7_offset_45 rfl (by exact hQ _ _ _ (by omega) (by omega)))
  · refine v_lload_n dX7_offset_13 rfl ?_
    refine v_S1 (rm' := rX7_isMoment) dX7_offset_14 km_X7_220 ks_X7_isMoment kz_X7 mk_X7_isMoment rfl ⟨Nat.le_of_ble_eq_true rfl, Nat.le_of_ble_eq_true rfl⟩ ⟨Nat.le_of_ble_eq_true rfl, Nat.le_of_ble_eq_true rfl⟩ (Nat.le_of_ble_eq_true rfl) ?_
    refine s_X7_isMoment hst (fun rm9 em9 => ?_)
    refine v_if_eq 24 dX7_offset_17 (fun h_17 => ?_) (fun h_17 => ?_)
    · refine v_iconst dX7_offset_24 ?_
      refine v_put dX7_offset_25 f_X7_41 (by first | exact h0 | exact aup_s) rfl rfl (Nat.le_of_ble_eq_true rfl) ?_
      try rw [aup_up]
      refine v_aload_n dX7_offset_28 rfl ?_
      refine v_get dX7_offset_29 f_X7_41 (by first | exact h0 | exact aup_s) rfl ?_
      refine v_if_ne 44 dX7_offset_32 (fun h_32 => ?_) (fun h_32 => ?_)
      · refine v_iconst dX7_offset_44 ?_
        exact v_iret dX7_offset_45 rfl (by first | (exfalso; omega) | exact hQ1 (by omega) _)
      · first
        | (exfalso; omega)
        | (obtain ⟨hM, hZ⟩ := hMH (by omega)
           obtain ⟨zi, ezi⟩ := Int.eq_ofNat_of_zero_le (show 0 ≤ i by omega)
           rw [ezi] at hM
           simp only [Int.toNat_natCast] at hM
           refine v_aload_n dX7_offset_35 rfl ?_
           refine v_iload_n dX7_offset_36 rfl ?_
           refine v_lload_n dX7_offset_37 rfl ?_
           refine v_V2 (rm' := rX7_offsetAt) (RX7, TX7, 18) dX7_offset_38 km_X7_235 kn_X7_offsetAt kv_X7_offsetAt kz_X7 mk_X7_offsetAt rfl rfl (by first | exact h0 | exact aup_s) ⟨Nat.le_of_ble_eq_true rfl, Nat.le_of_ble_eq_true rfl⟩ ⟨Nat.le_of_ble_eq_true rfl, Nat.le_of_ble_eq_true rfl⟩ (Nat.le_of_ble_eq_true rfl) ?_
           rw [ezi]
           refine s_X7_offsetAt hst aup_s (by omega) hZ (MZ.up h0 hM) (by omega) (fun yr' mo' da' => ?_)
           rw [aup_up]
           refine v_goto 45 dX7_offset_41 ?_
           exact v_iret dX7_offset_45 rfl (by exact hQ _ _ _ (by omega) (by omega)))
    · refine v_iconst dX7_offset_20 ?_
      refine v_goto 25 dX7_offset_21 ?_
      refine v_put dX7_offset_25 f_X7_41 (by first | exact h0 | exact aup_s) rfl rfl (Nat.le_of_ble_eq_true rfl) ?_
      try rw [aup_up]
      refine v_aload_n dX7_offset_28 rfl ?_
      refine v_get dX7_offset_29 f_X7_41 (by first | exact h0 | exact aup_s) rfl ?_
      refine v_if_ne 44 dX7_offset_32 (fun h_32 => ?_) (fun h_32 => ?_)
      · refine v_iconst dX7_offset_44 ?_
        exact v_iret dX7_offset_45 rfl (by first | (exfalso; omega) | exact hQ1 (by omega) _)
      · first
        | (exfalso; omega)
        | (obtain ⟨hM, hZ⟩ := hMH (by omega)
           obtain ⟨zi, ezi⟩ := Int.eq_ofNat_of_zero_le (show 0 ≤ i by omega)
           rw [ezi] at hM
           simp only [Int.toNat_natCast] at hM
           refine v_aload_n dX7_offset_35 rfl ?_
           refine v_iload_n dX7_offset_36 rfl ?_
           refine v_lload_n dX7_offset_37 rfl ?_
           refine v_V2 (rm' := rX7_offsetAt) (RX7, TX7, 18) dX7_offset_38 km_X7_235 kn_X7_offsetAt kv_X7_offsetAt kz_X7 mk_X7_offsetAt rfl rfl (by first | exact h0 | exact aup_s) ⟨Nat.le_of_ble_eq_true rfl, Nat.le_of_ble_eq_true rfl⟩ ⟨Nat.le_of_ble_eq_true rfl, Nat.le_of_ble_eq_true rfl⟩ (Nat.le_of_ble_eq_true rfl) ?_
           rw [ezi]
           refine s_X7_offsetAt hst aup_s (by omega) hZ (MZ.up h0 hM) (by omega) (fun yr' mo' da' => ?_)
           rw [aup_up]
           refine v_goto 45 dX7_offset_41 ?_
           exact v_iret dX7_offset_45 rfl (by exact hQ _ _ _ (by omega) (by omega)))
