set_option maxRecDepth 100000 in
set_option maxHeartbeats 4000000 in
theorem s_X7_show {l : Launch} {G : GG} {w : AH} {Q : Option Value → AH → Prop} {X : String → AH → Prop} (hst : l.stackTraces = false) {z : Nat} {A : Nat → Nat} {th yq mq dq ty ap wr sz : Int} (h0 : w z = some (mdC A th yq mq dq ty ap wr sz)) {gd gn : Nat → Int} (h1 : w (A 0) = some (alA G 8 gd)) (h2 : w (A 1) = some (alA G 8 gn)) (hA01 : A 0 ≠ A 1) (hgd : ∀ k, k < 8 → -4371587 ≤ gd k ∧ gd k ≤ 2932896) (hgn : ∀ k, k < 8 → 0 ≤ gn k ∧ gn k ≤ 86399999999999) {i j t : Int} (hi : -2147483648 ≤ i ∧ i ≤ 2147483647) (hj : -2147483648 ≤ j ∧ j ≤ 2147483647) (ht : -9223372036854775808 ≤ t ∧ t ≤ 9223372036854775807) {f c r : Int} {gm go : Nat → Int} {ru : Nat → Nat → Int} (hMH : (0 ≤ j ∧ j ≤ 3) → MZ G w A j.toNat f c r gm go ru ∧ ZOK f c r gm go ru) (hQI : (i < 0 ∨ 7 < i) → Q none (aup w z (mdC A 1 yq mq dq ty ap wr sz))) (hQ2 : (0 ≤ i ∧ i ≤ 7) →  ¬ (0 ≤ j ∧ j ≤ 3) → Q none (aup w z (mdC A 2 yq mq dq ty ap wr sz))) (hQ3 : (0 ≤ i ∧ i ≤ 7) →  (0 ≤ j ∧ j ≤ 3) → ¬ (-377700000000 ≤ t ∧ t ≤ 253400000000) → Q none (aup w z (mdC A 3 yq mq dq ty ap wr sz))) (hQD : ∀ yr' mo' da' : Int,  (0 ≤ i ∧ i ≤ 7) →  (0 ≤ j ∧ j ≤ 3) → (-377700000000 ≤ t ∧ t ≤ 253400000000) → ((t + oA f c r gm go ru t) / 86400 < -4371587 ∨ 2932896 < (t + oA f c r gm go ru t) / 86400) → Q none (aup w z (mdC A 3 yr' mo' da' ty ap wr sz))) (hQ : ∀ yr' mo' da' : Int,  (0 ≤ i ∧ i ≤ 7) →  (0 ≤ j ∧ j ≤ 3) → (-377700000000 ≤ t ∧ t ≤ 253400000000) → (-4371587 ≤ (t + oA f c r gm go ru t) / 86400 ∧ (t + oA f c r gm go ru t) / 86400 ≤ 2932896) → Q none (aup (aup (aup w z (mdC A 0 yr' mo' da' ty ap wr sz)) (A 0) (alA G 8 (gup gd i.toNat ((t + oA f c r gm go ru t) / 86400)))) (A 1) (alA G 8 (gup gn i.toNat (1000000000 * ((t + oA f c r gm go ru t) - 86400 * ((t + oA f c r gm go ru t) / 86400))))))) : Ct l G mX7_show rX7_show [(.ref z), .int (iI i), .int (iI j), .long (lI t)] w Q X := by
  have nz0 : A 0 ≠ z := fun e => ne_of h0 h1 mdal e.symm
  have nz1 : A 1 ≠ z := fun e => ne_of h0 h2 mdal e.symm
  refine ct_of hst mk_X7_show (Nat.le_of_ble_eq_true rfl) ?_
  refine v_aload_n dX7_show_0 rfl ?_
  refine v_iload_n dX7_show_1 rfl ?_
  refine v_V1 (rm' := rX7_isSlot) (RX7, TX7, 18) dX7_show_2 km_X7_120 kn_X7_isSlot kv_X7_isSlot kz_X7 mk_X7_isSlot rfl rfl (by first | exact h0 | exact aup_s | exact (aup_n nz0).trans h1 | exact (aup_n nz1).trans h2 | exact (aup_n nz0.symm).trans aup_s | exact (aup_n nz0).trans ((aup_n nz0).trans h1) | exact (aup_n nz1).trans ((aup_n nz1).trans h2)) ⟨Nat.le_of_ble_eq_true rfl, Nat.le_of_ble_eq_true rfl⟩ ⟨Nat.le_of_ble_eq_true rfl, Nat.le_of_ble_eq_true rfl⟩ (Nat.le_of_ble_eq_true rfl) ?_
  refine s_X7_isSlot hst h0 hi (fun h7 => ?_) (fun h7 => ?_)
  · refine v_if_ne 9 dX7_show_5 (fun h_5 => ?_) (fun h_5 => ?_)
    rotate_left
    · (exfalso; omega)
    refine v_aload_n dX7_show_9 rfl ?_
    refine v_iload_n dX7_show_10 rfl ?_
    refine v_i2l dX7_show_11 ?_
    refine v_lconst0 dX7_show_12 ?_
    refine v_ldc2 (3) dX7_show_13 kl_X7_90 ?_
    refine v_S3 (rm' := rX7_in) dX7_show_16 km_X7_102 ks_X7_in kz_X7 mk_X7_in rfl ⟨Nat.le_of_ble_eq_true rfl, Nat.le_of_ble_eq_true rfl⟩ ⟨Nat.le_of_ble_eq_true rfl, Nat.le_of_ble_eq_true rfl⟩ (Nat.le_of_ble_eq_true rfl) ?_
    refine s_X7_in hst (fun ri ei => ?_)
    refine v_if_ne 26 dX7_show_19 (fun h_19 => ?_) (fun h_19 => ?_)
    · refine v_lload_n dX7_show_26 rfl ?_
      refine v_S1 (rm' := rX7_isMoment) dX7_show_27 km_X7_220 ks_X7_isMoment kz_X7 mk_X7_isMoment rfl ⟨Nat.le_of_ble_eq_true rfl, Nat.le_of_ble_eq_true rfl⟩ ⟨Nat.le_of_ble_eq_true rfl, Nat.le_of_ble_eq_true rfl⟩ (Nat.le_of_ble_eq_true rfl) ?_
      refine s_X7_isMoment hst (fun rm9 em9 => ?_)
      refine v_if_ne 37 dX7_show_30 (fun h_30 => ?_) (fun h_30 => ?_)
      · refine v_iconst dX7_show_37 ?_
        refine v_put dX7_show_38 f_X7_41 (by first | exact h0 | exact aup_s | exact (aup_n nz0).trans h1 | exact (aup_n nz1).trans h2 | exact (aup_n nz0.symm).trans aup_s | exact (aup_n nz0).trans ((aup_n nz0).trans h1) | exact (aup_n nz1).trans ((aup_n nz1).trans h2)) rfl rfl (Nat.le_of_ble_eq_true rfl) ?_
        try rw [aup_up]
        refine v_aload_n dX7_show_41 rfl ?_
        refine v_get dX7_show_42 f_X7_41 (by first | exact h0 | exact aup_s | exact (aup_n nz0).trans h1 | exact (aup_n nz1).trans h2 | exact (aup_n nz0.symm).trans aup_s | exact (aup_n nz0).trans ((aup_n nz0).trans h1) | exact (aup_n nz1).trans ((aup_n nz1).trans h2)) rfl ?_
        refine v_if_le 49 dX7_show_45 (fun h_45 => ?_) (fun h_45 => ?_)
        · first
          | (exfalso; omega)
          | (obtain ⟨hM, hZ⟩ := hMH (by omega)
             obtain ⟨zi, ezi⟩ := Int.eq_ofNat_of_zero_le (show 0 ≤ j by omega)
             rw [ezi] at hM
             simp only [Int.toNat_natCast] at hM
             refine v_lload_n dX7_show_49 rfl ?_
             refine v_aload_n dX7_show_50 rfl ?_
             refine v_iload_n dX7_show_51 rfl ?_
             refine v_lload_n dX7_show_52 rfl ?_
             refine v_V2 (rm' := rX7_offsetAt) (RX7, TX7, 18) dX7_show_53 km_X7_235 kn_X7_offsetAt kv_X7_offsetAt kz_X7 mk_X7_offsetAt rfl rfl (by first | exact h0 | exact aup_s | exact (aup_n nz0).trans h1 | exact (aup_n nz1).trans h2 | exact (aup_n nz0.symm).trans aup_s | exact (aup_n nz0).trans ((aup_n nz0).trans h1) | exact (aup_n nz1).trans ((aup_n nz1).trans h2) | exact (aup_n hA01.symm).trans ((aup_n nz1).trans h2)) ⟨Nat.le_of_ble_eq_true rfl, Nat.le_of_ble_eq_true rfl⟩ ⟨Nat.le_of_ble_eq_true rfl, Nat.le_of_ble_eq_true rfl⟩ (Nat.le_of_ble_eq_true rfl) ?_
             rw [ezi]
             refine s_X7_offsetAt hst aup_s (by omega) hZ (MZ.up h0 hM) (by omega) (fun yr' mo' da' => ?_)
             rw [aup_up]
             have hor := oA_rng (t := t) hZ
             refine v_i2l dX7_show_56 ?_
             refine v_ladd dX7_show_57 ?_
             refine v_lstore dX7_show_58 (by decide) ?_
             refine v_lload dX7_show_60 rfl ?_
             refine v_ldc2 (86400) dX7_show_62 kl_X7_171 ?_
             refine v_S2 (rm' := rX7_floor) dX7_show_65 km_X7_59 ks_X7_floor kz_X7 mk_X7_floor rfl ⟨Nat.le_of_ble_eq_true rfl, Nat.le_of_ble_eq_true rfl⟩ ⟨Nat.le_of_ble_eq_true rfl, Nat.le_of_ble_eq_true rfl⟩ (Nat.le_of_ble_eq_true rfl) ?_
             refine s_X7_floor hst ?_
             refine v_lstore dX7_show_68 (by decide) ?_
             refine v_aload_n dX7_show_70 rfl ?_
             refine v_lload dX7_show_71 rfl ?_
             refine v_S1 (rm' := rX7_within) dX7_show_73 km_X7_166 ks_X7_within kz_X7 mk_X7_within rfl ⟨Nat.le_of_ble_eq_true rfl, Nat.le_of_ble_eq_true rfl⟩ ⟨Nat.le_of_ble_eq_true rfl, Nat.le_of_ble_eq_true rfl⟩ (Nat.le_of_ble_eq_true rfl) ?_
             refine s_X7_within hst (fun rw9 ew9 => ?_)
             refine v_if_eq 83 dX7_show_76 (fun h_76 => ?_) (fun h_76 => ?_)
             · refine v_iconst dX7_show_83 ?_
               refine v_put dX7_show_84 f_X7_41 (by first | exact h0 | exact aup_s | exact (aup_n nz0).trans h1 | exact (aup_n nz1).trans h2 | exact (aup_n nz0.symm).trans aup_s | exact (aup_n nz0).trans ((aup_n nz0).trans h1) | exact (aup_n nz1).trans ((aup_n nz1).trans h2) | exact (aup_n hA01.symm).trans ((aup_n nz1).trans h2)) rfl rfl (Nat.le_of_ble_eq_true rfl) ?_
               try rw [aup_up]
               refine v_aload_n dX7_show_87 rfl ?_
               refine v_get dX7_show_88 f_X7_41 (by first | exact h0 | exact aup_s | exact (aup_n nz0).trans h1 | exact (aup_n nz1).trans h2 | exact (aup_n nz0.symm).trans aup_s | exact (aup_n nz0).trans ((aup_n nz0).trans h1) | exact (aup_n nz1).trans ((aup_n nz1).trans h2) | exact (aup_n hA01.symm).trans ((aup_n nz1).trans h2)) rfl ?_
               refine v_if_ne 121 dX7_show_91 (fun h_91 => ?_) (fun h_91 => ?_)
               · exact v_vret dX7_show_121 rfl (by first | (exfalso; omega) | exact hQD _ _ _ h7 (by omega) (by omega) (by omega) | exact hQ _ _ _ h7 (by omega) (by omega) (by omega))
               · refine v_aload_n dX7_show_94 rfl ?_
                 refine v_get dX7_show_95 f_X7_7 (by first | exact h0 | exact aup_s | exact (aup_n nz0).trans h1 | exact (aup_n nz1).trans h2 | exact (aup_n nz0.symm).trans aup_s | exact (aup_n nz0).trans ((aup_n nz0).trans h1) | exact (aup_n nz1).trans ((aup_n nz1).trans h2) | exact (aup_n hA01.symm).trans ((aup_n nz1).trans h2)) rfl ?_
                 refine v_iload_n dX7_show_98 rfl ?_
                 refine v_lload dX7_show_99 rfl ?_
                 refine v_last dX7_show_101 (by first | exact h0 | exact aup_s | exact (aup_n nz0).trans h1 | exact (aup_n nz1).trans h2 | exact (aup_n nz0.symm).trans aup_s | exact (aup_n nz0).trans ((aup_n nz0).trans h1) | exact (aup_n nz1).trans ((aup_n nz1).trans h2) | exact (aup_n hA01.symm).trans ((aup_n nz1).trans h2)) ?_
                 refine v_aload_n dX7_show_102 rfl ?_
                 refine v_get dX7_show_103 f_X7_13 (by first | exact h0 | exact aup_s | exact (aup_n nz0).trans h1 | exact (aup_n nz1).trans h2 | exact (aup_n nz0.symm).trans aup_s | exact (aup_n nz0).trans ((aup_n nz0).trans h1) | exact (aup_n nz1).trans ((aup_n nz1).trans h2) | exact (aup_n hA01.symm).trans ((aup_n nz1).trans h2)) rfl ?_
                 refine v_iload_n dX7_show_106 rfl ?_
                 refine v_ldc2 (1000000000) dX7_show_107 kl_X7_134 ?_
                 refine v_lload dX7_show_110 rfl ?_
                 refine v_ldc2 (86400) dX7_show_112 kl_X7_171 ?_
                 refine v_lload dX7_show_115 rfl ?_
                 refine v_lmul dX7_show_117 ?_
                 refine v_lsub dX7_show_118 ?_
                 refine v_lmul dX7_show_119 ?_
                 refine v_last dX7_show_120 (by first | exact h0 | exact aup_s | exact (aup_n nz0).trans h1 | exact (aup_n nz1).trans h2 | exact (aup_n nz0.symm).trans aup_s | exact (aup_n nz0).trans ((aup_n nz0).trans h1) | exact (aup_n nz1).trans ((aup_n nz1).trans h2) | exact (aup_n hA01.symm).trans ((aup_n nz1).trans h2)) ?_
                 exact v_vret dX7_show_121 rfl (by first | (exfalso; omega) | exact hQD _ _ _ h7 (by omega) (by omega) (by omega) | exact hQ _ _ _ h7 (by omega) (by omega) (by omega))
             · refine v_iconst dX7_show_79 ?_
               refine v_goto 84 dX7_show_80 ?_
               refine v_put dX7_show_84 f_X7_41 (by first | exact h0 | exact aup_s | exact (aup_n nz0).trans h1 | exact (aup_n nz1).trans h2 | exact (aup_n nz0.symm).trans aup_s | exact (aup_n nz0).trans ((aup_n nz0).trans h1) | exact (aup_n nz1).trans ((aup_n nz1).trans h2) | exact (aup_n hA01.symm).trans ((aup_n nz1).trans h2)) rfl rfl (Nat.le_of_ble_eq_true rfl) ?_
               try rw [aup_up]
               refine v_aload_n dX7_show_87 rfl ?_
               refine v_get dX7_show_88 f_X7_41 (by first | exact h0 | exact aup_s | exact (aup_n nz0).trans h1 | exact (aup_n nz1).trans h2 | exact (aup_n nz0.symm).trans aup_s | exact (aup_n nz0).trans ((aup_n nz0).trans h1) | exact (aup_n nz1).trans ((aup_n nz1).trans h2) | exact (aup_n hA01.symm).trans ((aup_n nz1).trans h2)) rfl ?_
               refine v_if_ne 121 dX7_show_91 (fun h_91 => ?_) (fun h_91 => ?_)
               · exact v_vret dX7_show_121 rfl (by first | (exfalso; omega) | exact hQD _ _ _ h7 (by omega) (by omega) (by omega) | exact hQ _ _ _ h7 (by omega) (by omega) (by omega))
               · refine v_aload_n dX7_show_94 rfl ?_
                 refine v_get dX7_show_95 f_X7_7 (by first | exact h0 | exact aup_s | exact (aup_n nz0).trans h1 | exact (aup_n nz1).trans h2 | exact (aup_n nz0.symm).trans aup_s | exact (aup_n nz0).trans ((aup_n nz0).trans h1) | exact (aup_n nz1).trans ((aup_n nz1).trans h2) | exact (aup_n hA01.symm).trans ((aup_n nz1).trans h2)) rfl ?_
                 refine v_iload_n dX7_show_98 rfl ?_
                 refine v_lload dX7_show_99 rfl ?_
                 refine v_last dX7_show_101 (by first | exact h0 | exact aup_s | exact (aup_n nz0).trans h1 | exact (aup_n nz1).trans h2 | exact (aup_n nz0.symm).trans aup_s | exact (aup_n nz0).trans ((aup_n nz0).trans h1) | exact (aup_n nz1).trans ((aup_n nz1).trans h2) | exact (aup_n hA01.symm).trans ((aup_n nz1).trans h2)) ?_
                 refine v_aload_n dX7_show_102 rfl ?_
                 refine v_get dX7_show_103 f_X7_13 (by first | exact h0 | exact aup_s | exact (aup_n nz0).trans h1 | exact (aup_n nz1).trans h2 | exact (aup_n nz0.symm).trans aup_s | exact (aup_n nz0).trans ((aup_n nz0).trans h1) | exact (aup_n nz1).trans ((aup_n nz1).trans h2) | exact (aup_n hA01.symm).trans ((aup_n nz1).trans h2)) rfl ?_
                 refine v_iload_n dX7_show_106 rfl ?_
                 refine v_ldc2 (1000000000) dX7_show_107 kl_X7_134 ?_
                 refine v_lload dX7_show_110 rfl ?_
                 refine v_ldc2 (86400) dX7_show_112 kl_X7_171 ?_
                 refine v_lload dX7_show_115 rfl ?_
                 refine v_lmul dX7_show_117 ?_
                 refine v_lsub dX7_show_118 ?_
                 refine v_lmul dX7_show_119 ?_
                 refine v_last dX7_show_120 (by first | exact h0 | exact aup_s | exact (aup_n nz0).trans h1 | exact (aup_n nz1).trans h2 | exact (aup_n nz0.symm).trans aup_s | exact (aup_n nz0).trans ((aup_n nz0).trans h1) | exact (aup_n nz1).trans ((aup_n nz1).trans h2) | exact (aup_n hA01.symm).trans ((aup_n nz1).trans h2)) ?_
                 exact v_vret dX7_show_121 rfl (by first | (exfalso; omega) | exact hQD _ _ _ h7 (by omega) (by omega) (by omega) | exact hQ _ _ _ h7 (by omega) (by omega) (by omega)))
        · exact v_vret dX7_show_48 rfl (by first | (exfalso; omega) | exact hQI (by omega) | exact hQ2 h7 (by omega) | exact hQ3 h7 (by omega) (by omega))
      · refine v_iconst dX7_show_33 ?_
        refine v_goto 38 dX7_show_34 ?_
        refine v_put dX7_show_38 f_X7_41 (by first | exact h0 | exact aup_s | exact (aup_n nz0).trans h1 | exact (aup_n nz1).trans h2 | exact (aup_n nz0.symm).trans aup_s | exact (aup_n nz0).trans ((aup_n nz0).trans h1) | exact (aup_n nz1).trans ((aup_n nz1).trans h2)) rfl rfl (Nat.le_of_ble_eq_true rfl) ?_
        try rw [aup_up]
        refine v_aload_n dX7_show_41 rfl ?_
        refine v_get dX7_show_42 f_X7_41 (by first | exact h0 | exact aup_s | exact (aup_n nz0).trans h1 | exact (aup_n nz1).trans h2 | exact (aup_n nz0.symm).trans aup_s | exact (aup_n nz0).trans ((aup_n nz0).trans h1) | exact (aup_n nz1).trans ((aup_n nz1).trans h2)) rfl ?_
        refine v_if_le 49 dX7_show_45 (fun h_45 => ?_) (fun h_45 => ?_)
        · first
          | (exfalso; omega)
          | (obtain ⟨hM, hZ⟩ := hMH (by omega)
             obtain ⟨zi, ezi⟩ := Int.eq_ofNat_of_zero_le (show 0 ≤ j by omega)
             rw [ezi] at hM
             simp only [Int.toNat_natCast] at hM
             refine v_lload_n dX7_show_49 rfl ?_
             refine v_aload_n dX7_show_50 rfl ?_
             refine v_iload_n dX7_show_51 rfl ?_
             refine v_lload_n dX7_show_52 rfl ?_
             refine v_V2 (rm' := rX7_offsetAt) (RX7, TX7, 18) dX7_show_53 km_X7_235 kn_X7_offsetAt kv_X7_offsetAt kz_X7 mk_X7_offsetAt rfl rfl (by first | exact h0 | exact aup_s | exact (aup_n nz0).trans h1 | exact (aup_n nz1).trans h2 | exact (aup_n nz0.symm).trans aup_s | exact (aup_n nz0).trans ((aup_n nz0).trans h1) | exact (aup_n nz1).trans ((aup_n nz1).trans h2) | exact (aup_n hA01.symm).trans ((aup_n nz1).trans h2)) ⟨Nat.le_of_ble_eq_true rfl, Nat.le_of_ble_eq_true rfl⟩ ⟨Nat.le_of_ble_eq_true rfl, Nat.le_of_ble_eq_true rfl⟩ (Nat.le_of_ble_eq_true rfl) ?_
             rw [ezi]
             refine s_X7_offsetAt hst aup_s (by omega) hZ (MZ.up h0 hM) (by omega) (fun yr' mo' da' => ?_)
             rw [aup_up]
             have hor := oA_rng (t := t) hZ
             refine v_i2l dX7_show_56 ?_
             refine v_ladd dX7_show_57 ?_
             refine v_lstore dX7_show_58 (by decide) ?_
             refine v_lload dX7_show_60 rfl ?_
             refine v_ldc2 (86400) dX7_show_62 kl_X7_171 ?_
             refine v_S2 (rm' := rX7_floor) dX7_show_65 km_X7_59 ks_X7_floor kz_X7 mk_X7_floor rfl ⟨Nat.le_of_ble_eq_true rfl, Nat.le_of_ble_eq_true rfl⟩ ⟨Nat.le_of_ble_eq_true rfl, Nat.le_of_ble_eq_true rfl⟩ (Nat.le_of_ble_eq_true rfl) ?_
             refine s_X7_floor hst ?_
             refine v_lstore dX7_show_68 (by decide) ?_
             refine v_aload_n dX7_show_70 rfl ?_
             refine v_lload dX7_show_71 rfl ?_
             refine v_S1 (rm' := rX7_within) dX7_show_73 km_X7_166 ks_X7_within kz_X7 mk_X7_within rfl ⟨Nat.le_of_ble_eq_true rfl, Nat.le_of_ble_eq_true rfl⟩ ⟨Nat.le_of_ble_eq_true rfl, Nat.le_of_ble_eq_true rfl⟩ (Nat.le_of_ble_eq_true rfl) ?_
             refine s_X7_within hst (fun rw9 ew9 => ?_)
             refine v_if_eq 83 dX7_show_76 (fun h_76 => ?_) (fun h_76 => ?_)
             · refine v_iconst dX7_show_83 ?_
               refine v_put dX7_show_84 f_X7_41 (by first | exact h0 | exact aup_s | exact (aup_n nz0).trans h1 | exact (aup_n nz1).trans h2 | exact (aup_n nz0.symm).trans aup_s | exact (aup_n nz0).trans ((aup_n nz0).trans h1) | exact (aup_n nz1).trans ((aup_n nz1).trans h2) | exact (aup_n hA01.symm).trans ((aup_n nz1).trans h2)) rfl rfl (Nat.le_of_ble_eq_true rfl) ?_
               try rw [aup_up]
               refine v_aload_n dX7_show_87 rfl ?_
               refine v_get dX7_show_88 f_X7_41 (by first | exact h0 | exact aup_s | exact (aup_n nz0).trans h1 | exact (aup_n nz1).trans h2 | exact (aup_n nz0.symm).trans aup_s | exact (aup_n nz0).trans ((aup_n nz0).trans h1) | exact (aup_n nz1).trans ((aup_n nz1).trans h2) | exact (aup_n hA01.symm).trans ((aup_n nz1).trans h2)) rfl ?_
               refine v_if_ne 121 dX7_show_91 (fun h_91 => ?_) (fun h_91 => ?_)
               · exact v_vret dX7_show_121 rfl (by first | (exfalso; omega) | exact hQD _ _ _ h7 (by omega) (by omega) (by omega) | exact hQ _ _ _ h7 (by omega) (by omega) (by omega))
               · refine v_aload_n dX7_show_94 rfl ?_
                 refine v_get dX7_show_95 f_X7_7 (by first | exact h0 | exact aup_s | exact (aup_n nz0).trans h1 | exact (aup_n nz1).trans h2 | exact (aup_n nz0.symm).trans aup_s | exact (aup_n nz0).trans ((aup_n nz0).trans h1) | exact (aup_n nz1).trans ((aup_n nz1).trans h2) | exact (aup_n hA01.symm).trans ((aup_n nz1).trans h2)) rfl ?_
                 refine v_iload_n dX7_show_98 rfl ?_
                 refine v_lload dX7_show_99 rfl ?_
                 refine v_last dX7_show_101 (by first | exact h0 | exact aup_s | exact (aup_n nz0).trans h1 | exact (aup_n nz1).trans h2 | exact (aup_n nz0.symm).trans aup_s | exact (aup_n nz0).trans ((aup_n nz0).trans h1) | exact (aup_n nz1).trans ((aup_n nz1).trans h2) | exact (aup_n hA01.symm).trans ((aup_n nz1).trans h2)) ?_
                 refine v_aload_n dX7_show_102 rfl ?_
                 refine v_get dX7_show_103 f_X7_13 (by first | exact h0 | exact aup_s | exact (aup_n nz0).trans h1 | exact (aup_n nz1).trans h2 | exact (aup_n nz0.symm).trans aup_s | exact (aup_n nz0).trans ((aup_n nz0).trans h1) | exact (aup_n nz1).trans ((aup_n nz1).trans h2) | exact (aup_n hA01.symm).trans ((aup_n nz1).trans h2)) rfl ?_
                 refine v_iload_n dX7_show_106 rfl ?_
                 refine v_ldc2 (1000000000) dX7_show_107 kl_X7_134 ?_
                 refine v_lload dX7_show_110 rfl ?_
                 refine v_ldc2 (86400) dX7_show_112 kl_X7_171 ?_
                 refine v_lload dX7_show_115 rfl ?_
                 refine v_lmul dX7_show_117 ?_
                 refine v_lsub dX7_show_118 ?_
                 refine v_lmul dX7_show_119 ?_
                 refine v_last dX7_show_120 (by first | exact h0 | exact aup_s | exact (aup_n nz0).trans h1 | exact (aup_n nz1).trans h2 | exact (aup_n nz0.symm).trans aup_s | exact (aup_n nz0).trans ((aup_n nz0).trans h1) | exact (aup_n nz1).trans ((aup_n nz1).trans h2) | exact (aup_n hA01.symm).trans ((aup_n nz1).trans h2)) ?_
                 exact v_vret dX7_show_121 rfl (by first | (exfalso; omega) | exact hQD _ _ _ h7 (by omega) (by omega) (by omega) | exact hQ _ _ _ h7 (by omega) (by omega) (by omega))
             · refine v_iconst dX7_show_79 ?_
               refine v_goto 84 dX7_show_80 ?_
               refine v_put dX7_show_84 f_X7_41 (by first | exact h0 | exact aup_s | exact (aup_n nz0).trans h1 | exact (aup_n nz1).trans h2 | exact (aup_n nz0.symm).trans aup_s | exact (aup_n nz0).trans ((aup_n nz0).trans h1) | exact (aup_n nz1).trans ((aup_n nz1).trans h2) | exact (aup_n hA01.symm).trans ((aup_n nz1).trans h2)) rfl rfl (Nat.le_of_ble_eq_true rfl) ?_
               try rw [aup_up]
               refine v_aload_n dX7_show_87 rfl ?_
               refine v_get dX7_show_88 f_X7_41 (by first | exact h0 | exact aup_s | exact (aup_n nz0).trans h1 | exact (aup_n nz1).trans h2 | exact (aup_n nz0.symm).trans aup_s | exact (aup_n nz0).trans ((aup_n nz0).trans h1) | exact (aup_n nz1).trans ((aup_n nz1).trans h2) | exact (aup_n hA01.symm).trans ((aup_n nz1).trans h2)) rfl ?_
               refine v_if_ne 121 dX7_show_91 (fun h_91 => ?_) (fun h_91 => ?_)
               · exact v_vret dX7_show_121 rfl (by first | (exfalso; omega) | exact hQD _ _ _ h7 (by omega) (by omega) (by omega) | exact hQ _ _ _ h7 (by omega) (by omega) (by omega))
               · refine v_aload_n dX7_show_94 rfl ?_
                 refine v_get dX7_show_95 f_X7_7 (by first | exact h0 | exact aup_s | exact (aup_n nz0).trans h1 | exact (aup_n nz1).trans h2 | exact (aup_n nz0.symm).trans aup_s | exact (aup_n nz0).trans ((aup_n nz0).trans h1) | exact (aup_n nz1).trans ((aup_n nz1).trans h2) | exact (aup_n hA01.symm).trans ((aup_n nz1).trans h2)) rfl ?_
                 refine v_iload_n dX7_show_98 rfl ?_
                 refine v_lload dX7_show_99 rfl ?_
                 refine v_last dX7_show_101 (by first | exact h0 | exact aup_s | exact (aup_n nz0).trans h1 | exact (aup_n nz1).trans h2 | exact (aup_n nz0.symm).trans aup_s | exact (aup_n nz0).trans ((aup_n nz0).trans h1) | exact (aup_n nz1).trans ((aup_n nz1).trans h2) | exact (aup_n hA01.symm).trans ((aup_n nz1).trans h2)) ?_
                 refine v_aload_n dX7_show_102 rfl ?_
                 refine v_get dX7_show_103 f_X7_13 (by first | exact h0 | exact aup_s | exact (aup_n nz0).trans h1 | exact (aup_n nz1).trans h2 | exact (aup_n nz0.symm).trans aup_s | exact (aup_n nz0).trans ((aup_n nz0).trans h1) | exact (aup_n nz1).trans ((aup_n nz1).trans h2) | exact (aup_n hA01.symm).trans ((aup_n nz1).trans h2)) rfl ?_
                 refine v_iload_n dX7_show_106 rfl ?_
                 refine v_ldc2 (1000000000) dX7_show_107 kl_X7_134 ?_
                 refine v_lload dX7_show_110 rfl ?_
                 refine v_ldc2 (86400) dX7_show_112 kl_X7_171 ?_
                 refine v_lload dX7_show_115 rfl ?_
                 refine v_lmul dX7_show_117 ?_
                 refine v_lsub dX7_show_118 ?_
                 refine v_lmul dX7_show_119 ?_
                 refine v_last dX7_show_120 (by first | exact h0 | exact aup_s | exact (aup_n nz0).trans h1 | exact (aup_n nz1).trans h2 | exact (aup_n nz0.symm).trans aup_s | exact (aup_n nz0).trans ((aup_n nz0).trans h1) | exact (aup_n nz1).trans ((aup_n nz1).trans h2) | exact (aup_n hA01.symm).trans ((aup_n nz1).trans h2)) ?_
                 exact v_vret dX7_show_121 rfl (by first | (exfalso; omega) | exact hQD _ _ _ h7 (by omega) (by omega) (by omega) | exact hQ _ _ _ h7 (by omega) (by omega) (by omega)))
        · exact v_vret dX7_show_48 rfl (by first | (exfalso; omega) | exact hQI (by omega) | exact hQ2 h7 (by omega) | exact hQ3 h7 (by omega) (by omega))
    · refine v_iconst dX7_show_22 ?_
      refine v_goto 38 dX7_show_23 ?_
      refine v_put dX7_show_38 f_X7_41 (by first | exact h0 | exact aup_s | exact (aup_n nz0).trans h1 | exact (aup_n nz1).trans h2 | exact (aup_n nz0.symm).trans aup_s | exact (aup_n nz0).trans ((aup_n nz0).trans h1) | exact (aup_n nz1).trans ((aup_n nz1).trans h2)) rfl rfl (Nat.le_of_ble_eq_true rfl) ?_
      try rw [aup_up]
      refine v_aload_n dX7_show_41 rfl ?_
      refine v_get dX7_show_42 f_X7_41 (by first | exact h0 | exact aup_s | exact (aup_n nz0).trans h1 | exact (aup_n nz1).trans h2 | exact (aup_n nz0.symm).trans aup_s | exact (aup_n nz0).trans ((aup_n nz0).trans h1) | exact (aup_n nz1).trans ((aup_n nz1).trans h2)) rfl ?_
      refine v_if_le 49 dX7_show_45 (fun h_45 => ?_) (fun h_45 => ?_)
      · first
        | (exfalso; omega)
        | (obtain ⟨hM, hZ⟩ := hMH (by omega)
           obtain ⟨zi, ezi⟩ := Int.eq_ofNat_of_zero_le (show 0 ≤ j by omega)
           rw [ezi] at hM
           simp only [Int.toNat_natCast] at hM
           refine v_lload_n dX7_show_49 rfl ?_
           refine v_aload_n dX7_show_50 rfl ?_
           refine v_iload_n dX7_show_51 rfl ?_
           refine v_lload_n dX7_show_52 rfl ?_
           refine v_V2 (rm' := rX7_offsetAt) (RX7, TX7, 18) dX7_show_53 km_X7_235 kn_X7_offsetAt kv_X7_offsetAt kz_X7 mk_X7_offsetAt rfl rfl (by first | exact h0 | exact aup_s | exact (aup_n nz0).trans h1 | exact (aup_n nz1).trans h2 | exact (aup_n nz0.symm).trans aup_s | exact (aup_n nz0).trans ((aup_n nz0).trans h1) | exact (aup_n nz1).trans ((aup_n nz1).trans h2) | exact (aup_n hA01.symm).trans ((aup_n nz1).trans h2)) ⟨Nat.le_of_ble_eq_true rfl, Nat.le_of_ble_eq_true rfl⟩ ⟨Nat.le_of_ble_eq_true rfl, Nat.le_of_ble_eq_true rfl⟩ (Nat.le_of_ble_eq_true rfl) ?_
           rw [ezi]
           refine s_X7_offsetAt hst aup_s (by omega) hZ (MZ.up h0 hM) (by omega) (fun yr' mo' da' => ?_)
           rw [aup_up]
           have hor := oA_rng (t := t) hZ
           refine v_i2l dX7_show_56 ?_
           refine v_ladd dX7_show_57 ?_
           refine v_lstore dX7_show_58 (by decide) ?_
           refine v_lload dX7_show_60 rfl ?_
           refine v_ldc2 (86400) dX7_show_62 kl_X7_171 ?_
           refine v_S2 (rm' := rX7_floor) dX7_show_65 km_X7_59 ks_X7_floor kz_X7 mk_X7_floor rfl ⟨Nat.le_of_ble_eq_true rfl, Nat.le_of_ble_eq_true rfl⟩ ⟨Nat.le_of_ble_eq_true rfl, Nat.le_of_ble_eq_true rfl⟩ (Nat.le_of_ble_eq_true rfl) ?_
           refine s_X7_floor hst ?_
           refine v_lstore dX7_show_68 (by decide) ?_
           refine v_aload_n dX7_show_70 rfl ?_
           refine v_lload dX7_show_71 rfl ?_
           refine v_S1 (rm' := rX7_within) dX7_show_73 km_X7_166 ks_X7_within kz_X7 mk_X7_within rfl ⟨Nat.le_of_ble_eq_true rfl, Nat.le_of_ble_eq_true rfl⟩ ⟨Nat.le_of_ble_eq_true rfl, Nat.le_of_ble_eq_true rfl⟩ (Nat.le_of_ble_eq_true rfl) ?_
           refine s_X7_within hst (fun rw9 ew9 => ?_)
           refine v_if_eq 83 dX7_show_76 (fun h_76 => ?_) (fun h_76 => ?_)
           · refine v_iconst dX7_show_83 ?_
             refine v_put dX7_show_84 f_X7_41 (by first | exact h0 | exact aup_s | exact (aup_n nz0).trans h1 | exact (aup_n nz1).trans h2 | exact (aup_n nz0.symm).trans aup_s | exact (aup_n nz0).trans ((aup_n nz0).trans h1) | exact (aup_n nz1).trans ((aup_n nz1).trans h2) | exact (aup_n hA01.symm).trans ((aup_n nz1).trans h2)) rfl rfl (Nat.le_of_ble_eq_true rfl) ?_
             try rw [aup_up]
             refine v_aload_n dX7_show_87 rfl ?_
             refine v_get dX7_show_88 f_X7_41 (by first | exact h0 | exact aup_s | exact (aup_n nz0).trans h1 | exact (aup_n nz1).trans h2 | exact (aup_n nz0.symm).trans aup_s | exact (aup_n nz0).trans ((aup_n nz0).trans h1) | exact (aup_n nz1).trans ((aup_n nz1).trans h2) | exact (aup_n hA01.symm).trans ((aup_n nz1).trans h2)) rfl ?_
             refine v_if_ne 121 dX7_show_91 (fun h_91 => ?_) (fun h_91 => ?_)
             · exact v_vret dX7_show_121 rfl (by first | (exfalso; omega) | exact hQD _ _ _ h7 (by omega) (by omega) (by omega) | exact hQ _ _ _ h7 (by omega) (by omega) (by omega))
             · refine v_aload_n dX7_show_94 rfl ?_
               refine v_get dX7_show_95 f_X7_7 (by first | exact h0 | exact aup_s | exact (aup_n nz0).trans h1 | exact (aup_n nz1).trans h2 | exact (aup_n nz0.symm).trans aup_s | exact (aup_n nz0).trans ((aup_n nz0).trans h1) | exact (aup_n nz1).trans ((aup_n nz1).trans h2) | exact (aup_n hA01.symm).trans ((aup_n nz1).trans h2)) rfl ?_
               refine v_iload_n dX7_show_98 rfl ?_
               refine v_lload dX7_show_99 rfl ?_
               refine v_last dX7_show_101 (by first | exact h0 | exact aup_s | exact (aup_n nz0).trans h1 | exact (aup_n nz1).trans h2 | exact (aup_n nz0.symm).trans aup_s | exact (aup_n nz0).trans ((aup_n nz0).trans h1) | exact (aup_n nz1).trans ((aup_n nz1).trans h2) | exact (aup_n hA01.symm).trans ((aup_n nz1).trans h2)) ?_
               refine v_aload_n dX7_show_102 rfl ?_
               refine v_get dX7_show_103 f_X7_13 (by first | exact h0 | exact aup_s | exact (aup_n nz0).trans h1 | exact (aup_n nz1).trans h2 | exact (aup_n nz0.symm).trans aup_s | exact (aup_n nz0).trans ((aup_n nz0).trans h1) | exact (aup_n nz1).trans ((aup_n nz1).trans h2) | exact (aup_n hA01.symm).trans ((aup_n nz1).trans h2)) rfl ?_
               refine v_iload_n dX7_show_106 rfl ?_
               refine v_ldc2 (1000000000) dX7_show_107 kl_X7_134 ?_
               refine v_lload dX7_show_110 rfl ?_
               refine v_ldc2 (86400) dX7_show_112 kl_X7_171 ?_
               refine v_lload dX7_show_115 rfl ?_
               refine v_lmul dX7_show_117 ?_
               refine v_lsub dX7_show_118 ?_
               refine v_lmul dX7_show_119 ?_
               refine v_last dX7_show_120 (by first | exact h0 | exact aup_s | exact (aup_n nz0).trans h1 | exact (aup_n nz1).trans h2 | exact (aup_n nz0.symm).trans aup_s | exact (aup_n nz0).trans ((aup_n nz0).trans h1) | exact (aup_n nz1).trans ((aup_n nz1).trans h2) | exact (aup_n hA01.symm).trans ((aup_n nz1).trans h2)) ?_
               exact v_vret dX7_show_121 rfl (by first | (exfalso; omega) | exact hQD _ _ _ h7 (by omega) (by omega) (by omega) | exact hQ _ _ _ h7 (by omega) (by omega) (by omega))
           · refine v_iconst dX7_show_79 ?_
             refine v_goto 84 dX7_show_80 ?_
             refine v_put dX7_show_84 f_X7_41 (by first | exact h0 | exact aup_s | exact (aup_n nz0).trans h1 | exact (aup_n nz1).trans h2 | exact (aup_n nz0.symm).trans aup_s | exact (aup_n nz0).trans ((aup_n nz0).trans h1) | exact (aup_n nz1).trans ((aup_n nz1).trans h2) | exact (aup_n hA01.symm).trans ((aup_n nz1).trans h2)) rfl rfl (Nat.le_of_ble_eq_true rfl) ?_
             try rw [aup_up]
             refine v_aload_n dX7_show_87 rfl ?_
             refine v_get dX7_show_88 f_X7_41 (by first | exact h0 | exact aup_s | exact (aup_n nz0).trans h1 | exact (aup_n nz1).trans h2 | exact (aup_n nz0.symm).trans aup_s | exact (aup_n nz0).trans ((aup_n nz0).trans h1) | exact (aup_n nz1).trans ((aup_n nz1).trans h2) | exact (aup_n hA01.symm).trans ((aup_n nz1).trans h2)) rfl ?_
             refine v_if_ne 121 dX7_show_91 (fun h_91 => ?_) (fun h_91 => ?_)
             · exact v_vret dX7_show_121 rfl (by first | (exfalso; omega) | exact hQD _ _ _ h7 (by omega) (by omega) (by omega) | exact hQ _ _ _ h7 (by omega) (by omega) (by omega))
             · refine v_aload_n dX7_show_94 rfl ?_
               refine v_get dX7_show_95 f_X7_7 (by first | exact h0 | exact aup_s | exact (aup_n nz0).trans h1 | exact (aup_n nz1).trans h2 | exact (aup_n nz0.symm).trans aup_s | exact (aup_n nz0).trans ((aup_n nz0).trans h1) | exact (aup_n nz1).trans ((aup_n nz1).trans h2) | exact (aup_n hA01.symm).trans ((aup_n nz1).trans h2)) rfl ?_
               refine v_iload_n dX7_show_98 rfl ?_
               refine v_lload dX7_show_99 rfl ?_
               refine v_last dX7_show_101 (by first | exact h0 | exact aup_s | exact (aup_n nz0).trans h1 | exact (aup_n nz1).trans h2 | exact (aup_n nz0.symm).trans aup_s | exact (aup_n nz0).trans ((aup_n nz0).trans h1) | exact (aup_n nz1).trans ((aup_n nz1).trans h2) | exact (aup_n hA01.symm).trans ((aup_n nz1).trans h2)) ?_
               refine v_aload_n dX7_show_102 rfl ?_
               refine v_get dX7_show_103 f_X7_13 (by first | exact h0 | exact aup_s | exact (aup_n nz0).trans h1 | exact (aup_n nz1).trans h2 | exact (aup_n nz0.symm).trans aup_s | exact (aup_n nz0).trans ((aup_n nz0).trans h1) | exact (aup_n nz1).trans ((aup_n nz1).trans h2) | exact (aup_n hA01.symm).trans ((aup_n nz1).trans h2)) rfl ?_
               refine v_iload_n dX7_show_106 rfl ?_
               refine v_ldc2 (1000000000) dX7_show_107 kl_X7_134 ?_
               refine v_lload dX7_show_110 rfl ?_
               refine v_ldc2 (86400) dX7_show_112 kl_X7_171 ?_
               refine v_lload dX7_show_115 rfl ?_
               refine v_lmul dX7_show_117 ?_
               refine v_lsub dX7_show_118 ?_
               refine v_lmul dX7_show_119 ?_
               refine v_last dX7_show_120 (by first | exact h0 | exact aup_s | exact (aup_n nz0).trans h1 | exact (aup_n nz1).trans h2 | exact (aup_n nz0.symm).trans aup_s | exact (aup_n nz0).trans ((aup_n nz0).trans h1) | exact (aup_n nz1).trans ((aup_n nz1).trans h2) | exact (aup_n hA01.symm).trans ((aup_n nz1).trans h2)) ?_
               exact v_vret dX7_show_121 rfl (by first | (exfalso; omega) | exact hQD _ _ _ h7 (by omega) (by omega) (by omega) | exact hQ _ _ _ h7 (by omega) (by omega) (by omega)))
      · exact v_vret dX7_show_48 rfl (by first | (exfalso; omega) | exact hQI (by omega) | exact hQ2 h7 (by omega) | exact hQ3 h7 (by omega) (by omega))
  · refine v_if_ne 9 dX7_show_5 (fun h_5 => ?_) (fun h_5 => ?_)
    · (exfalso; omega)
    exact v_vret dX7_show_8 rfl (by first | (exfalso; omega) | exact hQI (by omega) | exact hQ2 h7 (by omega) | exact hQ3 h7 (by omega) (by omega))
theorem v_dconst0 {l : Launch} {G : GG} {M : MI} {rm : Room} {Q : Option Value → AH → Prop} {X : String → AH → Prop} {pc : Nat} {lv : Nat → Option Value} {st : List Value} {w : AH} {kc ks : Nat} (hd : decode M.cc pc = .ok (.dconst 0, 1)) (k : V l G M rm Q X (pc + 1) lv (.double FP.dconst0 :: st) w kc ks) : V l G M rm Q X pc lv st w kc ks := by
  intro p e s m args below meth c C H locs ls hl hW hS
  exact lv_dconst0 C.1 C.2.1 hd (k p e s m args below meth c C H locs ls hl hW hS)
set_option maxRecDepth 100000 in
set_option maxHeartbeats 4000000 in
theorem s_X7_julian {l : Launch} {G : GG} {w : AH} {Q : Option Value → AH → Prop} {X : String → AH → Prop} (hst : l.stackTraces = false) {z : Nat} {A : Nat → Nat} {th yq mq dq ty ap wr sz : Int} (h0 : w z = some (mdC A th yq mq dq ty ap wr sz)) {gd gn : Nat → Int} (h1 : w (A 0) = some (alA G 8 gd)) (h2 : w (A 1) = some (alA G 8 gn)) (hA01 : A 0 ≠ A 1) {i : Int} (hi : -2147483648 ≤ i ∧ i ≤ 2147483647) (hQI : ∀ v : UInt64, (i < 0 ∨ 7 < i) → Q (some (.double v)) (aup w z (mdC A 1 yq mq dq ty ap wr sz))) (hQ : (0 ≤ i ∧ i ≤ 7) →  Q (some (.double (jD (gd i.toNat) (gn i.toNat)))) (aup w z (mdC A 0 yq mq dq ty ap wr sz))) : Ct l G mX7_julian rX7_julian [(.ref z), .int (iI i)] w Q X := by
  have nz0 : A 0 ≠ z := fun e => ne_of h0 h1 mdal e.symm
  have nz1 : A 1 ≠ z := fun e => ne_of h0 h2 mdal e.symm
  refine ct_of hst mk_X7_julian (Nat.le_of_ble_eq_true rfl) ?_
  refine v_aload_n dX7_julian_0 rfl ?_
  refine v_iload_n dX7_julian_1 rfl ?_
  refine v_V1 (rm' := rX7_isSlot) (RX7, TX7, 18) dX7_julian_2 km_X7_120 kn_X7_isSlot kv_X7_isSlot kz_X7 mk_X7_isSlot rfl rfl (by first | exact h0 | exact aup_s | exact (aup_n nz0).trans h1 | exact (aup_n nz1).trans h2 | exact (aup_n nz0.symm).trans aup_s | exact (aup_n nz0).trans ((aup_n nz0).trans h1) | exact (aup_n nz1).trans ((aup_n nz1).trans h2)) ⟨Nat.le_of_ble_eq_true rfl, Nat.le_of_ble_eq_true rfl⟩ ⟨Nat.le_of_ble_eq_true rfl, Nat.le_of_ble_eq_true rfl⟩ (Nat.le_of_ble_eq_true rfl) ?_
  refine s_X7_isSlot hst h0 hi (fun h7 => ?_) (fun h7 => ?_)
  · refine v_if_ne 10 dX7_julian_5 (fun h_5 => ?_) (fun h_5 => ?_)
    rotate_left
    · (exfalso; omega)
    refine v_aload_n dX7_julian_10 rfl ?_
    refine v_get dX7_julian_11 f_X7_7 (by first | exact h0 | exact aup_s | exact (aup_n nz0).trans h1 | exact (aup_n nz1).trans h2 | exact (aup_n nz0.symm).trans aup_s | exact (aup_n nz0).trans ((aup_n nz0).trans h1) | exact (aup_n nz1).trans ((aup_n nz1).trans h2)) rfl ?_
    refine v_iload_n dX7_julian_14 rfl ?_
    refine v_lald dX7_julian_15 (by first | exact h0 | exact aup_s | exact (aup_n nz0).trans h1 | exact (aup_n nz1).trans h2 | exact (aup_n nz0.symm).trans aup_s | exact (aup_n nz0).trans ((aup_n nz0).trans h1) | exact (aup_n nz1).trans ((aup_n nz1).trans h2)) ?_
    refine v_l2d dX7_julian_16 ?_
    refine v_ldc2d dX7_julian_17 kd_X7_247 ?_
    refine v_dadd dX7_julian_20 f_j1.1 ?_
    refine v_aload_n dX7_julian_21 rfl ?_
    refine v_get dX7_julian_22 f_X7_13 (by first | exact h0 | exact aup_s | exact (aup_n nz0).trans h1 | exact (aup_n nz1).trans h2 | exact (aup_n nz0.symm).trans aup_s | exact (aup_n nz0).trans ((aup_n nz0).trans h1) | exact (aup_n nz1).trans ((aup_n nz1).trans h2)) rfl ?_
    refine v_iload_n dX7_julian_25 rfl ?_
    refine v_lald dX7_julian_26 (by first | exact h0 | exact aup_s | exact (aup_n nz0).trans h1 | exact (aup_n nz1).trans h2 | exact (aup_n nz0.symm).trans aup_s | exact (aup_n nz0).trans ((aup_n nz0).trans h1) | exact (aup_n nz1).trans ((aup_n nz1).trans h2)) ?_
    refine v_l2d dX7_julian_27 ?_
    refine v_ldc2d dX7_julian_28 kd_X7_249 ?_
    refine v_ddiv dX7_julian_31 f_j2.1 ?_
    refine v_dadd dX7_julian_32 f_j3.1 ?_
    exact v_dret dX7_julian_33 rfl (by first | exact hQI _ (by omega) | exact hQ h7)
  · refine v_if_ne 10 dX7_julian_5 (fun h_5 => ?_) (fun h_5 => ?_)
    · (exfalso; omega)
    refine v_dconst0 dX7_julian_8 ?_
    exact v_dret dX7_julian_9 rfl (by first | exact hQI _ (by omega) | exact hQ h7)
def LK (gF gC gM gO gK gR : Nat → Int) (zi : Nat) (f c r : Int) (gm go : Nat → Int) (ru : Nat → Nat → Int) : Prop :=
  gF zi = f ∧ gC zi = c ∧ gK zi = r ∧ (∀ k : Nat, k < 8 → gM (8 * zi + k) = gm k) ∧ (∀ k : Nat, k < 8 → gO (8 * zi + k) = go k) ∧ (∀ k j : Nat, (k : Int) < r → j < 5 → gR (10 * zi + 5 * k + j) = ru k j)
def MA (G : GG) (w : AH) (A : Nat → Nat) (gF gC gM gO gK gR : Nat → Int) : Prop := w (A 2) = some (aiA G 4 gF) ∧ w (A 3) = some (aiA G 4 gC) ∧ w (A 4) = some (alA G 32 gM) ∧ w (A 5) = some (aiA G 32 gO) ∧ w (A 6) = some (aiA G 4 gK) ∧ w (A 7) = some (aiA G 40 gR)
theorem MZ_of {G : GG} {w : AH} {A : Nat → Nat} {zi : Nat} {f c r : Int} {gm go : Nat → Int} {ru : Nat → Nat → Int} {gF gC gM gO gK gR : Nat → Int} (h : MA G w A gF gC gM gO gK gR) (hl : LK gF gC gM gO gK gR zi f c r gm go ru) : MZ G w A zi f c r gm go ru := ⟨gF, gC, gM, gO, gK, gR, h.1, h.2.1, h.2.2.1, h.2.2.2.1, h.2.2.2.2.1, h.2.2.2.2.2, hl⟩
set_option maxRecDepth 100000 in
set_option maxHeartbeats 4000000 in
theorem s_X7_zone {l : Launch} {G : GG} {w : AH} {Q : Option Value → AH → Prop} {X : String → AH → Prop} (hst : l.stackTraces = false) {z : Nat} {A : Nat → Nat} {th yq mq dq ty ap wr sz : Int} (h0 : w z = some (mdC A th yq mq dq ty ap wr sz)) {gF gC gM gO gK gR : Nat → Int} (hMA : MA G w A gF gC gM gO gK gR) (hA : ∀ a b : Nat, a < 10 → b < 10 → a ≠ b → A a ≠ A b) {i v : Int} (hi : -2147483648 ≤ i ∧ i ≤ 2147483647) (hv : -2147483648 ≤ v ∧ v ≤ 2147483647) (hQ0 : ¬ ((0 ≤ i ∧ i ≤ 3) ∧ -64800 ≤ v ∧ v ≤ 64800) → Q (some (.int (iI 0))) (aup w z (mdC A 0 yq mq dq ty ap wr sz))) (hQ1 : (0 ≤ i ∧ i ≤ 3) → (-64800 ≤ v ∧ v ≤ 64800) → Q (some (.int (iI 1))) (aup (aup (aup (aup w z (mdC A 0 yq mq dq ty ap wr sz)) (A 2) (aiA G 4 (gup gF i.toNat v))) (A 3) (aiA G 4 (gup gC i.toNat 0))) (A 6) (aiA G 4 (gup gK i.toNat 0)))) : Ct l G mX7_zone rX7_zone [(.ref z), .int (iI i), .int (iI v)] w Q X := by
  obtain ⟨z2, z3, z4, z5, z6, z7⟩ := hMA
  have nz2 : A 2 ≠ z := fun e => ne_of h0 z2 mdai e.symm
  have nz3 : A 3 ≠ z := fun e => ne_of h0 z3 mdai e.symm
  have nz4 : A 4 ≠ z := fun e => ne_of h0 z4 mdal e.symm
  have nz5 : A 5 ≠ z := fun e => ne_of h0 z5 mdai e.symm
  have nz6 : A 6 ≠ z := fun e => ne_of h0 z6 mdai e.symm
  have nz7 : A 7 ≠ z := fun e => ne_of h0 z7 mdai e.symm
  refine ct_of hst mk_X7_zone (Nat.le_of_ble_eq_true rfl) ?_
  refine v_aload_n dX7_zone_0 rfl ?_
  refine v_iconst dX7_zone_1 ?_
  refine v_put dX7_zone_2 f_X7_41 (by exact h0) rfl rfl (Nat.le_of_ble_eq_true rfl) ?_
  refine v_iload_n dX7_zone_5 rfl ?_
  refine v_i2l dX7_zone_6 ?_
  refine v_lconst0 dX7_zone_7 ?_
  refine v_ldc2 (3) dX7_zone_8 kl_X7_90 ?_
  refine v_S3 (rm' := rX7_in) dX7_zone_11 km_X7_102 ks_X7_in kz_X7 mk_X7_in rfl ⟨Nat.le_of_ble_eq_true rfl, Nat.le_of_ble_eq_true rfl⟩ ⟨Nat.le_of_ble_eq_true rfl, Nat.le_of_ble_eq_true rfl⟩ (Nat.le_of_ble_eq_true rfl) ?_
  refine s_X7_in hst (fun ri1 ei1 => ?_)
  refine v_if_eq 31 dX7_zone_14 (fun h_14 => ?_) (fun h_14 => ?_)
  · refine v_iconst dX7_zone_31 ?_
    exact v_zret dX7_zone_32 rfl (by exact hQ0 (by omega)) (by first | exact Or.inl rfl | exact Or.inr rfl | omega)
  · refine v_iload_n dX7_zone_17 rfl ?_
    refine v_i2l dX7_zone_18 ?_
    refine v_ldc2 (-64800) dX7_zone_19 kl_X7_216 ?_
    refine v_ldc2 (64800) dX7_zone_22 kl_X7_218 ?_
    refine v_S3 (rm' := rX7_in) dX7_zone_25 km_X7_102 ks_X7_in kz_X7 mk_X7_in rfl ⟨Nat.le_of_ble_eq_true rfl, Nat.le_of_ble_eq_true rfl⟩ ⟨Nat.le_of_ble_eq_true rfl, Nat.le_of_ble_eq_true rfl⟩ (Nat.le_of_ble_eq_true rfl) ?_
    refine s_X7_in hst (fun ri2 ei2 => ?_)
    refine v_if_ne 33 dX7_zone_28 (fun h_28 => ?_) (fun h_28 => ?_)
    · refine v_aload_n dX7_zone_33 rfl ?_
      refine v_get dX7_zone_34 f_X7_16 (by exact aup_s) rfl ?_
      refine v_iload_n dX7_zone_37 rfl ?_
      refine v_iload_n dX7_zone_38 rfl ?_
      refine v_iast dX7_zone_39 (by exact ((aup_n nz2).trans z2)) ?_
      refine v_aload_n dX7_zone_40 rfl ?_
      refine v_get dX7_zone_41 f_X7_20 (by exact ((aup_n nz2.symm).trans aup_s)) rfl ?_
      refine v_iload_n dX7_zone_44 rfl ?_
      refine v_iconst dX7_zone_45 ?_
      refine v_iast dX7_zone_46 (by exact ((aup_n (hA 3 2 (by decide) (by decide) (by decide))).trans ((aup_n nz3).trans z3))) ?_
      refine v_aload_n dX7_zone_47 rfl ?_
      refine v_get dX7_zone_48 f_X7_29 (by exact ((aup_n nz3.symm).trans ((aup_n nz2.symm).trans aup_s))) rfl ?_
      refine v_iload_n dX7_zone_51 rfl ?_
      refine v_iconst dX7_zone_52 ?_
      refine v_iast dX7_zone_53 (by exact ((aup_n (hA 6 3 (by decide) (by decide) (by decide))).trans ((aup_n (hA 6 2 (by decide) (by decide) (by decide))).trans ((aup_n nz6).trans z6)))) ?_
      refine v_iconst dX7_zone_54 ?_
      exact v_zret dX7_zone_55 rfl (by exact hQ1 (by omega) (by omega)) (by first | exact Or.inl rfl | exact Or.inr rfl | omega)
    · refine v_iconst dX7_zone_31 ?_
      exact v_zret dX7_zone_32 rfl (by exact hQ0 (by omega)) (by first | exact Or.inl rfl | exact Or.inr rfl | omega)
set_option maxRecDepth 100000 in
set_option maxHeartbeats 4000000 in
theorem s_X7_change {l : Launch} {G : GG} {w : AH} {Q : Option Value → AH → Prop} {X : String → AH → Prop} (hst : l.stackTraces = false) {z : Nat} {A : Nat → Nat} {th yq mq dq ty ap wr sz : Int} (h0 : w z = some (mdC A th yq mq dq ty ap wr sz)) {gF gC gM gO gK gR : Nat → Int} (hMA : MA G w A gF gC gM gO gK gR) (hA : ∀ a b : Nat, a < 10 → b < 10 → a ≠ b → A a ≠ A b) {i t v : Int} (hi : -2147483648 ≤ i ∧ i ≤ 2147483647) (ht : -9223372036854775808 ≤ t ∧ t ≤ 9223372036854775807) (hv : -2147483648 ≤ v ∧ v ≤ 2147483647) {f c r : Int} {gm go : Nat → Int} {ru : Nat → Nat → Int} (hLH : (0 ≤ i ∧ i ≤ 3) → LK gF gC gM gO gK gR i.toNat f c r gm go ru ∧ ZOK f c r gm go ru) (hQ0 : ¬ ((0 ≤ i ∧ i ≤ 3) ∧ ((-64800 ≤ v ∧ v ≤ 64800) ∧ -377700000000 ≤ t ∧ t ≤ 253400000000)) → Q (some (.int (iI 0))) (aup w z (mdC A 0 yq mq dq ty ap wr sz))) (hQz : (0 ≤ i ∧ i ≤ 3) → ((-64800 ≤ v ∧ v ≤ 64800) ∧ -377700000000 ≤ t ∧ t ≤ 253400000000) → (0 < r ∨ 8 ≤ c ∨ t ≤ lastC gm c) → Q (some (.int (iI 0))) (aup w z (mdC A 0 yq mq dq ty ap wr sz))) (hQ1 : (0 ≤ i ∧ i ≤ 3) → ((-64800 ≤ v ∧ v ≤ 64800) ∧ -377700000000 ≤ t ∧ t ≤ 253400000000) → ¬ (0 < r ∨ 8 ≤ c ∨ t ≤ lastC gm c) → Q (some (.int (iI 1))) (aup (aup (aup (aup w z (mdC A 0 yq mq dq ty ap wr sz)) (A 4) (alA G 32 (gup gM (8 * i + c).toNat t))) (A 5) (aiA G 32 (gup gO (8 * i + c).toNat v))) (A 3) (aiA G 4 (gup gC i.toNat (c + 1))))) : Ct l G mX7_change rX7_change [(.ref z), .int (iI i), .long (lI t), .int (iI v)] w Q X := by
  obtain ⟨z2, z3, z4, z5, z6, z7⟩ := hMA
  have nz2 : A 2 ≠ z := fun e => ne_of h0 z2 mdai e.symm
  have nz3 : A 3 ≠ z := fun e => ne_of h0 z3 mdai e.symm
  have nz4 : A 4 ≠ z := fun e => ne_of h0 z4 mdal e.symm
  have nz5 : A 5 ≠ z := fun e => ne_of h0 z5 mdai e.symm
  have nz6 : A 6 ≠ z := fun e => ne_of h0 z6 mdai e.symm
  have nz7 : A 7 ≠ z := fun e => ne_of h0 z7 mdai e.symm
  refine ct_of hst mk_X7_change (Nat.le_of_ble_eq_true rfl) ?_
  refine v_aload_n dX7_change_0 rfl ?_
  refine v_iconst dX7_change_1 ?_
  refine v_put dX7_change_2 f_X7_41 (by exact h0) rfl rfl (Nat.le_of_ble_eq_true rfl) ?_
  refine v_iload_n dX7_change_5 rfl ?_
  refine v_i2l dX7_change_6 ?_
  refine v_lconst0 dX7_change_7 ?_
  refine v_ldc2 (3) dX7_change_8 kl_X7_90 ?_
  refine v_S3 (rm' := rX7_in) dX7_change_11 km_X7_102 ks_X7_in kz_X7 mk_X7_in rfl ⟨Nat.le_of_ble_eq_true rfl, Nat.le_of_ble_eq_true rfl⟩ ⟨Nat.le_of_ble_eq_true rfl, Nat.le_of_ble_eq_true rfl⟩ (Nat.le_of_ble_eq_true rfl) ?_
  refine s_X7_in hst (fun ri1 ei1 => ?_)
  refine v_if_eq 69 dX7_change_14 (fun h_14 => ?_) (fun h_14 => ?_)
  · refine v_iconst dX7_change_69 ?_
    exact v_zret dX7_change_70 rfl (by first | exact hQ0 (by omega) | exact hQz (by omega) (by omega) (by omega)) (by first | exact Or.inl rfl | exact Or.inr rfl | omega)
  · refine v_iload dX7_change_17 rfl ?_
    refine v_i2l dX7_change_19 ?_
    refine v_ldc2 (-64800) dX7_change_20 kl_X7_216 ?_
    refine v_ldc2 (64800) dX7_change_23 kl_X7_218 ?_
    refine v_S3 (rm' := rX7_in) dX7_change_26 km_X7_102 ks_X7_in kz_X7 mk_X7_in rfl ⟨Nat.le_of_ble_eq_true rfl, Nat.le_of_ble_eq_true rfl⟩ ⟨Nat.le_of_ble_eq_true rfl, Nat.le_of_ble_eq_true rfl⟩ (Nat.le_of_ble_eq_true rfl) ?_
    refine s_X7_in hst (fun ri2 ei2 => ?_)
    refine v_if_eq 69 dX7_change_29 (fun h_29 => ?_) (fun h_29 => ?_)
    · refine v_iconst dX7_change_69 ?_
      exact v_zret dX7_change_70 rfl (by first | exact hQ0 (by omega) | exact hQz (by omega) (by omega) (by omega)) (by first | exact Or.inl rfl | exact Or.inr rfl | omega)
    · refine v_lload_n dX7_change_32 rfl ?_
      refine v_S1 (rm' := rX7_isMoment) dX7_change_33 km_X7_220 ks_X7_isMoment kz_X7 mk_X7_isMoment rfl ⟨Nat.le_of_ble_eq_true rfl, Nat.le_of_ble_eq_true rfl⟩ ⟨Nat.le_of_ble_eq_true rfl, Nat.le_of_ble_eq_true rfl⟩ (Nat.le_of_ble_eq_true rfl) ?_
      refine s_X7_isMoment hst (fun rm9 em9 => ?_)
      refine v_if_eq 69 dX7_change_36 (fun h_36 => ?_) (fun h_36 => ?_)
      · refine v_iconst dX7_change_69 ?_
        exact v_zret dX7_change_70 rfl (by first | exact hQ0 (by omega) | exact hQz (by omega) (by omega) (by omega)) (by first | exact Or.inl rfl | exact Or.inr rfl | omega)
      · obtain ⟨hK, hZ⟩ := hLH (by omega)
        obtain ⟨hcr, hrr, hgr, -⟩ := id hZ
        have hlr := lastC_rng (c := c) hgr
        have l3 := hK.2.1
        have l6 := hK.2.2.1
        refine v_aload_n dX7_change_39 rfl ?_
        refine v_get dX7_change_40 f_X7_20 (by exact aup_s) rfl ?_
        refine v_iload_n dX7_change_43 rfl ?_
        refine v_iald dX7_change_44 (by exact ((aup_n nz3).trans z3)) ?_
        rw [l3]
        refine v_bipush dX7_change_45 ?_
        refine v_icmp_eq 69 dX7_change_47 (fun h_47 => ?_) (fun h_47 => ?_)
        · refine v_iconst dX7_change_69 ?_
          exact v_zret dX7_change_70 rfl (by first | exact hQ0 (by omega) | exact hQz (by omega) (by omega) (by omega)) (by first | exact Or.inl rfl | exact Or.inr rfl | omega)
        · refine v_aload_n dX7_change_50 rfl ?_
          refine v_get dX7_change_51 f_X7_29 (by exact aup_s) rfl ?_
          refine v_iload_n dX7_change_54 rfl ?_
          refine v_iald dX7_change_55 (by exact ((aup_n nz6).trans z6)) ?_
          rw [l6]
          refine v_if_gt 69 dX7_change_56 (fun h_56 => ?_) (fun h_56 => ?_)
          · refine v_iconst dX7_change_69 ?_
            exact v_zret dX7_change_70 rfl (by first | exact hQ0 (by omega) | exact hQz (by omega) (by omega) (by omega)) (by first | exact Or.inl rfl | exact Or.inr rfl | omega)
          · refine v_lload_n dX7_change_59 rfl ?_
            refine v_aload_n dX7_change_60 rfl ?_
            refine v_iload_n dX7_change_61 rfl ?_
            refine v_V1 (rm' := rX7_lastOf) (RX7, TX7, 18) dX7_change_62 km_X7_223 kn_X7_lastOf kv_X7_lastOf kz_X7 mk_X7_lastOf rfl rfl (by exact aup_s) ⟨Nat.le_of_ble_eq_true rfl, Nat.le_of_ble_eq_true rfl⟩ ⟨Nat.le_of_ble_eq_true rfl, Nat.le_of_ble_eq_true rfl⟩ (Nat.le_of_ble_eq_true rfl) ?_
            obtain ⟨zi, ezi⟩ := Int.eq_ofNat_of_zero_le (show 0 ≤ i by omega)
            have hMA9 : MA G (aup w z (mdC A 0 yq mq dq ty ap wr sz)) A gF gC gM gO gK gR := ⟨(aup_n nz2).trans z2, (aup_n nz3).trans z3, (aup_n nz4).trans z4, (aup_n nz5).trans z5, (aup_n nz6).trans z6, (aup_n nz7).trans z7⟩
            have hK9 : LK gF gC gM gO gK gR zi f c r gm go ru := (by rw [ezi] at hK; simp only [Int.toNat_natCast] at hK; exact hK)
            rw [ezi]
            refine s_X7_lastOf hst aup_s (by omega) hZ (MZ_of hMA9 hK9) ?_
            rw [← ezi]
            refine v_lif_gt 71 dX7_change_65 dX7_change_66 (fun h_65 => ?_) (fun h_65 => ?_)
            · refine v_aload_n dX7_change_71 rfl ?_
              refine v_get dX7_change_72 f_X7_23 (by exact aup_s) rfl ?_
              refine v_bipush dX7_change_75 ?_
              refine v_iload_n dX7_change_77 rfl ?_
              refine v_imul dX7_change_78 ?_
              refine v_aload_n dX7_change_79 rfl ?_
              refine v_get dX7_change_80 f_X7_20 (by exact aup_s) rfl ?_
              refine v_iload_n dX7_change_83 rfl ?_
              refine v_iald dX7_change_84 (by exact ((aup_n nz3).trans z3)) ?_
              rw [l3]
              refine v_iadd dX7_change_85 ?_
              refine v_lload_n dX7_change_86 rfl ?_
              refine v_last dX7_change_87 (by exact ((aup_n nz4).trans z4)) ?_
              refine v_aload_n dX7_change_88 rfl ?_
              refine v_get dX7_change_89 f_X7_26 (by exact ((aup_n nz4.symm).trans aup_s)) rfl ?_
              refine v_bipush dX7_change_92 ?_
              refine v_iload_n dX7_change_94 rfl ?_
              refine v_imul dX7_change_95 ?_
              refine v_aload_n dX7_change_96 rfl ?_
              refine v_get dX7_change_97 f_X7_20 (by exact ((aup_n nz4.symm).trans aup_s)) rfl ?_
              refine v_iload_n dX7_change_100 rfl ?_
              refine v_iald dX7_change_101 (by exact ((aup_n (hA 3 4 (by decide) (by decide) (by decide))).trans ((aup_n nz3).trans z3))) ?_
              rw [l3]
              refine v_iadd dX7_change_102 ?_
              refine v_iload dX7_change_103 rfl ?_
              refine v_iast dX7_change_105 (by exact ((aup_n (hA 5 4 (by decide) (by decide) (by decide))).trans ((aup_n nz5).trans z5))) ?_
              refine v_aload_n dX7_change_106 rfl ?_
              refine v_get dX7_change_107 f_X7_20 (by exact ((aup_n nz5.symm).trans ((aup_n nz4.symm).trans aup_s))) rfl ?_
              refine v_iload_n dX7_change_110 rfl ?_
              refine v_dup2 dX7_change_111 rfl rfl ?_
              refine v_iald dX7_change_112 (by exact ((aup_n (hA 3 5 (by decide) (by decide) (by decide))).trans ((aup_n (hA 3 4 (by decide) (by decide) (by decide))).trans ((aup_n nz3).trans z3)))) ?_
              rw [l3]
              refine v_iconst dX7_change_113 ?_
              refine v_iadd dX7_change_114 ?_
              refine v_iast dX7_change_115 (by exact ((aup_n (hA 3 5 (by decide) (by decide) (by decide))).trans ((aup_n (hA 3 4 (by decide) (by decide) (by decide))).trans ((aup_n nz3).trans z3)))) ?_
              refine v_iconst dX7_change_116 ?_
              exact v_zret dX7_change_117 rfl (by exact hQ1 (by omega) (by omega) (by omega)) (by first | exact Or.inl rfl | exact Or.inr rfl | omega)
            · refine v_iconst dX7_change_69 ?_
              exact v_zret dX7_change_70 rfl (by first | exact hQ0 (by omega) | exact hQz (by omega) (by omega) (by omega)) (by first | exact Or.inl rfl | exact Or.inr rfl | omega)
set_option maxRecDepth 100000 in
set_option maxHeartbeats 4000000 in
theorem s_X7_rule {l : Launch} {G : GG} {w : AH} {Q : Option Value → AH → Prop} {X : String → AH → Prop} (hst : l.stackTraces = false) {z : Nat} {A : Nat → Nat} {th yq mq dq ty ap wr sz : Int} (h0 : w z = some (mdC A th yq mq dq ty ap wr sz)) {gF gC gM gO gK gR : Nat → Int} (hMA : MA G w A gF gC gM gO gK gR) (hA : ∀ a b : Nat, a < 10 → b < 10 → a ≠ b → A a ≠ A b) {i mo da wk se of : Int} (hi : -2147483648 ≤ i ∧ i ≤ 2147483647) (hmo : -2147483648 ≤ mo ∧ mo ≤ 2147483647) (hda : -2147483648 ≤ da ∧ da ≤ 2147483647) (hwk : -2147483648 ≤ wk ∧ wk ≤ 2147483647) (hse : -2147483648 ≤ se ∧ se ≤ 2147483647) (hof : -2147483648 ≤ of ∧ of ≤ 2147483647) {f c r : Int} {gm go : Nat → Int} {ru : Nat → Nat → Int} (hLH : (0 ≤ i ∧ i ≤ 3) → LK gF gC gM gO gK gR i.toNat f c r gm go ru ∧ ZOK f c r gm go ru) (hQ0 : ¬ ((0 ≤ i ∧ i ≤ 3) ∧ ((1 ≤ mo ∧ mo ≤ 12) ∧ (da = -1 ∨ (1 ≤ da ∧ da ≤ 28)) ∧ (1 ≤ wk ∧ wk ≤ 7) ∧ (0 ≤ se ∧ se ≤ 86400) ∧ (-64800 ≤ of ∧ of ≤ 64800))) → Q (some (.int (iI 0))) (aup w z (mdC A 0 yq mq dq ty ap wr sz))) (hQz : (0 ≤ i ∧ i ≤ 3) → ((1 ≤ mo ∧ mo ≤ 12) ∧ (da = -1 ∨ (1 ≤ da ∧ da ≤ 28)) ∧ (1 ≤ wk ∧ wk ≤ 7) ∧ (0 ≤ se ∧ se ≤ 86400) ∧ (-64800 ≤ of ∧ of ≤ 64800)) → 2 ≤ r → Q (some (.int (iI 0))) (aup w z (mdC A 0 yq mq dq ty ap wr sz))) (hQz2 : (0 ≤ i ∧ i ≤ 3) → 2 ≤ r → Q (some (.int (iI 0))) (aup w z (mdC A 0 yq mq dq ty ap wr sz))) (hQ1 : (0 ≤ i ∧ i ≤ 3) → ((1 ≤ mo ∧ mo ≤ 12) ∧ (da = -1 ∨ (1 ≤ da ∧ da ≤ 28)) ∧ (1 ≤ wk ∧ wk ≤ 7) ∧ (0 ≤ se ∧ se ≤ 86400) ∧ (-64800 ≤ of ∧ of ≤ 64800)) → r < 2 → Q (some (.int (iI 1))) (aup (aup (aup w z (mdC A 0 yq mq dq ty ap wr sz)) (A 7) (aiA G 40 (gup (gup (gup (gup (gup gR (10 * i + 5 * r).toNat mo) ((10 * i + 5 * r) + 1).toNat da) ((10 * i + 5 * r) + 2).toNat wk) ((10 * i + 5 * r) + 3).toNat se) ((10 * i + 5 * r) + 4).toNat of))) (A 6) (aiA G 4 (gup gK i.toNat (r + 1))))) : Ct l G mX7_rule rX7_rule [(.ref z), .int (iI i), .int (iI mo), .int (iI da), .int (iI wk), .int (iI se), .int (iI of)] w Q X := by
  obtain ⟨z2, z3, z4, z5, z6, z7⟩ := hMA
  have nz2 : A 2 ≠ z := fun e => ne_of h0 z2 mdai e.symm
  have nz3 : A 3 ≠ z := fun e => ne_of h0 z3 mdai e.symm
  have nz4 : A 4 ≠ z := fun e => ne_of h0 z4 mdal e.symm
  have nz5 : A 5 ≠ z := fun e => ne_of h0 z5 mdai e.symm
  have nz6 : A 6 ≠ z := fun e => ne_of h0 z6 mdai e.symm
  have nz7 : A 7 ≠ z := fun e => ne_of h0 z7 mdai e.symm
  refine ct_of hst mk_X7_rule (Nat.le_of_ble_eq_true rfl) ?_
  have J76 : ∀ gb : Int, ((gb = 1 ∧ ((0 ≤ i ∧ i ≤ 3) ∧ r < 2 ∧ (1 ≤ mo ∧ mo ≤ 12) ∧ (da = -1 ∨ (1 ≤ da ∧ da ≤ 28)) ∧ (1 ≤ wk ∧ wk ≤ 7))) ∨ (gb = 0 ∧ ¬ ((0 ≤ i ∧ i ≤ 3) ∧ r < 2 ∧ (1 ≤ mo ∧ mo ≤ 12) ∧ (da = -1 ∨ (1 ≤ da ∧ da ≤ 28)) ∧ (1 ≤ wk ∧ wk ≤ 7)))) → V l G mX7_rule rX7_rule Q X 76 (lof [(0, .ref z), (1, .int (iI i)), (2, .int (iI mo)), (3, .int (iI da)), (4, .int (iI wk)), (5, .int (iI se)), (6, .int (iI of)), (7, .int (iI gb))]) [] (aup w z (mdC A 0 yq mq dq ty ap wr sz)) 0 0 := by
    intro gb hgb
    refine v_iload dX7_rule_76 rfl ?_
    refine v_if_eq 109 dX7_rule_78 (fun h_78 => ?_) (fun h_78 => ?_)
    · refine v_iconst dX7_rule_109 ?_
      exact v_zret dX7_rule_110 rfl (by first | exact hQ0 (by omega) | (by_cases g9 : (0 ≤ i ∧ i ≤ 3) ∧ 2 ≤ r; (exact hQz2 g9.1 g9.2); (exact hQ0 (by omega)))) (by first | exact Or.inl rfl | exact Or.inr rfl | omega)
    · refine v_iload dX7_rule_81 rfl ?_
      refine v_i2l dX7_rule_83 ?_
      refine v_lconst0 dX7_rule_84 ?_
      refine v_ldc2 (86400) dX7_rule_85 kl_X7_171 ?_
      refine v_S3 (rm' := rX7_in) dX7_rule_88 km_X7_102 ks_X7_in kz_X7 mk_X7_in rfl ⟨Nat.le_of_ble_eq_true rfl, Nat.le_of_ble_eq_true rfl⟩ ⟨Nat.le_of_ble_eq_true rfl, Nat.le_of_ble_eq_true rfl⟩ (Nat.le_of_ble_eq_true rfl) ?_
      refine s_X7_in hst (fun ri5 ei5 => ?_)
      refine v_if_eq 109 dX7_rule_91 (fun h_91 => ?_) (fun h_91 => ?_)
      · refine v_iconst dX7_rule_109 ?_
        exact v_zret dX7_rule_110 rfl (by first | exact hQ0 (by omega) | (by_cases g9 : (0 ≤ i ∧ i ≤ 3) ∧ 2 ≤ r; (exact hQz2 g9.1 g9.2); (exact hQ0 (by omega)))) (by first | exact Or.inl rfl | exact Or.inr rfl | omega)
      · refine v_iload dX7_rule_94 rfl ?_
        refine v_i2l dX7_rule_96 ?_
        refine v_ldc2 (-64800) dX7_rule_97 kl_X7_216 ?_
        refine v_ldc2 (64800) dX7_rule_100 kl_X7_218 ?_
        refine v_S3 (rm' := rX7_in) dX7_rule_103 km_X7_102 ks_X7_in kz_X7 mk_X7_in rfl ⟨Nat.le_of_ble_eq_true rfl, Nat.le_of_ble_eq_true rfl⟩ ⟨Nat.le_of_ble_eq_true rfl, Nat.le_of_ble_eq_true rfl⟩ (Nat.le_of_ble_eq_true rfl) ?_
        refine s_X7_in hst (fun ri6 ei6 => ?_)
        refine v_if_ne 111 dX7_rule_106 (fun h_106 => ?_) (fun h_106 => ?_)
        · obtain ⟨hK, hZ⟩ := hLH (by omega)
          obtain ⟨hcr, hrr, hgr, -⟩ := id hZ
          have l6 := hK.2.2.1
          refine v_bipush dX7_rule_111 ?_
          refine v_iload_n dX7_rule_113 rfl ?_
          refine v_imul dX7_rule_114 ?_
          refine v_iconst dX7_rule_115 ?_
          refine v_aload_n dX7_rule_116 rfl ?_
          refine v_get dX7_rule_117 f_X7_29 (by exact aup_s) rfl ?_
          refine v_iload_n dX7_rule_120 rfl ?_
          refine v_iald dX7_rule_121 (by exact ((aup_n nz6).trans z6)) ?_
          rw [l6]
          refine v_imul dX7_rule_122 ?_
          refine v_iadd dX7_rule_123 ?_
          refine v_istore dX7_rule_124 (by decide) ?_
          refine v_aload_n dX7_rule_126 rfl ?_
          refine v_get dX7_rule_127 f_X7_32 (by exact aup_s) rfl ?_
          refine v_iload dX7_rule_130 rfl ?_
          refine v_iload_n dX7_rule_132 rfl ?_
          refine v_iast dX7_rule_133 (by exact ((aup_n nz7).trans z7)) ?_
          refine v_aload_n dX7_rule_134 rfl ?_
          refine v_get dX7_rule_135 f_X7_32 (by exact ((aup_n nz7.symm).trans aup_s)) rfl ?_
          refine v_iload dX7_rule_138 rfl ?_
          refine v_iconst dX7_rule_140 ?_
          refine v_iadd dX7_rule_141 ?_
          refine v_iload_n dX7_rule_142 rfl ?_
          refine v_iast dX7_rule_143 (by exact aup_s) ?_
          rw [aup_up]
          refine v_aload_n dX7_rule_144 rfl ?_
          refine v_get dX7_rule_145 f_X7_32 (by exact ((aup_n nz7.symm).trans aup_s)) rfl ?_
          refine v_iload dX7_rule_148 rfl ?_
          refine v_iconst dX7_rule_150 ?_
          refine v_iadd dX7_rule_151 ?_
          refine v_iload dX7_rule_152 rfl ?_
          refine v_iast dX7_rule_154 (by exact aup_s) ?_
          rw [aup_up]
          refine v_aload_n dX7_rule_155 rfl ?_
          refine v_get dX7_rule_156 f_X7_32 (by exact ((aup_n nz7.symm).trans aup_s)) rfl ?_
          refine v_iload dX7_rule_159 rfl ?_
          refine v_iconst dX7_rule_161 ?_
          refine v_iadd dX7_rule_162 ?_
          refine v_iload dX7_rule_163 rfl ?_
          refine v_iast dX7_rule_165 (by exact aup_s) ?_
          rw [aup_up]
          refine v_aload_n dX7_rule_166 rfl ?_
          refine v_get dX7_rule_167 f_X7_32 (by exact ((aup_n nz7.symm).trans aup_s)) rfl ?_
          refine v_iload dX7_rule_170 rfl ?_
          refine v_iconst dX7_rule_172 ?_
          refine v_iadd dX7_rule_173 ?_
          refine v_iload dX7_rule_174 rfl ?_
          refine v_iast dX7_rule_176 (by exact aup_s) ?_
          rw [aup_up]
          refine v_aload_n dX7_rule_177 rfl ?_
          refine v_get dX7_rule_178 f_X7_29 (by exact ((aup_n nz7.symm).trans aup_s)) rfl ?_
          refine v_iload_n dX7_rule_181 rfl ?_
          refine v_dup2 dX7_rule_182 rfl rfl ?_
          refine v_iald dX7_rule_183 (by exact ((aup_n (hA 6 7 (by decide) (by decide) (by decide))).trans ((aup_n nz6).trans z6))) ?_
          rw [l6]
          refine v_iconst dX7_rule_184 ?_
          refine v_iadd dX7_rule_185 ?_
          refine v_iast dX7_rule_186 (by exact ((aup_n (hA 6 7 (by decide) (by decide) (by decide))).trans ((aup_n nz6).trans z6))) ?_
          refine v_iconst dX7_rule_187 ?_
          exact v_zret dX7_rule_188 rfl (by exact hQ1 (by omega) (by omega) (by omega)) (by first | exact Or.inl rfl | exact Or.inr rfl | omega)
        · refine v_iconst dX7_rule_109 ?_
          exact v_zret dX7_rule_110 rfl (by first | exact hQ0 (by omega) | (by_cases g9 : (0 ≤ i ∧ i ≤ 3) ∧ 2 ≤ r; (exact hQz2 g9.1 g9.2); (exact hQ0 (by omega)))) (by first | exact Or.inl rfl | exact Or.inr rfl | omega)
  refine v_aload_n dX7_rule_0 rfl ?_
  refine v_iconst dX7_rule_1 ?_
  refine v_put dX7_rule_2 f_X7_41 (by exact h0) rfl rfl (Nat.le_of_ble_eq_true rfl) ?_
  refine v_iload_n dX7_rule_5 rfl ?_
  refine v_i2l dX7_rule_6 ?_
  refine v_lconst0 dX7_rule_7 ?_
  refine v_ldc2 (3) dX7_rule_8 kl_X7_90 ?_
  refine v_S3 (rm' := rX7_in) dX7_rule_11 km_X7_102 ks_X7_in kz_X7 mk_X7_in rfl ⟨Nat.le_of_ble_eq_true rfl, Nat.le_of_ble_eq_true rfl⟩ ⟨Nat.le_of_ble_eq_true rfl, Nat.le_of_ble_eq_true rfl⟩ (Nat.le_of_ble_eq_true rfl) ?_
  refine s_X7_in hst (fun ri1 ei1 => ?_)
  refine v_if_eq 73 dX7_rule_14 (fun h_14 => ?_) (fun h_14 => ?_)
  · refine v_iconst dX7_rule_73 ?_
    refine v_istore dX7_rule_74 (by decide) ?_
    exact v_lof [(0, .ref z), (1, .int (iI i)), (2, .int (iI mo)), (3, .int (iI da)), (4, .int (iI wk)), (5, .int (iI se)), (6, .int (iI of)), (7, .int (iI _))] (List.forall_mem_cons.mpr ⟨rfl, (List.forall_mem_cons.mpr ⟨rfl, (List.forall_mem_cons.mpr ⟨rfl, (List.forall_mem_cons.mpr ⟨rfl, (List.forall_mem_cons.mpr ⟨rfl, (List.forall_mem_cons.mpr ⟨rfl, (List.forall_mem_cons.mpr ⟨rfl, (List.forall_mem_cons.mpr ⟨rfl, (fun _ h => nomatch h)⟩)⟩)⟩)⟩)⟩)⟩)⟩)⟩) (J76 _ (by omega))
  · obtain ⟨hK, hZ⟩ := hLH (by omega)
    obtain ⟨hcr, hrr, hgr, -⟩ := id hZ
    have l6 := hK.2.2.1
    refine v_aload_n dX7_rule_17 rfl ?_
    refine v_get dX7_rule_18 f_X7_29 (by exact aup_s) rfl ?_
    refine v_iload_n dX7_rule_21 rfl ?_
    refine v_iald dX7_rule_22 (by exact ((aup_n nz6).trans z6)) ?_
    rw [l6]
    refine v_iconst dX7_rule_23 ?_
    refine v_icmp_ge 73 dX7_rule_24 (fun h_24 => ?_) (fun h_24 => ?_)
    · refine v_iconst dX7_rule_73 ?_
      refine v_istore dX7_rule_74 (by decide) ?_
      exact v_lof [(0, .ref z), (1, .int (iI i)), (2, .int (iI mo)), (3, .int (iI da)), (4, .int (iI wk)), (5, .int (iI se)), (6, .int (iI of)), (7, .int (iI _))] (List.forall_mem_cons.mpr ⟨rfl, (List.forall_mem_cons.mpr ⟨rfl, (List.forall_mem_cons.mpr ⟨rfl, (List.forall_mem_cons.mpr ⟨rfl, (List.forall_mem_cons.mpr ⟨rfl, (List.forall_mem_cons.mpr ⟨rfl, (List.forall_mem_cons.mpr ⟨rfl, (List.forall_mem_cons.mpr ⟨rfl, (fun _ h => nomatch h)⟩)⟩)⟩)⟩)⟩)⟩)⟩)⟩) (J76 _ (by omega))
    · refine v_iload_n dX7_rule_27 rfl ?_
      refine v_i2l dX7_rule_28 ?_
      refine v_lconst1 dX7_rule_29 ?_
      refine v_ldc2 (12) dX7_rule_30 kl_X7_110 ?_
      refine v_S3 (rm' := rX7_in) dX7_rule_33 km_X7_102 ks_X7_in kz_X7 mk_X7_in rfl ⟨Nat.le_of_ble_eq_true rfl, Nat.le_of_ble_eq_true rfl⟩ ⟨Nat.le_of_ble_eq_true rfl, Nat.le_of_ble_eq_true rfl⟩ (Nat.le_of_ble_eq_true rfl) ?_
      refine s_X7_in hst (fun ri2 ei2 => ?_)
      refine v_if_eq 73 dX7_rule_36 (fun h_36 => ?_) (fun h_36 => ?_)
      · refine v_iconst dX7_rule_73 ?_
        refine v_istore dX7_rule_74 (by decide) ?_
        exact v_lof [(0, .ref z), (1, .int (iI i)), (2, .int (iI mo)), (3, .int (iI da)), (4, .int (iI wk)), (5, .int (iI se)), (6, .int (iI of)), (7, .int (iI _))] (List.forall_mem_cons.mpr ⟨rfl, (List.forall_mem_cons.mpr ⟨rfl, (List.forall_mem_cons.mpr ⟨rfl, (List.forall_mem_cons.mpr ⟨rfl, (List.forall_mem_cons.mpr ⟨rfl, (List.forall_mem_cons.mpr ⟨rfl, (List.forall_mem_cons.mpr ⟨rfl, (List.forall_mem_cons.mpr ⟨rfl, (fun _ h => nomatch h)⟩)⟩)⟩)⟩)⟩)⟩)⟩)⟩) (J76 _ (by omega))
      · refine v_iload_n dX7_rule_39 rfl ?_
        refine v_iconst dX7_rule_40 ?_
        refine v_icmp_eq 56 dX7_rule_41 (fun h_41 => ?_) (fun h_41 => ?_)
        · refine v_iload dX7_rule_56 rfl ?_
          refine v_i2l dX7_rule_58 ?_
          refine v_lconst1 dX7_rule_59 ?_
          refine v_ldc2 (7) dX7_rule_60 kl_X7_92 ?_
          refine v_S3 (rm' := rX7_in) dX7_rule_63 km_X7_102 ks_X7_in kz_X7 mk_X7_in rfl ⟨Nat.le_of_ble_eq_true rfl, Nat.le_of_ble_eq_true rfl⟩ ⟨Nat.le_of_ble_eq_true rfl, Nat.le_of_ble_eq_true rfl⟩ (Nat.le_of_ble_eq_true rfl) ?_
          refine s_X7_in hst (fun ri4 ei4 => ?_)
          refine v_if_eq 73 dX7_rule_66 (fun h_66 => ?_) (fun h_66 => ?_)
          · refine v_iconst dX7_rule_73 ?_
            refine v_istore dX7_rule_74 (by decide) ?_
            exact v_lof [(0, .ref z), (1, .int (iI i)), (2, .int (iI mo)), (3, .int (iI da)), (4, .int (iI wk)), (5, .int (iI se)), (6, .int (iI of)), (7, .int (iI _))] (List.forall_mem_cons.mpr ⟨rfl, (List.forall_mem_cons.mpr ⟨rfl, (List.forall_mem_cons.mpr ⟨rfl, (List.forall_mem_cons.mpr ⟨rfl, (List.forall_mem_cons.mpr ⟨rfl, (List.forall_mem_cons.mpr ⟨rfl, (List.forall_mem_cons.mpr ⟨rfl, (List.forall_mem_cons.mpr ⟨rfl, (fun _ h => nomatch h)⟩)⟩)⟩)⟩)⟩)⟩)⟩)⟩) (J76 _ (by omega))
          · refine v_iconst dX7_rule_69 ?_
            refine v_goto 74 dX7_rule_70 ?_
            refine v_istore dX7_rule_74 (by decide) ?_
            exact v_lof [(0, .ref z), (1, .int (iI i)), (2, .int (iI mo)), (3, .int (iI da)), (4, .int (iI wk)), (5, .int (iI se)), (6, .int (iI of)), (7, .int (iI _))] (List.forall_mem_cons.mpr ⟨rfl, (List.forall_mem_cons.mpr ⟨rfl, (List.forall_mem_cons.mpr ⟨rfl, (List.forall_mem_cons.mpr ⟨rfl, (List.forall_mem_cons.mpr ⟨rfl, (List.forall_mem_cons.mpr ⟨rfl, (List.forall_mem_cons.mpr ⟨rfl, (List.forall_mem_cons.mpr ⟨rfl, (fun _ h => nomatch h)⟩)⟩)⟩)⟩)⟩)⟩)⟩)⟩) (J76 _ (by omega))
        · refine v_iload_n dX7_rule_44 rfl ?_
          refine v_i2l dX7_rule_45 ?_
          refine v_lconst1 dX7_rule_46 ?_
          refine v_ldc2 (28) dX7_rule_47 kl_X7_226 ?_
          refine v_S3 (rm' := rX7_in) dX7_rule_50 km_X7_102 ks_X7_in kz_X7 mk_X7_in rfl ⟨Nat.le_of_ble_eq_true rfl, Nat.le_of_ble_eq_true rfl⟩ ⟨Nat.le_of_ble_eq_true rfl, Nat.le_of_ble_eq_true rfl⟩ (Nat.le_of_ble_eq_true rfl) ?_
          refine s_X7_in hst (fun ri3 ei3 => ?_)
          refine v_if_eq 73 dX7_rule_53 (fun h_53 => ?_) (fun h_53 => ?_)
          · refine v_iconst dX7_rule_73 ?_
            refine v_istore dX7_rule_74 (by decide) ?_
            exact v_lof [(0, .ref z), (1, .int (iI i)), (2, .int (iI mo)), (3, .int (iI da)), (4, .int (iI wk)), (5, .int (iI se)), (6, .int (iI of)), (7, .int (iI _))] (List.forall_mem_cons.mpr ⟨rfl, (List.forall_mem_cons.mpr ⟨rfl, (List.forall_mem_cons.mpr ⟨rfl, (List.forall_mem_cons.mpr ⟨rfl, (List.forall_mem_cons.mpr ⟨rfl, (List.forall_mem_cons.mpr ⟨rfl, (List.forall_mem_cons.mpr ⟨rfl, (List.forall_mem_cons.mpr ⟨rfl, (fun _ h => nomatch h)⟩)⟩)⟩)⟩)⟩)⟩)⟩)⟩) (J76 _ (by omega))
          · refine v_iload dX7_rule_56 rfl ?_
            refine v_i2l dX7_rule_58 ?_
            refine v_lconst1 dX7_rule_59 ?_
            refine v_ldc2 (7) dX7_rule_60 kl_X7_92 ?_
            refine v_S3 (rm' := rX7_in) dX7_rule_63 km_X7_102 ks_X7_in kz_X7 mk_X7_in rfl ⟨Nat.le_of_ble_eq_true rfl, Nat.le_of_ble_eq_true rfl⟩ ⟨Nat.le_of_ble_eq_true rfl, Nat.le_of_ble_eq_true rfl⟩ (Nat.le_of_ble_eq_true rfl) ?_
            refine s_X7_in hst (fun ri4 ei4 => ?_)
            refine v_if_eq 73 dX7_rule_66 (fun h_66 => ?_) (fun h_66 => ?_)
            · refine v_iconst dX7_rule_73 ?_
              refine v_istore dX7_rule_74 (by decide) ?_
              exact v_lof [(0, .ref z), (1, .int (iI i)), (2, .int (iI mo)), (3, .int (iI da)), (4, .int (iI wk)), (5, .int (iI se)), (6, .int (iI of)), (7, .int (iI _))] (List.forall_mem_cons.mpr ⟨rfl, (List.forall_mem_cons.mpr ⟨rfl, (List.forall_mem_cons.mpr ⟨rfl, (List.forall_mem_cons.mpr ⟨rfl, (List.forall_mem_cons.mpr ⟨rfl, (List.forall_mem_cons.mpr ⟨rfl, (List.forall_mem_cons.mpr ⟨rfl, (List.forall_mem_cons.mpr ⟨rfl, (fun _ h => nomatch h)⟩)⟩)⟩)⟩)⟩)⟩)⟩)⟩) (J76 _ (by omega))
            · refine v_iconst dX7_rule_69 ?_
              refine v_goto 74 dX7_rule_70 ?_
              refine v_istore dX7_rule_74 (by decide) ?_
              exact v_lof [(0, .ref z), (1, .int (iI i)), (2, .int (iI mo)), (3, .int (iI da)), (4, .int (iI wk)), (5, .int (iI se)), (6, .int (iI of)), (7, .int (iI _))] (List.forall_mem_cons.mpr ⟨rfl, (List.forall_mem_cons.mpr ⟨rfl, (List.forall_mem_cons.mpr ⟨rfl, (List.forall_mem_cons.mpr ⟨rfl, (List.forall_mem_cons.mpr ⟨rfl, (List.forall_mem_cons.mpr ⟨rfl, (List.forall_mem_cons.mpr ⟨rfl, (List.forall_mem_cons.mpr ⟨rfl, (fun _ h => nomatch h)⟩)⟩)⟩)⟩)⟩)⟩)⟩)⟩) (J76 _ (by omega))
