set_option maxRecDepth 100000 in
set_option maxHeartbeats 4000000 in
theorem s_X7_span {l : Launch} {G : GG} {w : AH} {Q : Option Value → AH → Prop} {X : String → AH → Prop} (hst : l.stackTraces = false) {z : Nat} {A : Nat → Nat} {th yq mq dq ty ap wr sz : Int} (h0 : w z = some (mdC A th yq mq dq ty ap wr sz)) {gd gn : Nat → Int} (h1 : w (A 0) = some (alA G 8 gd)) (h2 : w (A 1) = some (alA G 8 gn)) (hA01 : A 0 ≠ A 1) (hgd : ∀ k, k < 8 → -4371587 ≤ gd k ∧ gd k ≤ 2932896) (hgn : ∀ k, k < 8 → 0 ≤ gn k ∧ gn k ≤ 86399999999999) {i j u y m d y' m' d' : Int} (hi : -2147483648 ≤ i ∧ i ≤ 2147483647) (hj : -2147483648 ≤ j ∧ j ≤ 2147483647) (hu : -2147483648 ≤ u ∧ u ≤ 2147483647) (hV : (0 ≤ i ∧ i ≤ 7) → gd i.toNat = ed y m d ∧ (-9999 ≤ y ∧ y ≤ 9999) ∧ (1 ≤ m ∧ m ≤ 12) ∧ (1 ≤ d ∧ d ≤ lenM y m)) (hW : (0 ≤ j ∧ j ≤ 7) → gd j.toNat = ed y' m' d' ∧ (-9999 ≤ y' ∧ y' ≤ 9999) ∧ (1 ≤ m' ∧ m' ≤ 12) ∧ (1 ≤ d' ∧ d' ≤ lenM y' m')) (hQI : ∀ v : Int, ((i < 0 ∨ 7 < i) ∨ (j < 0 ∨ 7 < j)) → Q (some (.int (iI v))) (aup w z (mdC A 1 yq mq dq ty ap wr sz))) (hQ2 : ∀ v : Int, (0 ≤ i ∧ i ≤ 7) → (0 ≤ j ∧ j ≤ 7) →  ¬ (0 ≤ u ∧ u ≤ 2) → Q (some (.int (iI v))) (aup w z (mdC A 2 yq mq dq ty ap wr sz))) (hQm : ∀ yr' mo' da' : Int,  (0 ≤ i ∧ i ≤ 7) → (0 ≤ j ∧ j ≤ 7) →  (0 ≤ u ∧ u ≤ 1) → ∀ M r : Int, monE (y * 12 + m - 1) d 0 (y' * 12 + m' - 1) d' 0 M → ((u = 0 ∧ tq M 12 r) ∨ (u = 1 ∧ ((0 ≤ M ∧ r = M % 12) ∨ (M < 0 ∧ r = -((-M) % 12))))) → Q (some (.int (iI r))) (aup w z (mdC A 0 yr' mo' da' ty ap wr sz))) (hQd : ∀ yr' mo' da' : Int,  (0 ≤ i ∧ i ≤ 7) → (0 ≤ j ∧ j ≤ 7) →  u = 2 → ∀ M : Int, monE (y * 12 + m - 1) d 0 (y' * 12 + m' - 1) d' 0 M → Q (some (.int (iI (ed y' m' d' - monT (y * 12 + m - 1 + M) d)))) (aup w z (mdC A 0 yr' mo' da' ty ap wr sz))) : Ct l G mX7_span rX7_span [(.ref z), .int (iI i), .int (iI j), .int (iI u)] w Q X := by
  have nz0 : A 0 ≠ z := fun e => ne_of h0 h1 mdal e.symm
  have nz1 : A 1 ≠ z := fun e => ne_of h0 h2 mdal e.symm
  refine ct_of hst mk_X7_span (Nat.le_of_ble_eq_true rfl) ?_
  refine v_aload_n dX7_span_0 rfl ?_
  refine v_iload_n dX7_span_1 rfl ?_
  refine v_V1 (rm' := rX7_isSlot) (RX7, TX7, 18) dX7_span_2 km_X7_120 kn_X7_isSlot kv_X7_isSlot kz_X7 mk_X7_isSlot rfl rfl (by first | exact h0 | exact aup_s | exact (aup_n nz0).trans h1 | exact (aup_n nz1).trans h2 | exact (aup_n nz0.symm).trans aup_s | exact (aup_n nz0).trans ((aup_n nz0).trans h1) | exact (aup_n nz1).trans ((aup_n nz1).trans h2)) ⟨Nat.le_of_ble_eq_true rfl, Nat.le_of_ble_eq_true rfl⟩ ⟨Nat.le_of_ble_eq_true rfl, Nat.le_of_ble_eq_true rfl⟩ (Nat.le_of_ble_eq_true rfl) ?_
  refine s_X7_isSlot hst h0 hi (fun h7 => ?_) (fun h7 => ?_)
  · obtain ⟨e0, hy, hm, hd⟩ := hV h7
    have hn := hgn i.toNat (by omega)
    have hg1 := hgd i.toNat (by omega)
    have hl1 := lenM_rng y m
    refine v_if_eq 16 dX7_span_5 (fun h_5 => ?_) (fun h_5 => ?_)
    · (exfalso; omega)
    refine v_aload_n dX7_span_8 rfl ?_
    refine v_iload_n dX7_span_9 rfl ?_
    refine v_V1 (rm' := rX7_isSlot) (RX7, TX7, 18) dX7_span_10 km_X7_120 kn_X7_isSlot kv_X7_isSlot kz_X7 mk_X7_isSlot rfl rfl (by first | exact h0 | exact aup_s | exact (aup_n nz0).trans h1 | exact (aup_n nz1).trans h2 | exact (aup_n nz0.symm).trans aup_s | exact (aup_n nz0).trans ((aup_n nz0).trans h1) | exact (aup_n nz1).trans ((aup_n nz1).trans h2)) ⟨Nat.le_of_ble_eq_true rfl, Nat.le_of_ble_eq_true rfl⟩ ⟨Nat.le_of_ble_eq_true rfl, Nat.le_of_ble_eq_true rfl⟩ (Nat.le_of_ble_eq_true rfl) ?_
    refine s_X7_isSlot hst aup_s hj (fun h8 => ?_) (fun h8 => ?_)
    · rw [aup_up]
      obtain ⟨e1, hy', hm', hd'⟩ := hW h8
      have hn2 := hgn j.toNat (by omega)
      have hg2 := hgd j.toNat (by omega)
      have hl2 := lenM_rng y' m'
      refine v_if_ne 18 dX7_span_13 (fun h_13 => ?_) (fun h_13 => ?_)
      rotate_left
      · (exfalso; omega)
      refine v_aload_n dX7_span_18 rfl ?_
      refine v_iload_n dX7_span_19 rfl ?_
      refine v_i2l dX7_span_20 ?_
      refine v_lconst0 dX7_span_21 ?_
      refine v_ldc2 (2) dX7_span_22 kl_X7_64 ?_
      refine v_S3 (rm' := rX7_in) dX7_span_25 km_X7_102 ks_X7_in kz_X7 mk_X7_in rfl ⟨Nat.le_of_ble_eq_true rfl, Nat.le_of_ble_eq_true rfl⟩ ⟨Nat.le_of_ble_eq_true rfl, Nat.le_of_ble_eq_true rfl⟩ (Nat.le_of_ble_eq_true rfl) ?_
      refine s_X7_in hst (fun ri ei => ?_)
      refine v_if_eq 35 dX7_span_28 (fun h_28 => ?_) (fun h_28 => ?_)
      · refine v_iconst dX7_span_35 ?_
        refine v_put dX7_span_36 f_X7_41 (by first | exact h0 | exact aup_s | exact (aup_n nz0).trans h1 | exact (aup_n nz1).trans h2 | exact (aup_n nz0.symm).trans aup_s | exact (aup_n nz0).trans ((aup_n nz0).trans h1) | exact (aup_n nz1).trans ((aup_n nz1).trans h2)) rfl rfl (Nat.le_of_ble_eq_true rfl) ?_
        try rw [aup_up]
        refine v_aload_n dX7_span_39 rfl ?_
        refine v_get dX7_span_40 f_X7_41 (by first | exact h0 | exact aup_s | exact (aup_n nz0).trans h1 | exact (aup_n nz1).trans h2 | exact (aup_n nz0.symm).trans aup_s | exact (aup_n nz0).trans ((aup_n nz0).trans h1) | exact (aup_n nz1).trans ((aup_n nz1).trans h2)) rfl ?_
        refine v_if_le 48 dX7_span_43 (fun h_43 => ?_) (fun h_43 => ?_)
        · refine v_aload_n dX7_span_48 rfl ?_
          refine v_aload_n dX7_span_49 rfl ?_
          refine v_get dX7_span_50 f_X7_7 (by first | exact h0 | exact aup_s | exact (aup_n nz0).trans h1 | exact (aup_n nz1).trans h2 | exact (aup_n nz0.symm).trans aup_s | exact (aup_n nz0).trans ((aup_n nz0).trans h1) | exact (aup_n nz1).trans ((aup_n nz1).trans h2)) rfl ?_
          refine v_iload_n dX7_span_53 rfl ?_
          refine v_lald dX7_span_54 (by first | exact h0 | exact aup_s | exact (aup_n nz0).trans h1 | exact (aup_n nz1).trans h2 | exact (aup_n nz0.symm).trans aup_s | exact (aup_n nz0).trans ((aup_n nz0).trans h1) | exact (aup_n nz1).trans ((aup_n nz1).trans h2)) ?_
          refine v_lconst0 dX7_span_55 ?_
          refine v_aload_n dX7_span_56 rfl ?_
          refine v_get dX7_span_57 f_X7_7 (by first | exact h0 | exact aup_s | exact (aup_n nz0).trans h1 | exact (aup_n nz1).trans h2 | exact (aup_n nz0.symm).trans aup_s | exact (aup_n nz0).trans ((aup_n nz0).trans h1) | exact (aup_n nz1).trans ((aup_n nz1).trans h2)) rfl ?_
          refine v_iload_n dX7_span_60 rfl ?_
          refine v_lald dX7_span_61 (by first | exact h0 | exact aup_s | exact (aup_n nz0).trans h1 | exact (aup_n nz1).trans h2 | exact (aup_n nz0.symm).trans aup_s | exact (aup_n nz0).trans ((aup_n nz0).trans h1) | exact (aup_n nz1).trans ((aup_n nz1).trans h2)) ?_
          refine v_lconst0 dX7_span_62 ?_
          refine v_V4 (rm' := rX7_monthsTo) (RX7, TX7, 18) dX7_span_63 km_X7_202 kn_X7_monthsTo kv_X7_monthsTo kz_X7 mk_X7_monthsTo rfl rfl (by first | exact h0 | exact aup_s | exact (aup_n nz0).trans h1 | exact (aup_n nz1).trans h2 | exact (aup_n nz0.symm).trans aup_s | exact (aup_n nz0).trans ((aup_n nz0).trans h1) | exact (aup_n nz1).trans ((aup_n nz1).trans h2)) ⟨Nat.le_of_ble_eq_true rfl, Nat.le_of_ble_eq_true rfl⟩ ⟨Nat.le_of_ble_eq_true rfl, Nat.le_of_ble_eq_true rfl⟩ (Nat.le_of_ble_eq_true rfl) ?_
          refine s_X7_monthsTo hst aup_s (by omega) (by omega) hy hm hd e0.symm hy' hm' hd' e1.symm (fun rM eM => ?_)
          rw [aup_up]
          have hMr : -400000 ≤ rM ∧ rM ≤ 400000 := (by unfold monE at eM; omega)
          refine v_lstore dX7_span_66 (by decide) ?_
          refine v_iload_n dX7_span_68 rfl ?_
          refine v_iconst dX7_span_69 ?_
          refine v_icmp_ge 94 dX7_span_70 (fun h_70 => ?_) (fun h_70 => ?_)
          · refine v_aload_n dX7_span_94 rfl ?_
            refine v_get dX7_span_95 f_X7_7 (by first | exact h0 | exact aup_s | exact (aup_n nz0).trans h1 | exact (aup_n nz1).trans h2 | exact (aup_n nz0.symm).trans aup_s | exact (aup_n nz0).trans ((aup_n nz0).trans h1) | exact (aup_n nz1).trans ((aup_n nz1).trans h2)) rfl ?_
            refine v_iload_n dX7_span_98 rfl ?_
            refine v_lald dX7_span_99 (by first | exact h0 | exact aup_s | exact (aup_n nz0).trans h1 | exact (aup_n nz1).trans h2 | exact (aup_n nz0.symm).trans aup_s | exact (aup_n nz0).trans ((aup_n nz0).trans h1) | exact (aup_n nz1).trans ((aup_n nz1).trans h2)) ?_
            refine v_aload_n dX7_span_100 rfl ?_
            refine v_aload_n dX7_span_101 rfl ?_
            refine v_get dX7_span_102 f_X7_7 (by first | exact h0 | exact aup_s | exact (aup_n nz0).trans h1 | exact (aup_n nz1).trans h2 | exact (aup_n nz0.symm).trans aup_s | exact (aup_n nz0).trans ((aup_n nz0).trans h1) | exact (aup_n nz1).trans ((aup_n nz1).trans h2)) rfl ?_
            refine v_iload_n dX7_span_105 rfl ?_
            refine v_lald dX7_span_106 (by first | exact h0 | exact aup_s | exact (aup_n nz0).trans h1 | exact (aup_n nz1).trans h2 | exact (aup_n nz0.symm).trans aup_s | exact (aup_n nz0).trans ((aup_n nz0).trans h1) | exact (aup_n nz1).trans ((aup_n nz1).trans h2)) ?_
            refine v_aload_n dX7_span_107 rfl ?_
            refine v_aload_n dX7_span_108 rfl ?_
            refine v_get dX7_span_109 f_X7_7 (by first | exact h0 | exact aup_s | exact (aup_n nz0).trans h1 | exact (aup_n nz1).trans h2 | exact (aup_n nz0.symm).trans aup_s | exact (aup_n nz0).trans ((aup_n nz0).trans h1) | exact (aup_n nz1).trans ((aup_n nz1).trans h2)) rfl ?_
            refine v_iload_n dX7_span_112 rfl ?_
            refine v_lald dX7_span_113 (by first | exact h0 | exact aup_s | exact (aup_n nz0).trans h1 | exact (aup_n nz1).trans h2 | exact (aup_n nz0.symm).trans aup_s | exact (aup_n nz0).trans ((aup_n nz0).trans h1) | exact (aup_n nz1).trans ((aup_n nz1).trans h2)) ?_
            refine v_V1 (rm' := rX7_monthsOf) (RX7, TX7, 18) dX7_span_114 km_X7_191 kn_X7_monthsOf kv_X7_monthsOf kz_X7 mk_X7_monthsOf rfl rfl (by first | exact h0 | exact aup_s | exact (aup_n nz0).trans h1 | exact (aup_n nz1).trans h2 | exact (aup_n nz0.symm).trans aup_s | exact (aup_n nz0).trans ((aup_n nz0).trans h1) | exact (aup_n nz1).trans ((aup_n nz1).trans h2)) ⟨Nat.le_of_ble_eq_true rfl, Nat.le_of_ble_eq_true rfl⟩ ⟨Nat.le_of_ble_eq_true rfl, Nat.le_of_ble_eq_true rfl⟩ (Nat.le_of_ble_eq_true rfl) ?_
            refine s_X7_monthsOf hst aup_s (by omega) (fun y9 m9 d9 hy9 hm9 hd9 he9 => ?_)
            obtain ⟨x1, x2, x3⟩ := ed_inj hm hd hm9 hd9 (e0.symm.trans he9.symm)
            subst x1 x2 x3
            rw [aup_up]
            refine v_lload dX7_span_117 rfl ?_
            refine v_ladd dX7_span_119 ?_
            refine v_V2 (rm' := rX7_monthly) (RX7, TX7, 18) dX7_span_120 km_X7_161 kn_X7_monthly kv_X7_monthly kz_X7 mk_X7_monthly rfl rfl (by first | exact h0 | exact aup_s | exact (aup_n nz0).trans h1 | exact (aup_n nz1).trans h2 | exact (aup_n nz0.symm).trans aup_s | exact (aup_n nz0).trans ((aup_n nz0).trans h1) | exact (aup_n nz1).trans ((aup_n nz1).trans h2)) ⟨Nat.le_of_ble_eq_true rfl, Nat.le_of_ble_eq_true rfl⟩ ⟨Nat.le_of_ble_eq_true rfl, Nat.le_of_ble_eq_true rfl⟩ (Nat.le_of_ble_eq_true rfl) ?_
            refine s_X7_monthly hst aup_s (by omega) (by omega) (fun y9 m9 d9 hy9 hm9 hd9 he9 => ?_)
            obtain ⟨x1, x2, x3⟩ := ed_inj hm hd hm9 hd9 (e0.symm.trans he9.symm)
            subst x1 x2 x3
            rw [aup_up]
            refine v_lsub dX7_span_123 ?_
            refine v_l2i dX7_span_124 ?_
            exact v_iret dX7_span_125 rfl (by first | (exfalso; omega) | (rw [e1, show 12 * y + m - 1 + rM = y * 12 + m - 1 + rM by omega]; exact hQd _ _ _ h7 h8 (by omega) rM eM))
          · refine v_iload_n dX7_span_73 rfl ?_
            refine v_if_ne 86 dX7_span_74 (fun h_74 => ?_) (fun h_74 => ?_)
            · refine v_lload dX7_span_86 rfl ?_
              refine v_ldc2 (12) dX7_span_88 kl_X7_110 ?_
              refine v_lremK dX7_span_91 (fun r_91 e_91 => ?_)
              refine v_l2i dX7_span_92 ?_
              exact v_iret dX7_span_93 rfl (by first | (exfalso; omega) | exact hQm _ _ _ h7 h8 (by omega) rM _ eM (Or.inl ⟨by omega, e_82⟩) | exact hQm _ _ _ h7 h8 (by omega) rM _ eM (Or.inr ⟨by omega, e_91⟩))
            · refine v_lload dX7_span_77 rfl ?_
              refine v_ldc2 (12) dX7_span_79 kl_X7_110 ?_
              refine v_ldivK dX7_span_82 (fun r_82 e_82 => ?_)
              refine v_goto 92 dX7_span_83 ?_
              refine v_l2i dX7_span_92 ?_
              exact v_iret dX7_span_93 rfl (by first | (exfalso; omega) | exact hQm _ _ _ h7 h8 (by omega) rM _ eM (Or.inl ⟨by omega, e_82⟩) | exact hQm _ _ _ h7 h8 (by omega) rM _ eM (Or.inr ⟨by omega, e_91⟩))
        · refine v_iconst dX7_span_46 ?_
          exact v_iret dX7_span_47 rfl (by first | (exfalso; omega) | exact hQ2 _ h7 h8 (by omega))
      · refine v_iconst dX7_span_31 ?_
        refine v_goto 36 dX7_span_32 ?_
        refine v_put dX7_span_36 f_X7_41 (by first | exact h0 | exact aup_s | exact (aup_n nz0).trans h1 | exact (aup_n nz1).trans h2 | exact (aup_n nz0.symm).trans aup_s | exact (aup_n nz0).trans ((aup_n nz0).trans h1) | exact (aup_n nz1).trans ((aup_n nz1).trans h2)) rfl rfl (Nat.le_of_ble_eq_true rfl) ?_
        try rw [aup_up]
        refine v_aload_n dX7_span_39 rfl ?_
        refine v_get dX7_span_40 f_X7_41 (by first | exact h0 | exact aup_s | exact (aup_n nz0).trans h1 | exact (aup_n nz1).trans h2 | exact (aup_n nz0.symm).trans aup_s | exact (aup_n nz0).trans ((aup_n nz0).trans h1) | exact (aup_n nz1).trans ((aup_n nz1).trans h2)) rfl ?_
        refine v_if_le 48 dX7_span_43 (fun h_43 => ?_) (fun h_43 => ?_)
        · refine v_aload_n dX7_span_48 rfl ?_
          refine v_aload_n dX7_span_49 rfl ?_
          refine v_get dX7_span_50 f_X7_7 (by first | exact h0 | exact aup_s | exact (aup_n nz0).trans h1 | exact (aup_n nz1).trans h2 | exact (aup_n nz0.symm).trans aup_s | exact (aup_n nz0).trans ((aup_n nz0).trans h1) | exact (aup_n nz1).trans ((aup_n nz1).trans h2)) rfl ?_
          refine v_iload_n dX7_span_53 rfl ?_
          refine v_lald dX7_span_54 (by first | exact h0 | exact aup_s | exact (aup_n nz0).trans h1 | exact (aup_n nz1).trans h2 | exact (aup_n nz0.symm).trans aup_s | exact (aup_n nz0).trans ((aup_n nz0).trans h1) | exact (aup_n nz1).trans ((aup_n nz1).trans h2)) ?_
          refine v_lconst0 dX7_span_55 ?_
          refine v_aload_n dX7_span_56 rfl ?_
          refine v_get dX7_span_57 f_X7_7 (by first | exact h0 | exact aup_s | exact (aup_n nz0).trans h1 | exact (aup_n nz1).trans h2 | exact (aup_n nz0.symm).trans aup_s | exact (aup_n nz0).trans ((aup_n nz0).trans h1) | exact (aup_n nz1).trans ((aup_n nz1).trans h2)) rfl ?_
          refine v_iload_n dX7_span_60 rfl ?_
          refine v_lald dX7_span_61 (by first | exact h0 | exact aup_s | exact (aup_n nz0).trans h1 | exact (aup_n nz1).trans h2 | exact (aup_n nz0.symm).trans aup_s | exact (aup_n nz0).trans ((aup_n nz0).trans h1) | exact (aup_n nz1).trans ((aup_n nz1).trans h2)) ?_
          refine v_lconst0 dX7_span_62 ?_
          refine v_V4 (rm' := rX7_monthsTo) (RX7, TX7, 18) dX7_span_63 km_X7_202 kn_X7_monthsTo kv_X7_monthsTo kz_X7 mk_X7_monthsTo rfl rfl (by first | exact h0 | exact aup_s | exact (aup_n nz0).trans h1 | exact (aup_n nz1).trans h2 | exact (aup_n nz0.symm).trans aup_s | exact (aup_n nz0).trans ((aup_n nz0).trans h1) | exact (aup_n nz1).trans ((aup_n nz1).trans h2)) ⟨Nat.le_of_ble_eq_true rfl, Nat.le_of_ble_eq_true rfl⟩ ⟨Nat.le_of_ble_eq_true rfl, Nat.le_of_ble_eq_true rfl⟩ (Nat.le_of_ble_eq_true rfl) ?_
          refine s_X7_monthsTo hst aup_s (by omega) (by omega) hy hm hd e0.symm hy' hm' hd' e1.symm (fun rM eM => ?_)
          rw [aup_up]
          have hMr : -400000 ≤ rM ∧ rM ≤ 400000 := (by unfold monE at eM; omega)
          refine v_lstore dX7_span_66 (by decide) ?_
          refine v_iload_n dX7_span_68 rfl ?_
          refine v_iconst dX7_span_69 ?_
          refine v_icmp_ge 94 dX7_span_70 (fun h_70 => ?_) (fun h_70 => ?_)
          · refine v_aload_n dX7_span_94 rfl ?_
            refine v_get dX7_span_95 f_X7_7 (by first | exact h0 | exact aup_s | exact (aup_n nz0).trans h1 | exact (aup_n nz1).trans h2 | exact (aup_n nz0.symm).trans aup_s | exact (aup_n nz0).trans ((aup_n nz0).trans h1) | exact (aup_n nz1).trans ((aup_n nz1).trans h2)) rfl ?_
            refine v_iload_n dX7_span_98 rfl ?_
            refine v_lald dX7_span_99 (by first | exact h0 | exact aup_s | exact (aup_n nz0).trans h1 | exact (aup_n nz1).trans h2 | exact (aup_n nz0.symm).trans aup_s | exact (aup_n nz0).trans ((aup_n nz0).trans h1) | exact (aup_n nz1).trans ((aup_n nz1).trans h2)) ?_
            refine v_aload_n dX7_span_100 rfl ?_
            refine v_aload_n dX7_span_101 rfl ?_
            refine v_get dX7_span_102 f_X7_7 (by first | exact h0 | exact aup_s | exact (aup_n nz0).trans h1 | exact (aup_n nz1).trans h2 | exact (aup_n nz0.symm).trans aup_s | exact (aup_n nz0).trans ((aup_n nz0).trans h1) | exact (aup_n nz1).trans ((aup_n nz1).trans h2)) rfl ?_
            refine v_iload_n dX7_span_105 rfl ?_
            refine v_lald dX7_span_106 (by first | exact h0 | exact aup_s | exact (aup_n nz0).trans h1 | exact (aup_n nz1).trans h2 | exact (aup_n nz0.symm).trans aup_s | exact (aup_n nz0).trans ((aup_n nz0).trans h1) | exact (aup_n nz1).trans ((aup_n nz1).trans h2)) ?_
            refine v_aload_n dX7_span_107 rfl ?_
            refine v_aload_n dX7_span_108 rfl ?_
            refine v_get dX7_span_109 f_X7_7 (by first | exact h0 | exact aup_s | exact (aup_n nz0).trans h1 | exact (aup_n nz1).trans h2 | exact (aup_n nz0.symm).trans aup_s | exact (aup_n nz0).trans ((aup_n nz0).trans h1) | exact (aup_n nz1).trans ((aup_n nz1).trans h2)) rfl ?_
            refine v_iload_n dX7_span_112 rfl ?_
            refine v_lald dX7_span_113 (by first | exact h0 | exact aup_s | exact (aup_n nz0).trans h1 | exact (aup_n nz1).trans h2 | exact (aup_n nz0.symm).trans aup_s | exact (aup_n nz0).trans ((aup_n nz0).trans h1) | exact (aup_n nz1).trans ((aup_n nz1).trans h2)) ?_
            refine v_V1 (rm' := rX7_monthsOf) (RX7, TX7, 18) dX7_span_114 km_X7_191 kn_X7_monthsOf kv_X7_monthsOf kz_X7 mk_X7_monthsOf rfl rfl (by first | exact h0 | exact aup_s | exact (aup_n nz0).trans h1 | exact (aup_n nz1).trans h2 | exact (aup_n nz0.symm).trans aup_s | exact (aup_n nz0).trans ((aup_n nz0).trans h1) | exact (aup_n nz1).trans ((aup_n nz1).trans h2)) ⟨Nat.le_of_ble_eq_true rfl, Nat.le_of_ble_eq_true rfl⟩ ⟨Nat.le_of_ble_eq_true rfl, Nat.le_of_ble_eq_true rfl⟩ (Nat.le_of_ble_eq_true rfl) ?_
            refine s_X7_monthsOf hst aup_s (by omega) (fun y9 m9 d9 hy9 hm9 hd9 he9 => ?_)
            obtain ⟨x1, x2, x3⟩ := ed_inj hm hd hm9 hd9 (e0.symm.trans he9.symm)
            subst x1 x2 x3
            rw [aup_up]
            refine v_lload dX7_span_117 rfl ?_
            refine v_ladd dX7_span_119 ?_
            refine v_V2 (rm' := rX7_monthly) (RX7, TX7, 18) dX7_span_120 km_X7_161 kn_X7_monthly kv_X7_monthly kz_X7 mk_X7_monthly rfl rfl (by first | exact h0 | exact aup_s | exact (aup_n nz0).trans h1 | exact (aup_n nz1).trans h2 | exact (aup_n nz0.symm).trans aup_s | exact (aup_n nz0).trans ((aup_n nz0).trans h1) | exact (aup_n nz1).trans ((aup_n nz1).trans h2)) ⟨Nat.le_of_ble_eq_true rfl, Nat.le_of_ble_eq_true rfl⟩ ⟨Nat.le_of_ble_eq_true rfl, Nat.le_of_ble_eq_true rfl⟩ (Nat.le_of_ble_eq_true rfl) ?_
            refine s_X7_monthly hst aup_s (by omega) (by omega) (fun y9 m9 d9 hy9 hm9 hd9 he9 => ?_)
            obtain ⟨x1, x2, x3⟩ := ed_inj hm hd hm9 hd9 (e0.symm.trans he9.symm)
            subst x1 x2 x3
            rw [aup_up]
            refine v_lsub dX7_span_123 ?_
            refine v_l2i dX7_span_124 ?_
            exact v_iret dX7_span_125 rfl (by first | (exfalso; omega) | (rw [e1, show 12 * y + m - 1 + rM = y * 12 + m - 1 + rM by omega]; exact hQd _ _ _ h7 h8 (by omega) rM eM))
          · refine v_iload_n dX7_span_73 rfl ?_
            refine v_if_ne 86 dX7_span_74 (fun h_74 => ?_) (fun h_74 => ?_)
            · refine v_lload dX7_span_86 rfl ?_
              refine v_ldc2 (12) dX7_span_88 kl_X7_110 ?_
              refine v_lremK dX7_span_91 (fun r_91 e_91 => ?_)
              refine v_l2i dX7_span_92 ?_
              exact v_iret dX7_span_93 rfl (by first | (exfalso; omega) | exact hQm _ _ _ h7 h8 (by omega) rM _ eM (Or.inl ⟨by omega, e_82⟩) | exact hQm _ _ _ h7 h8 (by omega) rM _ eM (Or.inr ⟨by omega, e_91⟩))
            · refine v_lload dX7_span_77 rfl ?_
              refine v_ldc2 (12) dX7_span_79 kl_X7_110 ?_
              refine v_ldivK dX7_span_82 (fun r_82 e_82 => ?_)
              refine v_goto 92 dX7_span_83 ?_
              refine v_l2i dX7_span_92 ?_
              exact v_iret dX7_span_93 rfl (by first | (exfalso; omega) | exact hQm _ _ _ h7 h8 (by omega) rM _ eM (Or.inl ⟨by omega, e_82⟩) | exact hQm _ _ _ h7 h8 (by omega) rM _ eM (Or.inr ⟨by omega, e_91⟩))
        · refine v_iconst dX7_span_46 ?_
          exact v_iret dX7_span_47 rfl (by first | (exfalso; omega) | exact hQ2 _ h7 h8 (by omega))
    · rw [aup_up]
      refine v_if_ne 18 dX7_span_13 (fun h_13 => ?_) (fun h_13 => ?_)
      · (exfalso; omega)
      refine v_iconst dX7_span_16 ?_
      exact v_iret dX7_span_17 rfl (by exact hQI _ (by omega))
  · refine v_if_eq 16 dX7_span_5 (fun h_5 => ?_) (fun h_5 => ?_)
    rotate_left
    · (exfalso; omega)
    refine v_iconst dX7_span_16 ?_
    exact v_iret dX7_span_17 rfl (by exact hQI _ (by omega))
