def mdC (A : Nat → Nat) (th yr mo da ty ap wr sz : Int) : va_E := .inr (6, [.int (iI th), .ref (A 0), .ref (A 1), .long (lI yr), .int (iI mo), .int (iI da), .ref (A 2), .ref (A 3), .ref (A 4), .ref (A 5), .ref (A 6), .ref (A 7), .ref (A 8), .int (iI ty), .int (iI ap), .int (iI wr), .ref (A 9), .int (iI sz)])
theorem mdal {G : GG} {A : Nat → Nat} {th yr mo da ty ap wr sz : Int} {n : Nat} {g : Nat → Int} : mdC A th yr mo da ty ap wr sz ≠ alA G n g := by
  intro h
  unfold mdC alA at h
  exact nomatch h
theorem mdai {G : GG} {A : Nat → Nat} {th yr mo da ty ap wr sz : Int} {n : Nat} {g : Nat → Int} : mdC A th yr mo da ty ap wr sz ≠ aiA G n g := by
  intro h
  unfold mdC aiA at h
  exact nomatch h
theorem gup_id {g : Nat → Int} {k : Nat} : gup g k (g k) = g := by
  funext j
  unfold gup
  split
  · rename_i h; rw [h]
  · rfl
theorem ed_big {y m d : Int} (hm : 1 ≤ m ∧ m ≤ 12) (hd : 1 ≤ d ∧ d ≤ lenM y m) (he : -100000000 ≤ ed y m d ∧ ed y m d ≤ 100000000) : -1000000 ≤ y ∧ y ≤ 1000000 := by
  have h := ed_yr hm hd
  unfold dby at h
  omega
set_option maxRecDepth 100000 in
set_option maxHeartbeats 4000000 in
theorem s_X7_thrown {l : Launch} {G : GG} {w : AH} {Q : Option Value → AH → Prop} {X : String → AH → Prop} (hst : l.stackTraces = false) {z : Nat} {A : Nat → Nat} {th yq mq dq ty ap wr sz : Int} (h0 : w z = some (mdC A th yq mq dq ty ap wr sz)) (hQ : Q (some (.int (iI th))) w) : Ct l G mX7_thrown rX7_thrown [.ref z] w Q X := by
  refine ct_of hst mk_X7_thrown (Nat.le_of_ble_eq_true rfl) ?_
  refine v_aload_n dX7_thrown_0 rfl ?_
  refine v_get dX7_thrown_1 f_X7_41 (by first | exact h0 | exact aup_s) rfl ?_
  exact v_iret dX7_thrown_4 rfl (by exact hQ)
set_option maxRecDepth 100000 in
set_option maxHeartbeats 4000000 in
theorem s_X7_tell {l : Launch} {G : GG} {w : AH} {Q : Option Value → AH → Prop} {X : String → AH → Prop} (hst : l.stackTraces = false) {z : Nat} {A : Nat → Nat} {th yq mq dq ty ap wr sz : Int} (h0 : w z = some (mdC A th yq mq dq ty ap wr sz)) {e : Int} (he : -100000000 ≤ e ∧ e ≤ 100000000) (hQ : ∀ y m d : Int, (-1000000 ≤ y ∧ y ≤ 1000000) → (1 ≤ m ∧ m ≤ 12) → (1 ≤ d ∧ d ≤ lenM y m) → ed y m d = e →  Q none (aup w z (mdC A th y m d ty ap wr sz))) : Ct l G mX7_tell rX7_tell [.ref z, .long (lI e)] w Q X := by
  refine ct_of hst mk_X7_tell (Nat.le_of_ble_eq_true rfl) ?_
  refine v_lload_n dX7_tell_0 rfl ?_
  refine v_ldc2 (719468) dX7_tell_1 kl_X7_72 ?_
  refine v_ladd dX7_tell_4 ?_
  refine v_lstore_n dX7_tell_5 (by decide) ?_
  refine v_lload_n dX7_tell_6 rfl ?_
  refine v_ldc2 (146097) dX7_tell_7 kl_X7_68 ?_
  refine v_S2 (rm' := rX7_floor) dX7_tell_10 km_X7_59 ks_X7_floor kz_X7 mk_X7_floor rfl ⟨Nat.le_of_ble_eq_true rfl, Nat.le_of_ble_eq_true rfl⟩ ⟨Nat.le_of_ble_eq_true rfl, Nat.le_of_ble_eq_true rfl⟩ (Nat.le_of_ble_eq_true rfl) ?_
  refine s_X7_floor hst ?_
  generalize hP : (e + 719468) / 146097 = P
  refine v_lstore dX7_tell_13 (by decide) ?_
  refine v_lload_n dX7_tell_15 rfl ?_
  refine v_ldc2 (146097) dX7_tell_16 kl_X7_68 ?_
  refine v_lload dX7_tell_19 rfl ?_
  refine v_lmul dX7_tell_21 ?_
  refine v_lsub dX7_tell_22 ?_
  generalize ht : e + 719468 - 146097 * P = t
  have htr : 0 ≤ t ∧ t ≤ 146096 := (by omega)
  obtain ⟨q, hq, hqr, hq1, hq2⟩ := fI_k htr
  refine v_lstore dX7_tell_23 (by decide) ?_
  refine v_lload dX7_tell_25 rfl ?_
  refine v_lload dX7_tell_27 rfl ?_
  refine v_ldc2 (1460) dX7_tell_29 kl_X7_74 ?_
  refine v_ldivP dX7_tell_32 ?_
  refine v_lsub dX7_tell_33 ?_
  refine v_lload dX7_tell_34 rfl ?_
  refine v_ldc2 (36524) dX7_tell_36 kl_X7_76 ?_
  refine v_ldivP dX7_tell_39 ?_
  refine v_ladd dX7_tell_40 ?_
  refine v_lload dX7_tell_41 rfl ?_
  refine v_ldc2 (146096) dX7_tell_43 kl_X7_78 ?_
  refine v_ldivP dX7_tell_46 ?_
  refine v_lsub dX7_tell_47 ?_
  refine v_ldc2 (365) dX7_tell_48 kl_X7_70 ?_
  refine v_ldivP dX7_tell_51 ?_
  rw [hq]
  refine v_lstore dX7_tell_52 (by decide) ?_
  refine v_lload dX7_tell_54 rfl ?_
  refine v_ldc2 (365) dX7_tell_56 kl_X7_70 ?_
  refine v_lload dX7_tell_59 rfl ?_
  refine v_lmul dX7_tell_61 ?_
  refine v_lload dX7_tell_62 rfl ?_
  refine v_ldc2 (4) dX7_tell_64 kl_X7_45 ?_
  refine v_ldivP dX7_tell_67 ?_
  refine v_ladd dX7_tell_68 ?_
  refine v_lload dX7_tell_69 rfl ?_
  refine v_ldc2 (100) dX7_tell_71 kl_X7_51 ?_
  refine v_ldivP dX7_tell_74 ?_
  refine v_lsub dX7_tell_75 ?_
  refine v_lsub dX7_tell_76 ?_
  generalize hs : t - (365 * q + q / 4 - q / 100) = s
  have tk := tell_ok hP.symm ht.symm hq.symm hs.symm rfl
  have hsr := tk.2.1
  refine v_lstore dX7_tell_77 (by decide) ?_
  refine v_ldc2 (5) dX7_tell_79 kl_X7_66 ?_
  refine v_lload dX7_tell_82 rfl ?_
  refine v_lmul dX7_tell_84 ?_
  refine v_ldc2 (2) dX7_tell_85 kl_X7_64 ?_
  refine v_ladd dX7_tell_88 ?_
  refine v_ldc2 (153) dX7_tell_89 kl_X7_62 ?_
  refine v_ldivP dX7_tell_92 ?_
  generalize hm : (5 * s + 2) / 153 = m at tk ⊢
  have hmr : 0 ≤ m ∧ m ≤ 11 := (by omega)
  clear hq1 hq2 hs hq
  refine v_l2i dX7_tell_93 ?_
  refine v_istore dX7_tell_94 (by decide) ?_
  refine v_aload_n dX7_tell_96 rfl ?_
  refine v_lload dX7_tell_97 rfl ?_
  refine v_ldc2 (153) dX7_tell_99 kl_X7_62 ?_
  refine v_iload dX7_tell_102 rfl ?_
  refine v_i2l dX7_tell_104 ?_
  refine v_lmul dX7_tell_105 ?_
  refine v_ldc2 (2) dX7_tell_106 kl_X7_64 ?_
  refine v_ladd dX7_tell_109 ?_
  refine v_ldc2 (5) dX7_tell_110 kl_X7_66 ?_
  refine v_ldivP dX7_tell_113 ?_
  refine v_lsub dX7_tell_114 ?_
  refine v_l2i dX7_tell_115 ?_
  refine v_iconst dX7_tell_116 ?_
  refine v_iadd dX7_tell_117 ?_
  refine v_put dX7_tell_118 f_X7_80 (by first | exact h0 | exact aup_s) rfl rfl (Nat.le_of_ble_eq_true rfl) ?_
  refine v_aload_n dX7_tell_121 rfl ?_
  refine v_iload dX7_tell_122 rfl ?_
  refine v_bipush dX7_tell_124 ?_
  refine v_icmp_ge 136 dX7_tell_126 (fun h_126 => ?_) (fun h_126 => ?_)
  · refine v_iload dX7_tell_136 rfl ?_
    refine v_bipush dX7_tell_138 ?_
    refine v_isub dX7_tell_140 ?_
    refine v_put dX7_tell_141 f_X7_83 (by first | exact h0 | exact aup_s) rfl rfl (Nat.le_of_ble_eq_true rfl) ?_
    refine v_aload_n dX7_tell_144 rfl ?_
    refine v_ldc2 (400) dX7_tell_145 kl_X7_53 ?_
    refine v_lload dX7_tell_148 rfl ?_
    refine v_lmul dX7_tell_150 ?_
    refine v_lload dX7_tell_151 rfl ?_
    refine v_ladd dX7_tell_153 ?_
    refine v_aload_n dX7_tell_154 rfl ?_
    refine v_get dX7_tell_155 f_X7_83 (by first | exact h0 | exact aup_s) rfl ?_
    refine v_iconst dX7_tell_158 ?_
    refine v_icmp_ge 166 dX7_tell_159 (fun h_159 => ?_) (fun h_159 => ?_)
    · refine v_lconst0 dX7_tell_166 ?_
      refine v_ladd dX7_tell_167 ?_
      refine v_put dX7_tell_168 f_X7_86 (by first | exact h0 | exact aup_s) rfl rfl (Nat.le_of_ble_eq_true rfl) ?_
      exact v_vret dX7_tell_171 rfl (by first | (exfalso; omega) | (rw [aup_up, aup_up]; obtain ⟨k1, k2, k3⟩ := tk.2.2.1 (by omega); exact hQ _ _ _ (ed_big (by omega) k2 (by rw [k3]; exact he)) (by omega) k2 k3) | (rw [aup_up, aup_up]; obtain ⟨k1, k2, k3⟩ := tk.2.2.2 (by omega); exact hQ _ _ _ (ed_big (by omega) k2 (by rw [k3]; exact he)) (by omega) k2 k3))
    · refine v_lconst1 dX7_tell_162 ?_
      refine v_goto 167 dX7_tell_163 ?_
      refine v_ladd dX7_tell_167 ?_
      refine v_put dX7_tell_168 f_X7_86 (by first | exact h0 | exact aup_s) rfl rfl (Nat.le_of_ble_eq_true rfl) ?_
      exact v_vret dX7_tell_171 rfl (by first | (exfalso; omega) | (rw [aup_up, aup_up]; obtain ⟨k1, k2, k3⟩ := tk.2.2.1 (by omega); exact hQ _ _ _ (ed_big (by omega) k2 (by rw [k3]; exact he)) (by omega) k2 k3) | (rw [aup_up, aup_up]; obtain ⟨k1, k2, k3⟩ := tk.2.2.2 (by omega); exact hQ _ _ _ (ed_big (by omega) k2 (by rw [k3]; exact he)) (by omega) k2 k3))
  · refine v_iload dX7_tell_129 rfl ?_
    refine v_iconst dX7_tell_131 ?_
    refine v_iadd dX7_tell_132 ?_
    refine v_goto 141 dX7_tell_133 ?_
    refine v_put dX7_tell_141 f_X7_83 (by first | exact h0 | exact aup_s) rfl rfl (Nat.le_of_ble_eq_true rfl) ?_
    refine v_aload_n dX7_tell_144 rfl ?_
    refine v_ldc2 (400) dX7_tell_145 kl_X7_53 ?_
    refine v_lload dX7_tell_148 rfl ?_
    refine v_lmul dX7_tell_150 ?_
    refine v_lload dX7_tell_151 rfl ?_
    refine v_ladd dX7_tell_153 ?_
    refine v_aload_n dX7_tell_154 rfl ?_
    refine v_get dX7_tell_155 f_X7_83 (by first | exact h0 | exact aup_s) rfl ?_
    refine v_iconst dX7_tell_158 ?_
    refine v_icmp_ge 166 dX7_tell_159 (fun h_159 => ?_) (fun h_159 => ?_)
    · refine v_lconst0 dX7_tell_166 ?_
      refine v_ladd dX7_tell_167 ?_
      refine v_put dX7_tell_168 f_X7_86 (by first | exact h0 | exact aup_s) rfl rfl (Nat.le_of_ble_eq_true rfl) ?_
      exact v_vret dX7_tell_171 rfl (by first | (exfalso; omega) | (rw [aup_up, aup_up]; obtain ⟨k1, k2, k3⟩ := tk.2.2.1 (by omega); exact hQ _ _ _ (ed_big (by omega) k2 (by rw [k3]; exact he)) (by omega) k2 k3) | (rw [aup_up, aup_up]; obtain ⟨k1, k2, k3⟩ := tk.2.2.2 (by omega); exact hQ _ _ _ (ed_big (by omega) k2 (by rw [k3]; exact he)) (by omega) k2 k3))
    · refine v_lconst1 dX7_tell_162 ?_
      refine v_goto 167 dX7_tell_163 ?_
      refine v_ladd dX7_tell_167 ?_
      refine v_put dX7_tell_168 f_X7_86 (by first | exact h0 | exact aup_s) rfl rfl (Nat.le_of_ble_eq_true rfl) ?_
      exact v_vret dX7_tell_171 rfl (by first | (exfalso; omega) | (rw [aup_up, aup_up]; obtain ⟨k1, k2, k3⟩ := tk.2.2.1 (by omega); exact hQ _ _ _ (ed_big (by omega) k2 (by rw [k3]; exact he)) (by omega) k2 k3) | (rw [aup_up, aup_up]; obtain ⟨k1, k2, k3⟩ := tk.2.2.2 (by omega); exact hQ _ _ _ (ed_big (by omega) k2 (by rw [k3]; exact he)) (by omega) k2 k3))
set_option maxRecDepth 100000 in
set_option maxHeartbeats 4000000 in
theorem s_X7_monthsOf {l : Launch} {G : GG} {w : AH} {Q : Option Value → AH → Prop} {X : String → AH → Prop} (hst : l.stackTraces = false) {z : Nat} {A : Nat → Nat} {th yq mq dq ty ap wr sz : Int} (h0 : w z = some (mdC A th yq mq dq ty ap wr sz)) {e : Int} (he : -100000000 ≤ e ∧ e ≤ 100000000) (hQ : ∀ y m d : Int, (-1000000 ≤ y ∧ y ≤ 1000000) → (1 ≤ m ∧ m ≤ 12) → (1 ≤ d ∧ d ≤ lenM y m) → ed y m d = e →  Q (some (.long (lI (12 * y + m - 1)))) (aup w z (mdC A th y m d ty ap wr sz))) : Ct l G mX7_monthsOf rX7_monthsOf [.ref z, .long (lI e)] w Q X := by
  refine ct_of hst mk_X7_monthsOf (Nat.le_of_ble_eq_true rfl) ?_
  refine v_aload_n dX7_monthsOf_0 rfl ?_
  refine v_lload_n dX7_monthsOf_1 rfl ?_
  refine v_V1 (rm' := rX7_tell) (RX7, TX7, 18) dX7_monthsOf_2 km_X7_106 kn_X7_tell kv_X7_tell kz_X7 mk_X7_tell rfl rfl (by first | exact h0 | exact aup_s) ⟨Nat.le_of_ble_eq_true rfl, Nat.le_of_ble_eq_true rfl⟩ ⟨Nat.le_of_ble_eq_true rfl, Nat.le_of_ble_eq_true rfl⟩ (Nat.le_of_ble_eq_true rfl) ?_
  refine s_X7_tell hst h0 (by omega) (fun y m d hy hm hd he9 => ?_)
  refine v_ldc2 (12) dX7_monthsOf_5 kl_X7_110 ?_
  refine v_aload_n dX7_monthsOf_8 rfl ?_
  refine v_get dX7_monthsOf_9 f_X7_86 (by first | exact h0 | exact aup_s) rfl ?_
  refine v_lmul dX7_monthsOf_12 ?_
  refine v_aload_n dX7_monthsOf_13 rfl ?_
  refine v_get dX7_monthsOf_14 f_X7_83 (by first | exact h0 | exact aup_s) rfl ?_
  refine v_i2l dX7_monthsOf_17 ?_
  refine v_ladd dX7_monthsOf_18 ?_
  refine v_lconst1 dX7_monthsOf_19 ?_
  refine v_lsub dX7_monthsOf_20 ?_
  exact v_lret dX7_monthsOf_21 rfl (by exact hQ y m d hy hm hd he9)
set_option maxRecDepth 100000 in
set_option maxHeartbeats 4000000 in
theorem s_X7_monthly {l : Launch} {G : GG} {w : AH} {Q : Option Value → AH → Prop} {X : String → AH → Prop} (hst : l.stackTraces = false) {z : Nat} {A : Nat → Nat} {th yq mq dq ty ap wr sz : Int} (h0 : w z = some (mdC A th yq mq dq ty ap wr sz)) {e t : Int} (he : -100000000 ≤ e ∧ e ≤ 100000000) (ht : -1000000000 ≤ t ∧ t ≤ 1000000000) (hQ : ∀ y m d : Int, (-1000000 ≤ y ∧ y ≤ 1000000) → (1 ≤ m ∧ m ≤ 12) → (1 ≤ d ∧ d ≤ lenM y m) → ed y m d = e →  Q (some (.long (lI (monT t d)))) (aup w z (mdC A th y m d ty ap wr sz))) : Ct l G mX7_monthly rX7_monthly [.ref z, .long (lI e), .long (lI t)] w Q X := by
  refine ct_of hst mk_X7_monthly (Nat.le_of_ble_eq_true rfl) ?_
  refine v_aload_n dX7_monthly_0 rfl ?_
  refine v_lload_n dX7_monthly_1 rfl ?_
  refine v_V1 (rm' := rX7_tell) (RX7, TX7, 18) dX7_monthly_2 km_X7_106 kn_X7_tell kv_X7_tell kz_X7 mk_X7_tell rfl rfl (by first | exact h0 | exact aup_s) ⟨Nat.le_of_ble_eq_true rfl, Nat.le_of_ble_eq_true rfl⟩ ⟨Nat.le_of_ble_eq_true rfl, Nat.le_of_ble_eq_true rfl⟩ (Nat.le_of_ble_eq_true rfl) ?_
  refine s_X7_tell hst h0 (by omega) (fun y m d hy hm hd he9 => ?_)
  have hl1 := lenM_rng y m
  have hl2 := lenM_rng (t / 12) (t % 12 + 1)
  refine v_lload_n dX7_monthly_5 rfl ?_
  refine v_ldc2 (12) dX7_monthly_6 kl_X7_110 ?_
  refine v_S2 (rm' := rX7_floor) dX7_monthly_9 km_X7_59 ks_X7_floor kz_X7 mk_X7_floor rfl ⟨Nat.le_of_ble_eq_true rfl, Nat.le_of_ble_eq_true rfl⟩ ⟨Nat.le_of_ble_eq_true rfl, Nat.le_of_ble_eq_true rfl⟩ (Nat.le_of_ble_eq_true rfl) ?_
  refine s_X7_floor hst ?_
  refine v_lstore dX7_monthly_12 (by decide) ?_
  refine v_lload_n dX7_monthly_14 rfl ?_
  refine v_ldc2 (12) dX7_monthly_15 kl_X7_110 ?_
  refine v_S2 (rm' := rX7_rest) dX7_monthly_18 km_X7_47 ks_X7_rest kz_X7 mk_X7_rest rfl ⟨Nat.le_of_ble_eq_true rfl, Nat.le_of_ble_eq_true rfl⟩ ⟨Nat.le_of_ble_eq_true rfl, Nat.le_of_ble_eq_true rfl⟩ (Nat.le_of_ble_eq_true rfl) ?_
  refine s_X7_rest hst ?_
  refine v_l2i dX7_monthly_21 ?_
  refine v_iconst dX7_monthly_22 ?_
  refine v_iadd dX7_monthly_23 ?_
  refine v_istore dX7_monthly_24 (by decide) ?_
  refine v_lload dX7_monthly_26 rfl ?_
  refine v_iload dX7_monthly_28 rfl ?_
  refine v_S2 (rm' := rX7_length) dX7_monthly_30 km_X7_112 ks_X7_length kz_X7 mk_X7_length rfl ⟨Nat.le_of_ble_eq_true rfl, Nat.le_of_ble_eq_true rfl⟩ ⟨Nat.le_of_ble_eq_true rfl, Nat.le_of_ble_eq_true rfl⟩ (Nat.le_of_ble_eq_true rfl) ?_
  refine s_X7_length hst ?_
  refine v_istore dX7_monthly_33 (by decide) ?_
  refine v_lload dX7_monthly_35 rfl ?_
  refine v_iload dX7_monthly_37 rfl ?_
  refine v_aload_n dX7_monthly_39 rfl ?_
  refine v_get dX7_monthly_40 f_X7_80 (by first | exact h0 | exact aup_s) rfl ?_
  refine v_iload dX7_monthly_43 rfl ?_
  refine v_icmp_ge 55 dX7_monthly_45 (fun h_45 => ?_) (fun h_45 => ?_)
  · refine v_iload dX7_monthly_55 rfl ?_
    refine v_S3 (rm' := rX7_dayOf) dX7_monthly_57 km_X7_96 ks_X7_dayOf kz_X7 mk_X7_dayOf rfl ⟨Nat.le_of_ble_eq_true rfl, Nat.le_of_ble_eq_true rfl⟩ ⟨Nat.le_of_ble_eq_true rfl, Nat.le_of_ble_eq_true rfl⟩ (Nat.le_of_ble_eq_true rfl) ?_
    refine s_X7_dayOf hst ?_
    exact v_lret dX7_monthly_60 rfl (by first | exact ql (hQ y m d hy hm hd he9) (by unfold monT; rw [if_pos (by omega)]) | (refine ql (hQ y m d hy hm hd he9) ?_; unfold monT; by_cases e8 : d ≤ lenM (t / 12) (t % 12 + 1); (rw [if_pos e8, show lenM (t / 12) (t % 12 + 1) = d by omega]); (rw [if_neg e8])))
  · refine v_aload_n dX7_monthly_48 rfl ?_
    refine v_get dX7_monthly_49 f_X7_80 (by first | exact h0 | exact aup_s) rfl ?_
    refine v_goto 57 dX7_monthly_52 ?_
    refine v_S3 (rm' := rX7_dayOf) dX7_monthly_57 km_X7_96 ks_X7_dayOf kz_X7 mk_X7_dayOf rfl ⟨Nat.le_of_ble_eq_true rfl, Nat.le_of_ble_eq_true rfl⟩ ⟨Nat.le_of_ble_eq_true rfl, Nat.le_of_ble_eq_true rfl⟩ (Nat.le_of_ble_eq_true rfl) ?_
    refine s_X7_dayOf hst ?_
    exact v_lret dX7_monthly_60 rfl (by first | exact ql (hQ y m d hy hm hd he9) (by unfold monT; rw [if_pos (by omega)]) | (refine ql (hQ y m d hy hm hd he9) ?_; unfold monT; by_cases e8 : d ≤ lenM (t / 12) (t % 12 + 1); (rw [if_pos e8, show lenM (t / 12) (t % 12 + 1) = d by omega]); (rw [if_neg e8])))
set_option maxRecDepth 100000 in
set_option maxHeartbeats 4000000 in
theorem s_X7_isSlot {l : Launch} {G : GG} {w : AH} {Q : Option Value → AH → Prop} {X : String → AH → Prop} (hst : l.stackTraces = false) {z : Nat} {A : Nat → Nat} {th yq mq dq ty ap wr sz : Int} (h0 : w z = some (mdC A th yq mq dq ty ap wr sz)) {i : Int} (hi : -2147483648 ≤ i ∧ i ≤ 2147483647) (hQ1 : (0 ≤ i ∧ i ≤ 7) → Q (some (.int (iI 1))) (aup w z (mdC A 0 yq mq dq ty ap wr sz))) (hQ0 : (i < 0 ∨ 7 < i) → Q (some (.int (iI 0))) (aup w z (mdC A 1 yq mq dq ty ap wr sz))) : Ct l G mX7_isSlot rX7_isSlot [.ref z, .int (iI i)] w Q X := by
  refine ct_of hst mk_X7_isSlot (Nat.le_of_ble_eq_true rfl) ?_
  refine v_aload_n dX7_isSlot_0 rfl ?_
  refine v_iload_n dX7_isSlot_1 rfl ?_
  refine v_i2l dX7_isSlot_2 ?_
  refine v_lconst0 dX7_isSlot_3 ?_
  refine v_ldc2 (7) dX7_isSlot_4 kl_X7_92 ?_
  refine v_S3 (rm' := rX7_in) dX7_isSlot_7 km_X7_102 ks_X7_in kz_X7 mk_X7_in rfl ⟨Nat.le_of_ble_eq_true rfl, Nat.le_of_ble_eq_true rfl⟩ ⟨Nat.le_of_ble_eq_true rfl, Nat.le_of_ble_eq_true rfl⟩ (Nat.le_of_ble_eq_true rfl) ?_
  refine s_X7_in hst (fun ri ei => ?_)
  refine v_if_eq 17 dX7_isSlot_10 (fun h_10 => ?_) (fun h_10 => ?_)
  · refine v_iconst dX7_isSlot_17 ?_
    refine v_put dX7_isSlot_18 f_X7_41 (by first | exact h0 | exact aup_s) rfl rfl (Nat.le_of_ble_eq_true rfl) ?_
    refine v_aload_n dX7_isSlot_21 rfl ?_
    refine v_get dX7_isSlot_22 f_X7_41 (by first | exact h0 | exact aup_s) rfl ?_
    refine v_if_ne 32 dX7_isSlot_25 (fun h_25 => ?_) (fun h_25 => ?_)
    · refine v_iconst dX7_isSlot_32 ?_
      exact v_zret dX7_isSlot_33 rfl (by first | (exfalso; omega) | exact hQ1 (by omega) | exact hQ0 (by omega)) (by first | exact Or.inl rfl | exact Or.inr rfl | omega)
    · refine v_iconst dX7_isSlot_28 ?_
      refine v_goto 33 dX7_isSlot_29 ?_
      exact v_zret dX7_isSlot_33 rfl (by first | (exfalso; omega) | exact hQ1 (by omega) | exact hQ0 (by omega)) (by first | exact Or.inl rfl | exact Or.inr rfl | omega)
  · refine v_iconst dX7_isSlot_13 ?_
    refine v_goto 18 dX7_isSlot_14 ?_
    refine v_put dX7_isSlot_18 f_X7_41 (by first | exact h0 | exact aup_s) rfl rfl (Nat.le_of_ble_eq_true rfl) ?_
    refine v_aload_n dX7_isSlot_21 rfl ?_
    refine v_get dX7_isSlot_22 f_X7_41 (by first | exact h0 | exact aup_s) rfl ?_
    refine v_if_ne 32 dX7_isSlot_25 (fun h_25 => ?_) (fun h_25 => ?_)
    · refine v_iconst dX7_isSlot_32 ?_
      exact v_zret dX7_isSlot_33 rfl (by first | (exfalso; omega) | exact hQ1 (by omega) | exact hQ0 (by omega)) (by first | exact Or.inl rfl | exact Or.inr rfl | omega)
    · refine v_iconst dX7_isSlot_28 ?_
      refine v_goto 33 dX7_isSlot_29 ?_
      exact v_zret dX7_isSlot_33 rfl (by first | (exfalso; omega) | exact hQ1 (by omega) | exact hQ0 (by omega)) (by first | exact Or.inl rfl | exact Or.inr rfl | omega)
set_option maxRecDepth 100000 in
set_option maxHeartbeats 4000000 in
theorem s_X7_date {l : Launch} {G : GG} {w : AH} {Q : Option Value → AH → Prop} {X : String → AH → Prop} (hst : l.stackTraces = false) {z : Nat} {A : Nat → Nat} {th yq mq dq ty ap wr sz : Int} (h0 : w z = some (mdC A th yq mq dq ty ap wr sz)) {gd gn : Nat → Int} (h1 : w (A 0) = some (alA G 8 gd)) (h2 : w (A 1) = some (alA G 8 gn)) (hA01 : A 0 ≠ A 1) {i : Int} (hi : -2147483648 ≤ i ∧ i ≤ 2147483647) (hQI : (i < 0 ∨ 7 < i) → Q none (aup w z (mdC A 1 yq mq dq ty ap wr sz))) {y m d : Int} (hy : -2147483648 ≤ y ∧ y ≤ 2147483647) (hm : -2147483648 ≤ m ∧ m ≤ 2147483647) (hd : -2147483648 ≤ d ∧ d ≤ 2147483647) (hQ2 : (0 ≤ i ∧ i ≤ 7) → ¬ isDt y m d → Q none (aup w z (mdC A 2 yq mq dq ty ap wr sz))) (hQ : (0 ≤ i ∧ i ≤ 7) → isDt y m d → Q none (aup (aup w z (mdC A 0 yq mq dq ty ap wr sz)) (A 0) (alA G 8 (gup gd i.toNat (ed y m d))))) : Ct l G mX7_date rX7_date [(.ref z), .int (iI i), .int (iI y), .int (iI m), .int (iI d)] w Q X := by
  have nz0 : A 0 ≠ z := fun e => ne_of h0 h1 mdal e.symm
  have nz1 : A 1 ≠ z := fun e => ne_of h0 h2 mdal e.symm
  refine ct_of hst mk_X7_date (Nat.le_of_ble_eq_true rfl) ?_
  refine v_aload_n dX7_date_0 rfl ?_
  refine v_iload_n dX7_date_1 rfl ?_
  refine v_V1 (rm' := rX7_isSlot) (RX7, TX7, 18) dX7_date_2 km_X7_120 kn_X7_isSlot kv_X7_isSlot kz_X7 mk_X7_isSlot rfl rfl (by first | exact h0 | exact aup_s | exact (aup_n nz0).trans h1 | exact (aup_n nz1).trans h2 | exact (aup_n nz0.symm).trans aup_s | exact (aup_n nz0).trans ((aup_n nz0).trans h1) | exact (aup_n nz1).trans ((aup_n nz1).trans h2)) ⟨Nat.le_of_ble_eq_true rfl, Nat.le_of_ble_eq_true rfl⟩ ⟨Nat.le_of_ble_eq_true rfl, Nat.le_of_ble_eq_true rfl⟩ (Nat.le_of_ble_eq_true rfl) ?_
  refine s_X7_isSlot hst h0 hi (fun h7 => ?_) (fun h7 => ?_)
  · refine v_if_eq 58 dX7_date_5 (fun h_5 => ?_) (fun h_5 => ?_)
    · exact v_vret dX7_date_58 rfl (by first | (exfalso; omega) | exact hQI (by omega) | (rw [aup_up]; exact hQ (by omega) (by rcases hdt with q | q; exact q.1; omega)) | (rw [gup_id, aup_up, aup_id ((aup_n nz0).trans h1)]; exact hQ2 (by omega) (by rcases hdt with q | q; omega; exact q.1)))
    · refine v_aload_n dX7_date_8 rfl ?_
      refine v_iload_n dX7_date_9 rfl ?_
      refine v_i2l dX7_date_10 ?_
      refine v_iload_n dX7_date_11 rfl ?_
      refine v_iload dX7_date_12 rfl ?_
      refine v_S3 (rm' := rX7_isDate) dX7_date_14 km_X7_124 ks_X7_isDate kz_X7 mk_X7_isDate rfl ⟨Nat.le_of_ble_eq_true rfl, Nat.le_of_ble_eq_true rfl⟩ ⟨Nat.le_of_ble_eq_true rfl, Nat.le_of_ble_eq_true rfl⟩ (Nat.le_of_ble_eq_true rfl) ?_
      refine s_X7_isDate hst (fun rd ed9 => ?_)
      have hdt : (isDt y m d ∧ (-9999 ≤ y ∧ y ≤ 9999) ∧ (1 ≤ m ∧ m ≤ 12) ∧ (1 ≤ d ∧ d ≤ 31) ∧ rd = 1) ∨ (¬ isDt y m d ∧ rd = 0) := (by rcases ed9 with ⟨q1, q2⟩ | ⟨q1, q2⟩; (left; have := lenM_rng y m; have q3 := q1; unfold isDt at q3; exact ⟨q1, by omega, by omega, by omega, q2⟩); (right; exact ⟨q1, q2⟩))
      refine v_if_eq 24 dX7_date_17 (fun h_17 => ?_) (fun h_17 => ?_)
      · refine v_iconst dX7_date_24 ?_
        refine v_put dX7_date_25 f_X7_41 (by first | exact h0 | exact aup_s | exact (aup_n nz0).trans h1 | exact (aup_n nz1).trans h2 | exact (aup_n nz0.symm).trans aup_s | exact (aup_n nz0).trans ((aup_n nz0).trans h1) | exact (aup_n nz1).trans ((aup_n nz1).trans h2)) rfl rfl (Nat.le_of_ble_eq_true rfl) ?_
        refine v_aload_n dX7_date_28 rfl ?_
        refine v_get dX7_date_29 f_X7_7 (by first | exact h0 | exact aup_s | exact (aup_n nz0).trans h1 | exact (aup_n nz1).trans h2 | exact (aup_n nz0.symm).trans aup_s | exact (aup_n nz0).trans ((aup_n nz0).trans h1) | exact (aup_n nz1).trans ((aup_n nz1).trans h2)) rfl ?_
        refine v_iload_n dX7_date_32 rfl ?_
        refine v_aload_n dX7_date_33 rfl ?_
        refine v_get dX7_date_34 f_X7_41 (by first | exact h0 | exact aup_s | exact (aup_n nz0).trans h1 | exact (aup_n nz1).trans h2 | exact (aup_n nz0.symm).trans aup_s | exact (aup_n nz0).trans ((aup_n nz0).trans h1) | exact (aup_n nz1).trans ((aup_n nz1).trans h2)) rfl ?_
        refine v_if_ne 51 dX7_date_37 (fun h_37 => ?_) (fun h_37 => ?_)
        · refine v_aload_n dX7_date_51 rfl ?_
          refine v_get dX7_date_52 f_X7_7 (by first | exact h0 | exact aup_s | exact (aup_n nz0).trans h1 | exact (aup_n nz1).trans h2 | exact (aup_n nz0.symm).trans aup_s | exact (aup_n nz0).trans ((aup_n nz0).trans h1) | exact (aup_n nz1).trans ((aup_n nz1).trans h2)) rfl ?_
          refine v_iload_n dX7_date_55 rfl ?_
          refine v_lald dX7_date_56 (by first | exact h0 | exact aup_s | exact (aup_n nz0).trans h1 | exact (aup_n nz1).trans h2 | exact (aup_n nz0.symm).trans aup_s | exact (aup_n nz0).trans ((aup_n nz0).trans h1) | exact (aup_n nz1).trans ((aup_n nz1).trans h2)) ?_
          refine v_last dX7_date_57 (by first | exact h0 | exact aup_s | exact (aup_n nz0).trans h1 | exact (aup_n nz1).trans h2 | exact (aup_n nz0.symm).trans aup_s | exact (aup_n nz0).trans ((aup_n nz0).trans h1) | exact (aup_n nz1).trans ((aup_n nz1).trans h2)) ?_
          exact v_vret dX7_date_58 rfl (by first | (exfalso; omega) | exact hQI (by omega) | (rw [aup_up]; exact hQ (by omega) (by rcases hdt with q | q; exact q.1; omega)) | (rw [gup_id, aup_up, aup_id ((aup_n nz0).trans h1)]; exact hQ2 (by omega) (by rcases hdt with q | q; omega; exact q.1)))
        · refine v_iload_n dX7_date_40 rfl ?_
          refine v_i2l dX7_date_41 ?_
          refine v_iload_n dX7_date_42 rfl ?_
          refine v_iload dX7_date_43 rfl ?_
          refine v_S3 (rm' := rX7_dayOf) dX7_date_45 km_X7_96 ks_X7_dayOf kz_X7 mk_X7_dayOf rfl ⟨Nat.le_of_ble_eq_true rfl, Nat.le_of_ble_eq_true rfl⟩ ⟨Nat.le_of_ble_eq_true rfl, Nat.le_of_ble_eq_true rfl⟩ (Nat.le_of_ble_eq_true rfl) ?_
          refine s_X7_dayOf hst ?_
          refine v_goto 57 dX7_date_48 ?_
          refine v_last dX7_date_57 (by first | exact h0 | exact aup_s | exact (aup_n nz0).trans h1 | exact (aup_n nz1).trans h2 | exact (aup_n nz0.symm).trans aup_s | exact (aup_n nz0).trans ((aup_n nz0).trans h1) | exact (aup_n nz1).trans ((aup_n nz1).trans h2)) ?_
          exact v_vret dX7_date_58 rfl (by first | (exfalso; omega) | exact hQI (by omega) | (rw [aup_up]; exact hQ (by omega) (by rcases hdt with q | q; exact q.1; omega)) | (rw [gup_id, aup_up, aup_id ((aup_n nz0).trans h1)]; exact hQ2 (by omega) (by rcases hdt with q | q; omega; exact q.1)))
      · refine v_iconst dX7_date_20 ?_
        refine v_goto 25 dX7_date_21 ?_
        refine v_put dX7_date_25 f_X7_41 (by first | exact h0 | exact aup_s | exact (aup_n nz0).trans h1 | exact (aup_n nz1).trans h2 | exact (aup_n nz0.symm).trans aup_s | exact (aup_n nz0).trans ((aup_n nz0).trans h1) | exact (aup_n nz1).trans ((aup_n nz1).trans h2)) rfl rfl (Nat.le_of_ble_eq_true rfl) ?_
        refine v_aload_n dX7_date_28 rfl ?_
        refine v_get dX7_date_29 f_X7_7 (by first | exact h0 | exact aup_s | exact (aup_n nz0).trans h1 | exact (aup_n nz1).trans h2 | exact (aup_n nz0.symm).trans aup_s | exact (aup_n nz0).trans ((aup_n nz0).trans h1) | exact (aup_n nz1).trans ((aup_n nz1).trans h2)) rfl ?_
        refine v_iload_n dX7_date_32 rfl ?_
        refine v_aload_n dX7_date_33 rfl ?_
        refine v_get dX7_date_34 f_X7_41 (by first | exact h0 | exact aup_s | exact (aup_n nz0).trans h1 | exact (aup_n nz1).trans h2 | exact (aup_n nz0.symm).trans aup_s | exact (aup_n nz0).trans ((aup_n nz0).trans h1) | exact (aup_n nz1).trans ((aup_n nz1).trans h2)) rfl ?_
        refine v_if_ne 51 dX7_date_37 (fun h_37 => ?_) (fun h_37 => ?_)
        · refine v_aload_n dX7_date_51 rfl ?_
          refine v_get dX7_date_52 f_X7_7 (by first | exact h0 | exact aup_s | exact (aup_n nz0).trans h1 | exact (aup_n nz1).trans h2 | exact (aup_n nz0.symm).trans aup_s | exact (aup_n nz0).trans ((aup_n nz0).trans h1) | exact (aup_n nz1).trans ((aup_n nz1).trans h2)) rfl ?_
          refine v_iload_n dX7_date_55 rfl ?_
          refine v_lald dX7_date_56 (by first | exact h0 | exact aup_s | exact (aup_n nz0).trans h1 | exact (aup_n nz1).trans h2 | exact (aup_n nz0.symm).trans aup_s | exact (aup_n nz0).trans ((aup_n nz0).trans h1) | exact (aup_n nz1).trans ((aup_n nz1).trans h2)) ?_
          refine v_last dX7_date_57 (by first | exact h0 | exact aup_s | exact (aup_n nz0).trans h1 | exact (aup_n nz1).trans h2 | exact (aup_n nz0.symm).trans aup_s | exact (aup_n nz0).trans ((aup_n nz0).trans h1) | exact (aup_n nz1).trans ((aup_n nz1).trans h2)) ?_
          exact v_vret dX7_date_58 rfl (by first | (exfalso; omega) | exact hQI (by omega) | (rw [aup_up]; exact hQ (by omega) (by rcases hdt with q | q; exact q.1; omega)) | (rw [gup_id, aup_up, aup_id ((aup_n nz0).trans h1)]; exact hQ2 (by omega) (by rcases hdt with q | q; omega; exact q.1)))
        · refine v_iload_n dX7_date_40 rfl ?_
          refine v_i2l dX7_date_41 ?_
          refine v_iload_n dX7_date_42 rfl ?_
          refine v_iload dX7_date_43 rfl ?_
          refine v_S3 (rm' := rX7_dayOf) dX7_date_45 km_X7_96 ks_X7_dayOf kz_X7 mk_X7_dayOf rfl ⟨Nat.le_of_ble_eq_true rfl, Nat.le_of_ble_eq_true rfl⟩ ⟨Nat.le_of_ble_eq_true rfl, Nat.le_of_ble_eq_true rfl⟩ (Nat.le_of_ble_eq_true rfl) ?_
          refine s_X7_dayOf hst ?_
          refine v_goto 57 dX7_date_48 ?_
          refine v_last dX7_date_57 (by first | exact h0 | exact aup_s | exact (aup_n nz0).trans h1 | exact (aup_n nz1).trans h2 | exact (aup_n nz0.symm).trans aup_s | exact (aup_n nz0).trans ((aup_n nz0).trans h1) | exact (aup_n nz1).trans ((aup_n nz1).trans h2)) ?_
          exact v_vret dX7_date_58 rfl (by first | (exfalso; omega) | exact hQI (by omega) | (rw [aup_up]; exact hQ (by omega) (by rcases hdt with q | q; exact q.1; omega)) | (rw [gup_id, aup_up, aup_id ((aup_n nz0).trans h1)]; exact hQ2 (by omega) (by rcases hdt with q | q; omega; exact q.1)))
  · refine v_if_eq 58 dX7_date_5 (fun h_5 => ?_) (fun h_5 => ?_)
    · exact v_vret dX7_date_58 rfl (by first | (exfalso; omega) | exact hQI (by omega) | (rw [aup_up]; exact hQ (by omega) (by rcases hdt with q | q; exact q.1; omega)) | (rw [gup_id, aup_up, aup_id ((aup_n nz0).trans h1)]; exact hQ2 (by omega) (by rcases hdt with q | q; omega; exact q.1)))
    · refine v_aload_n dX7_date_8 rfl ?_
      refine v_iload_n dX7_date_9 rfl ?_
      refine v_i2l dX7_date_10 ?_
      refine v_iload_n dX7_date_11 rfl ?_
      refine v_iload dX7_date_12 rfl ?_
      refine v_S3 (rm' := rX7_isDate) dX7_date_14 km_X7_124 ks_X7_isDate kz_X7 mk_X7_isDate rfl ⟨Nat.le_of_ble_eq_true rfl, Nat.le_of_ble_eq_true rfl⟩ ⟨Nat.le_of_ble_eq_true rfl, Nat.le_of_ble_eq_true rfl⟩ (Nat.le_of_ble_eq_true rfl) ?_
      refine s_X7_isDate hst (fun rd ed9 => ?_)
      have hdt : (isDt y m d ∧ (-9999 ≤ y ∧ y ≤ 9999) ∧ (1 ≤ m ∧ m ≤ 12) ∧ (1 ≤ d ∧ d ≤ 31) ∧ rd = 1) ∨ (¬ isDt y m d ∧ rd = 0) := (by rcases ed9 with ⟨q1, q2⟩ | ⟨q1, q2⟩; (left; have := lenM_rng y m; have q3 := q1; unfold isDt at q3; exact ⟨q1, by omega, by omega, by omega, q2⟩); (right; exact ⟨q1, q2⟩))
      refine v_if_eq 24 dX7_date_17 (fun h_17 => ?_) (fun h_17 => ?_)
      · refine v_iconst dX7_date_24 ?_
        refine v_put dX7_date_25 f_X7_41 (by first | exact h0 | exact aup_s | exact (aup_n nz0).trans h1 | exact (aup_n nz1).trans h2 | exact (aup_n nz0.symm).trans aup_s | exact (aup_n nz0).trans ((aup_n nz0).trans h1) | exact (aup_n nz1).trans ((aup_n nz1).trans h2)) rfl rfl (Nat.le_of_ble_eq_true rfl) ?_
        refine v_aload_n dX7_date_28 rfl ?_
        refine v_get dX7_date_29 f_X7_7 (by first | exact h0 | exact aup_s | exact (aup_n nz0).trans h1 | exact (aup_n nz1).trans h2 | exact (aup_n nz0.symm).trans aup_s | exact (aup_n nz0).trans ((aup_n nz0).trans h1) | exact (aup_n nz1).trans ((aup_n nz1).trans h2)) rfl ?_
        refine v_iload_n dX7_date_32 rfl ?_
        refine v_aload_n dX7_date_33 rfl ?_
        refine v_get dX7_date_34 f_X7_41 (by first | exact h0 | exact aup_s | exact (aup_n nz0).trans h1 | exact (aup_n nz1).trans h2 | exact (aup_n nz0.symm).trans aup_s | exact (aup_n nz0).trans ((aup_n nz0).trans h1) | exact (aup_n nz1).trans ((aup_n nz1).trans h2)) rfl ?_
        refine v_if_ne 51 dX7_date_37 (fun h_37 => ?_) (fun h_37 => ?_)
        · refine v_aload_n dX7_date_51 rfl ?_
          refine v_get dX7_date_52 f_X7_7 (by first | exact h0 | exact aup_s | exact (aup_n nz0).trans h1 | exact (aup_n nz1).trans h2 | exact (aup_n nz0.symm).trans aup_s | exact (aup_n nz0).trans ((aup_n nz0).trans h1) | exact (aup_n nz1).trans ((aup_n nz1).trans h2)) rfl ?_
          refine v_iload_n dX7_date_55 rfl ?_
          refine v_lald dX7_date_56 (by first | exact h0 | exact aup_s | exact (aup_n nz0).trans h1 | exact (aup_n nz1).trans h2 | exact (aup_n nz0.symm).trans aup_s | exact (aup_n nz0).trans ((aup_n nz0).trans h1) | exact (aup_n nz1).trans ((aup_n nz1).trans h2)) ?_
          refine v_last dX7_date_57 (by first | exact h0 | exact aup_s | exact (aup_n nz0).trans h1 | exact (aup_n nz1).trans h2 | exact (aup_n nz0.symm).trans aup_s | exact (aup_n nz0).trans ((aup_n nz0).trans h1) | exact (aup_n nz1).trans ((aup_n nz1).trans h2)) ?_
          exact v_vret dX7_date_58 rfl (by first | (exfalso; omega) | exact hQI (by omega) | (rw [aup_up]; exact hQ (by omega) (by rcases hdt with q | q; exact q.1; omega)) | (rw [gup_id, aup_up, aup_id ((aup_n nz0).trans h1)]; exact hQ2 (by omega) (by rcases hdt with q | q; omega; exact q.1)))
        · refine v_iload_n dX7_date_40 rfl ?_
          refine v_i2l dX7_date_41 ?_
          refine v_iload_n dX7_date_42 rfl ?_
          refine v_iload dX7_date_43 rfl ?_
          refine v_S3 (rm' := rX7_dayOf) dX7_date_45 km_X7_96 ks_X7_dayOf kz_X7 mk_X7_dayOf rfl ⟨Nat.le_of_ble_eq_true rfl, Nat.le_of_ble_eq_true rfl⟩ ⟨Nat.le_of_ble_eq_true rfl, Nat.le_of_ble_eq_true rfl⟩ (Nat.le_of_ble_eq_true rfl) ?_
          refine s_X7_dayOf hst ?_
          refine v_goto 57 dX7_date_48 ?_
          refine v_last dX7_date_57 (by first | exact h0 | exact aup_s | exact (aup_n nz0).trans h1 | exact (aup_n nz1).trans h2 | exact (aup_n nz0.symm).trans aup_s | exact (aup_n nz0).trans ((aup_n nz0).trans h1) | exact (aup_n nz1).trans ((aup_n nz1).trans h2)) ?_
          exact v_vret dX7_date_58 rfl (by first | (exfalso; omega) | exact hQI (by omega) | (rw [aup_up]; exact hQ (by omega) (by rcases hdt with q | q; exact q.1; omega)) | (rw [gup_id, aup_up, aup_id ((aup_n nz0).trans h1)]; exact hQ2 (by omega) (by rcases hdt with q | q; omega; exact q.1)))
      · refine v_iconst dX7_date_20 ?_
        refine v_goto 25 dX7_date_21 ?_
        refine v_put dX7_date_25 f_X7_41 (by first | exact h0 | exact aup_s | exact (aup_n nz0).trans h1 | exact (aup_n nz1).trans h2 | exact (aup_n nz0.symm).trans aup_s | exact (aup_n nz0).trans ((aup_n nz0).trans h1) | exact (aup_n nz1).trans ((aup_n nz1).trans h2)) rfl rfl (Nat.le_of_ble_eq_true rfl) ?_
        refine v_aload_n dX7_date_28 rfl ?_
        refine v_get dX7_date_29 f_X7_7 (by first | exact h0 | exact aup_s | exact (aup_n nz0).trans h1 | exact (aup_n nz1).trans h2 | exact (aup_n nz0.symm).trans aup_s | exact (aup_n nz0).trans ((aup_n nz0).trans h1) | exact (aup_n nz1).trans ((aup_n nz1).trans h2)) rfl ?_
        refine v_iload_n dX7_date_32 rfl ?_
        refine v_aload_n dX7_date_33 rfl ?_
        refine v_get dX7_date_34 f_X7_41 (by first | exact h0 | exact aup_s | exact (aup_n nz0).trans h1 | exact (aup_n nz1).trans h2 | exact (aup_n nz0.symm).trans aup_s | exact (aup_n nz0).trans ((aup_n nz0).trans h1) | exact (aup_n nz1).trans ((aup_n nz1).trans h2)) rfl ?_
        refine v_if_ne 51 dX7_date_37 (fun h_37 => ?_) (fun h_37 => ?_)
        · refine v_aload_n dX7_date_51 rfl ?_
          refine v_get dX7_date_52 f_X7_7 (by first | exact h0 | exact aup_s | exact (aup_n nz0).trans h1 | exact (aup_n nz1).trans h2 | exact (aup_n nz0.symm).trans aup_s | exact (aup_n nz0).trans ((aup_n nz0).trans h1) | exact (aup_n nz1).trans ((aup_n nz1).trans h2)) rfl ?_
          refine v_iload_n dX7_date_55 rfl ?_
          refine v_lald dX7_date_56 (by first | exact h0 | exact aup_s | exact (aup_n nz0).trans h1 | exact (aup_n nz1).trans h2 | exact (aup_n nz0.symm).trans aup_s | exact (aup_n nz0).trans ((aup_n nz0).trans h1) | exact (aup_n nz1).trans ((aup_n nz1).trans h2)) ?_
          refine v_last dX7_date_57 (by first | exact h0 | exact aup_s | exact (aup_n nz0).trans h1 | exact (aup_n nz1).trans h2 | exact (aup_n nz0.symm).trans aup_s | exact (aup_n nz0).trans ((aup_n nz0).trans h1) | exact (aup_n nz1).trans ((aup_n nz1).trans h2)) ?_
          exact v_vret dX7_date_58 rfl (by first | (exfalso; omega) | exact hQI (by omega) | (rw [aup_up]; exact hQ (by omega) (by rcases hdt with q | q; exact q.1; omega)) | (rw [gup_id, aup_up, aup_id ((aup_n nz0).trans h1)]; exact hQ2 (by omega) (by rcases hdt with q | q; omega; exact q.1)))
        · refine v_iload_n dX7_date_40 rfl ?_
          refine v_i2l dX7_date_41 ?_
          refine v_iload_n dX7_date_42 rfl ?_
          refine v_iload dX7_date_43 rfl ?_
          refine v_S3 (rm' := rX7_dayOf) dX7_date_45 km_X7_96 ks_X7_dayOf kz_X7 mk_X7_dayOf rfl ⟨Nat.le_of_ble_eq_true rfl, Nat.le_of_ble_eq_true rfl⟩ ⟨Nat.le_of_ble_eq_true rfl, Nat.le_of_ble_eq_true rfl⟩ (Nat.le_of_ble_eq_true rfl) ?_
          refine s_X7_dayOf hst ?_
          refine v_goto 57 dX7_date_48 ?_
          refine v_last dX7_date_57 (by first | exact h0 | exact aup_s | exact (aup_n nz0).trans h1 | exact (aup_n nz1).trans h2 | exact (aup_n nz0.symm).trans aup_s | exact (aup_n nz0).trans ((aup_n nz0).trans h1) | exact (aup_n nz1).trans ((aup_n nz1).trans h2)) ?_
          exact v_vret dX7_date_58 rfl (by first | (exfalso; omega) | exact hQI (by omega) | (rw [aup_up]; exact hQ (by omega) (by rcases hdt with q | q; exact q.1; omega)) | (rw [gup_id, aup_up, aup_id ((aup_n nz0).trans h1)]; exact hQ2 (by omega) (by rcases hdt with q | q; omega; exact q.1)))
set_option maxRecDepth 100000 in
set_option maxHeartbeats 4000000 in
theorem s_X7_time {l : Launch} {G : GG} {w : AH} {Q : Option Value → AH → Prop} {X : String → AH → Prop} (hst : l.stackTraces = false) {z : Nat} {A : Nat → Nat} {th yq mq dq ty ap wr sz : Int} (h0 : w z = some (mdC A th yq mq dq ty ap wr sz)) {gd gn : Nat → Int} (h1 : w (A 0) = some (alA G 8 gd)) (h2 : w (A 1) = some (alA G 8 gn)) (hA01 : A 0 ≠ A 1) {i : Int} (hi : -2147483648 ≤ i ∧ i ≤ 2147483647) (hQI : (i < 0 ∨ 7 < i) → Q none (aup w z (mdC A 1 yq mq dq ty ap wr sz))) {h mi se na : Int} (hh : -2147483648 ≤ h ∧ h ≤ 2147483647) (hmi : -2147483648 ≤ mi ∧ mi ≤ 2147483647) (hse : -2147483648 ≤ se ∧ se ≤ 2147483647) (hna : -2147483648 ≤ na ∧ na ≤ 2147483647) (hQ2 : (0 ≤ i ∧ i ≤ 7) → ¬ isTm h mi se na → Q none (aup w z (mdC A 2 yq mq dq ty ap wr sz))) (hQ : (0 ≤ i ∧ i ≤ 7) → isTm h mi se na → Q none (aup (aup w z (mdC A 0 yq mq dq ty ap wr sz)) (A 1) (alA G 8 (gup gn i.toNat ((h * 3600 + mi * 60 + se) * 1000000000 + na))))) : Ct l G mX7_time rX7_time [(.ref z), .int (iI i), .int (iI h), .int (iI mi), .int (iI se), .int (iI na)] w Q X := by
  have nz0 : A 0 ≠ z := fun e => ne_of h0 h1 mdal e.symm
  have nz1 : A 1 ≠ z := fun e => ne_of h0 h2 mdal e.symm
  refine ct_of hst mk_X7_time (Nat.le_of_ble_eq_true rfl) ?_
  refine v_aload_n dX7_time_0 rfl ?_
  refine v_iload_n dX7_time_1 rfl ?_
  refine v_V1 (rm' := rX7_isSlot) (RX7, TX7, 18) dX7_time_2 km_X7_120 kn_X7_isSlot kv_X7_isSlot kz_X7 mk_X7_isSlot rfl rfl (by first | exact h0 | exact aup_s | exact (aup_n nz0).trans h1 | exact (aup_n nz1).trans h2 | exact (aup_n nz0.symm).trans aup_s | exact (aup_n nz0).trans ((aup_n nz0).trans h1) | exact (aup_n nz1).trans ((aup_n nz1).trans h2)) ⟨Nat.le_of_ble_eq_true rfl, Nat.le_of_ble_eq_true rfl⟩ ⟨Nat.le_of_ble_eq_true rfl, Nat.le_of_ble_eq_true rfl⟩ (Nat.le_of_ble_eq_true rfl) ?_
  refine s_X7_isSlot hst h0 hi (fun h7 => ?_) (fun h7 => ?_)
  · refine v_if_eq 121 dX7_time_5 (fun h_5 => ?_) (fun h_5 => ?_)
    · exact v_vret dX7_time_121 rfl (by first | (exfalso; omega) | exact hQI (by omega) | (rw [aup_up]; exact hQ (by omega) (by unfold isTm; omega)) | (rw [gup_id, aup_up, aup_id ((aup_n nz1).trans h2)]; exact hQ2 (by omega) (by unfold isTm; omega)))
    · refine v_iload_n dX7_time_8 rfl ?_
      refine v_i2l dX7_time_9 ?_
      refine v_lconst0 dX7_time_10 ?_
      refine v_ldc2 (23) dX7_time_11 kl_X7_128 ?_
      refine v_S3 (rm' := rX7_in) dX7_time_14 km_X7_102 ks_X7_in kz_X7 mk_X7_in rfl ⟨Nat.le_of_ble_eq_true rfl, Nat.le_of_ble_eq_true rfl⟩ ⟨Nat.le_of_ble_eq_true rfl, Nat.le_of_ble_eq_true rfl⟩ (Nat.le_of_ble_eq_true rfl) ?_
      refine s_X7_in hst (fun ri ei => ?_)
      refine v_if_eq 62 dX7_time_17 (fun h_17 => ?_) (fun h_17 => ?_)
      · refine v_iconst dX7_time_62 ?_
        refine v_istore dX7_time_63 (by decide) ?_
        refine v_aload_n dX7_time_65 rfl ?_
        refine v_iload dX7_time_66 rfl ?_
        refine v_if_eq 75 dX7_time_68 (fun h_68 => ?_) (fun h_68 => ?_)
        · refine v_iconst dX7_time_75 ?_
          refine v_put dX7_time_76 f_X7_41 (by first | exact h0 | exact aup_s | exact (aup_n nz0).trans h1 | exact (aup_n nz1).trans h2 | exact (aup_n nz0.symm).trans aup_s | exact (aup_n nz0).trans ((aup_n nz0).trans h1) | exact (aup_n nz1).trans ((aup_n nz1).trans h2)) rfl rfl (Nat.le_of_ble_eq_true rfl) ?_
          refine v_aload_n dX7_time_79 rfl ?_
          refine v_get dX7_time_80 f_X7_13 (by first | exact h0 | exact aup_s | exact (aup_n nz0).trans h1 | exact (aup_n nz1).trans h2 | exact (aup_n nz0.symm).trans aup_s | exact (aup_n nz0).trans ((aup_n nz0).trans h1) | exact (aup_n nz1).trans ((aup_n nz1).trans h2)) rfl ?_
          refine v_iload_n dX7_time_83 rfl ?_
          refine v_iload dX7_time_84 rfl ?_
          refine v_if_eq 114 dX7_time_86 (fun h_86 => ?_) (fun h_86 => ?_)
          · refine v_aload_n dX7_time_114 rfl ?_
            refine v_get dX7_time_115 f_X7_13 (by first | exact h0 | exact aup_s | exact (aup_n nz0).trans h1 | exact (aup_n nz1).trans h2 | exact (aup_n nz0.symm).trans aup_s | exact (aup_n nz0).trans ((aup_n nz0).trans h1) | exact (aup_n nz1).trans ((aup_n nz1).trans h2)) rfl ?_
            refine v_iload_n dX7_time_118 rfl ?_
            refine v_lald dX7_time_119 (by first | exact h0 | exact aup_s | exact (aup_n nz0).trans h1 | exact (aup_n nz1).trans h2 | exact (aup_n nz0.symm).trans aup_s | exact (aup_n nz0).trans ((aup_n nz0).trans h1) | exact (aup_n nz1).trans ((aup_n nz1).trans h2)) ?_
            refine v_last dX7_time_120 (by first | exact h0 | exact aup_s | exact (aup_n nz0).trans h1 | exact (aup_n nz1).trans h2 | exact (aup_n nz0.symm).trans aup_s | exact (aup_n nz0).trans ((aup_n nz0).trans h1) | exact (aup_n nz1).trans ((aup_n nz1).trans h2)) ?_
            exact v_vret dX7_time_121 rfl (by first | (exfalso; omega) | exact hQI (by omega) | (rw [aup_up]; exact hQ (by omega) (by unfold isTm; omega)) | (rw [gup_id, aup_up, aup_id ((aup_n nz1).trans h2)]; exact hQ2 (by omega) (by unfold isTm; omega)))
          · refine v_iload_n dX7_time_89 rfl ?_
            refine v_sipush dX7_time_90 ?_
            refine v_imul dX7_time_93 ?_
            refine v_iload_n dX7_time_94 rfl ?_
            refine v_bipush dX7_time_95 ?_
            refine v_imul dX7_time_97 ?_
            refine v_iadd dX7_time_98 ?_
            refine v_iload dX7_time_99 rfl ?_
            refine v_iadd dX7_time_101 ?_
            refine v_i2l dX7_time_102 ?_
            refine v_ldc2 (1000000000) dX7_time_103 kl_X7_134 ?_
            refine v_lmul dX7_time_106 ?_
            refine v_iload dX7_time_107 rfl ?_
            refine v_i2l dX7_time_109 ?_
            refine v_ladd dX7_time_110 ?_
            refine v_goto 120 dX7_time_111 ?_
            refine v_last dX7_time_120 (by first | exact h0 | exact aup_s | exact (aup_n nz0).trans h1 | exact (aup_n nz1).trans h2 | exact (aup_n nz0.symm).trans aup_s | exact (aup_n nz0).trans ((aup_n nz0).trans h1) | exact (aup_n nz1).trans ((aup_n nz1).trans h2)) ?_
            exact v_vret dX7_time_121 rfl (by first | (exfalso; omega) | exact hQI (by omega) | (rw [aup_up]; exact hQ (by omega) (by unfold isTm; omega)) | (rw [gup_id, aup_up, aup_id ((aup_n nz1).trans h2)]; exact hQ2 (by omega) (by unfold isTm; omega)))
        · refine v_iconst dX7_time_71 ?_
          refine v_goto 76 dX7_time_72 ?_
          refine v_put dX7_time_76 f_X7_41 (by first | exact h0 | exact aup_s | exact (aup_n nz0).trans h1 | exact (aup_n nz1).trans h2 | exact (aup_n nz0.symm).trans aup_s | exact (aup_n nz0).trans ((aup_n nz0).trans h1) | exact (aup_n nz1).trans ((aup_n nz1).trans h2)) rfl rfl (Nat.le_of_ble_eq_true rfl) ?_
          refine v_aload_n dX7_time_79 rfl ?_
          refine v_get dX7_time_80 f_X7_13 (by first | exact h0 | exact aup_s | exact (aup_n nz0).trans h1 | exact (aup_n nz1).trans h2 | exact (aup_n nz0.symm).trans aup_s | exact (aup_n nz0).trans ((aup_n nz0).trans h1) | exact (aup_n nz1).trans ((aup_n nz1).trans h2)) rfl ?_
          refine v_iload_n dX7_time_83 rfl ?_
          refine v_iload dX7_time_84 rfl ?_
          refine v_if_eq 114 dX7_time_86 (fun h_86 => ?_) (fun h_86 => ?_)
          · refine v_aload_n dX7_time_114 rfl ?_
            refine v_get dX7_time_115 f_X7_13 (by first | exact h0 | exact aup_s | exact (aup_n nz0).trans h1 | exact (aup_n nz1).trans h2 | exact (aup_n nz0.symm).trans aup_s | exact (aup_n nz0).trans ((aup_n nz0).trans h1) | exact (aup_n nz1).trans ((aup_n nz1).trans h2)) rfl ?_
            refine v_iload_n dX7_time_118 rfl ?_
            refine v_lald dX7_time_119 (by first | exact h0 | exact aup_s | exact (aup_n nz0).trans h1 | exact (aup_n nz1).trans h2 | exact (aup_n nz0.symm).trans aup_s | exact (aup_n nz0).trans ((aup_n nz0).trans h1) | exact (aup_n nz1).trans ((aup_n nz1).trans h2)) ?_
            refine v_last dX7_time_120 (by first | exact h0 | exact aup_s | exact (aup_n nz0).trans h1 | exact (aup_n nz1).trans h2 | exact (aup_n nz0.symm).trans aup_s | exact (aup_n nz0).trans ((aup_n nz0).trans h1) | exact (aup_n nz1).trans ((aup_n nz1).trans h2)) ?_
            exact v_vret dX7_time_121 rfl (by first | (exfalso; omega) | exact hQI (by omega) | (rw [aup_up]; exact hQ (by omega) (by unfold isTm; omega)) | (rw [gup_id, aup_up, aup_id ((aup_n nz1).trans h2)]; exact hQ2 (by omega) (by unfold isTm; omega)))
          · refine v_iload_n dX7_time_89 rfl ?_
            refine v_sipush dX7_time_90 ?_
            refine v_imul dX7_time_93 ?_
            refine v_iload_n dX7_time_94 rfl ?_
            refine v_bipush dX7_time_95 ?_
            refine v_imul dX7_time_97 ?_
            refine v_iadd dX7_time_98 ?_
            refine v_iload dX7_time_99 rfl ?_
            refine v_iadd dX7_time_101 ?_
            refine v_i2l dX7_time_102 ?_
            refine v_ldc2 (1000000000) dX7_time_103 kl_X7_134 ?_
            refine v_lmul dX7_time_106 ?_
            refine v_iload dX7_time_107 rfl ?_
            refine v_i2l dX7_time_109 ?_
            refine v_ladd dX7_time_110 ?_
            refine v_goto 120 dX7_time_111 ?_
            refine v_last dX7_time_120 (by first | exact h0 | exact aup_s | exact (aup_n nz0).trans h1 | exact (aup_n nz1).trans h2 | exact (aup_n nz0.symm).trans aup_s | exact (aup_n nz0).trans ((aup_n nz0).trans h1) | exact (aup_n nz1).trans ((aup_n nz1).trans h2)) ?_
            exact v_vret dX7_time_121 rfl (by first | (exfalso; omega) | exact hQI (by omega) | (rw [aup_up]; exact hQ (by omega) (by unfold isTm; omega)) | (rw [gup_id, aup_up, aup_id ((aup_n nz1).trans h2)]; exact hQ2 (by omega) (by unfold isTm; omega)))
      · refine v_iload_n dX7_time_20 rfl ?_
        refine v_i2l dX7_time_21 ?_
        refine v_lconst0 dX7_time_22 ?_
        refine v_ldc2 (59) dX7_time_23 kl_X7_130 ?_
        refine v_S3 (rm' := rX7_in) dX7_time_26 km_X7_102 ks_X7_in kz_X7 mk_X7_in rfl ⟨Nat.le_of_ble_eq_true rfl, Nat.le_of_ble_eq_true rfl⟩ ⟨Nat.le_of_ble_eq_true rfl, Nat.le_of_ble_eq_true rfl⟩ (Nat.le_of_ble_eq_true rfl) ?_
        refine s_X7_in hst (fun ri ei => ?_)
        refine v_if_eq 62 dX7_time_29 (fun h_29 => ?_) (fun h_29 => ?_)
        · refine v_iconst dX7_time_62 ?_
          refine v_istore dX7_time_63 (by decide) ?_
          refine v_aload_n dX7_time_65 rfl ?_
          refine v_iload dX7_time_66 rfl ?_
          refine v_if_eq 75 dX7_time_68 (fun h_68 => ?_) (fun h_68 => ?_)
          · refine v_iconst dX7_time_75 ?_
            refine v_put dX7_time_76 f_X7_41 (by first | exact h0 | exact aup_s | exact (aup_n nz0).trans h1 | exact (aup_n nz1).trans h2 | exact (aup_n nz0.symm).trans aup_s | exact (aup_n nz0).trans ((aup_n nz0).trans h1) | exact (aup_n nz1).trans ((aup_n nz1).trans h2)) rfl rfl (Nat.le_of_ble_eq_true rfl) ?_
            refine v_aload_n dX7_time_79 rfl ?_
            refine v_get dX7_time_80 f_X7_13 (by first | exact h0 | exact aup_s | exact (aup_n nz0).trans h1 | exact (aup_n nz1).trans h2 | exact (aup_n nz0.symm).trans aup_s | exact (aup_n nz0).trans ((aup_n nz0).trans h1) | exact (aup_n nz1).trans ((aup_n nz1).trans h2)) rfl ?_
            refine v_iload_n dX7_time_83 rfl ?_
            refine v_iload dX7_time_84 rfl ?_
            refine v_if_eq 114 dX7_time_86 (fun h_86 => ?_) (fun h_86 => ?_)
            · refine v_aload_n dX7_time_114 rfl ?_
              refine v_get dX7_time_115 f_X7_13 (by first | exact h0 | exact aup_s | exact (aup_n nz0).trans h1 | exact (aup_n nz1).trans h2 | exact (aup_n nz0.symm).trans aup_s | exact (aup_n nz0).trans ((aup_n nz0).trans h1) | exact (aup_n nz1).trans ((aup_n nz1).trans h2)) rfl ?_
              refine v_iload_n dX7_time_118 rfl ?_
              refine v_lald dX7_time_119 (by first | exact h0 | exact aup_s | exact (aup_n nz0).trans h1 | exact (aup_n nz1).trans h2 | exact (aup_n nz0.symm).trans aup_s | exact (aup_n nz0).trans ((aup_n nz0).trans h1) | exact (aup_n nz1).trans ((aup_n nz1).trans h2)) ?_
              refine v_last dX7_time_120 (by first | exact h0 | exact aup_s | exact (aup_n nz0).trans h1 | exact (aup_n nz1).trans h2 | exact (aup_n nz0.symm).trans aup_s | exact (aup_n nz0).trans ((aup_n nz0).trans h1) | exact (aup_n nz1).trans ((aup_n nz1).trans h2)) ?_
              exact v_vret dX7_time_121 rfl (by first | (exfalso; omega) | exact hQI (by omega) | (rw [aup_up]; exact hQ (by omega) (by unfold isTm; omega)) | (rw [gup_id, aup_up, aup_id ((aup_n nz1).trans h2)]; exact hQ2 (by omega) (by unfold isTm; omega)))
            · refine v_iload_n dX7_time_89 rfl ?_
              refine v_sipush dX7_time_90 ?_
              refine v_imul dX7_time_93 ?_
              refine v_iload_n dX7_time_94 rfl ?_
              refine v_bipush dX7_time_95 ?_
              refine v_imul dX7_time_97 ?_
              refine v_iadd dX7_time_98 ?_
              refine v_iload dX7_time_99 rfl ?_
              refine v_iadd dX7_time_101 ?_
              refine v_i2l dX7_time_102 ?_
              refine v_ldc2 (1000000000) dX7_time_103 kl_X7_134 ?_
              refine v_lmul dX7_time_106 ?_
              refine v_iload dX7_time_107 rfl ?_
              refine v_i2l dX7_time_109 ?_
              refine v_ladd dX7_time_110 ?_
              refine v_goto 120 dX7_time_111 ?_
              refine v_last dX7_time_120 (by first | exact h0 | exact aup_s | exact (aup_n nz0).trans h1 | exact (aup_n nz1).trans h2 | exact (aup_n nz0.symm).trans aup_s | exact (aup_n nz0).trans ((aup_n nz0).trans h1) | exact (aup_n nz1).trans ((aup_n nz1).trans h2)) ?_
              exact v_vret dX7_time_121 rfl (by first | (exfalso; omega) | exact hQI (by omega) | (rw [aup_up]; exact hQ (by omega) (by unfold isTm; omega)) | (rw [gup_id, aup_up, aup_id ((aup_n nz1).trans h2)]; exact hQ2 (by omega) (by unfold isTm; omega)))
          · refine v_iconst dX7_time_71 ?_
            refine v_goto 76 dX7_time_72 ?_
            refine v_put dX7_time_76 f_X7_41 (by first | exact h0 | exact aup_s | exact (aup_n nz0).trans h1 | exact (aup_n nz1).trans h2 | exact (aup_n nz0.symm).trans aup_s | exact (aup_n nz0).trans ((aup_n nz0).trans h1) | exact (aup_n nz1).trans ((aup_n nz1).trans h2)) rfl rfl (Nat.le_of_ble_eq_true rfl) ?_
            refine v_aload_n dX7_time_79 rfl ?_
            refine v_get dX7_time_80 f_X7_13 (by first | exact h0 | exact aup_s | exact (aup_n nz0).trans h1 | exact (aup_n nz1).trans h2 | exact (aup_n nz0.symm).trans aup_s | exact (aup_n nz0).trans ((aup_n nz0).trans h1) | exact (aup_n nz1).trans ((aup_n nz1).trans h2)) rfl ?_
            refine v_iload_n dX7_time_83 rfl ?_
            refine v_iload dX7_time_84 rfl ?_
            refine v_if_eq 114 dX7_time_86 (fun h_86 => ?_) (fun h_86 => ?_)
            · refine v_aload_n dX7_time_114 rfl ?_
              refine v_get dX7_time_115 f_X7_13 (by first | exact h0 | exact aup_s | exact (aup_n nz0).trans h1 | exact (aup_n nz1).trans h2 | exact (aup_n nz0.symm).trans aup_s | exact (aup_n nz0).trans ((aup_n nz0).trans h1) | exact (aup_n nz1).trans ((aup_n nz1).trans h2)) rfl ?_
              refine v_iload_n dX7_time_118 rfl ?_
              refine v_lald dX7_time_119 (by first | exact h0 | exact aup_s | exact (aup_n nz0).trans h1 | exact (aup_n nz1).trans h2 | exact (aup_n nz0.symm).trans aup_s | exact (aup_n nz0).trans ((aup_n nz0).trans h1) | exact (aup_n nz1).trans ((aup_n nz1).trans h2)) ?_
              refine v_last dX7_time_120 (by first | exact h0 | exact aup_s | exact (aup_n nz0).trans h1 | exact (aup_n nz1).trans h2 | exact (aup_n nz0.symm).trans aup_s | exact (aup_n nz0).trans ((aup_n nz0).trans h1) | exact (aup_n nz1).trans ((aup_n nz1).trans h2)) ?_
              exact v_vret dX7_time_121 rfl (by first | (exfalso; omega) | exact hQI (by omega) | (rw [aup_up]; exact hQ (by omega) (by unfold isTm; omega)) | (rw [gup_id, aup_up, aup_id ((aup_n nz1).trans h2)]; exact hQ2 (by omega) (by unfold isTm; omega)))
            · refine v_iload_n dX7_time_89 rfl ?_
              refine v_sipush dX7_time_90 ?_
              refine v_imul dX7_time_93 ?_
              refine v_iload_n dX7_time_94 rfl ?_
              refine v_bipush dX7_time_95 ?_
              refine v_imul dX7_time_97 ?_
              refine v_iadd dX7_time_98 ?_
              refine v_iload dX7_time_99 rfl ?_
              refine v_iadd dX7_time_101 ?_
              refine v_i2l dX7_time_102 ?_
              refine v_ldc2 (1000000000) dX7_time_103 kl_X7_134 ?_
              refine v_lmul dX7_time_106 ?_
              refine v_iload dX7_time_107 rfl ?_
              refine v_i2l dX7_time_109 ?_
              refine v_ladd dX7_time_110 ?_
              refine v_goto 120 dX7_time_111 ?_
              refine v_last dX7_time_120 (by first | exact h0 | exact aup_s | exact (aup_n nz0).trans h1 | exact (aup_n nz1).trans h2 | exact (aup_n nz0.symm).trans aup_s | exact (aup_n nz0).trans ((aup_n nz0).trans h1) | exact (aup_n nz1).trans ((aup_n nz1).trans h2)) ?_
              exact v_vret dX7_time_121 rfl (by first | (exfalso; omega) | exact hQI (by omega) | (rw [aup_up]; exact hQ (by omega) (by unfold isTm; omega)) | (rw [gup_id, aup_up, aup_id ((aup_n nz1).trans h2)]; exact hQ2 (by omega) (by unfold isTm; omega)))
        · refine v_iload dX7_time_32 rfl ?_
          refine v_i2l dX7_time_34 ?_
          refine v_lconst0 dX7_time_35 ?_
          refine v_ldc2 (59) dX7_time_36 kl_X7_130 ?_
          refine v_S3 (rm' := rX7_in) dX7_time_39 km_X7_102 ks_X7_in kz_X7 mk_X7_in rfl ⟨Nat.le_of_ble_eq_true rfl, Nat.le_of_ble_eq_true rfl⟩ ⟨Nat.le_of_ble_eq_true rfl, Nat.le_of_ble_eq_true rfl⟩ (Nat.le_of_ble_eq_true rfl) ?_
          refine s_X7_in hst (fun ri ei => ?_)
          refine v_if_eq 62 dX7_time_42 (fun h_42 => ?_) (fun h_42 => ?_)
          · refine v_iconst dX7_time_62 ?_
            refine v_istore dX7_time_63 (by decide) ?_
            refine v_aload_n dX7_time_65 rfl ?_
            refine v_iload dX7_time_66 rfl ?_
            refine v_if_eq 75 dX7_time_68 (fun h_68 => ?_) (fun h_68 => ?_)
            · refine v_iconst dX7_time_75 ?_
              refine v_put dX7_time_76 f_X7_41 (by first | exact h0 | exact aup_s | exact (aup_n nz0).trans h1 | exact (aup_n nz1).trans h2 | exact (aup_n nz0.symm).trans aup_s | exact (aup_n nz0).trans ((aup_n nz0).trans h1) | exact (aup_n nz1).trans ((aup_n nz1).trans h2)) rfl rfl (Nat.le_of_ble_eq_true rfl) ?_
              refine v_aload_n dX7_time_79 rfl ?_
              refine v_get dX7_time_80 f_X7_13 (by first | exact h0 | exact aup_s | exact (aup_n nz0).trans h1 | exact (aup_n nz1).trans h2 | exact (aup_n nz0.symm).trans aup_s | exact (aup_n nz0).trans ((aup_n nz0).trans h1) | exact (aup_n nz1).trans ((aup_n nz1).trans h2)) rfl ?_
              refine v_iload_n dX7_time_83 rfl ?_
              refine v_iload dX7_time_84 rfl ?_
              refine v_if_eq 114 dX7_time_86 (fun h_86 => ?_) (fun h_86 => ?_)
              · refine v_aload_n dX7_time_114 rfl ?_
                refine v_get dX7_time_115 f_X7_13 (by first | exact h0 | exact aup_s | exact (aup_n nz0).trans h1 | exact (aup_n nz1).trans h2 | exact (aup_n nz0.symm).trans aup_s | exact (aup_n nz0).trans ((aup_n nz0).trans h1) | exact (aup_n nz1).trans ((aup_n nz1).trans h2)) rfl ?_
                refine v_iload_n dX7_time_118 rfl ?_
                refine v_lald dX7_time_119 (by first | exact h0 | exact aup_s | exact (aup_n nz0).trans h1 | exact (aup_n nz1).trans h2 | exact (aup_n nz0.symm).trans aup_s | exact (aup_n nz0).trans ((aup_n nz0).trans h1) | exact (aup_n nz1).trans ((aup_n nz1).trans h2)) ?_
                refine v_last dX7_time_120 (by first | exact h0 | exact aup_s | exact (aup_n nz0).trans h1 | exact (aup_n nz1).trans h2 | exact (aup_n nz0.symm).trans aup_s | exact (aup_n nz0).trans ((aup_n nz0).trans h1) | exact (aup_n nz1).trans ((aup_n nz1).trans h2)) ?_
                exact v_vret dX7_time_121 rfl (by first | (exfalso; omega) | exact hQI (by omega) | (rw [aup_up]; exact hQ (by omega) (by unfold isTm; omega)) | (rw [gup_id, aup_up, aup_id ((aup_n nz1).trans h2)]; exact hQ2 (by omega) (by unfold isTm; omega)))
              · refine v_iload_n dX7_time_89 rfl ?_
                refine v_sipush dX7_time_90 ?_
                refine v_imul dX7_time_93 ?_
                refine v_iload_n dX7_time_94 rfl ?_
                refine v_bipush dX7_time_95 ?_
                refine v_imul dX7_time_97 ?_
                refine v_iadd dX7_time_98 ?_
                refine v_iload dX7_time_99 rfl ?_
                refine v_iadd dX7_time_101 ?_
                refine v_i2l dX7_time_102 ?_
                refine v_ldc2 (1000000000) dX7_time_103 kl_X7_134 ?_
                refine v_lmul dX7_time_106 ?_
                refine v_iload dX7_time_107 rfl ?_
                refine v_i2l dX7_time_109 ?_
                refine v_ladd dX7_time_110 ?_
                refine v_goto 120 dX7_time_111 ?_
                refine v_last dX7_time_120 (by first | exact h0 | exact aup_s | exact (aup_n nz0).trans h1 | exact (aup_n nz1).trans h2 | exact (aup_n nz0.symm).trans aup_s | exact (aup_n nz0).trans ((aup_n nz0).trans h1) | exact (aup_n nz1).trans ((aup_n nz1).trans h2)) ?_
                exact v_vret dX7_time_121 rfl (by first | (exfalso; omega) | exact hQI (by omega) | (rw [aup_up]; exact hQ (by omega) (by unfold isTm; omega)) | (rw [gup_id, aup_up, aup_id ((aup_n nz1).trans h2)]; exact hQ2 (by omega) (by unfold isTm; omega)))
            · refine v_iconst dX7_time_71 ?_
              refine v_goto 76 dX7_time_72 ?_
              refine v_put dX7_time_76 f_X7_41 (by first | exact h0 | exact aup_s | exact (aup_n nz0).trans h1 | exact (aup_n nz1).trans h2 | exact (aup_n nz0.symm).trans aup_s | exact (aup_n nz0).trans ((aup_n nz0).trans h1) | exact (aup_n nz1).trans ((aup_n nz1).trans h2)) rfl rfl (Nat.le_of_ble_eq_true rfl) ?_
              refine v_aload_n dX7_time_79 rfl ?_
              refine v_get dX7_time_80 f_X7_13 (by first | exact h0 | exact aup_s | exact (aup_n nz0).trans h1 | exact (aup_n nz1).trans h2 | exact (aup_n nz0.symm).trans aup_s | exact (aup_n nz0).trans ((aup_n nz0).trans h1) | exact (aup_n nz1).trans ((aup_n nz1).trans h2)) rfl ?_
              refine v_iload_n dX7_time_83 rfl ?_
              refine v_iload dX7_time_84 rfl ?_
              refine v_if_eq 114 dX7_time_86 (fun h_86 => ?_) (fun h_86 => ?_)
              · refine v_aload_n dX7_time_114 rfl ?_
                refine v_get dX7_time_115 f_X7_13 (by first | exact h0 | exact aup_s | exact (aup_n nz0).trans h1 | exact (aup_n nz1).trans h2 | exact (aup_n nz0.symm).trans aup_s | exact (aup_n nz0).trans ((aup_n nz0).trans h1) | exact (aup_n nz1).trans ((aup_n nz1).trans h2)) rfl ?_
                refine v_iload_n dX7_time_118 rfl ?_
                refine v_lald dX7_time_119 (by first | exact h0 | exact aup_s | exact (aup_n nz0).trans h1 | exact (aup_n nz1).trans h2 | exact (aup_n nz0.symm).trans aup_s | exact (aup_n nz0).trans ((aup_n nz0).trans h1) | exact (aup_n nz1).trans ((aup_n nz1).trans h2)) ?_
                refine v_last dX7_time_120 (by first | exact h0 | exact aup_s | exact (aup_n nz0).trans h1 | exact (aup_n nz1).trans h2 | exact (aup_n nz0.symm).trans aup_s | exact (aup_n nz0).trans ((aup_n nz0).trans h1) | exact (aup_n nz1).trans ((aup_n nz1).trans h2)) ?_
                exact v_vret dX7_time_121 rfl (by first | (exfalso; omega) | exact hQI (by omega) | (rw [aup_up]; exact hQ (by omega) (by unfold isTm; omega)) | (rw [gup_id, aup_up, aup_id ((aup_n nz1).trans h2)]; exact hQ2 (by omega) (by unfold isTm; omega)))
              · refine v_iload_n dX7_time_89 rfl ?_
                refine v_sipush dX7_time_90 ?_
                refine v_imul dX7_time_93 ?_
                refine v_iload_n dX7_time_94 rfl ?_
                refine v_bipush dX7_time_95 ?_
                refine v_imul dX7_time_97 ?_
                refine v_iadd dX7_time_98 ?_
                refine v_iload dX7_time_99 rfl ?_
                refine v_iadd dX7_time_101 ?_
                refine v_i2l dX7_time_102 ?_
                refine v_ldc2 (1000000000) dX7_time_103 kl_X7_134 ?_
                refine v_lmul dX7_time_106 ?_
                refine v_iload dX7_time_107 rfl ?_
                refine v_i2l dX7_time_109 ?_
                refine v_ladd dX7_time_110 ?_
                refine v_goto 120 dX7_time_111 ?_
                refine v_last dX7_time_120 (by first | exact h0 | exact aup_s | exact (aup_n nz0).trans h1 | exact (aup_n nz1).trans h2 | exact (aup_n nz0.symm).trans aup_s | exact (aup_n nz0).trans ((aup_n nz0).trans h1) | exact (aup_n nz1).trans ((aup_n nz1).trans h2)) ?_
                exact v_vret dX7_time_121 rfl (by first | (exfalso; omega) | exact hQI (by omega) | (rw [aup_up]; exact hQ (by omega) (by unfold isTm; omega)) | (rw [gup_id, aup_up, aup_id ((aup_n nz1).trans h2)]; exact hQ2 (by omega) (by unfold isTm; omega)))
          · refine v_iload dX7_time_45 rfl ?_
            refine v_i2l dX7_time_47 ?_
            refine v_lconst0 dX7_time_48 ?_
            refine v_ldc2 (999999999) dX7_time_49 kl_X7_132 ?_
            refine v_S3 (rm' := rX7_in) dX7_time_52 km_X7_102 ks_X7_in kz_X7 mk_X7_in rfl ⟨Nat.le_of_ble_eq_true rfl, Nat.le_of_ble_eq_true rfl⟩ ⟨Nat.le_of_ble_eq_true rfl, Nat.le_of_ble_eq_true rfl⟩ (Nat.le_of_ble_eq_true rfl) ?_
            refine s_X7_in hst (fun ri ei => ?_)
            refine v_if_eq 62 dX7_time_55 (fun h_55 => ?_) (fun h_55 => ?_)
            · refine v_iconst dX7_time_62 ?_
              refine v_istore dX7_time_63 (by decide) ?_
              refine v_aload_n dX7_time_65 rfl ?_
              refine v_iload dX7_time_66 rfl ?_
              refine v_if_eq 75 dX7_time_68 (fun h_68 => ?_) (fun h_68 => ?_)
              · refine v_iconst dX7_time_75 ?_
                refine v_put dX7_time_76 f_X7_41 (by first | exact h0 | exact aup_s | exact (aup_n nz0).trans h1 | exact (aup_n nz1).trans h2 | exact (aup_n nz0.symm).trans aup_s | exact (aup_n nz0).trans ((aup_n nz0).trans h1) | exact (aup_n nz1).trans ((aup_n nz1).trans h2)) rfl rfl (Nat.le_of_ble_eq_true rfl) ?_
                refine v_aload_n dX7_time_79 rfl ?_
                refine v_get dX7_time_80 f_X7_13 (by first | exact h0 | exact aup_s | exact (aup_n nz0).trans h1 | exact (aup_n nz1).trans h2 | exact (aup_n nz0.symm).trans aup_s | exact (aup_n nz0).trans ((aup_n nz0).trans h1) | exact (aup_n nz1).trans ((aup_n nz1).trans h2)) rfl ?_
                refine v_iload_n dX7_time_83 rfl ?_
                refine v_iload dX7_time_84 rfl ?_
                refine v_if_eq 114 dX7_time_86 (fun h_86 => ?_) (fun h_86 => ?_)
                · refine v_aload_n dX7_time_114 rfl ?_
                  refine v_get dX7_time_115 f_X7_13 (by first | exact h0 | exact aup_s | exact (aup_n nz0).trans h1 | exact (aup_n nz1).trans h2 | exact (aup_n nz0.symm).trans aup_s | exact (aup_n nz0).trans ((aup_n nz0).trans h1) | exact (aup_n nz1).trans ((aup_n nz1).trans h2)) rfl ?_
                  refine v_iload_n dX7_time_118 rfl ?_
                  refine v_lald dX7_time_119 (by first | exact h0 | exact aup_s | exact (aup_n nz0).trans h1 | exact (aup_n nz1).trans h2 | exact (aup_n nz0.symm).trans aup_s | exact (aup_n nz0).trans ((aup_n nz0).trans h1) | exact (aup_n nz1).trans ((aup_n nz1).trans h2)) ?_
                  refine v_last dX7_time_120 (by first | exact h0 | exact aup_s | exact (aup_n nz0).trans h1 | exact (aup_n nz1).trans h2 | exact (aup_n nz0.symm).trans aup_s | exact (aup_n nz0).trans ((aup_n nz0).trans h1) | exact (aup_n nz1).trans ((aup_n nz1).trans h2)) ?_
                  exact v_vret dX7_time_121 rfl (by first | (exfalso; omega) | exact hQI (by omega) | (rw [aup_up]; exact hQ (by omega) (by unfold isTm; omega)) | (rw [gup_id, aup_up, aup_id ((aup_n nz1).trans h2)]; exact hQ2 (by omega) (by unfold isTm; omega)))
                · refine v_iload_n dX7_time_89 rfl ?_
                  refine v_sipush dX7_time_90 ?_
                  refine v_imul dX7_time_93 ?_
                  refine v_iload_n dX7_time_94 rfl ?_
                  refine v_bipush dX7_time_95 ?_
                  refine v_imul dX7_time_97 ?_
                  refine v_iadd dX7_time_98 ?_
                  refine v_iload dX7_time_99 rfl ?_
                  refine v_iadd dX7_time_101 ?_
                  refine v_i2l dX7_time_102 ?_
                  refine v_ldc2 (1000000000) dX7_time_103 kl_X7_134 ?_
                  refine v_lmul dX7_time_106 ?_
                  refine v_iload dX7_time_107 rfl ?_
                  refine v_i2l dX7_time_109 ?_
                  refine v_ladd dX7_time_110 ?_
                  refine v_goto 120 dX7_time_111 ?_
                  refine v_last dX7_time_120 (by first | exact h0 | exact aup_s | exact (aup_n nz0).trans h1 | exact (aup_n nz1).trans h2 | exact (aup_n nz0.symm).trans aup_s | exact (aup_n nz0).trans ((aup_n nz0).trans h1) | exact (aup_n nz1).trans ((aup_n nz1).trans h2)) ?_
                  exact v_vret dX7_time_121 rfl (by first | (exfalso; omega) | exact hQI (by omega) | (rw [aup_up]; exact hQ (by omega) (by unfold isTm; omega)) | (rw [gup_id, aup_up, aup_id ((aup_n nz1).trans h2)]; exact hQ2 (by omega) (by unfold isTm; omega)))
              · refine v_iconst dX7_time_71 ?_
                refine v_goto 76 dX7_time_72 ?_
                refine v_put dX7_time_76 f_X7_41 (by first | exact h0 | exact aup_s | exact (aup_n nz0).trans h1 | exact (aup_n nz1).trans h2 | exact (aup_n nz0.symm).trans aup_s | exact (aup_n nz0).trans ((aup_n nz0).trans h1) | exact (aup_n nz1).trans ((aup_n nz1).trans h2)) rfl rfl (Nat.le_of_ble_eq_true rfl) ?_
                refine v_aload_n dX7_time_79 rfl ?_
                refine v_get dX7_time_80 f_X7_13 (by first | exact h0 | exact aup_s | exact (aup_n nz0).trans h1 | exact (aup_n nz1).trans h2 | exact (aup_n nz0.symm).trans aup_s | exact (aup_n nz0).trans ((aup_n nz0).trans h1) | exact (aup_n nz1).trans ((aup_n nz1).trans h2)) rfl ?_
                refine v_iload_n dX7_time_83 rfl ?_
                refine v_iload dX7_time_84 rfl ?_
                refine v_if_eq 114 dX7_time_86 (fun h_86 => ?_) (fun h_86 => ?_)
                · refine v_aload_n dX7_time_114 rfl ?_
                  refine v_get dX7_time_115 f_X7_13 (by first | exact h0 | exact aup_s | exact (aup_n nz0).trans h1 | exact (aup_n nz1).trans h2 | exact (aup_n nz0.symm).trans aup_s | exact (aup_n nz0).trans ((aup_n nz0).trans h1) | exact (aup_n nz1).trans ((aup_n nz1).trans h2)) rfl ?_
                  refine v_iload_n dX7_time_118 rfl ?_
                  refine v_lald dX7_time_119 (by first | exact h0 | exact aup_s | exact (aup_n nz0).trans h1 | exact (aup_n nz1).trans h2 | exact (aup_n nz0.symm).trans aup_s | exact (aup_n nz0).trans ((aup_n nz0).trans h1) | exact (aup_n nz1).trans ((aup_n nz1).trans h2)) ?_
                  refine v_last dX7_time_120 (by first | exact h0 | exact aup_s | exact (aup_n nz0).trans h1 | exact (aup_n nz1).trans h2 | exact (aup_n nz0.symm).trans aup_s | exact (aup_n nz0).trans ((aup_n nz0).trans h1) | exact (aup_n nz1).trans ((aup_n nz1).trans h2)) ?_
                  exact v_vret dX7_time_121 rfl (by first | (exfalso; omega) | exact hQI (by omega) | (rw [aup_up]; exact hQ (by omega) (by unfold isTm; omega)) | (rw [gup_id, aup_up, aup_id ((aup_n nz1).trans h2)]; exact hQ2 (by omega) (by unfold isTm; omega)))
                · refine v_iload_n dX7_time_89 rfl ?_
                  refine v_sipush dX7_time_90 ?_
                  refine v_imul dX7_time_93 ?_
                  refine v_iload_n dX7_time_94 rfl ?_
                  refine v_bipush dX7_time_95 ?_
                  refine v_imul dX7_time_97 ?_
                  refine v_iadd dX7_time_98 ?_
                  refine v_iload dX7_time_99 rfl ?_
                  refine v_iadd dX7_time_101 ?_
                  refine v_i2l dX7_time_102 ?_
                  refine v_ldc2 (1000000000) dX7_time_103 kl_X7_134 ?_
                  refine v_lmul dX7_time_106 ?_
                  refine v_iload dX7_time_107 rfl ?_
                  refine v_i2l dX7_time_109 ?_
                  refine v_ladd dX7_time_110 ?_
                  refine v_goto 120 dX7_time_111 ?_
                  refine v_last dX7_time_120 (by first | exact h0 | exact aup_s | exact (aup_n nz0).trans h1 | exact (aup_n nz1).trans h2 | exact (aup_n nz0.symm).trans aup_s | exact (aup_n nz0).trans ((aup_n nz0).trans h1) | exact (aup_n nz1).trans ((aup_n nz1).trans h2)) ?_
                  exact v_vret dX7_time_121 rfl (by first | (exfalso; omega) | exact hQI (by omega) | (rw [aup_up]; exact hQ (by omega) (by unfold isTm; omega)) | (rw [gup_id, aup_up, aup_id ((aup_n nz1).trans h2)]; exact hQ2 (by omega) (by unfold isTm; omega)))
            · refine v_iconst dX7_time_58 ?_
              refine v_goto 63 dX7_time_59 ?_
              refine v_istore dX7_time_63 (by decide) ?_
              refine v_aload_n dX7_time_65 rfl ?_
              refine v_iload dX7_time_66 rfl ?_
              refine v_if_eq 75 dX7_time_68 (fun h_68 => ?_) (fun h_68 => ?_)
              · refine v_iconst dX7_time_75 ?_
                refine v_put dX7_time_76 f_X7_41 (by first | exact h0 | exact aup_s | exact (aup_n nz0).trans h1 | exact (aup_n nz1).trans h2 | exact (aup_n nz0.symm).trans aup_s | exact (aup_n nz0).trans ((aup_n nz0).trans h1) | exact (aup_n nz1).trans ((aup_n nz1).trans h2)) rfl rfl (Nat.le_of_ble_eq_true rfl) ?_
                refine v_aload_n dX7_time_79 rfl ?_
                refine v_get dX7_time_80 f_X7_13 (by first | exact h0 | exact aup_s | exact (aup_n nz0).trans h1 | exact (aup_n nz1).trans h2 | exact (aup_n nz0.symm).trans aup_s | exact (aup_n nz0).trans ((aup_n nz0).trans h1) | exact (aup_n nz1).trans ((aup_n nz1).trans h2)) rfl ?_
                refine v_iload_n dX7_time_83 rfl ?_
                refine v_iload dX7_time_84 rfl ?_
                refine v_if_eq 114 dX7_time_86 (fun h_86 => ?_) (fun h_86 => ?_)
                · refine v_aload_n dX7_time_114 rfl ?_
                  refine v_get dX7_time_115 f_X7_13 (by first | exact h0 | exact aup_s | exact (aup_n nz0).trans h1 | exact (aup_n nz1).trans h2 | exact (aup_n nz0.symm).trans aup_s | exact (aup_n nz0).trans ((aup_n nz0).trans h1) | exact (aup_n nz1).trans ((aup_n nz1).trans h2)) rfl ?_
                  refine v_iload_n dX7_time_118 rfl ?_
                  refine v_lald dX7_time_119 (by first | exact h0 | exact aup_s | exact (aup_n nz0).trans h1 | exact (aup_n nz1).trans h2 | exact (aup_n nz0.symm).trans aup_s | exact (aup_n nz0).trans ((aup_n nz0).trans h1) | exact (aup_n nz1).trans ((aup_n nz1).trans h2)) ?_
                  refine v_last dX7_time_120 (by first | exact h0 | exact aup_s | exact (aup_n nz0).trans h1 | exact (aup_n nz1).trans h2 | exact (aup_n nz0.symm).trans aup_s | exact (aup_n nz0).trans ((aup_n nz0).trans h1) | exact (aup_n nz1).trans ((aup_n nz1).trans h2)) ?_
                  exact v_vret dX7_time_121 rfl (by first | (exfalso; omega) | exact hQI (by omega) | (rw [aup_up]; exact hQ (by omega) (by unfold isTm; omega)) | (rw [gup_id, aup_up, aup_id ((aup_n nz1).trans h2)]; exact hQ2 (by omega) (by unfold isTm; omega)))
                · refine v_iload_n dX7_time_89 rfl ?_
                  refine v_sipush dX7_time_90 ?_
                  refine v_imul dX7_time_93 ?_
                  refine v_iload_n dX7_time_94 rfl ?_
                  refine v_bipush dX7_time_95 ?_
                  refine v_imul dX7_time_97 ?_
                  refine v_iadd dX7_time_98 ?_
                  refine v_iload dX7_time_99 rfl ?_
                  refine v_iadd dX7_time_101 ?_
                  refine v_i2l dX7_time_102 ?_
                  refine v_ldc2 (1000000000) dX7_time_103 kl_X7_134 ?_
                  refine v_lmul dX7_time_106 ?_
                  refine v_iload dX7_time_107 rfl ?_
                  refine v_i2l dX7_time_109 ?_
                  refine v_ladd dX7_time_110 ?_
                  refine v_goto 120 dX7_time_111 ?_
                  refine v_last dX7_time_120 (by first | exact h0 | exact aup_s | exact (aup_n nz0).trans h1 | exact (aup_n nz1).trans h2 | exact (aup_n nz0.symm).trans aup_s | exact (aup_n nz0).trans ((aup_n nz0).trans h1) | exact (aup_n nz1).trans ((aup_n nz1).trans h2)) ?_
                  exact v_vret dX7_time_121 rfl (by first | (exfalso; omega) | exact hQI (by omega) | (rw [aup_up]; exact hQ (by omega) (by unfold isTm; omega)) | (rw [gup_id, aup_up, aup_id ((aup_n nz1).trans h2)]; exact hQ2 (by omega) (by unfold isTm; omega)))
              · refine v_iconst dX7_time_71 ?_
                refine v_goto 76 dX7_time_72 ?_
                refine v_put dX7_time_76 f_X7_41 (by first | exact h0 | exact aup_s | exact (aup_n nz0).trans h1 | exact (aup_n nz1).trans h2 | exact (aup_n nz0.symm).trans aup_s | exact (aup_n nz0).trans ((aup_n nz0).trans h1) | exact (aup_n nz1).trans ((aup_n nz1).trans h2)) rfl rfl (Nat.le_of_ble_eq_true rfl) ?_
                refine v_aload_n dX7_time_79 rfl ?_
                refine v_get dX7_time_80 f_X7_13 (by first | exact h0 | exact aup_s | exact (aup_n nz0).trans h1 | exact (aup_n nz1).trans h2 | exact (aup_n nz0.symm).trans aup_s | exact (aup_n nz0).trans ((aup_n nz0).trans h1) | exact (aup_n nz1).trans ((aup_n nz1).trans h2)) rfl ?_
                refine v_iload_n dX7_time_83 rfl ?_
                refine v_iload dX7_time_84 rfl ?_
                refine v_if_eq 114 dX7_time_86 (fun h_86 => ?_) (fun h_86 => ?_)
                · refine v_aload_n dX7_time_114 rfl ?_
                  refine v_get dX7_time_115 f_X7_13 (by first | exact h0 | exact aup_s | exact (aup_n nz0).trans h1 | exact (aup_n nz1).trans h2 | exact (aup_n nz0.symm).trans aup_s | exact (aup_n nz0).trans ((aup_n nz0).trans h1) | exact (aup_n nz1).trans ((aup_n nz1).trans h2)) rfl ?_
                  refine v_iload_n dX7_time_118 rfl ?_
                  refine v_lald dX7_time_119 (by first | exact h0 | exact aup_s | exact (aup_n nz0).trans h1 | exact (aup_n nz1).trans h2 | exact (aup_n nz0.symm).trans aup_s | exact (aup_n nz0).trans ((aup_n nz0).trans h1) | exact (aup_n nz1).trans ((aup_n nz1).trans h2)) ?_
                  refine v_last dX7_time_120 (by first | exact h0 | exact aup_s | exact (aup_n nz0).trans h1 | exact (aup_n nz1).trans h2 | exact (aup_n nz0.symm).trans aup_s | exact (aup_n nz0).trans ((aup_n nz0).trans h1) | exact (aup_n nz1).trans ((aup_n nz1).trans h2)) ?_
                  exact v_vret dX7_time_121 rfl (by first | (exfalso; omega) | exact hQI (by omega) | (rw [aup_up]; exact hQ (by omega) (by unfold isTm; omega)) | (rw [gup_id, aup_up, aup_id ((aup_n nz1).trans h2)]; exact hQ2 (by omega) (by unfold isTm; omega)))
                · refine v_iload_n dX7_time_89 rfl ?_
                  refine v_sipush dX7_time_90 ?_
                  refine v_imul dX7_time_93 ?_
                  refine v_iload_n dX7_time_94 rfl ?_
                  refine v_bipush dX7_time_95 ?_
                  refine v_imul dX7_time_97 ?_
                  refine v_iadd dX7_time_98 ?_
                  refine v_iload dX7_time_99 rfl ?_
                  refine v_iadd dX7_time_101 ?_
                  refine v_i2l dX7_time_102 ?_
                  refine v_ldc2 (1000000000) dX7_time_103 kl_X7_134 ?_
                  refine v_lmul dX7_time_106 ?_
                  refine v_iload dX7_time_107 rfl ?_
                  refine v_i2l dX7_time_109 ?_
                  refine v_ladd dX7_time_110 ?_
                  refine v_goto 120 dX7_time_111 ?_
                  refine v_last dX7_time_120 (by first | exact h0 | exact aup_s | exact (aup_n nz0).trans h1 | exact (aup_n nz1).trans h2 | exact (aup_n nz0.symm).trans aup_s | exact (aup_n nz0).trans ((aup_n nz0).trans h1) | exact (aup_n nz1).trans ((aup_n nz1).trans h2)) ?_
                  exact v_vret dX7_time_121 rfl (by first | (exfalso; omega) | exact hQI (by omega) | (rw [aup_up]; exact hQ (by omega) (by unfold isTm; omega)) | (rw [gup_id, aup_up, aup_id ((aup_n nz1).trans h2)]; exact hQ2 (by omega) (by unfold isTm; omega)))
  · refine v_if_eq 121 dX7_time_5 (fun h_5 => ?_) (fun h_5 => ?_)
    · exact v_vret dX7_time_121 rfl (by first | (exfalso; omega) | exact hQI (by omega) | (rw [aup_up]; exact hQ (by omega) (by unfold isTm; omega)) | (rw [gup_id, aup_up, aup_id ((aup_n nz1).trans h2)]; exact hQ2 (by omega) (by unfold isTm; omega)))
    · refine v_iload_n dX7_time_8 rfl ?_
      refine v_i2l dX7_time_9 ?_
      refine v_lconst0 dX7_time_10 ?_
      refine v_ldc2 (23) dX7_time_11 kl_X7_128 ?_
      refine v_S3 (rm' := rX7_in) dX7_time_14 km_X7_102 ks_X7_in kz_X7 mk_X7_in rfl ⟨Nat.le_of_ble_eq_true rfl, Nat.le_of_ble_eq_true rfl⟩ ⟨Nat.le_of_ble_eq_true rfl, Nat.le_of_ble_eq_true rfl⟩ (Nat.le_of_ble_eq_true rfl) ?_
      refine s_X7_in hst (fun ri ei => ?_)
      refine v_if_eq 62 dX7_time_17 (fun h_17 => ?_) (fun h_17 => ?_)
      · refine v_iconst dX7_time_62 ?_
        refine v_istore dX7_time_63 (by decide) ?_
        refine v_aload_n dX7_time_65 rfl ?_
        refine v_iload dX7_time_66 rfl ?_
        refine v_if_eq 75 dX7_time_68 (fun h_68 => ?_) (fun h_68 => ?_)
        · refine v_iconst dX7_time_75 ?_
          refine v_put dX7_time_76 f_X7_41 (by first | exact h0 | exact aup_s | exact (aup_n nz0).trans h1 | exact (aup_n nz1).trans h2 | exact (aup_n nz0.symm).trans aup_s | exact (aup_n nz0).trans ((aup_n nz0).trans h1) | exact (aup_n nz1).trans ((aup_n nz1).trans h2)) rfl rfl (Nat.le_of_ble_eq_true rfl) ?_
          refine v_aload_n dX7_time_79 rfl ?_
          refine v_get dX7_time_80 f_X7_13 (by first | exact h0 | exact aup_s | exact (aup_n nz0).trans h1 | exact (aup_n nz1).trans h2 | exact (aup_n nz0.symm).trans aup_s | exact (aup_n nz0).trans ((aup_n nz0).trans h1) | exact (aup_n nz1).trans ((aup_n nz1).trans h2)) rfl ?_
          refine v_iload_n dX7_time_83 rfl ?_
          refine v_iload dX7_time_84 rfl ?_
          refine v_if_eq 114 dX7_time_86 (fun h_86 => ?_) (fun h_86 => ?_)
          · refine v_aload_n dX7_time_114 rfl ?_
            refine v_get dX7_time_115 f_X7_13 (by first | exact h0 | exact aup_s | exact (aup_n nz0).trans h1 | exact (aup_n nz1).trans h2 | exact (aup_n nz0.symm).trans aup_s | exact (aup_n nz0).trans ((aup_n nz0).trans h1) | exact (aup_n nz1).trans ((aup_n nz1).trans h2)) rfl ?_
            refine v_iload_n dX7_time_118 rfl ?_
            refine v_lald dX7_time_119 (by first | exact h0 | exact aup_s | exact (aup_n nz0).trans h1 | exact (aup_n nz1).trans h2 | exact (aup_n nz0.symm).trans aup_s | exact (aup_n nz0).trans ((aup_n nz0).trans h1) | exact (aup_n nz1).trans ((aup_n nz1).trans h2)) ?_
            refine v_last dX7_time_120 (by first | exact h0 | exact aup_s | exact (aup_n nz0).trans h1 | exact (aup_n nz1).trans h2 | exact (aup_n nz0.symm).trans aup_s | exact (aup_n nz0).trans ((aup_n nz0).trans h1) | exact (aup_n nz1).trans ((aup_n nz1).trans h2)) ?_
            exact v_vret dX7_time_121 rfl (by first | (exfalso; omega) | exact hQI (by omega) | (rw [aup_up]; exact hQ (by omega) (by unfold isTm; omega)) | (rw [gup_id, aup_up, aup_id ((aup_n nz1).trans h2)]; exact hQ2 (by omega) (by unfold isTm; omega)))
          · refine v_iload_n dX7_time_89 rfl ?_
            refine v_sipush dX7_time_90 ?_
            refine v_imul dX7_time_93 ?_
            refine v_iload_n dX7_time_94 rfl ?_
            refine v_bipush dX7_time_95 ?_
            refine v_imul dX7_time_97 ?_
            refine v_iadd dX7_time_98 ?_
            refine v_iload dX7_time_99 rfl ?_
            refine v_iadd dX7_time_101 ?_
            refine v_i2l dX7_time_102 ?_
            refine v_ldc2 (1000000000) dX7_time_103 kl_X7_134 ?_
            refine v_lmul dX7_time_106 ?_
            refine v_iload dX7_time_107 rfl ?_
            refine v_i2l dX7_time_109 ?_
            refine v_ladd dX7_time_110 ?_
            refine v_goto 120 dX7_time_111 ?_
            refine v_last dX7_time_120 (by first | exact h0 | exact aup_s | exact (aup_n nz0).trans h1 | exact (aup_n nz1).trans h2 | exact (aup_n nz0.symm).trans aup_s | exact (aup_n nz0).trans ((aup_n nz0).trans h1) | exact (aup_n nz1).trans ((aup_n nz1).trans h2)) ?_
            exact v_vret dX7_time_121 rfl (by first | (exfalso; omega) | exact hQI (by omega) | (rw [aup_up]; exact hQ (by omega) (by unfold isTm; omega)) | (rw [gup_id, aup_up, aup_id ((aup_n nz1).trans h2)]; exact hQ2 (by omega) (by unfold isTm; omega)))
        · refine v_iconst dX7_time_71 ?_
          refine v_goto 76 dX7_time_72 ?_
          refine v_put dX7_time_76 f_X7_41 (by first | exact h0 | exact aup_s | exact (aup_n nz0).trans h1 | exact (aup_n nz1).trans h2 | exact (aup_n nz0.symm).trans aup_s | exact (aup_n nz0).trans ((aup_n nz0).trans h1) | exact (aup_n nz1).trans ((aup_n nz1).trans h2)) rfl rfl (Nat.le_of_ble_eq_true rfl) ?_
          refine v_aload_n dX7_time_79 rfl ?_
          refine v_get dX7_time_80 f_X7_13 (by first | exact h0 | exact aup_s | exact (aup_n nz0).trans h1 | exact (aup_n nz1).trans h2 | exact (aup_n nz0.symm).trans aup_s | exact (aup_n nz0).trans ((aup_n nz0).trans h1) | exact (aup_n nz1).trans ((aup_n nz1).trans h2)) rfl ?_
          refine v_iload_n dX7_time_83 rfl ?_
          refine v_iload dX7_time_84 rfl ?_
          refine v_if_eq 114 dX7_time_86 (fun h_86 => ?_) (fun h_86 => ?_)
          · refine v_aload_n dX7_time_114 rfl ?_
            refine v_get dX7_time_115 f_X7_13 (by first | exact h0 | exact aup_s | exact (aup_n nz0).trans h1 | exact (aup_n nz1).trans h2 | exact (aup_n nz0.symm).trans aup_s | exact (aup_n nz0).trans ((aup_n nz0).trans h1) | exact (aup_n nz1).trans ((aup_n nz1).trans h2)) rfl ?_
            refine v_iload_n dX7_time_118 rfl ?_
            refine v_lald dX7_time_119 (by first | exact h0 | exact aup_s | exact (aup_n nz0).trans h1 | exact (aup_n nz1).trans h2 | exact (aup_n nz0.symm).trans aup_s | exact (aup_n nz0).trans ((aup_n nz0).trans h1) | exact (aup_n nz1).trans ((aup_n nz1).trans h2)) ?_
            refine v_last dX7_time_120 (by first | exact h0 | exact aup_s | exact (aup_n nz0).trans h1 | exact (aup_n nz1).trans h2 | exact (aup_n nz0.symm).trans aup_s | exact (aup_n nz0).trans ((aup_n nz0).trans h1) | exact (aup_n nz1).trans ((aup_n nz1).trans h2)) ?_
            exact v_vret dX7_time_121 rfl (by first | (exfalso; omega) | exact hQI (by omega) | (rw [aup_up]; exact hQ (by omega) (by unfold isTm; omega)) | (rw [gup_id, aup_up, aup_id ((aup_n nz1).trans h2)]; exact hQ2 (by omega) (by unfold isTm; omega)))
          · refine v_iload_n dX7_time_89 rfl ?_
            refine v_sipush dX7_time_90 ?_
            refine v_imul dX7_time_93 ?_
            refine v_iload_n dX7_time_94 rfl ?_
            refine v_bipush dX7_time_95 ?_
            refine v_imul dX7_time_97 ?_
            refine v_iadd dX7_time_98 ?_
            refine v_iload dX7_time_99 rfl ?_
            refine v_iadd dX7_time_101 ?_
            refine v_i2l dX7_time_102 ?_
            refine v_ldc2 (1000000000) dX7_time_103 kl_X7_134 ?_
            refine v_lmul dX7_time_106 ?_
            refine v_iload dX7_time_107 rfl ?_
            refine v_i2l dX7_time_109 ?_
            refine v_ladd dX7_time_110 ?_
            refine v_goto 120 dX7_time_111 ?_
            refine v_last dX7_time_120 (by first | exact h0 | exact aup_s | exact (aup_n nz0).trans h1 | exact (aup_n nz1).trans h2 | exact (aup_n nz0.symm).trans aup_s | exact (aup_n nz0).trans ((aup_n nz0).trans h1) | exact (aup_n nz1).trans ((aup_n nz1).trans h2)) ?_
            exact v_vret dX7_time_121 rfl (by first | (exfalso; omega) | exact hQI (by omega) | (rw [aup_up]; exact hQ (by omega) (by unfold isTm; omega)) | (rw [gup_id, aup_up, aup_id ((aup_n nz1).trans h2)]; exact hQ2 (by omega) (by unfold isTm; omega)))
      · refine v_iload_n dX7_time_20 rfl ?_
        refine v_i2l dX7_time_21 ?_
        refine v_lconst0 dX7_time_22 ?_
        refine v_ldc2 (59) dX7_time_23 kl_X7_130 ?_
        refine v_S3 (rm' := rX7_in) dX7_time_26 km_X7_102 ks_X7_in kz_X7 mk_X7_in rfl ⟨Nat.le_of_ble_eq_true rfl, Nat.le_of_ble_eq_true rfl⟩ ⟨Nat.le_of_ble_eq_true rfl, Nat.le_of_ble_eq_true rfl⟩ (Nat.le_of_ble_eq_true rfl) ?_
        refine s_X7_in hst (fun ri ei => ?_)
        refine v_if_eq 62 dX7_time_29 (fun h_29 => ?_) (fun h_29 => ?_)
        · refine v_iconst dX7_time_62 ?_
          refine v_istore dX7_time_63 (by decide) ?_
          refine v_aload_n dX7_time_65 rfl ?_
          refine v_iload dX7_time_66 rfl ?_
          refine v_if_eq 75 dX7_time_68 (fun h_68 => ?_) (fun h_68 => ?_)
          · refine v_iconst dX7_time_75 ?_
            refine v_put dX7_time_76 f_X7_41 (by first | exact h0 | exact aup_s | exact (aup_n nz0).trans h1 | exact (aup_n nz1).trans h2 | exact (aup_n nz0.symm).trans aup_s | exact (aup_n nz0).trans ((aup_n nz0).trans h1) | exact (aup_n nz1).trans ((aup_n nz1).trans h2)) rfl rfl (Nat.le_of_ble_eq_true rfl) ?_
            refine v_aload_n dX7_time_79 rfl ?_
            refine v_get dX7_time_80 f_X7_13 (by first | exact h0 | exact aup_s | exact (aup_n nz0).trans h1 | exact (aup_n nz1).trans h2 | exact (aup_n nz0.symm).trans aup_s | exact (aup_n nz0).trans ((aup_n nz0).trans h1) | exact (aup_n nz1).trans ((aup_n nz1).trans h2)) rfl ?_
            refine v_iload_n dX7_time_83 rfl ?_
            refine v_iload dX7_time_84 rfl ?_
            refine v_if_eq 114 dX7_time_86 (fun h_86 => ?_) (fun h_86 => ?_)
            · refine v_aload_n dX7_time_114 rfl ?_
              refine v_get dX7_time_115 f_X7_13 (by first | exact h0 | exact aup_s | exact (aup_n nz0).trans h1 | exact (aup_n nz1).trans h2 | exact (aup_n nz0.symm).trans aup_s | exact (aup_n nz0).trans ((aup_n nz0).trans h1) | exact (aup_n nz1).trans ((aup_n nz1).trans h2)) rfl ?_
              refine v_iload_n dX7_time_118 rfl ?_
              refine v_lald dX7_time_119 (by first | exact h0 | exact aup_s | exact (aup_n nz0).trans h1 | exact (aup_n nz1).trans h2 | exact (aup_n nz0.symm).trans aup_s | exact (aup_n nz0).trans ((aup_n nz0).trans h1) | exact (aup_n nz1).trans ((aup_n nz1).trans h2)) ?_
              refine v_last dX7_time_120 (by first | exact h0 | exact aup_s | exact (aup_n nz0).trans h1 | exact (aup_n nz1).trans h2 | exact (aup_n nz0.symm).trans aup_s | exact (aup_n nz0).trans ((aup_n nz0).trans h1) | exact (aup_n nz1).trans ((aup_n nz1).trans h2)) ?_
              exact v_vret dX7_time_121 rfl (by first | (exfalso; omega) | exact hQI (by omega) | (rw [aup_up]; exact hQ (by omega) (by unfold isTm; omega)) | (rw [gup_id, aup_up, aup_id ((aup_n nz1).trans h2)]; exact hQ2 (by omega) (by unfold isTm; omega)))
            · refine v_iload_n dX7_time_89 rfl ?_
              refine v_sipush dX7_time_90 ?_
              refine v_imul dX7_time_93 ?_
              refine v_iload_n dX7_time_94 rfl ?_
              refine v_bipush dX7_time_95 ?_
              refine v_imul dX7_time_97 ?_
              refine v_iadd dX7_time_98 ?_
              refine v_iload dX7_time_99 rfl ?_
              refine v_iadd dX7_time_101 ?_
              refine v_i2l dX7_time_102 ?_
              refine v_ldc2 (1000000000) dX7_time_103 kl_X7_134 ?_
              refine v_lmul dX7_time_106 ?_
              refine v_iload dX7_time_107 rfl ?_
              refine v_i2l dX7_time_109 ?_
              refine v_ladd dX7_time_110 ?_
              refine v_goto 120 dX7_time_111 ?_
              refine v_last dX7_time_120 (by first | exact h0 | exact aup_s | exact (aup_n nz0).trans h1 | exact (aup_n nz1).trans h2 | exact (aup_n nz0.symm).trans aup_s | exact (aup_n nz0).trans ((aup_n nz0).trans h1) | exact (aup_n nz1).trans ((aup_n nz1).trans h2)) ?_
              exact v_vret dX7_time_121 rfl (by first | (exfalso; omega) | exact hQI (by omega) | (rw [aup_up]; exact hQ (by omega) (by unfold isTm; omega)) | (rw [gup_id, aup_up, aup_id ((aup_n nz1).trans h2)]; exact hQ2 (by omega) (by unfold isTm; omega)))
          · refine v_iconst dX7_time_71 ?_
            refine v_goto 76 dX7_time_72 ?_
            refine v_put dX7_time_76 f_X7_41 (by first | exact h0 | exact aup_s | exact (aup_n nz0).trans h1 | exact (aup_n nz1).trans h2 | exact (aup_n nz0.symm).trans aup_s | exact (aup_n nz0).trans ((aup_n nz0).trans h1) | exact (aup_n nz1).trans ((aup_n nz1).trans h2)) rfl rfl (Nat.le_of_ble_eq_true rfl) ?_
            refine v_aload_n dX7_time_79 rfl ?_
            refine v_get dX7_time_80 f_X7_13 (by first | exact h0 | exact aup_s | exact (aup_n nz0).trans h1 | exact (aup_n nz1).trans h2 | exact (aup_n nz0.symm).trans aup_s | exact (aup_n nz0).trans ((aup_n nz0).trans h1) | exact (aup_n nz1).trans ((aup_n nz1).trans h2)) rfl ?_
            refine v_iload_n dX7_time_83 rfl ?_
            refine v_iload dX7_time_84 rfl ?_
            refine v_if_eq 114 dX7_time_86 (fun h_86 => ?_) (fun h_86 => ?_)
            · refine v_aload_n dX7_time_114 rfl ?_
              refine v_get dX7_time_115 f_X7_13 (by first | exact h0 | exact aup_s | exact (aup_n nz0).trans h1 | exact (aup_n nz1).trans h2 | exact (aup_n nz0.symm).trans aup_s | exact (aup_n nz0).trans ((aup_n nz0).trans h1) | exact (aup_n nz1).trans ((aup_n nz1).trans h2)) rfl ?_
              refine v_iload_n dX7_time_118 rfl ?_
              refine v_lald dX7_time_119 (by first | exact h0 | exact aup_s | exact (aup_n nz0).trans h1 | exact (aup_n nz1).trans h2 | exact (aup_n nz0.symm).trans aup_s | exact (aup_n nz0).trans ((aup_n nz0).trans h1) | exact (aup_n nz1).trans ((aup_n nz1).trans h2)) ?_
              refine v_last dX7_time_120 (by first | exact h0 | exact aup_s | exact (aup_n nz0).trans h1 | exact (aup_n nz1).trans h2 | exact (aup_n nz0.symm).trans aup_s | exact (aup_n nz0).trans ((aup_n nz0).trans h1) | exact (aup_n nz1).trans ((aup_n nz1).trans h2)) ?_
              exact v_vret dX7_time_121 rfl (by first | (exfalso; omega) | exact hQI (by omega) | (rw [aup_up]; exact hQ (by omega) (by unfold isTm; omega)) | (rw [gup_id, aup_up, aup_id ((aup_n nz1).trans h2)]; exact hQ2 (by omega) (by unfold isTm; omega)))
            · refine v_iload_n dX7_time_89 rfl ?_
              refine v_sipush dX7_time_90 ?_
              refine v_imul dX7_time_93 ?_
              refine v_iload_n dX7_time_94 rfl ?_
              refine v_bipush dX7_time_95 ?_
              refine v_imul dX7_time_97 ?_
              refine v_iadd dX7_time_98 ?_
              refine v_iload dX7_time_99 rfl ?_
              refine v_iadd dX7_time_101 ?_
              refine v_i2l dX7_time_102 ?_
              refine v_ldc2 (1000000000) dX7_time_103 kl_X7_134 ?_
              refine v_lmul dX7_time_106 ?_
              refine v_iload dX7_time_107 rfl ?_
              refine v_i2l dX7_time_109 ?_
              refine v_ladd dX7_time_110 ?_
              refine v_goto 120 dX7_time_111 ?_
              refine v_last dX7_time_120 (by first | exact h0 | exact aup_s | exact (aup_n nz0).trans h1 | exact (aup_n nz1).trans h2 | exact (aup_n nz0.symm).trans aup_s | exact (aup_n nz0).trans ((aup_n nz0).trans h1) | exact (aup_n nz1).trans ((aup_n nz1).trans h2)) ?_
              exact v_vret dX7_time_121 rfl (by first | (exfalso; omega) | exact hQI (by omega) | (rw [aup_up]; exact hQ (by omega) (by unfold isTm; omega)) | (rw [gup_id, aup_up, aup_id ((aup_n nz1).trans h2)]; exact hQ2 (by omega) (by unfold isTm; omega)))
        · refine v_iload dX7_time_32 rfl ?_
          refine v_i2l dX7_time_34 ?_
          refine v_lconst0 dX7_time_35 ?_
          refine v_ldc2 (59) dX7_time_36 kl_X7_130 ?_
          refine v_S3 (rm' := rX7_in) dX7_time_39 km_X7_102 ks_X7_in kz_X7 mk_X7_in rfl ⟨Nat.le_of_ble_eq_true rfl, Nat.le_of_ble_eq_true rfl⟩ ⟨Nat.le_of_ble_eq_true rfl, Nat.le_of_ble_eq_true rfl⟩ (Nat.le_of_ble_eq_true rfl) ?_
          refine s_X7_in hst (fun ri ei => ?_)
          refine v_if_eq 62 dX7_time_42 (fun h_42 => ?_) (fun h_42 => ?_)
          · refine v_iconst dX7_time_62 ?_
            refine v_istore dX7_time_63 (by decide) ?_
            refine v_aload_n dX7_time_65 rfl ?_
            refine v_iload dX7_time_66 rfl ?_
            refine v_if_eq 75 dX7_time_68 (fun h_68 => ?_) (fun h_68 => ?_)
            · refine v_iconst dX7_time_75 ?_
              refine v_put dX7_time_76 f_X7_41 (by first | exact h0 | exact aup_s | exact (aup_n nz0).trans h1 | exact (aup_n nz1).trans h2 | exact (aup_n nz0.symm).trans aup_s | exact (aup_n nz0).trans ((aup_n nz0).trans h1) | exact (aup_n nz1).trans ((aup_n nz1).trans h2)) rfl rfl (Nat.le_of_ble_eq_true rfl) ?_
              refine v_aload_n dX7_time_79 rfl ?_
              refine v_get dX7_time_80 f_X7_13 (by first | exact h0 | exact aup_s | exact (aup_n nz0).trans h1 | exact (aup_n nz1).trans h2 | exact (aup_n nz0.symm).trans aup_s | exact (aup_n nz0).trans ((aup_n nz0).trans h1) | exact (aup_n nz1).trans ((aup_n nz1).trans h2)) rfl ?_
              refine v_iload_n dX7_time_83 rfl ?_
              refine v_iload dX7_time_84 rfl ?_
              refine v_if_eq 114 dX7_time_86 (fun h_86 => ?_) (fun h_86 => ?_)
              · refine v_aload_n dX7_time_114 rfl ?_
                refine v_get dX7_time_115 f_X7_13 (by first | exact h0 | exact aup_s | exact (aup_n nz0).trans h1 | exact (aup_n nz1).trans h2 | exact (aup_n nz0.symm).trans aup_s | exact (aup_n nz0).trans ((aup_n nz0).trans h1) | exact (aup_n nz1).trans ((aup_n nz1).trans h2)) rfl ?_
                refine v_iload_n dX7_time_118 rfl ?_
                refine v_lald dX7_time_119 (by first | exact h0 | exact aup_s | exact (aup_n nz0).trans h1 | exact (aup_n nz1).trans h2 | exact (aup_n nz0.symm).trans aup_s | exact (aup_n nz0).trans ((aup_n nz0).trans h1) | exact (aup_n nz1).trans ((aup_n nz1).trans h2)) ?_
                refine v_last dX7_time_120 (by first | exact h0 | exact aup_s | exact (aup_n nz0).trans h1 | exact (aup_n nz1).trans h2 | exact (aup_n nz0.symm).trans aup_s | exact (aup_n nz0).trans ((aup_n nz0).trans h1) | exact (aup_n nz1).trans ((aup_n nz1).trans h2)) ?_
                exact v_vret dX7_time_121 rfl (by first | (exfalso; omega) | exact hQI (by omega) | (rw [aup_up]; exact hQ (by omega) (by unfold isTm; omega)) | (rw [gup_id, aup_up, aup_id ((aup_n nz1).trans h2)]; exact hQ2 (by omega) (by unfold isTm; omega)))
              · refine v_iload_n dX7_time_89 rfl ?_
                refine v_sipush dX7_time_90 ?_
                refine v_imul dX7_time_93 ?_
                refine v_iload_n dX7_time_94 rfl ?_
                refine v_bipush dX7_time_95 ?_
                refine v_imul dX7_time_97 ?_
                refine v_iadd dX7_time_98 ?_
                refine v_iload dX7_time_99 rfl ?_
                refine v_iadd dX7_time_101 ?_
                refine v_i2l dX7_time_102 ?_
                refine v_ldc2 (1000000000) dX7_time_103 kl_X7_134 ?_
                refine v_lmul dX7_time_106 ?_
                refine v_iload dX7_time_107 rfl ?_
                refine v_i2l dX7_time_109 ?_
                refine v_ladd dX7_time_110 ?_
                refine v_goto 120 dX7_time_111 ?_
                refine v_last dX7_time_120 (by first | exact h0 | exact aup_s | exact (aup_n nz0).trans h1 | exact (aup_n nz1).trans h2 | exact (aup_n nz0.symm).trans aup_s | exact (aup_n nz0).trans ((aup_n nz0).trans h1) | exact (aup_n nz1).trans ((aup_n nz1).trans h2)) ?_
                exact v_vret dX7_time_121 rfl (by first | (exfalso; omega) | exact hQI (by omega) | (rw [aup_up]; exact hQ (by omega) (by unfold isTm; omega)) | (rw [gup_id, aup_up, aup_id ((aup_n nz1).trans h2)]; exact hQ2 (by omega) (by unfold isTm; omega)))
            · refine v_iconst dX7_time_71 ?_
              refine v_goto 76 dX7_time_72 ?_
              refine v_put dX7_time_76 f_X7_41 (by first | exact h0 | exact aup_s | exact (aup_n nz0).trans h1 | exact (aup_n nz1).trans h2 | exact (aup_n nz0.symm).trans aup_s | exact (aup_n nz0).trans ((aup_n nz0).trans h1) | exact (aup_n nz1).trans ((aup_n nz1).trans h2)) rfl rfl (Nat.le_of_ble_eq_true rfl) ?_
              refine v_aload_n dX7_time_79 rfl ?_
              refine v_get dX7_time_80 f_X7_13 (by first | exact h0 | exact aup_s | exact (aup_n nz0).trans h1 | exact (aup_n nz1).trans h2 | exact (aup_n nz0.symm).trans aup_s | exact (aup_n nz0).trans ((aup_n nz0).trans h1) | exact (aup_n nz1).trans ((aup_n nz1).trans h2)) rfl ?_
              refine v_iload_n dX7_time_83 rfl ?_
              refine v_iload dX7_time_84 rfl ?_
              refine v_if_eq 114 dX7_time_86 (fun h_86 => ?_) (fun h_86 => ?_)
              · refine v_aload_n dX7_time_114 rfl ?_
                refine v_get dX7_time_115 f_X7_13 (by first | exact h0 | exact aup_s | exact (aup_n nz0).trans h1 | exact (aup_n nz1).trans h2 | exact (aup_n nz0.symm).trans aup_s | exact (aup_n nz0).trans ((aup_n nz0).trans h1) | exact (aup_n nz1).trans ((aup_n nz1).trans h2)) rfl ?_
                refine v_iload_n dX7_time_118 rfl ?_
                refine v_lald dX7_time_119 (by first | exact h0 | exact aup_s | exact (aup_n nz0).trans h1 | exact (aup_n nz1).trans h2 | exact (aup_n nz0.symm).trans aup_s | exact (aup_n nz0).trans ((aup_n nz0).trans h1) | exact (aup_n nz1).trans ((aup_n nz1).trans h2)) ?_
                refine v_last dX7_time_120 (by first | exact h0 | exact aup_s | exact (aup_n nz0).trans h1 | exact (aup_n nz1).trans h2 | exact (aup_n nz0.symm).trans aup_s | exact (aup_n nz0).trans ((aup_n nz0).trans h1) | exact (aup_n nz1).trans ((aup_n nz1).trans h2)) ?_
                exact v_vret dX7_time_121 rfl (by first | (exfalso; omega) | exact hQI (by omega) | (rw [aup_up]; exact hQ (by omega) (by unfold isTm; omega)) | (rw [gup_id, aup_up, aup_id ((aup_n nz1).trans h2)]; exact hQ2 (by omega) (by unfold isTm; omega)))
              · refine v_iload_n dX7_time_89 rfl ?_
                refine v_sipush dX7_time_90 ?_
                refine v_imul dX7_time_93 ?_
                refine v_iload_n dX7_time_94 rfl ?_
                refine v_bipush dX7_time_95 ?_
                refine v_imul dX7_time_97 ?_
                refine v_iadd dX7_time_98 ?_
                refine v_iload dX7_time_99 rfl ?_
                refine v_iadd dX7_time_101 ?_
                refine v_i2l dX7_time_102 ?_
                refine v_ldc2 (1000000000) dX7_time_103 kl_X7_134 ?_
                refine v_lmul dX7_time_106 ?_
                refine v_iload dX7_time_107 rfl ?_
                refine v_i2l dX7_time_109 ?_
                refine v_ladd dX7_time_110 ?_
                refine v_goto 120 dX7_time_111 ?_
                refine v_last dX7_time_120 (by first | exact h0 | exact aup_s | exact (aup_n nz0).trans h1 | exact (aup_n nz1).trans h2 | exact (aup_n nz0.symm).trans aup_s | exact (aup_n nz0).trans ((aup_n nz0).trans h1) | exact (aup_n nz1).trans ((aup_n nz1).trans h2)) ?_
                exact v_vret dX7_time_121 rfl (by first | (exfalso; omega) | exact hQI (by omega) | (rw [aup_up]; exact hQ (by omega) (by unfold isTm; omega)) | (rw [gup_id, aup_up, aup_id ((aup_n nz1).trans h2)]; exact hQ2 (by omega) (by unfold isTm; omega)))
          · refine v_iload dX7_time_45 rfl ?_
            refine v_i2l dX7_time_47 ?_
            refine v_lconst0 dX7_time_48 ?_
            refine v_ldc2 (999999999) dX7_time_49 kl_X7_132 ?_
            refine v_S3 (rm' := rX7_in) dX7_time_52 km_X7_102 ks_X7_in kz_X7 mk_X7_in rfl ⟨Nat.le_of_ble_eq_true rfl, Nat.le_of_ble_eq_true rfl⟩ ⟨Nat.le_of_ble_eq_true rfl, Nat.le_of_ble_eq_true rfl⟩ (Nat.le_of_ble_eq_true rfl) ?_
            refine s_X7_in hst (fun ri ei => ?_)
            refine v_if_eq 62 dX7_time_55 (fun h_55 => ?_) (fun h_55 => ?_)
            · refine v_iconst dX7_time_62 ?_
              refine v_istore dX7_time_63 (by decide) ?_
              refine v_aload_n dX7_time_65 rfl ?_
              refine v_iload dX7_time_66 rfl ?_
              refine v_if_eq 75 dX7_time_68 (fun h_68 => ?_) (fun h_68 => ?_)
              · refine v_iconst dX7_time_75 ?_
                refine v_put dX7_time_76 f_X7_41 (by first | exact h0 | exact aup_s | exact (aup_n nz0).trans h1 | exact (aup_n nz1).trans h2 | exact (aup_n nz0.symm).trans aup_s | exact (aup_n nz0).trans ((aup_n nz0).trans h1) | exact (aup_n nz1).trans ((aup_n nz1).trans h2)) rfl rfl (Nat.le_of_ble_eq_true rfl) ?_
                refine v_aload_n dX7_time_79 rfl ?_
                refine v_get dX7_time_80 f_X7_13 (by first | exact h0 | exact aup_s | exact (aup_n nz0).trans h1 | exact (aup_n nz1).trans h2 | exact (aup_n nz0.symm).trans aup_s | exact (aup_n nz0).trans ((aup_n nz0).trans h1) | exact (aup_n nz1).trans ((aup_n nz1).trans h2)) rfl ?_
                refine v_iload_n dX7_time_83 rfl ?_
                refine v_iload dX7_time_84 rfl ?_
                refine v_if_eq 114 dX7_time_86 (fun h_86 => ?_) (fun h_86 => ?_)
                · refine v_aload_n dX7_time_114 rfl ?_
                  refine v_get dX7_time_115 f_X7_13 (by first | exact h0 | exact aup_s | exact (aup_n nz0).trans h1 | exact (aup_n nz1).trans h2 | exact (aup_n nz0.symm).trans aup_s | exact (aup_n nz0).trans ((aup_n nz0).trans h1) | exact (aup_n nz1).trans ((aup_n nz1).trans h2)) rfl ?_
                  refine v_iload_n dX7_time_118 rfl ?_
                  refine v_lald dX7_time_119 (by first | exact h0 | exact aup_s | exact (aup_n nz0).trans h1 | exact (aup_n nz1).trans h2 | exact (aup_n nz0.symm).trans aup_s | exact (aup_n nz0).trans ((aup_n nz0).trans h1) | exact (aup_n nz1).trans ((aup_n nz1).trans h2)) ?_
                  refine v_last dX7_time_120 (by first | exact h0 | exact aup_s | exact (aup_n nz0).trans h1 | exact (aup_n nz1).trans h2 | exact (aup_n nz0.symm).trans aup_s | exact (aup_n nz0).trans ((aup_n nz0).trans h1) | exact (aup_n nz1).trans ((aup_n nz1).trans h2)) ?_
                  exact v_vret dX7_time_121 rfl (by first | (exfalso; omega) | exact hQI (by omega) | (rw [aup_up]; exact hQ (by omega) (by unfold isTm; omega)) | (rw [gup_id, aup_up, aup_id ((aup_n nz1).trans h2)]; exact hQ2 (by omega) (by unfold isTm; omega)))
                · refine v_iload_n dX7_time_89 rfl ?_
                  refine v_sipush dX7_time_90 ?_
                  refine v_imul dX7_time_93 ?_
                  refine v_iload_n dX7_time_94 rfl ?_
                  refine v_bipush dX7_time_95 ?_
                  refine v_imul dX7_time_97 ?_
                  refine v_iadd dX7_time_98 ?_
                  refine v_iload dX7_time_99 rfl ?_
                  refine v_iadd dX7_time_101 ?_
                  refine v_i2l dX7_time_102 ?_
                  refine v_ldc2 (1000000000) dX7_time_103 kl_X7_134 ?_
                  refine v_lmul dX7_time_106 ?_
                  refine v_iload dX7_time_107 rfl ?_
                  refine v_i2l dX7_time_109 ?_
                  refine v_ladd dX7_time_110 ?_
                  refine v_goto 120 dX7_time_111 ?_
                  refine v_last dX7_time_120 (by first | exact h0 | exact aup_s | exact (aup_n nz0).trans h1 | exact (aup_n nz1).trans h2 | exact (aup_n nz0.symm).trans aup_s | exact (aup_n nz0).trans ((aup_n nz0).trans h1) | exact (aup_n nz1).trans ((aup_n nz1).trans h2)) ?_
                  exact v_vret dX7_time_121 rfl (by first | (exfalso; omega) | exact hQI (by omega) | (rw [aup_up]; exact hQ (by omega) (by unfold isTm; omega)) | (rw [gup_id, aup_up, aup_id ((aup_n nz1).trans h2)]; exact hQ2 (by omega) (by unfold isTm; omega)))
              · refine v_iconst dX7_time_71 ?_
                refine v_goto 76 dX7_time_72 ?_
                refine v_put dX7_time_76 f_X7_41 (by first | exact h0 | exact aup_s | exact (aup_n nz0).trans h1 | exact (aup_n nz1).trans h2 | exact (aup_n nz0.symm).trans aup_s | exact (aup_n nz0).trans ((aup_n nz0).trans h1) | exact (aup_n nz1).trans ((aup_n nz1).trans h2)) rfl rfl (Nat.le_of_ble_eq_true rfl) ?_
                refine v_aload_n dX7_time_79 rfl ?_
                refine v_get dX7_time_80 f_X7_13 (by first | exact h0 | exact aup_s | exact (aup_n nz0).trans h1 | exact (aup_n nz1).trans h2 | exact (aup_n nz0.symm).trans aup_s | exact (aup_n nz0).trans ((aup_n nz0).trans h1) | exact (aup_n nz1).trans ((aup_n nz1).trans h2)) rfl ?_
                refine v_iload_n dX7_time_83 rfl ?_
                refine v_iload dX7_time_84 rfl ?_
                refine v_if_eq 114 dX7_time_86 (fun h_86 => ?_) (fun h_86 => ?_)
                · refine v_aload_n dX7_time_114 rfl ?_
                  refine v_get dX7_time_115 f_X7_13 (by first | exact h0 | exact aup_s | exact (aup_n nz0).trans h1 | exact (aup_n nz1).trans h2 | exact (aup_n nz0.symm).trans aup_s | exact (aup_n nz0).trans ((aup_n nz0).trans h1) | exact (aup_n nz1).trans ((aup_n nz1).trans h2)) rfl ?_
                  refine v_iload_n dX7_time_118 rfl ?_
                  refine v_lald dX7_time_119 (by first | exact h0 | exact aup_s | exact (aup_n nz0).trans h1 | exact (aup_n nz1).trans h2 | exact (aup_n nz0.symm).trans aup_s | exact (aup_n nz0).trans ((aup_n nz0).trans h1) | exact (aup_n nz1).trans ((aup_n nz1).trans h2)) ?_
                  refine v_last dX7_time_120 (by first | exact h0 | exact aup_s | exact (aup_n nz0).trans h1 | exact (aup_n nz1).trans h2 | exact (aup_n nz0.symm).trans aup_s | exact (aup_n nz0).trans ((aup_n nz0).trans h1) | exact (aup_n nz1).trans ((aup_n nz1).trans h2)) ?_
                  exact v_vret dX7_time_121 rfl (by first | (exfalso; omega) | exact hQI (by omega) | (rw [aup_up]; exact hQ (by omega) (by unfold isTm; omega)) | (rw [gup_id, aup_up, aup_id ((aup_n nz1).trans h2)]; exact hQ2 (by omega) (by unfold isTm; omega)))
                · refine v_iload_n dX7_time_89 rfl ?_
                  refine v_sipush dX7_time_90 ?_
                  refine v_imul dX7_time_93 ?_
                  refine v_iload_n dX7_time_94 rfl ?_
                  refine v_bipush dX7_time_95 ?_
                  refine v_imul dX7_time_97 ?_
                  refine v_iadd dX7_time_98 ?_
                  refine v_iload dX7_time_99 rfl ?_
                  refine v_iadd dX7_time_101 ?_
                  refine v_i2l dX7_time_102 ?_
                  refine v_ldc2 (1000000000) dX7_time_103 kl_X7_134 ?_
                  refine v_lmul dX7_time_106 ?_
                  refine v_iload dX7_time_107 rfl ?_
                  refine v_i2l dX7_time_109 ?_
                  refine v_ladd dX7_time_110 ?_
                  refine v_goto 120 dX7_time_111 ?_
                  refine v_last dX7_time_120 (by first | exact h0 | exact aup_s | exact (aup_n nz0).trans h1 | exact (aup_n nz1).trans h2 | exact (aup_n nz0.symm).trans aup_s | exact (aup_n nz0).trans ((aup_n nz0).trans h1) | exact (aup_n nz1).trans ((aup_n nz1).trans h2)) ?_
                  exact v_vret dX7_time_121 rfl (by first | (exfalso; omega) | exact hQI (by omega) | (rw [aup_up]; exact hQ (by omega) (by unfold isTm; omega)) | (rw [gup_id, aup_up, aup_id ((aup_n nz1).trans h2)]; exact hQ2 (by omega) (by unfold isTm; omega)))
            · refine v_iconst dX7_time_58 ?_
              refine v_goto 63 dX7_time_59 ?_
              refine v_istore dX7_time_63 (by decide) ?_
              refine v_aload_n dX7_time_65 rfl ?_
              refine v_iload dX7_time_66 rfl ?_
              refine v_if_eq 75 dX7_time_68 (fun h_68 => ?_) (fun h_68 => ?_)
              · refine v_iconst dX7_time_75 ?_
                refine v_put dX7_time_76 f_X7_41 (by first | exact h0 | exact aup_s | exact (aup_n nz0).trans h1 | exact (aup_n nz1).trans h2 | exact (aup_n nz0.symm).trans aup_s | exact (aup_n nz0).trans ((aup_n nz0).trans h1) | exact (aup_n nz1).trans ((aup_n nz1).trans h2)) rfl rfl (Nat.le_of_ble_eq_true rfl) ?_
                refine v_aload_n dX7_time_79 rfl ?_
                refine v_get dX7_time_80 f_X7_13 (by first | exact h0 | exact aup_s | exact (aup_n nz0).trans h1 | exact (aup_n nz1).trans h2 | exact (aup_n nz0.symm).trans aup_s | exact (aup_n nz0).trans ((aup_n nz0).trans h1) | exact (aup_n nz1).trans ((aup_n nz1).trans h2)) rfl ?_
                refine v_iload_n dX7_time_83 rfl ?_
                refine v_iload dX7_time_84 rfl ?_
                refine v_if_eq 114 dX7_time_86 (fun h_86 => ?_) (fun h_86 => ?_)
                · refine v_aload_n dX7_time_114 rfl ?_
                  refine v_get dX7_time_115 f_X7_13 (by first | exact h0 | exact aup_s | exact (aup_n nz0).trans h1 | exact (aup_n nz1).trans h2 | exact (aup_n nz0.symm).trans aup_s | exact (aup_n nz0).trans ((aup_n nz0).trans h1) | exact (aup_n nz1).trans ((aup_n nz1).trans h2)) rfl ?_
                  refine v_iload_n dX7_time_118 rfl ?_
                  refine v_lald dX7_time_119 (by first | exact h0 | exact aup_s | exact (aup_n nz0).trans h1 | exact (aup_n nz1).trans h2 | exact (aup_n nz0.symm).trans aup_s | exact (aup_n nz0).trans ((aup_n nz0).trans h1) | exact (aup_n nz1).trans ((aup_n nz1).trans h2)) ?_
                  refine v_last dX7_time_120 (by first | exact h0 | exact aup_s | exact (aup_n nz0).trans h1 | exact (aup_n nz1).trans h2 | exact (aup_n nz0.symm).trans aup_s | exact (aup_n nz0).trans ((aup_n nz0).trans h1) | exact (aup_n nz1).trans ((aup_n nz1).trans h2)) ?_
                  exact v_vret dX7_time_121 rfl (by first | (exfalso; omega) | exact hQI (by omega) | (rw [aup_up]; exact hQ (by omega) (by unfold isTm; omega)) | (rw [gup_id, aup_up, aup_id ((aup_n nz1).trans h2)]; exact hQ2 (by omega) (by unfold isTm; omega)))
                · refine v_iload_n dX7_time_89 rfl ?_
                  refine v_sipush dX7_time_90 ?_
                  refine v_imul dX7_time_93 ?_
                  refine v_iload_n dX7_time_94 rfl ?_
                  refine v_bipush dX7_time_95 ?_
                  refine v_imul dX7_time_97 ?_
                  refine v_iadd dX7_time_98 ?_
                  refine v_iload dX7_time_99 rfl ?_
                  refine v_iadd dX7_time_101 ?_
                  refine v_i2l dX7_time_102 ?_
                  refine v_ldc2 (1000000000) dX7_time_103 kl_X7_134 ?_
                  refine v_lmul dX7_time_106 ?_
                  refine v_iload dX7_time_107 rfl ?_
                  refine v_i2l dX7_time_109 ?_
                  refine v_ladd dX7_time_110 ?_
                  refine v_goto 120 dX7_time_111 ?_
                  refine v_last dX7_time_120 (by first | exact h0 | exact aup_s | exact (aup_n nz0).trans h1 | exact (aup_n nz1).trans h2 | exact (aup_n nz0.symm).trans aup_s | exact (aup_n nz0).trans ((aup_n nz0).trans h1) | exact (aup_n nz1).trans ((aup_n nz1).trans h2)) ?_
                  exact v_vret dX7_time_121 rfl (by first | (exfalso; omega) | exact hQI (by omega) | (rw [aup_up]; exact hQ (by omega) (by unfold isTm; omega)) | (rw [gup_id, aup_up, aup_id ((aup_n nz1).trans h2)]; exact hQ2 (by omega) (by unfold isTm; omega)))
              · refine v_iconst dX7_time_71 ?_
                refine v_goto 76 dX7_time_72 ?_
                refine v_put dX7_time_76 f_X7_41 (by first | exact h0 | exact aup_s | exact (aup_n nz0).trans h1 | exact (aup_n nz1).trans h2 | exact (aup_n nz0.symm).trans aup_s | exact (aup_n nz0).trans ((aup_n nz0).trans h1) | exact (aup_n nz1).trans ((aup_n nz1).trans h2)) rfl rfl (Nat.le_of_ble_eq_true rfl) ?_
                refine v_aload_n dX7_time_79 rfl ?_
                refine v_get dX7_time_80 f_X7_13 (by first | exact h0 | exact aup_s | exact (aup_n nz0).trans h1 | exact (aup_n nz1).trans h2 | exact (aup_n nz0.symm).trans aup_s | exact (aup_n nz0).trans ((aup_n nz0).trans h1) | exact (aup_n nz1).trans ((aup_n nz1).trans h2)) rfl ?_
                refine v_iload_n dX7_time_83 rfl ?_
                refine v_iload dX7_time_84 rfl ?_
                refine v_if_eq 114 dX7_time_86 (fun h_86 => ?_) (fun h_86 => ?_)
                · refine v_aload_n dX7_time_114 rfl ?_
                  refine v_get dX7_time_115 f_X7_13 (by first | exact h0 | exact aup_s | exact (aup_n nz0).trans h1 | exact (aup_n nz1).trans h2 | exact (aup_n nz0.symm).trans aup_s | exact (aup_n nz0).trans ((aup_n nz0).trans h1) | exact (aup_n nz1).trans ((aup_n nz1).trans h2)) rfl ?_
                  refine v_iload_n dX7_time_118 rfl ?_
                  refine v_lald dX7_time_119 (by first | exact h0 | exact aup_s | exact (aup_n nz0).trans h1 | exact (aup_n nz1).trans h2 | exact (aup_n nz0.symm).trans aup_s | exact (aup_n nz0).trans ((aup_n nz0).trans h1) | exact (aup_n nz1).trans ((aup_n nz1).trans h2)) ?_
                  refine v_last dX7_time_120 (by first | exact h0 | exact aup_s | exact (aup_n nz0).trans h1 | exact (aup_n nz1).trans h2 | exact (aup_n nz0.symm).trans aup_s | exact (aup_n nz0).trans ((aup_n nz0).trans h1) | exact (aup_n nz1).trans ((aup_n nz1).trans h2)) ?_
                  exact v_vret dX7_time_121 rfl (by first | (exfalso; omega) | exact hQI (by omega) | (rw [aup_up]; exact hQ (by omega) (by unfold isTm; omega)) | (rw [gup_id, aup_up, aup_id ((aup_n nz1).trans h2)]; exact hQ2 (by omega) (by unfold isTm; omega)))
                · refine v_iload_n dX7_time_89 rfl ?_
                  refine v_sipush dX7_time_90 ?_
                  refine v_imul dX7_time_93 ?_
                  refine v_iload_n dX7_time_94 rfl ?_
                  refine v_bipush dX7_time_95 ?_
                  refine v_imul dX7_time_97 ?_
                  refine v_iadd dX7_time_98 ?_
                  refine v_iload dX7_time_99 rfl ?_
                  refine v_iadd dX7_time_101 ?_
                  refine v_i2l dX7_time_102 ?_
                  refine v_ldc2 (1000000000) dX7_time_103 kl_X7_134 ?_
                  refine v_lmul dX7_time_106 ?_
                  refine v_iload dX7_time_107 rfl ?_
                  refine v_i2l dX7_time_109 ?_
                  refine v_ladd dX7_time_110 ?_
                  refine v_goto 120 dX7_time_111 ?_
                  refine v_last dX7_time_120 (by first | exact h0 | exact aup_s | exact (aup_n nz0).trans h1 | exact (aup_n nz1).trans h2 | exact (aup_n nz0.symm).trans aup_s | exact (aup_n nz0).trans ((aup_n nz0).trans h1) | exact (aup_n nz1).trans ((aup_n nz1).trans h2)) ?_
                  exact v_vret dX7_time_121 rfl (by first | (exfalso; omega) | exact hQI (by omega) | (rw [aup_up]; exact hQ (by omega) (by unfold isTm; omega)) | (rw [gup_id, aup_up, aup_id ((aup_n nz1).trans h2)]; exact hQ2 (by omega) (by unfold isTm; omega)))
