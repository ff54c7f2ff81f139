theorem tSC_c {f : Int} (h : 6 ≤ f ∧ f ≤ 11) : (f = 6 ∧ tS f = 3600000000000 ∧ tC f = 24) ∨ (f = 7 ∧ tS f = 60000000000 ∧ tC f = 60) ∨ (f = 8 ∧ tS f = 1000000000 ∧ tC f = 60) ∨ (f = 9 ∧ tS f = 1 ∧ tC f = 1000000000) ∨ (f = 10 ∧ tS f = 1000000000 ∧ tC f = 86400) ∨ (f = 11 ∧ tS f = 1 ∧ tC f = 86400000000000) := by
  rcases (show f = 6 ∨ f = 7 ∨ f = 8 ∨ f = 9 ∨ f = 10 ∨ f = 11 by omega) with rfl | rfl | rfl | rfl | rfl | rfl <;> decide
theorem gF_t {y m d n f : Int} (h : 6 ≤ f ∧ f ≤ 11) (hn : 0 ≤ n ∧ n ≤ 86399999999999) : gF y m d n f = n / tS f % tC f := by
  rcases (show f = 6 ∨ f = 7 ∨ f = 8 ∨ f = 9 ∨ f = 10 ∨ f = 11 by omega) with rfl | rfl | rfl | rfl | rfl | rfl
  · rfl
  · rfl
  · rfl
  · rfl
  · rfl
  · show n = n / 1 % 86400000000000
    omega
set_option maxRecDepth 100000 in
set_option maxHeartbeats 4000000 in
theorem s_X7_withTime {l : Launch} {G : GG} {w : AH} {Q : Option Value → AH → Prop} {X : String → AH → Prop} (hst : l.stackTraces = false) {z : Nat} {A : Nat → Nat} {th yq mq dq ty ap wr sz : Int} (h0 : w z = some (mdC A th yq mq dq ty ap wr sz)) {gd gn : Nat → Int} (h1 : w (A 0) = some (alA G 8 gd)) (h2 : w (A 1) = some (alA G 8 gn)) (hA01 : A 0 ≠ A 1) (hgd : ∀ k, k < 8 → -4371587 ≤ gd k ∧ gd k ≤ 2932896) (hgn : ∀ k, k < 8 → 0 ≤ gn k ∧ gn k ≤ 86399999999999) {i f v : Int} (hi : 0 ≤ i ∧ i ≤ 7) (hf : 6 ≤ f ∧ f ≤ 11) (hv : -9223372036854775808 ≤ v ∧ v ≤ 9223372036854775807) (hQ3 : (v < 0 ∨ tC f ≤ v) → Q none (aup w z (mdC A 3 yq mq dq ty ap wr sz))) (hQ : (0 ≤ v ∧ v < tC f) → Q none (aup (aup w z (mdC A 0 yq mq dq ty ap wr sz)) (A 1) (alA G 8 (gup gn i.toNat (gn i.toNat + (v - gn i.toNat / tS f % tC f) * tS f))))) : Ct l G mX7_withTime rX7_withTime [(.ref z), .int (iI i), .int (iI f), .long (lI v)] w Q X := by
  have nz0 : A 0 ≠ z := fun e => ne_of h0 h1 mdal e.symm
  have nz1 : A 1 ≠ z := fun e => ne_of h0 h2 mdal e.symm
  have hn := hgn i.toNat (by omega)
  have hsc := tSC_c hf
  refine ct_of hst mk_X7_withTime (Nat.le_of_ble_eq_true rfl) ?_
  have J104 : ∀ c : Int, c = tC f → ∀ s : Int, s = tS f → V l G mX7_withTime rX7_withTime Q X 104 (lof [(0, .ref z), (1, .int (iI i)), (2, .int (iI f)), (3, .long (lI v)), (5, .long (lI s)), (7, .long (lI c))]) [] (w) 0 0 := by
    intro c hc s hs
    refine v_aload_n dX7_withTime_104 rfl ?_
    refine v_lload_n dX7_withTime_105 rfl ?_
    refine v_lconst0 dX7_withTime_106 ?_
    refine v_lload dX7_withTime_107 rfl ?_
    refine v_lconst1 dX7_withTime_109 ?_
    refine v_lsub dX7_withTime_110 ?_
    refine v_S3 (rm' := rX7_in) dX7_withTime_111 km_X7_102 ks_X7_in kz_X7 mk_X7_in rfl ⟨Nat.le_of_ble_eq_true rfl, Nat.le_of_ble_eq_true rfl⟩ ⟨Nat.le_of_ble_eq_true rfl, Nat.le_of_ble_eq_true rfl⟩ (Nat.le_of_ble_eq_true rfl) ?_
    refine s_X7_in hst (fun ri ei => ?_)
    refine v_if_eq 121 dX7_withTime_114 (fun h_114 => ?_) (fun h_114 => ?_)
    · refine v_iconst dX7_withTime_121 ?_
      refine v_put dX7_withTime_122 f_X7_41 (by first | exact h0 | exact aup_s | exact (aup_n nz0).trans h1 | exact (aup_n nz1).trans h2 | exact (aup_n nz0.symm).trans aup_s | exact (aup_n nz0).trans ((aup_n nz0).trans h1) | exact (aup_n nz1).trans ((aup_n nz1).trans h2)) rfl rfl (Nat.le_of_ble_eq_true rfl) ?_
      try rw [aup_up]
      refine v_aload_n dX7_withTime_125 rfl ?_
      refine v_get dX7_withTime_126 f_X7_41 (by first | exact h0 | exact aup_s | exact (aup_n nz0).trans h1 | exact (aup_n nz1).trans h2 | exact (aup_n nz0.symm).trans aup_s | exact (aup_n nz0).trans ((aup_n nz0).trans h1) | exact (aup_n nz1).trans ((aup_n nz1).trans h2)) rfl ?_
      refine v_if_ne 156 dX7_withTime_129 (fun h_129 => ?_) (fun h_129 => ?_)
      · exact v_vret dX7_withTime_156 rfl (by first | (exfalso; omega) | exact hQ3 (by omega) | (rw [hs, hc]; exact hQ (by omega)))
      · refine v_aload_n dX7_withTime_132 rfl ?_
        refine v_get dX7_withTime_133 f_X7_13 (by first | exact h0 | exact aup_s | exact (aup_n nz0).trans h1 | exact (aup_n nz1).trans h2 | exact (aup_n nz0.symm).trans aup_s | exact (aup_n nz0).trans ((aup_n nz0).trans h1) | exact (aup_n nz1).trans ((aup_n nz1).trans h2)) rfl ?_
        refine v_iload_n dX7_withTime_136 rfl ?_
        refine v_dup2 dX7_withTime_137 rfl rfl ?_
        refine v_lald dX7_withTime_138 (by first | exact h0 | exact aup_s | exact (aup_n nz0).trans h1 | exact (aup_n nz1).trans h2 | exact (aup_n nz0.symm).trans aup_s | exact (aup_n nz0).trans ((aup_n nz0).trans h1) | exact (aup_n nz1).trans ((aup_n nz1).trans h2)) ?_
        refine v_lload_n dX7_withTime_139 rfl ?_
        refine v_aload_n dX7_withTime_140 rfl ?_
        refine v_get dX7_withTime_141 f_X7_13 (by first | exact h0 | exact aup_s | exact (aup_n nz0).trans h1 | exact (aup_n nz1).trans h2 | exact (aup_n nz0.symm).trans aup_s | exact (aup_n nz0).trans ((aup_n nz0).trans h1) | exact (aup_n nz1).trans ((aup_n nz1).trans h2)) rfl ?_
        refine v_iload_n dX7_withTime_144 rfl ?_
        refine v_lald dX7_withTime_145 (by first | exact h0 | exact aup_s | exact (aup_n nz0).trans h1 | exact (aup_n nz1).trans h2 | exact (aup_n nz0.symm).trans aup_s | exact (aup_n nz0).trans ((aup_n nz0).trans h1) | exact (aup_n nz1).trans ((aup_n nz1).trans h2)) ?_
        refine v_iload_n dX7_withTime_146 rfl ?_
        refine v_S2 (rm' := rX7_timed) dX7_withTime_147 km_X7_142 ks_X7_timed kz_X7 mk_X7_timed rfl ⟨Nat.le_of_ble_eq_true rfl, Nat.le_of_ble_eq_true rfl⟩ ⟨Nat.le_of_ble_eq_true rfl, Nat.le_of_ble_eq_true rfl⟩ (Nat.le_of_ble_eq_true rfl) ?_
        refine s_X7_timed (y := 0) (m := 1) (d := 1) hst (by omega) (by omega) ?_
        rw [gF_t (by omega) hn, ← hs, ← hc]
        have hx0 : 0 ≤ gn i.toNat / s % c := Int.emod_nonneg _ (by omega)
        have hx1 : gn i.toNat / s % c < c := Int.emod_lt_of_pos _ (by omega)
        refine v_lsub dX7_withTime_150 ?_
        refine v_lload dX7_withTime_151 rfl ?_
        refine v_lmul dX7_withTime_153 ?_
        refine v_ladd dX7_withTime_154 ?_
        refine v_last dX7_withTime_155 (by first | exact h0 | exact aup_s | exact (aup_n nz0).trans h1 | exact (aup_n nz1).trans h2 | exact (aup_n nz0.symm).trans aup_s | exact (aup_n nz0).trans ((aup_n nz0).trans h1) | exact (aup_n nz1).trans ((aup_n nz1).trans h2)) ?_
        exact v_vret dX7_withTime_156 rfl (by first | (exfalso; omega) | exact hQ3 (by omega) | (rw [hs, hc]; exact hQ (by omega)))
    · refine v_iconst dX7_withTime_117 ?_
      refine v_goto 122 dX7_withTime_118 ?_
      refine v_put dX7_withTime_122 f_X7_41 (by first | exact h0 | exact aup_s | exact (aup_n nz0).trans h1 | exact (aup_n nz1).trans h2 | exact (aup_n nz0.symm).trans aup_s | exact (aup_n nz0).trans ((aup_n nz0).trans h1) | exact (aup_n nz1).trans ((aup_n nz1).trans h2)) rfl rfl (Nat.le_of_ble_eq_true rfl) ?_
      try rw [aup_up]
      refine v_aload_n dX7_withTime_125 rfl ?_
      refine v_get dX7_withTime_126 f_X7_41 (by first | exact h0 | exact aup_s | exact (aup_n nz0).trans h1 | exact (aup_n nz1).trans h2 | exact (aup_n nz0.symm).trans aup_s | exact (aup_n nz0).trans ((aup_n nz0).trans h1) | exact (aup_n nz1).trans ((aup_n nz1).trans h2)) rfl ?_
      refine v_if_ne 156 dX7_withTime_129 (fun h_129 => ?_) (fun h_129 => ?_)
      · exact v_vret dX7_withTime_156 rfl (by first | (exfalso; omega) | exact hQ3 (by omega) | (rw [hs, hc]; exact hQ (by omega)))
      · refine v_aload_n dX7_withTime_132 rfl ?_
        refine v_get dX7_withTime_133 f_X7_13 (by first | exact h0 | exact aup_s | exact (aup_n nz0).trans h1 | exact (aup_n nz1).trans h2 | exact (aup_n nz0.symm).trans aup_s | exact (aup_n nz0).trans ((aup_n nz0).trans h1) | exact (aup_n nz1).trans ((aup_n nz1).trans h2)) rfl ?_
        refine v_iload_n dX7_withTime_136 rfl ?_
        refine v_dup2 dX7_withTime_137 rfl rfl ?_
        refine v_lald dX7_withTime_138 (by first | exact h0 | exact aup_s | exact (aup_n nz0).trans h1 | exact (aup_n nz1).trans h2 | exact (aup_n nz0.symm).trans aup_s | exact (aup_n nz0).trans ((aup_n nz0).trans h1) | exact (aup_n nz1).trans ((aup_n nz1).trans h2)) ?_
        refine v_lload_n dX7_withTime_139 rfl ?_
        refine v_aload_n dX7_withTime_140 rfl ?_
        refine v_get dX7_withTime_141 f_X7_13 (by first | exact h0 | exact aup_s | exact (aup_n nz0).trans h1 | exact (aup_n nz1).trans h2 | exact (aup_n nz0.symm).trans aup_s | exact (aup_n nz0).trans ((aup_n nz0).trans h1) | exact (aup_n nz1).trans ((aup_n nz1).trans h2)) rfl ?_
        refine v_iload_n dX7_withTime_144 rfl ?_
        refine v_lald dX7_withTime_145 (by first | exact h0 | exact aup_s | exact (aup_n nz0).trans h1 | exact (aup_n nz1).trans h2 | exact (aup_n nz0.symm).trans aup_s | exact (aup_n nz0).trans ((aup_n nz0).trans h1) | exact (aup_n nz1).trans ((aup_n nz1).trans h2)) ?_
        refine v_iload_n dX7_withTime_146 rfl ?_
        refine v_S2 (rm' := rX7_timed) dX7_withTime_147 km_X7_142 ks_X7_timed kz_X7 mk_X7_timed rfl ⟨Nat.le_of_ble_eq_true rfl, Nat.le_of_ble_eq_true rfl⟩ ⟨Nat.le_of_ble_eq_true rfl, Nat.le_of_ble_eq_true rfl⟩ (Nat.le_of_ble_eq_true rfl) ?_
        refine s_X7_timed (y := 0) (m := 1) (d := 1) hst (by omega) (by omega) ?_
        rw [gF_t (by omega) hn, ← hs, ← hc]
        have hx0 : 0 ≤ gn i.toNat / s % c := Int.emod_nonneg _ (by omega)
        have hx1 : gn i.toNat / s % c < c := Int.emod_lt_of_pos _ (by omega)
        refine v_lsub dX7_withTime_150 ?_
        refine v_lload dX7_withTime_151 rfl ?_
        refine v_lmul dX7_withTime_153 ?_
        refine v_ladd dX7_withTime_154 ?_
        refine v_last dX7_withTime_155 (by first | exact h0 | exact aup_s | exact (aup_n nz0).trans h1 | exact (aup_n nz1).trans h2 | exact (aup_n nz0.symm).trans aup_s | exact (aup_n nz0).trans ((aup_n nz0).trans h1) | exact (aup_n nz1).trans ((aup_n nz1).trans h2)) ?_
        exact v_vret dX7_withTime_156 rfl (by first | (exfalso; omega) | exact hQ3 (by omega) | (rw [hs, hc]; exact hQ (by omega)))
  have J45 : ∀ s : Int, s = tS f → V l G mX7_withTime rX7_withTime Q X 45 (lof [(0, .ref z), (1, .int (iI i)), (2, .int (iI f)), (3, .long (lI v)), (5, .long (lI s))]) [] (w) 0 0 := by
    intro s hs
    refine v_iload_n dX7_withTime_45 rfl ?_
    refine v_bipush dX7_withTime_46 ?_
    refine v_icmp_ne 57 dX7_withTime_48 (fun h_48 => ?_) (fun h_48 => ?_)
    · refine v_iload_n dX7_withTime_57 rfl ?_
      refine v_bipush dX7_withTime_58 ?_
      refine v_icmp_eq 69 dX7_withTime_60 (fun h_60 => ?_) (fun h_60 => ?_)
      · refine v_ldc2 (60) dX7_withTime_69 kl_X7_150 ?_
        refine v_goto 102 dX7_withTime_72 ?_
        refine v_lstore dX7_withTime_102 (by decide) ?_
        exact v_lof [(0, .ref z), (1, .int (iI i)), (2, .int (iI f)), (3, .long (lI v)), (5, .long (lI s)), (7, .long (lI _))] (List.forall_mem_cons.mpr ⟨rfl, (List.forall_mem_cons.mpr ⟨rfl, (List.forall_mem_cons.mpr ⟨rfl, (List.forall_mem_cons.mpr ⟨rfl, (List.forall_mem_cons.mpr ⟨rfl, (List.forall_mem_cons.mpr ⟨rfl, (fun _ h => nomatch h)⟩)⟩)⟩)⟩)⟩)⟩) (J104 _ (by omega) s hs)
      · refine v_iload_n dX7_withTime_63 rfl ?_
        refine v_bipush dX7_withTime_64 ?_
        refine v_icmp_ne 75 dX7_withTime_66 (fun h_66 => ?_) (fun h_66 => ?_)
        · refine v_iload_n dX7_withTime_75 rfl ?_
          refine v_bipush dX7_withTime_76 ?_
          refine v_icmp_ne 87 dX7_withTime_78 (fun h_78 => ?_) (fun h_78 => ?_)
          · refine v_iload_n dX7_withTime_87 rfl ?_
            refine v_bipush dX7_withTime_88 ?_
            refine v_icmp_ne 99 dX7_withTime_90 (fun h_90 => ?_) (fun h_90 => ?_)
            · refine v_ldc2 (86400000000000) dX7_withTime_99 kl_X7_173 ?_
              refine v_lstore dX7_withTime_102 (by decide) ?_
              exact v_lof [(0, .ref z), (1, .int (iI i)), (2, .int (iI f)), (3, .long (lI v)), (5, .long (lI s)), (7, .long (lI _))] (List.forall_mem_cons.mpr ⟨rfl, (List.forall_mem_cons.mpr ⟨rfl, (List.forall_mem_cons.mpr ⟨rfl, (List.forall_mem_cons.mpr ⟨rfl, (List.forall_mem_cons.mpr ⟨rfl, (List.forall_mem_cons.mpr ⟨rfl, (fun _ h => nomatch h)⟩)⟩)⟩)⟩)⟩)⟩) (J104 _ (by omega) s hs)
            · refine v_ldc2 (86400) dX7_withTime_93 kl_X7_171 ?_
              refine v_goto 102 dX7_withTime_96 ?_
              refine v_lstore dX7_withTime_102 (by decide) ?_
              exact v_lof [(0, .ref z), (1, .int (iI i)), (2, .int (iI f)), (3, .long (lI v)), (5, .long (lI s)), (7, .long (lI _))] (List.forall_mem_cons.mpr ⟨rfl, (List.forall_mem_cons.mpr ⟨rfl, (List.forall_mem_cons.mpr ⟨rfl, (List.forall_mem_cons.mpr ⟨rfl, (List.forall_mem_cons.mpr ⟨rfl, (List.forall_mem_cons.mpr ⟨rfl, (fun _ h => nomatch h)⟩)⟩)⟩)⟩)⟩)⟩) (J104 _ (by omega) s hs)
          · refine v_ldc2 (1000000000) dX7_withTime_81 kl_X7_134 ?_
            refine v_goto 102 dX7_withTime_84 ?_
            refine v_lstore dX7_withTime_102 (by decide) ?_
            exact v_lof [(0, .ref z), (1, .int (iI i)), (2, .int (iI f)), (3, .long (lI v)), (5, .long (lI s)), (7, .long (lI _))] (List.forall_mem_cons.mpr ⟨rfl, (List.forall_mem_cons.mpr ⟨rfl, (List.forall_mem_cons.mpr ⟨rfl, (List.forall_mem_cons.mpr ⟨rfl, (List.forall_mem_cons.mpr ⟨rfl, (List.forall_mem_cons.mpr ⟨rfl, (fun _ h => nomatch h)⟩)⟩)⟩)⟩)⟩)⟩) (J104 _ (by omega) s hs)
        · refine v_ldc2 (60) dX7_withTime_69 kl_X7_150 ?_
          refine v_goto 102 dX7_withTime_72 ?_
          refine v_lstore dX7_withTime_102 (by decide) ?_
          exact v_lof [(0, .ref z), (1, .int (iI i)), (2, .int (iI f)), (3, .long (lI v)), (5, .long (lI s)), (7, .long (lI _))] (List.forall_mem_cons.mpr ⟨rfl, (List.forall_mem_cons.mpr ⟨rfl, (List.forall_mem_cons.mpr ⟨rfl, (List.forall_mem_cons.mpr ⟨rfl, (List.forall_mem_cons.mpr ⟨rfl, (List.forall_mem_cons.mpr ⟨rfl, (fun _ h => nomatch h)⟩)⟩)⟩)⟩)⟩)⟩) (J104 _ (by omega) s hs)
    · refine v_ldc2 (24) dX7_withTime_51 kl_X7_169 ?_
      refine v_goto 102 dX7_withTime_54 ?_
      refine v_lstore dX7_withTime_102 (by decide) ?_
      exact v_lof [(0, .ref z), (1, .int (iI i)), (2, .int (iI f)), (3, .long (lI v)), (5, .long (lI s)), (7, .long (lI _))] (List.forall_mem_cons.mpr ⟨rfl, (List.forall_mem_cons.mpr ⟨rfl, (List.forall_mem_cons.mpr ⟨rfl, (List.forall_mem_cons.mpr ⟨rfl, (List.forall_mem_cons.mpr ⟨rfl, (List.forall_mem_cons.mpr ⟨rfl, (fun _ h => nomatch h)⟩)⟩)⟩)⟩)⟩)⟩) (J104 _ (by omega) s hs)
  refine v_iload_n dX7_withTime_0 rfl ?_
  refine v_bipush dX7_withTime_1 ?_
  refine v_icmp_ne 12 dX7_withTime_3 (fun h_3 => ?_) (fun h_3 => ?_)
  · refine v_iload_n dX7_withTime_12 rfl ?_
    refine v_bipush dX7_withTime_13 ?_
    refine v_icmp_ne 24 dX7_withTime_15 (fun h_15 => ?_) (fun h_15 => ?_)
    · refine v_iload_n dX7_withTime_24 rfl ?_
      refine v_bipush dX7_withTime_25 ?_
      refine v_icmp_eq 36 dX7_withTime_27 (fun h_27 => ?_) (fun h_27 => ?_)
      · refine v_ldc2 (1000000000) dX7_withTime_36 kl_X7_134 ?_
        refine v_goto 43 dX7_withTime_39 ?_
        refine v_lstore dX7_withTime_43 (by decide) ?_
        exact v_lof [(0, .ref z), (1, .int (iI i)), (2, .int (iI f)), (3, .long (lI v)), (5, .long (lI _))] (List.forall_mem_cons.mpr ⟨rfl, (List.forall_mem_cons.mpr ⟨rfl, (List.forall_mem_cons.mpr ⟨rfl, (List.forall_mem_cons.mpr ⟨rfl, (List.forall_mem_cons.mpr ⟨rfl, (fun _ h => nomatch h)⟩)⟩)⟩)⟩)⟩) (J45 _ (by omega))
      · refine v_iload_n dX7_withTime_30 rfl ?_
        refine v_bipush dX7_withTime_31 ?_
        refine v_icmp_ne 42 dX7_withTime_33 (fun h_33 => ?_) (fun h_33 => ?_)
        · refine v_lconst1 dX7_withTime_42 ?_
          refine v_lstore dX7_withTime_43 (by decide) ?_
          exact v_lof [(0, .ref z), (1, .int (iI i)), (2, .int (iI f)), (3, .long (lI v)), (5, .long (lI _))] (List.forall_mem_cons.mpr ⟨rfl, (List.forall_mem_cons.mpr ⟨rfl, (List.forall_mem_cons.mpr ⟨rfl, (List.forall_mem_cons.mpr ⟨rfl, (List.forall_mem_cons.mpr ⟨rfl, (fun _ h => nomatch h)⟩)⟩)⟩)⟩)⟩) (J45 _ (by omega))
        · refine v_ldc2 (1000000000) dX7_withTime_36 kl_X7_134 ?_
          refine v_goto 43 dX7_withTime_39 ?_
          refine v_lstore dX7_withTime_43 (by decide) ?_
          exact v_lof [(0, .ref z), (1, .int (iI i)), (2, .int (iI f)), (3, .long (lI v)), (5, .long (lI _))] (List.forall_mem_cons.mpr ⟨rfl, (List.forall_mem_cons.mpr ⟨rfl, (List.forall_mem_cons.mpr ⟨rfl, (List.forall_mem_cons.mpr ⟨rfl, (List.forall_mem_cons.mpr ⟨rfl, (fun _ h => nomatch h)⟩)⟩)⟩)⟩)⟩) (J45 _ (by omega))
    · refine v_ldc2 (60000000000) dX7_withTime_18 kl_X7_148 ?_
      refine v_goto 43 dX7_withTime_21 ?_
      refine v_lstore dX7_withTime_43 (by decide) ?_
      exact v_lof [(0, .ref z), (1, .int (iI i)), (2, .int (iI f)), (3, .long (lI v)), (5, .long (lI _))] (List.forall_mem_cons.mpr ⟨rfl, (List.forall_mem_cons.mpr ⟨rfl, (List.forall_mem_cons.mpr ⟨rfl, (List.forall_mem_cons.mpr ⟨rfl, (List.forall_mem_cons.mpr ⟨rfl, (fun _ h => nomatch h)⟩)⟩)⟩)⟩)⟩) (J45 _ (by omega))
  · refine v_ldc2 (3600000000000) dX7_withTime_6 kl_X7_146 ?_
    refine v_goto 43 dX7_withTime_9 ?_
    refine v_lstore dX7_withTime_43 (by decide) ?_
    exact v_lof [(0, .ref z), (1, .int (iI i)), (2, .int (iI f)), (3, .long (lI v)), (5, .long (lI _))] (List.forall_mem_cons.mpr ⟨rfl, (List.forall_mem_cons.mpr ⟨rfl, (List.forall_mem_cons.mpr ⟨rfl, (List.forall_mem_cons.mpr ⟨rfl, (List.forall_mem_cons.mpr ⟨rfl, (fun _ h => nomatch h)⟩)⟩)⟩)⟩)⟩) (J45 _ (by omega))
set_option maxRecDepth 100000 in
set_option maxHeartbeats 4000000 in
theorem s_X7_copy {l : Launch} {G : GG} {w : AH} {Q : Option Value → AH → Prop} {X : String → AH → Prop} (hst : l.stackTraces = false) {z : Nat} {A : Nat → Nat} {th yq mq dq ty ap wr sz : Int} (h0 : w z = some (mdC A th yq mq dq ty ap wr sz)) {gd gn : Nat → Int} (h1 : w (A 0) = some (alA G 8 gd)) (h2 : w (A 1) = some (alA G 8 gn)) (hA01 : A 0 ≠ A 1) (hgd : ∀ k, k < 8 → -4371587 ≤ gd k ∧ gd k ≤ 2932896) (hgn : ∀ k, k < 8 → 0 ≤ gn k ∧ gn k ≤ 86399999999999) {i j : Int} (hi : -2147483648 ≤ i ∧ i ≤ 2147483647) (hj : -2147483648 ≤ j ∧ j ≤ 2147483647) (hQI : (i < 0 ∨ 7 < i) ∨ (j < 0 ∨ 7 < j) → Q (some (.int (iI 0))) (aup w z (mdC A 1 yq mq dq ty ap wr sz))) (hQ : ∀ r : Int, (0 ≤ i ∧ i ≤ 7) → (0 ≤ j ∧ j ≤ 7) → cmpE (gd j.toNat) (gn j.toNat) (gd i.toNat) (gn i.toNat) r → Q (some (.int (iI r))) (aup (aup (aup w z (mdC A 0 yq mq dq ty ap wr sz)) (A 0) (alA G 8 (gup gd j.toNat (gd i.toNat)))) (A 1) (alA G 8 (gup gn j.toNat (gn i.toNat))))) : Ct l G mX7_copy rX7_copy [(.ref z), .int (iI i), .int (iI j)] w Q X := by
  have nz0 : A 0 ≠ z := fun e => ne_of h0 h1 mdal e.symm
  have nz1 : A 1 ≠ z := fun e => ne_of h0 h2 mdal e.symm
  refine ct_of hst mk_X7_copy (Nat.le_of_ble_eq_true rfl) ?_
  have J111 : ∀ r : Int, cmpE (gd j.toNat) (gn j.toNat) (gd i.toNat) (gn i.toNat) r → (0 ≤ i ∧ i ≤ 7) → (0 ≤ j ∧ j ≤ 7) → V l G mX7_copy rX7_copy Q X 111 (lof [(0, .ref z), (1, .int (iI i)), (2, .int (iI j)), (4, .int (iI r))]) [] (aup w z (mdC A 0 yq mq dq ty ap wr sz)) 0 0 := by
    intro r hr h7 h8
    refine v_aload_n dX7_copy_111 rfl ?_
    refine v_get dX7_copy_112 f_X7_7 (by first | exact h0 | exact aup_s | exact (aup_n nz0).trans h1 | exact (aup_n nz1).trans h2 | exact (aup_n nz0.symm).trans aup_s | exact (aup_n nz0).trans ((aup_n nz0).trans h1) | exact (aup_n nz1).trans ((aup_n nz1).trans h2) | exact (aup_n hA01.symm).trans ((aup_n nz1).trans h2) | exact (aup_n nz1.symm).trans ((aup_n nz0.symm).trans aup_s)) rfl ?_
    refine v_iload_n dX7_copy_115 rfl ?_
    refine v_aload_n dX7_copy_116 rfl ?_
    refine v_get dX7_copy_117 f_X7_7 (by first | exact h0 | exact aup_s | exact (aup_n nz0).trans h1 | exact (aup_n nz1).trans h2 | exact (aup_n nz0.symm).trans aup_s | exact (aup_n nz0).trans ((aup_n nz0).trans h1) | exact (aup_n nz1).trans ((aup_n nz1).trans h2) | exact (aup_n hA01.symm).trans ((aup_n nz1).trans h2) | exact (aup_n nz1.symm).trans ((aup_n nz0.symm).trans aup_s)) rfl ?_
    refine v_iload_n dX7_copy_120 rfl ?_
    refine v_lald dX7_copy_121 (by first | exact h0 | exact aup_s | exact (aup_n nz0).trans h1 | exact (aup_n nz1).trans h2 | exact (aup_n nz0.symm).trans aup_s | exact (aup_n nz0).trans ((aup_n nz0).trans h1) | exact (aup_n nz1).trans ((aup_n nz1).trans h2) | exact (aup_n hA01.symm).trans ((aup_n nz1).trans h2) | exact (aup_n nz1.symm).trans ((aup_n nz0.symm).trans aup_s)) ?_
    refine v_last dX7_copy_122 (by first | exact h0 | exact aup_s | exact (aup_n nz0).trans h1 | exact (aup_n nz1).trans h2 | exact (aup_n nz0.symm).trans aup_s | exact (aup_n nz0).trans ((aup_n nz0).trans h1) | exact (aup_n nz1).trans ((aup_n nz1).trans h2) | exact (aup_n hA01.symm).trans ((aup_n nz1).trans h2) | exact (aup_n nz1.symm).trans ((aup_n nz0.symm).trans aup_s)) ?_
    refine v_aload_n dX7_copy_123 rfl ?_
    refine v_get dX7_copy_124 f_X7_13 (by first | exact h0 | exact aup_s | exact (aup_n nz0).trans h1 | exact (aup_n nz1).trans h2 | exact (aup_n nz0.symm).trans aup_s | exact (aup_n nz0).trans ((aup_n nz0).trans h1) | exact (aup_n nz1).trans ((aup_n nz1).trans h2) | exact (aup_n hA01.symm).trans ((aup_n nz1).trans h2) | exact (aup_n nz1.symm).trans ((aup_n nz0.symm).trans aup_s)) rfl ?_
    refine v_iload_n dX7_copy_127 rfl ?_
    refine v_aload_n dX7_copy_128 rfl ?_
    refine v_get dX7_copy_129 f_X7_13 (by first | exact h0 | exact aup_s | exact (aup_n nz0).trans h1 | exact (aup_n nz1).trans h2 | exact (aup_n nz0.symm).trans aup_s | exact (aup_n nz0).trans ((aup_n nz0).trans h1) | exact (aup_n nz1).trans ((aup_n nz1).trans h2) | exact (aup_n hA01.symm).trans ((aup_n nz1).trans h2) | exact (aup_n nz1.symm).trans ((aup_n nz0.symm).trans aup_s)) rfl ?_
    refine v_iload_n dX7_copy_132 rfl ?_
    refine v_lald dX7_copy_133 (by first | exact h0 | exact aup_s | exact (aup_n nz0).trans h1 | exact (aup_n nz1).trans h2 | exact (aup_n nz0.symm).trans aup_s | exact (aup_n nz0).trans ((aup_n nz0).trans h1) | exact (aup_n nz1).trans ((aup_n nz1).trans h2) | exact (aup_n hA01.symm).trans ((aup_n nz1).trans h2) | exact (aup_n nz1.symm).trans ((aup_n nz0.symm).trans aup_s)) ?_
    refine v_last dX7_copy_134 (by first | exact h0 | exact aup_s | exact (aup_n nz0).trans h1 | exact (aup_n nz1).trans h2 | exact (aup_n nz0.symm).trans aup_s | exact (aup_n nz0).trans ((aup_n nz0).trans h1) | exact (aup_n nz1).trans ((aup_n nz1).trans h2) | exact (aup_n hA01.symm).trans ((aup_n nz1).trans h2) | exact (aup_n nz1.symm).trans ((aup_n nz0.symm).trans aup_s)) ?_
    refine v_iload dX7_copy_135 rfl ?_
    exact v_iret dX7_copy_137 rfl (by exact hQ r h7 h8 hr)
  refine v_aload_n dX7_copy_0 rfl ?_
  refine v_iload_n dX7_copy_1 rfl ?_
  refine v_V1 (rm' := rX7_isSlot) (RX7, TX7, 18) dX7_copy_2 km_X7_120 kn_X7_isSlot kv_X7_isSlot kz_X7 mk_X7_isSlot rfl rfl (by first | exact h0 | exact aup_s | exact (aup_n nz0).trans h1 | exact (aup_n nz1).trans h2 | exact (aup_n nz0.symm).trans aup_s | exact (aup_n nz0).trans ((aup_n nz0).trans h1) | exact (aup_n nz1).trans ((aup_n nz1).trans h2) | exact (aup_n hA01.symm).trans ((aup_n nz1).trans h2) | exact (aup_n nz1.symm).trans ((aup_n nz0.symm).trans aup_s)) ⟨Nat.le_of_ble_eq_true rfl, Nat.le_of_ble_eq_true rfl⟩ ⟨Nat.le_of_ble_eq_true rfl, Nat.le_of_ble_eq_true rfl⟩ (Nat.le_of_ble_eq_true rfl) ?_
  refine s_X7_isSlot hst h0 hi (fun h7 => ?_) (fun h7 => ?_)
  · have hn := hgn i.toNat (by omega)
    have hg1 := hgd i.toNat (by omega)
    refine v_if_eq 16 dX7_copy_5 (fun h_5 => ?_) (fun h_5 => ?_)
    · (exfalso; omega)
    refine v_aload_n dX7_copy_8 rfl ?_
    refine v_iload_n dX7_copy_9 rfl ?_
    refine v_V1 (rm' := rX7_isSlot) (RX7, TX7, 18) dX7_copy_10 km_X7_120 kn_X7_isSlot kv_X7_isSlot kz_X7 mk_X7_isSlot rfl rfl (by first | exact h0 | exact aup_s | exact (aup_n nz0).trans h1 | exact (aup_n nz1).trans h2 | exact (aup_n nz0.symm).trans aup_s | exact (aup_n nz0).trans ((aup_n nz0).trans h1) | exact (aup_n nz1).trans ((aup_n nz1).trans h2) | exact (aup_n hA01.symm).trans ((aup_n nz1).trans h2) | exact (aup_n nz1.symm).trans ((aup_n nz0.symm).trans aup_s)) ⟨Nat.le_of_ble_eq_true rfl, Nat.le_of_ble_eq_true rfl⟩ ⟨Nat.le_of_ble_eq_true rfl, Nat.le_of_ble_eq_true rfl⟩ (Nat.le_of_ble_eq_true rfl) ?_
    refine s_X7_isSlot hst aup_s hj (fun h8 => ?_) (fun h8 => ?_)
    · rw [aup_up]
      have hn2 := hgn j.toNat (by omega)
      have hg2 := hgd j.toNat (by omega)
      refine v_if_ne 18 dX7_copy_13 (fun h_13 => ?_) (fun h_13 => ?_)
      rotate_left
      · (exfalso; omega)
      refine v_aload_n dX7_copy_18 rfl ?_
      refine v_get dX7_copy_19 f_X7_7 (by first | exact h0 | exact aup_s | exact (aup_n nz0).trans h1 | exact (aup_n nz1).trans h2 | exact (aup_n nz0.symm).trans aup_s | exact (aup_n nz0).trans ((aup_n nz0).trans h1) | exact (aup_n nz1).trans ((aup_n nz1).trans h2) | exact (aup_n hA01.symm).trans ((aup_n nz1).trans h2) | exact (aup_n nz1.symm).trans ((aup_n nz0.symm).trans aup_s)) rfl ?_
      refine v_iload_n dX7_copy_22 rfl ?_
      refine v_lald dX7_copy_23 (by first | exact h0 | exact aup_s | exact (aup_n nz0).trans h1 | exact (aup_n nz1).trans h2 | exact (aup_n nz0.symm).trans aup_s | exact (aup_n nz0).trans ((aup_n nz0).trans h1) | exact (aup_n nz1).trans ((aup_n nz1).trans h2) | exact (aup_n hA01.symm).trans ((aup_n nz1).trans h2) | exact (aup_n nz1.symm).trans ((aup_n nz0.symm).trans aup_s)) ?_
      refine v_aload_n dX7_copy_24 rfl ?_
      refine v_get dX7_copy_25 f_X7_7 (by first | exact h0 | exact aup_s | exact (aup_n nz0).trans h1 | exact (aup_n nz1).trans h2 | exact (aup_n nz0.symm).trans aup_s | exact (aup_n nz0).trans ((aup_n nz0).trans h1) | exact (aup_n nz1).trans ((aup_n nz1).trans h2) | exact (aup_n hA01.symm).trans ((aup_n nz1).trans h2) | exact (aup_n nz1.symm).trans ((aup_n nz0.symm).trans aup_s)) rfl ?_
      refine v_iload_n dX7_copy_28 rfl ?_
      refine v_lald dX7_copy_29 (by first | exact h0 | exact aup_s | exact (aup_n nz0).trans h1 | exact (aup_n nz1).trans h2 | exact (aup_n nz0.symm).trans aup_s | exact (aup_n nz0).trans ((aup_n nz0).trans h1) | exact (aup_n nz1).trans ((aup_n nz1).trans h2) | exact (aup_n hA01.symm).trans ((aup_n nz1).trans h2) | exact (aup_n nz1.symm).trans ((aup_n nz0.symm).trans aup_s)) ?_
      refine v_lif_ne 38 dX7_copy_30 dX7_copy_31 (fun h_30 => ?_) (fun h_30 => ?_)
      · refine v_iconst dX7_copy_38 ?_
        refine v_istore_n dX7_copy_39 (by decide) ?_
        refine v_iload_n dX7_copy_40 rfl ?_
        refine v_if_eq 88 dX7_copy_41 (fun h_41 => ?_) (fun h_41 => ?_)
        · refine v_aload_n dX7_copy_88 rfl ?_
          refine v_get dX7_copy_89 f_X7_7 (by first | exact h0 | exact aup_s | exact (aup_n nz0).trans h1 | exact (aup_n nz1).trans h2 | exact (aup_n nz0.symm).trans aup_s | exact (aup_n nz0).trans ((aup_n nz0).trans h1) | exact (aup_n nz1).trans ((aup_n nz1).trans h2) | exact (aup_n hA01.symm).trans ((aup_n nz1).trans h2) | exact (aup_n nz1.symm).trans ((aup_n nz0.symm).trans aup_s)) rfl ?_
          refine v_iload_n dX7_copy_92 rfl ?_
          refine v_lald dX7_copy_93 (by first | exact h0 | exact aup_s | exact (aup_n nz0).trans h1 | exact (aup_n nz1).trans h2 | exact (aup_n nz0.symm).trans aup_s | exact (aup_n nz0).trans ((aup_n nz0).trans h1) | exact (aup_n nz1).trans ((aup_n nz1).trans h2) | exact (aup_n hA01.symm).trans ((aup_n nz1).trans h2) | exact (aup_n nz1.symm).trans ((aup_n nz0.symm).trans aup_s)) ?_
          refine v_aload_n dX7_copy_94 rfl ?_
          refine v_get dX7_copy_95 f_X7_7 (by first | exact h0 | exact aup_s | exact (aup_n nz0).trans h1 | exact (aup_n nz1).trans h2 | exact (aup_n nz0.symm).trans aup_s | exact (aup_n nz0).trans ((aup_n nz0).trans h1) | exact (aup_n nz1).trans ((aup_n nz1).trans h2) | exact (aup_n hA01.symm).trans ((aup_n nz1).trans h2) | exact (aup_n nz1.symm).trans ((aup_n nz0.symm).trans aup_s)) rfl ?_
          refine v_iload_n dX7_copy_98 rfl ?_
          refine v_lald dX7_copy_99 (by first | exact h0 | exact aup_s | exact (aup_n nz0).trans h1 | exact (aup_n nz1).trans h2 | exact (aup_n nz0.symm).trans aup_s | exact (aup_n nz0).trans ((aup_n nz0).trans h1) | exact (aup_n nz1).trans ((aup_n nz1).trans h2) | exact (aup_n hA01.symm).trans ((aup_n nz1).trans h2) | exact (aup_n nz1.symm).trans ((aup_n nz0.symm).trans aup_s)) ?_
          refine v_lif_ge 108 dX7_copy_100 dX7_copy_101 (fun h_100 => ?_) (fun h_100 => ?_)
          · refine v_iconst dX7_copy_108 ?_
            refine v_istore dX7_copy_109 (by decide) ?_
            first | (exfalso; omega) | exact v_lof [(0, .ref z), (1, .int (iI i)), (2, .int (iI j)), (4, .int (iI _))] (List.forall_mem_cons.mpr ⟨rfl, (List.forall_mem_cons.mpr ⟨rfl, (List.forall_mem_cons.mpr ⟨rfl, (List.forall_mem_cons.mpr ⟨rfl, (fun _ h => nomatch h)⟩)⟩)⟩)⟩) (J111 _ (by unfold cmpE; omega) h7 h8)
          · refine v_iconst dX7_copy_104 ?_
            refine v_goto 109 dX7_copy_105 ?_
            refine v_istore dX7_copy_109 (by decide) ?_
            first | (exfalso; omega) | exact v_lof [(0, .ref z), (1, .int (iI i)), (2, .int (iI j)), (4, .int (iI _))] (List.forall_mem_cons.mpr ⟨rfl, (List.forall_mem_cons.mpr ⟨rfl, (List.forall_mem_cons.mpr ⟨rfl, (List.forall_mem_cons.mpr ⟨rfl, (fun _ h => nomatch h)⟩)⟩)⟩)⟩) (J111 _ (by unfold cmpE; omega) h7 h8)
        · refine v_aload_n dX7_copy_44 rfl ?_
          refine v_get dX7_copy_45 f_X7_13 (by first | exact h0 | exact aup_s | exact (aup_n nz0).trans h1 | exact (aup_n nz1).trans h2 | exact (aup_n nz0.symm).trans aup_s | exact (aup_n nz0).trans ((aup_n nz0).trans h1) | exact (aup_n nz1).trans ((aup_n nz1).trans h2) | exact (aup_n hA01.symm).trans ((aup_n nz1).trans h2) | exact (aup_n nz1.symm).trans ((aup_n nz0.symm).trans aup_s)) rfl ?_
          refine v_iload_n dX7_copy_48 rfl ?_
          refine v_lald dX7_copy_49 (by first | exact h0 | exact aup_s | exact (aup_n nz0).trans h1 | exact (aup_n nz1).trans h2 | exact (aup_n nz0.symm).trans aup_s | exact (aup_n nz0).trans ((aup_n nz0).trans h1) | exact (aup_n nz1).trans ((aup_n nz1).trans h2) | exact (aup_n hA01.symm).trans ((aup_n nz1).trans h2) | exact (aup_n nz1.symm).trans ((aup_n nz0.symm).trans aup_s)) ?_
          refine v_aload_n dX7_copy_50 rfl ?_
          refine v_get dX7_copy_51 f_X7_13 (by first | exact h0 | exact aup_s | exact (aup_n nz0).trans h1 | exact (aup_n nz1).trans h2 | exact (aup_n nz0.symm).trans aup_s | exact (aup_n nz0).trans ((aup_n nz0).trans h1) | exact (aup_n nz1).trans ((aup_n nz1).trans h2) | exact (aup_n hA01.symm).trans ((aup_n nz1).trans h2) | exact (aup_n nz1.symm).trans ((aup_n nz0.symm).trans aup_s)) rfl ?_
          refine v_iload_n dX7_copy_54 rfl ?_
          refine v_lald dX7_copy_55 (by first | exact h0 | exact aup_s | exact (aup_n nz0).trans h1 | exact (aup_n nz1).trans h2 | exact (aup_n nz0.symm).trans aup_s | exact (aup_n nz0).trans ((aup_n nz0).trans h1) | exact (aup_n nz1).trans ((aup_n nz1).trans h2) | exact (aup_n hA01.symm).trans ((aup_n nz1).trans h2) | exact (aup_n nz1.symm).trans ((aup_n nz0.symm).trans aup_s)) ?_
          refine v_lif_ge 64 dX7_copy_56 dX7_copy_57 (fun h_56 => ?_) (fun h_56 => ?_)
          · refine v_aload_n dX7_copy_64 rfl ?_
            refine v_get dX7_copy_65 f_X7_13 (by first | exact h0 | exact aup_s | exact (aup_n nz0).trans h1 | exact (aup_n nz1).trans h2 | exact (aup_n nz0.symm).trans aup_s | exact (aup_n nz0).trans ((aup_n nz0).trans h1) | exact (aup_n nz1).trans ((aup_n nz1).trans h2) | exact (aup_n hA01.symm).trans ((aup_n nz1).trans h2) | exact (aup_n nz1.symm).trans ((aup_n nz0.symm).trans aup_s)) rfl ?_
            refine v_iload_n dX7_copy_68 rfl ?_
            refine v_lald dX7_copy_69 (by first | exact h0 | exact aup_s | exact (aup_n nz0).trans h1 | exact (aup_n nz1).trans h2 | exact (aup_n nz0.symm).trans aup_s | exact (aup_n nz0).trans ((aup_n nz0).trans h1) | exact (aup_n nz1).trans ((aup_n nz1).trans h2) | exact (aup_n hA01.symm).trans ((aup_n nz1).trans h2) | exact (aup_n nz1.symm).trans ((aup_n nz0.symm).trans aup_s)) ?_
            refine v_aload_n dX7_copy_70 rfl ?_
            refine v_get dX7_copy_71 f_X7_13 (by first | exact h0 | exact aup_s | exact (aup_n nz0).trans h1 | exact (aup_n nz1).trans h2 | exact (aup_n nz0.symm).trans aup_s | exact (aup_n nz0).trans ((aup_n nz0).trans h1) | exact (aup_n nz1).trans ((aup_n nz1).trans h2) | exact (aup_n hA01.symm).trans ((aup_n nz1).trans h2) | exact (aup_n nz1.symm).trans ((aup_n nz0.symm).trans aup_s)) rfl ?_
            refine v_iload_n dX7_copy_74 rfl ?_
            refine v_lald dX7_copy_75 (by first | exact h0 | exact aup_s | exact (aup_n nz0).trans h1 | exact (aup_n nz1).trans h2 | exact (aup_n nz0.symm).trans aup_s | exact (aup_n nz0).trans ((aup_n nz0).trans h1) | exact (aup_n nz1).trans ((aup_n nz1).trans h2) | exact (aup_n hA01.symm).trans ((aup_n nz1).trans h2) | exact (aup_n nz1.symm).trans ((aup_n nz0.symm).trans aup_s)) ?_
            refine v_lif_le 84 dX7_copy_76 dX7_copy_77 (fun h_76 => ?_) (fun h_76 => ?_)
            · refine v_iconst dX7_copy_84 ?_
              refine v_goto 109 dX7_copy_85 ?_
              refine v_istore dX7_copy_109 (by decide) ?_
              first | (exfalso; omega) | exact v_lof [(0, .ref z), (1, .int (iI i)), (2, .int (iI j)), (4, .int (iI _))] (List.forall_mem_cons.mpr ⟨rfl, (List.forall_mem_cons.mpr ⟨rfl, (List.forall_mem_cons.mpr ⟨rfl, (List.forall_mem_cons.mpr ⟨rfl, (fun _ h => nomatch h)⟩)⟩)⟩)⟩) (J111 _ (by unfold cmpE; omega) h7 h8)
            · refine v_iconst dX7_copy_80 ?_
              refine v_goto 109 dX7_copy_81 ?_
              refine v_istore dX7_copy_109 (by decide) ?_
              first | (exfalso; omega) | exact v_lof [(0, .ref z), (1, .int (iI i)), (2, .int (iI j)), (4, .int (iI _))] (List.forall_mem_cons.mpr ⟨rfl, (List.forall_mem_cons.mpr ⟨rfl, (List.forall_mem_cons.mpr ⟨rfl, (List.forall_mem_cons.mpr ⟨rfl, (fun _ h => nomatch h)⟩)⟩)⟩)⟩) (J111 _ (by unfold cmpE; omega) h7 h8)
          · refine v_iconst dX7_copy_60 ?_
            refine v_goto 109 dX7_copy_61 ?_
            refine v_istore dX7_copy_109 (by decide) ?_
            first | (exfalso; omega) | exact v_lof [(0, .ref z), (1, .int (iI i)), (2, .int (iI j)), (4, .int (iI _))] (List.forall_mem_cons.mpr ⟨rfl, (List.forall_mem_cons.mpr ⟨rfl, (List.forall_mem_cons.mpr ⟨rfl, (List.forall_mem_cons.mpr ⟨rfl, (fun _ h => nomatch h)⟩)⟩)⟩)⟩) (J111 _ (by unfold cmpE; omega) h7 h8)
      · refine v_iconst dX7_copy_34 ?_
        refine v_goto 39 dX7_copy_35 ?_
        refine v_istore_n dX7_copy_39 (by decide) ?_
        refine v_iload_n dX7_copy_40 rfl ?_
        refine v_if_eq 88 dX7_copy_41 (fun h_41 => ?_) (fun h_41 => ?_)
        · refine v_aload_n dX7_copy_88 rfl ?_
          refine v_get dX7_copy_89 f_X7_7 (by first | exact h0 | exact aup_s | exact (aup_n nz0).trans h1 | exact (aup_n nz1).trans h2 | exact (aup_n nz0.symm).trans aup_s | exact (aup_n nz0).trans ((aup_n nz0).trans h1) | exact (aup_n nz1).trans ((aup_n nz1).trans h2) | exact (aup_n hA01.symm).trans ((aup_n nz1).trans h2) | exact (aup_n nz1.symm).trans ((aup_n nz0.symm).trans aup_s)) rfl ?_
          refine v_iload_n dX7_copy_92 rfl ?_
          refine v_lald dX7_copy_93 (by first | exact h0 | exact aup_s | exact (aup_n nz0).trans h1 | exact (aup_n nz1).trans h2 | exact (aup_n nz0.symm).trans aup_s | exact (aup_n nz0).trans ((aup_n nz0).trans h1) | exact (aup_n nz1).trans ((aup_n nz1).trans h2) | exact (aup_n hA01.symm).trans ((aup_n nz1).trans h2) | exact (aup_n nz1.symm).trans ((aup_n nz0.symm).trans aup_s)) ?_
          refine v_aload_n dX7_copy_94 rfl ?_
          refine v_get dX7_copy_95 f_X7_7 (by first | exact h0 | exact aup_s | exact (aup_n nz0).trans h1 | exact (aup_n nz1).trans h2 | exact (aup_n nz0.symm).trans aup_s | exact (aup_n nz0).trans ((aup_n nz0).trans h1) | exact (aup_n nz1).trans ((aup_n nz1).trans h2) | exact (aup_n hA01.symm).trans ((aup_n nz1).trans h2) | exact (aup_n nz1.symm).trans ((aup_n nz0.symm).trans aup_s)) rfl ?_
          refine v_iload_n dX7_copy_98 rfl ?_
          refine v_lald dX7_copy_99 (by first | exact h0 | exact aup_s | exact (aup_n nz0).trans h1 | exact (aup_n nz1).trans h2 | exact (aup_n nz0.symm).trans aup_s | exact (aup_n nz0).trans ((aup_n nz0).trans h1) | exact (aup_n nz1).trans ((aup_n nz1).trans h2) | exact (aup_n hA01.symm).trans ((aup_n nz1).trans h2) | exact (aup_n nz1.symm).trans ((aup_n nz0.symm).trans aup_s)) ?_
          refine v_lif_ge 108 dX7_copy_100 dX7_copy_101 (fun h_100 => ?_) (fun h_100 => ?_)
          · refine v_iconst dX7_copy_108 ?_
            refine v_istore dX7_copy_109 (by decide) ?_
            first | (exfalso; omega) | exact v_lof [(0, .ref z), (1, .int (iI i)), (2, .int (iI j)), (4, .int (iI _))] (List.forall_mem_cons.mpr ⟨rfl, (List.forall_mem_cons.mpr ⟨rfl, (List.forall_mem_cons.mpr ⟨rfl, (List.forall_mem_cons.mpr ⟨rfl, (fun _ h => nomatch h)⟩)⟩)⟩)⟩) (J111 _ (by unfold cmpE; omega) h7 h8)
          · refine v_iconst dX7_copy_104 ?_
            refine v_goto 109 dX7_copy_105 ?_
            refine v_istore dX7_copy_109 (by decide) ?_
            first | (exfalso; omega) | exact v_lof [(0, .ref z), (1, .int (iI i)), (2, .int (iI j)), (4, .int (iI _))] (List.forall_mem_cons.mpr ⟨rfl, (List.forall_mem_cons.mpr ⟨rfl, (List.forall_mem_cons.mpr ⟨rfl, (List.forall_mem_cons.mpr ⟨rfl, (fun _ h => nomatch h)⟩)⟩)⟩)⟩) (J111 _ (by unfold cmpE; omega) h7 h8)
        · refine v_aload_n dX7_copy_44 rfl ?_
          refine v_get dX7_copy_45 f_X7_13 (by first | exact h0 | exact aup_s | exact (aup_n nz0).trans h1 | exact (aup_n nz1).trans h2 | exact (aup_n nz0.symm).trans aup_s | exact (aup_n nz0).trans ((aup_n nz0).trans h1) | exact (aup_n nz1).trans ((aup_n nz1).trans h2) | exact (aup_n hA01.symm).trans ((aup_n nz1).trans h2) | exact (aup_n nz1.symm).trans ((aup_n nz0.symm).trans aup_s)) rfl ?_
          refine v_iload_n dX7_copy_48 rfl ?_
          refine v_lald dX7_copy_49 (by first | exact h0 | exact aup_s | exact (aup_n nz0).trans h1 | exact (aup_n nz1).trans h2 | exact (aup_n nz0.symm).trans aup_s | exact (aup_n nz0).trans ((aup_n nz0).trans h1) | exact (aup_n nz1).trans ((aup_n nz1).trans h2) | exact (aup_n hA01.symm).trans ((aup_n nz1).trans h2) | exact (aup_n nz1.symm).trans ((aup_n nz0.symm).trans aup_s)) ?_
          refine v_aload_n dX7_copy_50 rfl ?_
          refine v_get dX7_copy_51 f_X7_13 (by first | exact h0 | exact aup_s | exact (aup_n nz0).trans h1 | exact (aup_n nz1).trans h2 | exact (aup_n nz0.symm).trans aup_s | exact (aup_n nz0).trans ((aup_n nz0).trans h1) | exact (aup_n nz1).trans ((aup_n nz1).trans h2) | exact (aup_n hA01.symm).trans ((aup_n nz1).trans h2) | exact (aup_n nz1.symm).trans ((aup_n nz0.symm).trans aup_s)) rfl ?_
          refine v_iload_n dX7_copy_54 rfl ?_
          refine v_lald dX7_copy_55 (by first | exact h0 | exact aup_s | exact (aup_n nz0).trans h1 | exact (aup_n nz1).trans h2 | exact (aup_n nz0.symm).trans aup_s | exact (aup_n nz0).trans ((aup_n nz0).trans h1) | exact (aup_n nz1).trans ((aup_n nz1).trans h2) | exact (aup_n hA01.symm).trans ((aup_n nz1).trans h2) | exact (aup_n nz1.symm).trans ((aup_n nz0.symm).trans aup_s)) ?_
          refine v_lif_ge 64 dX7_copy_56 dX7_copy_57 (fun h_56 => ?_) (fun h_56 => ?_)
          · refine v_aload_n dX7_copy_64 rfl ?_
            refine v_get dX7_copy_65 f_X7_13 (by first | exact h0 | exact aup_s | exact (aup_n nz0).trans h1 | exact (aup_n nz1).trans h2 | exact (aup_n nz0.symm).trans aup_s | exact (aup_n nz0).trans ((aup_n nz0).trans h1) | exact (aup_n nz1).trans ((aup_n nz1).trans h2) | exact (aup_n hA01.symm).trans ((aup_n nz1).trans h2) | exact (aup_n nz1.symm).trans ((aup_n nz0.symm).trans aup_s)) rfl ?_
            refine v_iload_n dX7_copy_68 rfl ?_
            refine v_lald dX7_copy_69 (by first | exact h0 | exact aup_s | exact (aup_n nz0).trans h1 | exact (aup_n nz1).trans h2 | exact (aup_n nz0.symm).trans aup_s | exact (aup_n nz0).trans ((aup_n nz0).trans h1) | exact (aup_n nz1).trans ((aup_n nz1).trans h2) | exact (aup_n hA01.symm).trans ((aup_n nz1).trans h2) | exact (aup_n nz1.symm).trans ((aup_n nz0.symm).trans aup_s)) ?_
            refine v_aload_n dX7_copy_70 rfl ?_
            refine v_get dX7_copy_71 f_X7_13 (by first | exact h0 | exact aup_s | exact (aup_n nz0).trans h1 | exact (aup_n nz1).trans h2 | exact (aup_n nz0.symm).trans aup_s | exact (aup_n nz0).trans ((aup_n nz0).trans h1) | exact (aup_n nz1).trans ((aup_n nz1).trans h2) | exact (aup_n hA01.symm).trans ((aup_n nz1).trans h2) | exact (aup_n nz1.symm).trans ((aup_n nz0.symm).trans aup_s)) rfl ?_
            refine v_iload_n dX7_copy_74 rfl ?_
            refine v_lald dX7_copy_75 (by first | exact h0 | exact aup_s | exact (aup_n nz0).trans h1 | exact (aup_n nz1).trans h2 | exact (aup_n nz0.symm).trans aup_s | exact (aup_n nz0).trans ((aup_n nz0).trans h1) | exact (aup_n nz1).trans ((aup_n nz1).trans h2) | exact (aup_n hA01.symm).trans ((aup_n nz1).trans h2) | exact (aup_n nz1.symm).trans ((aup_n nz0.symm).trans aup_s)) ?_
            refine v_lif_le 84 dX7_copy_76 dX7_copy_77 (fun h_76 => ?_) (fun h_76 => ?_)
            · refine v_iconst dX7_copy_84 ?_
              refine v_goto 109 dX7_copy_85 ?_
              refine v_istore dX7_copy_109 (by decide) ?_
              first | (exfalso; omega) | exact v_lof [(0, .ref z), (1, .int (iI i)), (2, .int (iI j)), (4, .int (iI _))] (List.forall_mem_cons.mpr ⟨rfl, (List.forall_mem_cons.mpr ⟨rfl, (List.forall_mem_cons.mpr ⟨rfl, (List.forall_mem_cons.mpr ⟨rfl, (fun _ h => nomatch h)⟩)⟩)⟩)⟩) (J111 _ (by unfold cmpE; omega) h7 h8)
            · refine v_iconst dX7_copy_80 ?_
              refine v_goto 109 dX7_copy_81 ?_
              refine v_istore dX7_copy_109 (by decide) ?_
              first | (exfalso; omega) | exact v_lof [(0, .ref z), (1, .int (iI i)), (2, .int (iI j)), (4, .int (iI _))] (List.forall_mem_cons.mpr ⟨rfl, (List.forall_mem_cons.mpr ⟨rfl, (List.forall_mem_cons.mpr ⟨rfl, (List.forall_mem_cons.mpr ⟨rfl, (fun _ h => nomatch h)⟩)⟩)⟩)⟩) (J111 _ (by unfold cmpE; omega) h7 h8)
          · refine v_iconst dX7_copy_60 ?_
            refine v_goto 109 dX7_copy_61 ?_
            refine v_istore dX7_copy_109 (by decide) ?_
            first | (exfalso; omega) | exact v_lof [(0, .ref z), (1, .int (iI i)), (2, .int (iI j)), (4, .int (iI _))] (List.forall_mem_cons.mpr ⟨rfl, (List.forall_mem_cons.mpr ⟨rfl, (List.forall_mem_cons.mpr ⟨rfl, (List.forall_mem_cons.mpr ⟨rfl, (fun _ h => nomatch h)⟩)⟩)⟩)⟩) (J111 _ (by unfold cmpE; omega) h7 h8)
    · rw [aup_up]
      refine v_if_ne 18 dX7_copy_13 (fun h_13 => ?_) (fun h_13 => ?_)
      · (exfalso; omega)
      refine v_iconst dX7_copy_16 ?_
      exact v_iret dX7_copy_17 rfl (by first | (exfalso; omega) | exact hQI (by omega))
  · refine v_if_eq 16 dX7_copy_5 (fun h_5 => ?_) (fun h_5 => ?_)
    rotate_left
    · (exfalso; omega)
    refine v_iconst dX7_copy_16 ?_
    exact v_iret dX7_copy_17 rfl (by first | (exfalso; omega) | exact hQI (by omega))
set_option maxRecDepth 100000 in
set_option maxHeartbeats 4000000 in
theorem s_X7_monthsTo {l : Launch} {G : GG} {w : AH} {Q : Option Value → AH → Prop} {X : String → AH → Prop} (hst : l.stackTraces = false) {z : Nat} {A : Nat → Nat} {th yq mq dq ty ap wr sz : Int} (h0 : w z = some (mdC A th yq mq dq ty ap wr sz)) {e e' p q y m d y' m' d' : Int} (hp : -9223372036854775808 ≤ p ∧ p ≤ 9223372036854775807) (hq : -9223372036854775808 ≤ q ∧ q ≤ 9223372036854775807) (hy : -9999 ≤ y ∧ y ≤ 9999) (hm : 1 ≤ m ∧ m ≤ 12) (hd : 1 ≤ d ∧ d ≤ lenM y m) (hE : ed y m d = e) (hy' : -9999 ≤ y' ∧ y' ≤ 9999) (hm' : 1 ≤ m' ∧ m' ≤ 12) (hd' : 1 ≤ d' ∧ d' ≤ lenM y' m') (hE' : ed y' m' d' = e') (hQ : ∀ r : Int, monE (y * 12 + m - 1) d p (y' * 12 + m' - 1) d' q r → Q (some (.long (lI r))) (aup w z (mdC A th y' m' d' ty ap wr sz))) : Ct l G mX7_monthsTo rX7_monthsTo [(.ref z), .long (lI e), .long (lI p), .long (lI e'), .long (lI q)] w Q X := by
  have hr1 := ed_rng hy hm hd
  have hr2 := ed_rng hy' hm' hd'
  have hl1 := lenM_rng y m
  have hl2 := lenM_rng y' m'
  have o1 : y * 12 + m < y' * 12 + m' → e < e' := fun h => (by rw [← hE, ← hE']; exact ed_lt hm hd hm' hd' h)
  have o2 : y' * 12 + m' < y * 12 + m → e' < e := fun h => (by rw [← hE, ← hE']; exact ed_lt hm' hd' hm hd h)
  have o3 : y * 12 + m = y' * 12 + m' → e' - e = d' - d := fun h => (by have a1 : y = y' := (by omega); have a2 : m = m' := (by omega); subst a1 a2; rw [← hE, ← hE']; exact ed_dd y m d d')
  refine ct_of hst mk_X7_monthsTo (Nat.le_of_ble_eq_true rfl) ?_
  have J145 : ∀ t b a k u : Int, t = (12 * y' + m' - 1 - (12 * y + m - 1)) → ((b = 1 ∧ (d < d' ∨ (d' = d ∧ p < q))) ∨ (b = 0 ∧ ¬ (d < d' ∨ (d' = d ∧ p < q)))) → ((a = 1 ∧ (d' < d ∨ (d' = d ∧ q < p))) ∨ (a = 0 ∧ ¬ (d' < d ∨ (d' = d ∧ q < p)))) → ((k = 1 ∧ (e < e' ∨ (e' = e ∧ p < q))) ∨ (k = 0 ∧ ¬ (e < e' ∨ (e' = e ∧ p < q)))) → ((u = 1 ∧ (e' < e ∨ (e' = e ∧ q < p))) ∨ (u = 0 ∧ ¬ (e' < e ∨ (e' = e ∧ q < p)))) → V l G mX7_monthsTo rX7_monthsTo Q X 145 (lof [(0, .ref z), (1, .long (lI e)), (3, .long (lI p)), (5, (.long (lI e'))), (7, .long (lI q)), (9, .long (lI t)), (12, .int (iI b)), (13, .int (iI a)), (14, .int (iI k)), (15, .int (iI u))]) [] (aup w z (mdC A th y' m' d' ty ap wr sz)) 0 0 := by
    intro t b a k u ht hb ha hk hu
    refine v_iload dX7_monthsTo_145 rfl ?_
    refine v_if_eq 162 dX7_monthsTo_147 (fun h_147 => ?_) (fun h_147 => ?_)
    · refine v_iload dX7_monthsTo_162 rfl ?_
      refine v_if_eq 179 dX7_monthsTo_164 (fun h_164 => ?_) (fun h_164 => ?_)
      · refine v_lload dX7_monthsTo_179 rfl ?_
        exact v_lret dX7_monthsTo_181 rfl (by exact hQ _ (by unfold monE; omega))
      · refine v_iload dX7_monthsTo_167 rfl ?_
        refine v_if_eq 179 dX7_monthsTo_169 (fun h_169 => ?_) (fun h_169 => ?_)
        · refine v_lload dX7_monthsTo_179 rfl ?_
          exact v_lret dX7_monthsTo_181 rfl (by exact hQ _ (by unfold monE; omega))
        · refine v_lload dX7_monthsTo_172 rfl ?_
          refine v_lconst1 dX7_monthsTo_174 ?_
          refine v_ladd dX7_monthsTo_175 ?_
          refine v_goto 181 dX7_monthsTo_176 ?_
          exact v_lret dX7_monthsTo_181 rfl (by exact hQ _ (by unfold monE; omega))
    · refine v_iload dX7_monthsTo_150 rfl ?_
      refine v_if_eq 162 dX7_monthsTo_152 (fun h_152 => ?_) (fun h_152 => ?_)
      · refine v_iload dX7_monthsTo_162 rfl ?_
        refine v_if_eq 179 dX7_monthsTo_164 (fun h_164 => ?_) (fun h_164 => ?_)
        · refine v_lload dX7_monthsTo_179 rfl ?_
          exact v_lret dX7_monthsTo_181 rfl (by exact hQ _ (by unfold monE; omega))
        · refine v_iload dX7_monthsTo_167 rfl ?_
          refine v_if_eq 179 dX7_monthsTo_169 (fun h_169 => ?_) (fun h_169 => ?_)
          · refine v_lload dX7_monthsTo_179 rfl ?_
            exact v_lret dX7_monthsTo_181 rfl (by exact hQ _ (by unfold monE; omega))
          · refine v_lload dX7_monthsTo_172 rfl ?_
            refine v_lconst1 dX7_monthsTo_174 ?_
            refine v_ladd dX7_monthsTo_175 ?_
            refine v_goto 181 dX7_monthsTo_176 ?_
            exact v_lret dX7_monthsTo_181 rfl (by exact hQ _ (by unfold monE; omega))
      · refine v_lload dX7_monthsTo_155 rfl ?_
        refine v_lconst1 dX7_monthsTo_157 ?_
        refine v_lsub dX7_monthsTo_158 ?_
        refine v_goto 181 dX7_monthsTo_159 ?_
        exact v_lret dX7_monthsTo_181 rfl (by exact hQ _ (by unfold monE; omega))
  have J117 : ∀ t b a k : Int, t = (12 * y' + m' - 1 - (12 * y + m - 1)) → ((b = 1 ∧ (d < d' ∨ (d' = d ∧ p < q))) ∨ (b = 0 ∧ ¬ (d < d' ∨ (d' = d ∧ p < q)))) → ((a = 1 ∧ (d' < d ∨ (d' = d ∧ q < p))) ∨ (a = 0 ∧ ¬ (d' < d ∨ (d' = d ∧ q < p)))) → ((k = 1 ∧ (e < e' ∨ (e' = e ∧ p < q))) ∨ (k = 0 ∧ ¬ (e < e' ∨ (e' = e ∧ p < q)))) → V l G mX7_monthsTo rX7_monthsTo Q X 117 (lof [(0, .ref z), (1, .long (lI e)), (3, .long (lI p)), (5, (.long (lI e'))), (7, .long (lI q)), (9, .long (lI t)), (12, .int (iI b)), (13, .int (iI a)), (14, .int (iI k))]) [] (aup w z (mdC A th y' m' d' ty ap wr sz)) 0 0 := by
    intro t b a k ht hb ha hk
    refine v_lload dX7_monthsTo_117 rfl ?_
    refine v_lload_n dX7_monthsTo_119 rfl ?_
    refine v_lif_lt 138 dX7_monthsTo_120 dX7_monthsTo_121 (fun h_120 => ?_) (fun h_120 => ?_)
    · refine v_iconst dX7_monthsTo_138 ?_
      refine v_goto 143 dX7_monthsTo_139 ?_
      refine v_istore dX7_monthsTo_143 (by decide) ?_
      exact v_lof [(0, .ref z), (1, .long (lI e)), (3, .long (lI p)), (5, (.long (lI e'))), (7, .long (lI q)), (9, .long (lI t)), (12, .int (iI b)), (13, .int (iI a)), (14, .int (iI k)), (15, .int (iI _))] (List.forall_mem_cons.mpr ⟨rfl, (List.forall_mem_cons.mpr ⟨rfl, (List.forall_mem_cons.mpr ⟨rfl, (List.forall_mem_cons.mpr ⟨rfl, (List.forall_mem_cons.mpr ⟨rfl, (List.forall_mem_cons.mpr ⟨rfl, (List.forall_mem_cons.mpr ⟨rfl, (List.forall_mem_cons.mpr ⟨rfl, (List.forall_mem_cons.mpr ⟨rfl, (List.forall_mem_cons.mpr ⟨rfl, (fun _ h => nomatch h)⟩)⟩)⟩)⟩)⟩)⟩)⟩)⟩)⟩)⟩) (J145 t b a k _ ht hb ha hk (by omega))
    · refine v_lload dX7_monthsTo_124 rfl ?_
      refine v_lload_n dX7_monthsTo_126 rfl ?_
      refine v_lif_ne 142 dX7_monthsTo_127 dX7_monthsTo_128 (fun h_127 => ?_) (fun h_127 => ?_)
      · refine v_iconst dX7_monthsTo_142 ?_
        refine v_istore dX7_monthsTo_143 (by decide) ?_
        exact v_lof [(0, .ref z), (1, .long (lI e)), (3, .long (lI p)), (5, (.long (lI e'))), (7, .long (lI q)), (9, .long (lI t)), (12, .int (iI b)), (13, .int (iI a)), (14, .int (iI k)), (15, .int (iI _))] (List.forall_mem_cons.mpr ⟨rfl, (List.forall_mem_cons.mpr ⟨rfl, (List.forall_mem_cons.mpr ⟨rfl, (List.forall_mem_cons.mpr ⟨rfl, (List.forall_mem_cons.mpr ⟨rfl, (List.forall_mem_cons.mpr ⟨rfl, (List.forall_mem_cons.mpr ⟨rfl, (List.forall_mem_cons.mpr ⟨rfl, (List.forall_mem_cons.mpr ⟨rfl, (List.forall_mem_cons.mpr ⟨rfl, (fun _ h => nomatch h)⟩)⟩)⟩)⟩)⟩)⟩)⟩)⟩)⟩)⟩) (J145 t b a k _ ht hb ha hk (by omega))
      · refine v_lload dX7_monthsTo_131 rfl ?_
        refine v_lload_n dX7_monthsTo_133 rfl ?_
        refine v_lif_ge 142 dX7_monthsTo_134 dX7_monthsTo_135 (fun h_134 => ?_) (fun h_134 => ?_)
        · refine v_iconst dX7_monthsTo_142 ?_
          refine v_istore dX7_monthsTo_143 (by decide) ?_
          exact v_lof [(0, .ref z), (1, .long (lI e)), (3, .long (lI p)), (5, (.long (lI e'))), (7, .long (lI q)), (9, .long (lI t)), (12, .int (iI b)), (13, .int (iI a)), (14, .int (iI k)), (15, .int (iI _))] (List.forall_mem_cons.mpr ⟨rfl, (List.forall_mem_cons.mpr ⟨rfl, (List.forall_mem_cons.mpr ⟨rfl, (List.forall_mem_cons.mpr ⟨rfl, (List.forall_mem_cons.mpr ⟨rfl, (List.forall_mem_cons.mpr ⟨rfl, (List.forall_mem_cons.mpr ⟨rfl, (List.forall_mem_cons.mpr ⟨rfl, (List.forall_mem_cons.mpr ⟨rfl, (List.forall_mem_cons.mpr ⟨rfl, (fun _ h => nomatch h)⟩)⟩)⟩)⟩)⟩)⟩)⟩)⟩)⟩)⟩) (J145 t b a k _ ht hb ha hk (by omega))
        · refine v_iconst dX7_monthsTo_138 ?_
          refine v_goto 143 dX7_monthsTo_139 ?_
          refine v_istore dX7_monthsTo_143 (by decide) ?_
          exact v_lof [(0, .ref z), (1, .long (lI e)), (3, .long (lI p)), (5, (.long (lI e'))), (7, .long (lI q)), (9, .long (lI t)), (12, .int (iI b)), (13, .int (iI a)), (14, .int (iI k)), (15, .int (iI _))] (List.forall_mem_cons.mpr ⟨rfl, (List.forall_mem_cons.mpr ⟨rfl, (List.forall_mem_cons.mpr ⟨rfl, (List.forall_mem_cons.mpr ⟨rfl, (List.forall_mem_cons.mpr ⟨rfl, (List.forall_mem_cons.mpr ⟨rfl, (List.forall_mem_cons.mpr ⟨rfl, (List.forall_mem_cons.mpr ⟨rfl, (List.forall_mem_cons.mpr ⟨rfl, (List.forall_mem_cons.mpr ⟨rfl, (fun _ h => nomatch h)⟩)⟩)⟩)⟩)⟩)⟩)⟩)⟩)⟩)⟩) (J145 t b a k _ ht hb ha hk (by omega))
  have J89 : ∀ t b a : Int, t = (12 * y' + m' - 1 - (12 * y + m - 1)) → ((b = 1 ∧ (d < d' ∨ (d' = d ∧ p < q))) ∨ (b = 0 ∧ ¬ (d < d' ∨ (d' = d ∧ p < q)))) → ((a = 1 ∧ (d' < d ∨ (d' = d ∧ q < p))) ∨ (a = 0 ∧ ¬ (d' < d ∨ (d' = d ∧ q < p)))) → V l G mX7_monthsTo rX7_monthsTo Q X 89 (lof [(0, .ref z), (1, .long (lI e)), (3, .long (lI p)), (5, (.long (lI e'))), (7, .long (lI q)), (9, .long (lI t)), (12, .int (iI b)), (13, .int (iI a))]) [] (aup w z (mdC A th y' m' d' ty ap wr sz)) 0 0 := by
    intro t b a ht hb ha
    refine v_lload dX7_monthsTo_89 rfl ?_
    refine v_lload_n dX7_monthsTo_91 rfl ?_
    refine v_lif_gt 110 dX7_monthsTo_92 dX7_monthsTo_93 (fun h_92 => ?_) (fun h_92 => ?_)
    · refine v_iconst dX7_monthsTo_110 ?_
      refine v_goto 115 dX7_monthsTo_111 ?_
      refine v_istore dX7_monthsTo_115 (by decide) ?_
      exact v_lof [(0, .ref z), (1, .long (lI e)), (3, .long (lI p)), (5, (.long (lI e'))), (7, .long (lI q)), (9, .long (lI t)), (12, .int (iI b)), (13, .int (iI a)), (14, .int (iI _))] (List.forall_mem_cons.mpr ⟨rfl, (List.forall_mem_cons.mpr ⟨rfl, (List.forall_mem_cons.mpr ⟨rfl, (List.forall_mem_cons.mpr ⟨rfl, (List.forall_mem_cons.mpr ⟨rfl, (List.forall_mem_cons.mpr ⟨rfl, (List.forall_mem_cons.mpr ⟨rfl, (List.forall_mem_cons.mpr ⟨rfl, (List.forall_mem_cons.mpr ⟨rfl, (fun _ h => nomatch h)⟩)⟩)⟩)⟩)⟩)⟩)⟩)⟩)⟩) (J117 t b a _ ht hb ha (by omega))
    · refine v_lload dX7_monthsTo_96 rfl ?_
      refine v_lload_n dX7_monthsTo_98 rfl ?_
      refine v_lif_ne 114 dX7_monthsTo_99 dX7_monthsTo_100 (fun h_99 => ?_) (fun h_99 => ?_)
      · refine v_iconst dX7_monthsTo_114 ?_
        refine v_istore dX7_monthsTo_115 (by decide) ?_
        exact v_lof [(0, .ref z), (1, .long (lI e)), (3, .long (lI p)), (5, (.long (lI e'))), (7, .long (lI q)), (9, .long (lI t)), (12, .int (iI b)), (13, .int (iI a)), (14, .int (iI _))] (List.forall_mem_cons.mpr ⟨rfl, (List.forall_mem_cons.mpr ⟨rfl, (List.forall_mem_cons.mpr ⟨rfl, (List.forall_mem_cons.mpr ⟨rfl, (List.forall_mem_cons.mpr ⟨rfl, (List.forall_mem_cons.mpr ⟨rfl, (List.forall_mem_cons.mpr ⟨rfl, (List.forall_mem_cons.mpr ⟨rfl, (List.forall_mem_cons.mpr ⟨rfl, (fun _ h => nomatch h)⟩)⟩)⟩)⟩)⟩)⟩)⟩)⟩)⟩) (J117 t b a _ ht hb ha (by omega))
      · refine v_lload dX7_monthsTo_103 rfl ?_
        refine v_lload_n dX7_monthsTo_105 rfl ?_
        refine v_lif_le 114 dX7_monthsTo_106 dX7_monthsTo_107 (fun h_106 => ?_) (fun h_106 => ?_)
        · refine v_iconst dX7_monthsTo_114 ?_
          refine v_istore dX7_monthsTo_115 (by decide) ?_
          exact v_lof [(0, .ref z), (1, .long (lI e)), (3, .long (lI p)), (5, (.long (lI e'))), (7, .long (lI q)), (9, .long (lI t)), (12, .int (iI b)), (13, .int (iI a)), (14, .int (iI _))] (List.forall_mem_cons.mpr ⟨rfl, (List.forall_mem_cons.mpr ⟨rfl, (List.forall_mem_cons.mpr ⟨rfl, (List.forall_mem_cons.mpr ⟨rfl, (List.forall_mem_cons.mpr ⟨rfl, (List.forall_mem_cons.mpr ⟨rfl, (List.forall_mem_cons.mpr ⟨rfl, (List.forall_mem_cons.mpr ⟨rfl, (List.forall_mem_cons.mpr ⟨rfl, (fun _ h => nomatch h)⟩)⟩)⟩)⟩)⟩)⟩)⟩)⟩)⟩) (J117 t b a _ ht hb ha (by omega))
        · refine v_iconst dX7_monthsTo_110 ?_
          refine v_goto 115 dX7_monthsTo_111 ?_
          refine v_istore dX7_monthsTo_115 (by decide) ?_
          exact v_lof [(0, .ref z), (1, .long (lI e)), (3, .long (lI p)), (5, (.long (lI e'))), (7, .long (lI q)), (9, .long (lI t)), (12, .int (iI b)), (13, .int (iI a)), (14, .int (iI _))] (List.forall_mem_cons.mpr ⟨rfl, (List.forall_mem_cons.mpr ⟨rfl, (List.forall_mem_cons.mpr ⟨rfl, (List.forall_mem_cons.mpr ⟨rfl, (List.forall_mem_cons.mpr ⟨rfl, (List.forall_mem_cons.mpr ⟨rfl, (List.forall_mem_cons.mpr ⟨rfl, (List.forall_mem_cons.mpr ⟨rfl, (List.forall_mem_cons.mpr ⟨rfl, (fun _ h => nomatch h)⟩)⟩)⟩)⟩)⟩)⟩)⟩)⟩)⟩) (J117 t b a _ ht hb ha (by omega))
  have J57 : ∀ t b : Int, t = (12 * y' + m' - 1 - (12 * y + m - 1)) → ((b = 1 ∧ (d < d' ∨ (d' = d ∧ p < q))) ∨ (b = 0 ∧ ¬ (d < d' ∨ (d' = d ∧ p < q)))) → V l G mX7_monthsTo rX7_monthsTo Q X 57 (lof [(0, .ref z), (1, .long (lI e)), (3, .long (lI p)), (5, (.long (lI e'))), (7, .long (lI q)), (9, .long (lI t)), (11, .int (iI d)), (12, .int (iI b))]) [] (aup w z (mdC A th y' m' d' ty ap wr sz)) 0 0 := by
    intro t b ht hb
    refine v_aload_n dX7_monthsTo_57 rfl ?_
    refine v_get dX7_monthsTo_58 f_X7_80 (by first | exact h0 | exact aup_s) rfl ?_
    refine v_iload dX7_monthsTo_61 rfl ?_
    refine v_icmp_lt 82 dX7_monthsTo_63 (fun h_63 => ?_) (fun h_63 => ?_)
    · refine v_iconst dX7_monthsTo_82 ?_
      refine v_goto 87 dX7_monthsTo_83 ?_
      refine v_istore dX7_monthsTo_87 (by decide) ?_
      exact v_lof [(0, .ref z), (1, .long (lI e)), (3, .long (lI p)), (5, (.long (lI e'))), (7, .long (lI q)), (9, .long (lI t)), (12, .int (iI b)), (13, .int (iI _))] (List.forall_mem_cons.mpr ⟨rfl, (List.forall_mem_cons.mpr ⟨rfl, (List.forall_mem_cons.mpr ⟨rfl, (List.forall_mem_cons.mpr ⟨rfl, (List.forall_mem_cons.mpr ⟨rfl, (List.forall_mem_cons.mpr ⟨rfl, (List.forall_mem_cons.mpr ⟨rfl, (List.forall_mem_cons.mpr ⟨rfl, (fun _ h => nomatch h)⟩)⟩)⟩)⟩)⟩)⟩)⟩)⟩) (J89 t b _ ht hb (by omega))
    · refine v_aload_n dX7_monthsTo_66 rfl ?_
      refine v_get dX7_monthsTo_67 f_X7_80 (by first | exact h0 | exact aup_s) rfl ?_
      refine v_iload dX7_monthsTo_70 rfl ?_
      refine v_icmp_ne 86 dX7_monthsTo_72 (fun h_72 => ?_) (fun h_72 => ?_)
      · refine v_iconst dX7_monthsTo_86 ?_
        refine v_istore dX7_monthsTo_87 (by decide) ?_
        exact v_lof [(0, .ref z), (1, .long (lI e)), (3, .long (lI p)), (5, (.long (lI e'))), (7, .long (lI q)), (9, .long (lI t)), (12, .int (iI b)), (13, .int (iI _))] (List.forall_mem_cons.mpr ⟨rfl, (List.forall_mem_cons.mpr ⟨rfl, (List.forall_mem_cons.mpr ⟨rfl, (List.forall_mem_cons.mpr ⟨rfl, (List.forall_mem_cons.mpr ⟨rfl, (List.forall_mem_cons.mpr ⟨rfl, (List.forall_mem_cons.mpr ⟨rfl, (List.forall_mem_cons.mpr ⟨rfl, (fun _ h => nomatch h)⟩)⟩)⟩)⟩)⟩)⟩)⟩)⟩) (J89 t b _ ht hb (by omega))
      · refine v_lload dX7_monthsTo_75 rfl ?_
        refine v_lload_n dX7_monthsTo_77 rfl ?_
        refine v_lif_ge 86 dX7_monthsTo_78 dX7_monthsTo_79 (fun h_78 => ?_) (fun h_78 => ?_)
        · refine v_iconst dX7_monthsTo_86 ?_
          refine v_istore dX7_monthsTo_87 (by decide) ?_
          exact v_lof [(0, .ref z), (1, .long (lI e)), (3, .long (lI p)), (5, (.long (lI e'))), (7, .long (lI q)), (9, .long (lI t)), (12, .int (iI b)), (13, .int (iI _))] (List.forall_mem_cons.mpr ⟨rfl, (List.forall_mem_cons.mpr ⟨rfl, (List.forall_mem_cons.mpr ⟨rfl, (List.forall_mem_cons.mpr ⟨rfl, (List.forall_mem_cons.mpr ⟨rfl, (List.forall_mem_cons.mpr ⟨rfl, (List.forall_mem_cons.mpr ⟨rfl, (List.forall_mem_cons.mpr ⟨rfl, (fun _ h => nomatch h)⟩)⟩)⟩)⟩)⟩)⟩)⟩)⟩) (J89 t b _ ht hb (by omega))
        · refine v_iconst dX7_monthsTo_82 ?_
          refine v_goto 87 dX7_monthsTo_83 ?_
          refine v_istore dX7_monthsTo_87 (by decide) ?_
          exact v_lof [(0, .ref z), (1, .long (lI e)), (3, .long (lI p)), (5, (.long (lI e'))), (7, .long (lI q)), (9, .long (lI t)), (12, .int (iI b)), (13, .int (iI _))] (List.forall_mem_cons.mpr ⟨rfl, (List.forall_mem_cons.mpr ⟨rfl, (List.forall_mem_cons.mpr ⟨rfl, (List.forall_mem_cons.mpr ⟨rfl, (List.forall_mem_cons.mpr ⟨rfl, (List.forall_mem_cons.mpr ⟨rfl, (List.forall_mem_cons.mpr ⟨rfl, (List.forall_mem_cons.mpr ⟨rfl, (fun _ h => nomatch h)⟩)⟩)⟩)⟩)⟩)⟩)⟩)⟩) (J89 t b _ ht hb (by omega))
  refine v_aload_n dX7_monthsTo_0 rfl ?_
  refine v_lload_n dX7_monthsTo_1 rfl ?_
  refine v_V1 (rm' := rX7_monthsOf) (RX7, TX7, 18) dX7_monthsTo_2 km_X7_191 kn_X7_monthsOf kv_X7_monthsOf kz_X7 mk_X7_monthsOf rfl rfl (by first | exact h0 | exact aup_s) ⟨Nat.le_of_ble_eq_true rfl, Nat.le_of_ble_eq_true rfl⟩ ⟨Nat.le_of_ble_eq_true rfl, Nat.le_of_ble_eq_true rfl⟩ (Nat.le_of_ble_eq_true rfl) ?_
  refine s_X7_monthsOf hst h0 (by omega) (fun y9 m9 d9 hy9 hm9 hd9 he9 => ?_)
  obtain ⟨x1, x2, x3⟩ := ed_inj hm hd hm9 hd9 (hE.trans he9.symm)
  subst x1 x2 x3
  refine v_lneg dX7_monthsTo_5 ?_
  refine v_lstore dX7_monthsTo_6 (by decide) ?_
  refine v_aload_n dX7_monthsTo_8 rfl ?_
  refine v_get dX7_monthsTo_9 f_X7_80 (by first | exact h0 | exact aup_s) rfl ?_
  refine v_istore dX7_monthsTo_12 (by decide) ?_
  refine v_lload dX7_monthsTo_14 rfl ?_
  refine v_aload_n dX7_monthsTo_16 rfl ?_
  refine v_lload dX7_monthsTo_17 rfl ?_
  refine v_V1 (rm' := rX7_monthsOf) (RX7, TX7, 18) dX7_monthsTo_19 km_X7_191 kn_X7_monthsOf kv_X7_monthsOf kz_X7 mk_X7_monthsOf rfl rfl (by first | exact h0 | exact aup_s) ⟨Nat.le_of_ble_eq_true rfl, Nat.le_of_ble_eq_true rfl⟩ ⟨Nat.le_of_ble_eq_true rfl, Nat.le_of_ble_eq_true rfl⟩ (Nat.le_of_ble_eq_true rfl) ?_
  refine s_X7_monthsOf hst aup_s (by omega) (fun y9 m9 d9 hy9 hm9 hd9 he9 => ?_)
  obtain ⟨x1, x2, x3⟩ := ed_inj hm' hd' hm9 hd9 (hE'.trans he9.symm)
  subst x1 x2 x3
  rw [aup_up]
  refine v_ladd dX7_monthsTo_22 ?_
  refine v_lstore dX7_monthsTo_23 (by decide) ?_
  refine v_aload_n dX7_monthsTo_25 rfl ?_
  refine v_get dX7_monthsTo_26 f_X7_80 (by first | exact h0 | exact aup_s) rfl ?_
  refine v_iload dX7_monthsTo_29 rfl ?_
  refine v_icmp_gt 50 dX7_monthsTo_31 (fun h_31 => ?_) (fun h_31 => ?_)
  · refine v_iconst dX7_monthsTo_50 ?_
    refine v_goto 55 dX7_monthsTo_51 ?_
    refine v_istore dX7_monthsTo_55 (by decide) ?_
    exact v_lof [(0, .ref z), (1, .long (lI e)), (3, .long (lI p)), (5, (.long (lI e'))), (7, .long (lI q)), (9, .long (lI _)), (11, .int (iI d)), (12, .int (iI _))] (List.forall_mem_cons.mpr ⟨rfl, (List.forall_mem_cons.mpr ⟨rfl, (List.forall_mem_cons.mpr ⟨rfl, (List.forall_mem_cons.mpr ⟨rfl, (List.forall_mem_cons.mpr ⟨rfl, (List.forall_mem_cons.mpr ⟨rfl, (List.forall_mem_cons.mpr ⟨rfl, (List.forall_mem_cons.mpr ⟨rfl, (fun _ h => nomatch h)⟩)⟩)⟩)⟩)⟩)⟩)⟩)⟩) (J57 _ _ (by omega) (by omega))
  · refine v_aload_n dX7_monthsTo_34 rfl ?_
    refine v_get dX7_monthsTo_35 f_X7_80 (by first | exact h0 | exact aup_s) rfl ?_
    refine v_iload dX7_monthsTo_38 rfl ?_
    refine v_icmp_ne 54 dX7_monthsTo_40 (fun h_40 => ?_) (fun h_40 => ?_)
    · refine v_iconst dX7_monthsTo_54 ?_
      refine v_istore dX7_monthsTo_55 (by decide) ?_
      exact v_lof [(0, .ref z), (1, .long (lI e)), (3, .long (lI p)), (5, (.long (lI e'))), (7, .long (lI q)), (9, .long (lI _)), (11, .int (iI d)), (12, .int (iI _))] (List.forall_mem_cons.mpr ⟨rfl, (List.forall_mem_cons.mpr ⟨rfl, (List.forall_mem_cons.mpr ⟨rfl, (List.forall_mem_cons.mpr ⟨rfl, (List.forall_mem_cons.mpr ⟨rfl, (List.forall_mem_cons.mpr ⟨rfl, (List.forall_mem_cons.mpr ⟨rfl, (List.forall_mem_cons.mpr ⟨rfl, (fun _ h => nomatch h)⟩)⟩)⟩)⟩)⟩)⟩)⟩)⟩) (J57 _ _ (by omega) (by omega))
    · refine v_lload dX7_monthsTo_43 rfl ?_
      refine v_lload_n dX7_monthsTo_45 rfl ?_
      refine v_lif_le 54 dX7_monthsTo_46 dX7_monthsTo_47 (fun h_46 => ?_) (fun h_46 => ?_)
      · refine v_iconst dX7_monthsTo_54 ?_
        refine v_istore dX7_monthsTo_55 (by decide) ?_
        exact v_lof [(0, .ref z), (1, .long (lI e)), (3, .long (lI p)), (5, (.long (lI e'))), (7, .long (lI q)), (9, .long (lI _)), (11, .int (iI d)), (12, .int (iI _))] (List.forall_mem_cons.mpr ⟨rfl, (List.forall_mem_cons.mpr ⟨rfl, (List.forall_mem_cons.mpr ⟨rfl, (List.forall_mem_cons.mpr ⟨rfl, (List.forall_mem_cons.mpr ⟨rfl, (List.forall_mem_cons.mpr ⟨rfl, (List.forall_mem_cons.mpr ⟨rfl, (List.forall_mem_cons.mpr ⟨rfl, (fun _ h => nomatch h)⟩)⟩)⟩)⟩)⟩)⟩)⟩)⟩) (J57 _ _ (by omega) (by omega))
      · refine v_iconst dX7_monthsTo_50 ?_
        refine v_goto 55 dX7_monthsTo_51 ?_
        refine v_istore dX7_monthsTo_55 (by decide) ?_
        exact v_lof [(0, .ref z), (1, .long (lI e)), (3, .long (lI p)), (5, (.long (lI e'))), (7, .long (lI q)), (9, .long (lI _)), (11, .int (iI d)), (12, .int (iI _))] (List.forall_mem_cons.mpr ⟨rfl, (List.forall_mem_cons.mpr ⟨rfl, (List.forall_mem_cons.mpr ⟨rfl, (List.forall_mem_cons.mpr ⟨rfl, (List.forall_mem_cons.mpr ⟨rfl, (List.forall_mem_cons.mpr ⟨rfl, (List.forall_mem_cons.mpr ⟨rfl, (List.forall_mem_cons.mpr ⟨rfl, (fun _ h => nomatch h)⟩)⟩)⟩)⟩)⟩)⟩)⟩)⟩) (J57 _ _ (by omega) (by omega))
