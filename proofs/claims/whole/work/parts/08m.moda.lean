def MZ (G : GG) (w : AH) (A : Nat → Nat) (zi : Nat) (f c r : Int) (gm go : Nat → Int) (ru : Nat → Nat → Int) : Prop :=
  ∃ gF gC gM gO gK gR : Nat → Int, w (A 2) = some (aiA G 4 gF) ∧ w (A 3) = some (aiA G 4 gC) ∧ w (A 4) = some (alA G 32 gM) ∧ w (A 5) = some (aiA G 32 gO) ∧ w (A 6) = some (aiA G 4 gK) ∧ w (A 7) = some (aiA G 40 gR) ∧
    gF zi = f ∧ gC zi = c ∧ gK zi = r ∧ (∀ k : Nat, k < 8 → gM (8 * zi + k) = gm k) ∧ (∀ k : Nat, k < 8 → gO (8 * zi + k) = go k) ∧ (∀ k j : Nat, (k : Int) < r → j < 5 → gR (10 * zi + 5 * k + j) = ru k j)
theorem MZ.up {G : GG} {w : AH} {A : Nat → Nat} {zi z : Nat} {f c r : Int} {gm go : Nat → Int} {ru : Nat → Nat → Int} {th yq mq dq ty ap wr sz : Int} {e : va_E} (h0 : w z = some (mdC A th yq mq dq ty ap wr sz)) (hM : MZ G w A zi f c r gm go ru) : MZ G (aup w z e) A zi f c r gm go ru := by
  obtain ⟨gF, gC, gM, gO, gK, gR, z2, z3, z4, z5, z6, z7, l2, l3, l6, l4, l5, l7⟩ := hM
  refine ⟨gF, gC, gM, gO, gK, gR, ?_, ?_, ?_, ?_, ?_, ?_, l2, l3, l6, l4, l5, l7⟩
  · exact (aup_n (fun q => ne_of h0 z2 mdai q.symm)).trans z2
  · exact (aup_n (fun q => ne_of h0 z3 mdai q.symm)).trans z3
  · exact (aup_n (fun q => ne_of h0 z4 mdal q.symm)).trans z4
  · exact (aup_n (fun q => ne_of h0 z5 mdai q.symm)).trans z5
  · exact (aup_n (fun q => ne_of h0 z6 mdai q.symm)).trans z6
  · exact (aup_n (fun q => ne_of h0 z7 mdai q.symm)).trans z7
set_option maxRecDepth 100000 in
set_option maxHeartbeats 4000000 in
theorem s_X7_lastOf {l : Launch} {G : GG} {w : AH} {Q : Option Value → AH → Prop} {X : String → AH → Prop} (hst : l.stackTraces = false) {z : Nat} {A : Nat → Nat} {th yq mq dq ty ap wr sz : Int} (h0 : w z = some (mdC A th yq mq dq ty ap wr sz)) {f c r : Int} {gm go : Nat → Int} {ru : Nat → Nat → Int} {zi : Nat} (hi4 : zi < 4) (hZ : ZOK f c r gm go ru) (hM : MZ G w A zi f c r gm go ru) (hQ : Q (some (.long (lI (lastC gm c)))) w) : Ct l G mX7_lastOf rX7_lastOf [(.ref z), .int (iI (zi : Int))] w Q X := by
  obtain ⟨hc, hr, hgm, hmono, hf, hgo, hru⟩ := hZ
  obtain ⟨gF, gC, gM, gO, gK, gR, z2, z3, z4, z5, z6, z7, l2, l3, l6, l4, l5, l7⟩ := hM
  refine ct_of hst mk_X7_lastOf (Nat.le_of_ble_eq_true rfl) ?_
  refine v_aload_n dX7_lastOf_0 rfl ?_
  refine v_get dX7_lastOf_1 f_X7_20 (by first | exact h0 | exact z2 | exact z3 | exact z4 | exact z5 | exact z6 | exact z7 | exact aup_s) rfl ?_
  refine v_iload_n dX7_lastOf_4 rfl ?_
  refine v_iald dX7_lastOf_5 (by first | exact h0 | exact z2 | exact z3 | exact z4 | exact z5 | exact z6 | exact z7 | exact aup_s) ?_
  rw [show gC ((zi : Int).toNat) = c from l3]
  refine v_if_ne 15 dX7_lastOf_6 (fun h_6 => ?_) (fun h_6 => ?_)
  · refine v_aload_n dX7_lastOf_15 rfl ?_
    refine v_get dX7_lastOf_16 f_X7_23 (by first | exact h0 | exact z2 | exact z3 | exact z4 | exact z5 | exact z6 | exact z7 | exact aup_s) rfl ?_
    refine v_bipush dX7_lastOf_19 ?_
    refine v_iload_n dX7_lastOf_21 rfl ?_
    refine v_imul dX7_lastOf_22 ?_
    refine v_aload_n dX7_lastOf_23 rfl ?_
    refine v_get dX7_lastOf_24 f_X7_20 (by first | exact h0 | exact z2 | exact z3 | exact z4 | exact z5 | exact z6 | exact z7 | exact aup_s) rfl ?_
    refine v_iload_n dX7_lastOf_27 rfl ?_
    refine v_iald dX7_lastOf_28 (by first | exact h0 | exact z2 | exact z3 | exact z4 | exact z5 | exact z6 | exact z7 | exact aup_s) ?_
    rw [show gC ((zi : Int).toNat) = c from l3]
    refine v_iadd dX7_lastOf_29 ?_
    refine v_iconst dX7_lastOf_30 ?_
    refine v_isub dX7_lastOf_31 ?_
    refine v_lald dX7_lastOf_32 (by first | exact h0 | exact z2 | exact z3 | exact z4 | exact z5 | exact z6 | exact z7 | exact aup_s) ?_
    exact v_lret dX7_lastOf_33 rfl (by first | exact ql hQ (by unfold lastC; rw [if_neg (by omega)]) | exact ql hQ (by unfold lastC; rw [if_pos (by omega), show (8 * (zi : Int) + c - 1).toNat = 8 * zi + (c - 1).toNat by omega]; exact l4 _ (by omega)))
  · refine v_ldc2 (-9223372036854775808) dX7_lastOf_9 kl_X7_206 ?_
    refine v_goto 33 dX7_lastOf_12 ?_
    exact v_lret dX7_lastOf_33 rfl (by first | exact ql hQ (by unfold lastC; rw [if_neg (by omega)]) | exact ql hQ (by unfold lastC; rw [if_pos (by omega), show (8 * (zi : Int) + c - 1).toNat = 8 * zi + (c - 1).toNat by omega]; exact l4 _ (by omega)))
set_option maxRecDepth 100000 in
set_option maxHeartbeats 1000000 in
theorem rul_95 {l : Launch} {G : GG} {w : AH} {Q : Option Value → AH → Prop} {X : String → AH → Prop} (hst : l.stackTraces = false) {z : Nat} {A : Nat → Nat} {th yq mq dq ty ap wr sz : Int} (h0 : w z = some (mdC A th yq mq dq ty ap wr sz)) {f c r : Int} {gm go : Nat → Int} {ru : Nat → Nat → Int} {zi : Nat} (hi4 : zi < 4) (hZ : ZOK f c r gm go ru) (hM : MZ G w A zi f c r gm go ru) {k : Nat} (hk : (k : Int) < r) {y : Int} (hQ : ∀ v : Int, ((((-9999 ≤ y ∧ y ≤ 9999) ∧ lastC gm c < rM ru k y) ∧ v = rM ru k y) ∨ (¬ ((-9999 ≤ y ∧ y ≤ 9999) ∧ lastC gm c < rM ru k y) ∧ v = -9223372036854775808)) → Q (some (.long (lI v))) w) (hy : -9999 ≤ y ∧ y ≤ 9999) {x : Int} (hx : rM ru k y = x * 86400 + ru k 3) (hxr : -5000000 ≤ x ∧ x ≤ 5000000) : V l G mX7_ruled rX7_ruled Q X 95 (lof [(0, .ref z), (1, .int (iI (zi : Int))), (2, .int (iI ((10 * zi + 5 * k : Nat) : Int))), (3, .long (lI y)), (5, .int (iI (ru k 0))), (6, .int (iI (ru k 1))), (7, .long (lI (x)))]) [] (w) 0 0 := by
  obtain ⟨hc, hr, hgm, hmono, hf, hgo, hru⟩ := hZ
  have hRV := hru k hk
  obtain ⟨v0, v1, v2, v3, v4⟩ := hRV
  have hlr := lastC_rng (c := c) hgm
  have hk2 : k < 2 := (by omega)
  obtain ⟨gF, gC, gM, gO, gK, gR, z2, z3, z4, z5, z6, z7, l2, l3, l6, l4, l5, l7⟩ := hM
  have q0 : gR ((((10 * zi + 5 * k : Nat) : Nat) : Int)).toNat = ru k 0 := (by rw [show ((((10 * zi + 5 * k : Nat) : Nat) : Int)).toNat = 10 * zi + 5 * k + 0 by omega]; exact l7 k 0 hk (by omega))
  have q1 : gR ((((10 * zi + 5 * k : Nat) : Nat) : Int) + 1).toNat = ru k 1 := (by rw [show ((((10 * zi + 5 * k : Nat) : Nat) : Int) + 1).toNat = 10 * zi + 5 * k + 1 by omega]; exact l7 k 1 hk (by omega))
  have q2 : gR ((((10 * zi + 5 * k : Nat) : Nat) : Int) + 2).toNat = ru k 2 := (by rw [show ((((10 * zi + 5 * k : Nat) : Nat) : Int) + 2).toNat = 10 * zi + 5 * k + 2 by omega]; exact l7 k 2 hk (by omega))
  have q3 : gR ((((10 * zi + 5 * k : Nat) : Nat) : Int) + 3).toNat = ru k 3 := (by rw [show ((((10 * zi + 5 * k : Nat) : Nat) : Int) + 3).toNat = 10 * zi + 5 * k + 3 by omega]; exact l7 k 3 hk (by omega))
  refine v_ldc2 (86400) dX7_ruled_95 kl_X7_171 ?_
  refine v_lload dX7_ruled_98 rfl ?_
  refine v_lmul dX7_ruled_100 ?_
  refine v_aload_n dX7_ruled_101 rfl ?_
  refine v_get dX7_ruled_102 f_X7_32 (by first | exact h0 | exact z2 | exact z3 | exact z4 | exact z5 | exact z6 | exact z7 | exact aup_s) rfl ?_
  refine v_iload_n dX7_ruled_105 rfl ?_
  refine v_iconst dX7_ruled_106 ?_
  refine v_iadd dX7_ruled_107 ?_
  refine v_iald dX7_ruled_108 (by first | exact h0 | exact z2 | exact z3 | exact z4 | exact z5 | exact z6 | exact z7 | exact aup_s) ?_
  rw [q3]
  refine v_i2l dX7_ruled_109 ?_
  refine v_ladd dX7_ruled_110 ?_
  refine v_lstore dX7_ruled_111 (by decide) ?_
  refine v_lload dX7_ruled_113 rfl ?_
  refine v_aload_n dX7_ruled_115 rfl ?_
  refine v_iload_n dX7_ruled_116 rfl ?_
  refine v_V1 (rm' := rX7_lastOf) (RX7, TX7, 18) dX7_ruled_117 km_X7_223 kn_X7_lastOf kv_X7_lastOf kz_X7 mk_X7_lastOf rfl rfl (by first | exact h0 | exact z2 | exact z3 | exact z4 | exact z5 | exact z6 | exact z7 | exact aup_s) ⟨Nat.le_of_ble_eq_true rfl, Nat.le_of_ble_eq_true rfl⟩ ⟨Nat.le_of_ble_eq_true rfl, Nat.le_of_ble_eq_true rfl⟩ (Nat.le_of_ble_eq_true rfl) ?_
  refine s_X7_lastOf hst h0 hi4 ⟨hc, hr, hgm, hmono, hf, hgo, hru⟩ ⟨gF, gC, gM, gO, gK, gR, z2, z3, z4, z5, z6, z7, l2, l3, l6, l4, l5, l7⟩ ?_
  refine v_lif_le 129 dX7_ruled_120 dX7_ruled_121 (fun h_120 => ?_) (fun h_120 => ?_)
  · refine v_ldc2 (-9223372036854775808) dX7_ruled_129 kl_X7_206 ?_
    exact v_lret dX7_ruled_132 rfl (by first | (have g9 : (-9999 ≤ y ∧ y ≤ 9999) ∧ lastC gm c < rM ru k y := (by omega); exact hQ _ (by omega)) | (have g9 : ¬ ((-9999 ≤ y ∧ y ≤ 9999) ∧ lastC gm c < rM ru k y) := (by omega); exact hQ _ (by omega)))
  · refine v_lload dX7_ruled_124 rfl ?_
    refine v_goto 132 dX7_ruled_126 ?_
    exact v_lret dX7_ruled_132 rfl (by first | (have g9 : (-9999 ≤ y ∧ y ≤ 9999) ∧ lastC gm c < rM ru k y := (by omega); exact hQ _ (by omega)) | (have g9 : ¬ ((-9999 ≤ y ∧ y ≤ 9999) ∧ lastC gm c < rM ru k y) := (by omega); exact hQ _ (by omega)))
set_option maxRecDepth 100000 in
set_option maxHeartbeats 1000000 in
theorem rul_loop {l : Launch} {G : GG} {w : AH} {Q : Option Value → AH → Prop} {X : String → AH → Prop} (hst : l.stackTraces = false) {z : Nat} {A : Nat → Nat} {th yq mq dq ty ap wr sz : Int} (h0 : w z = some (mdC A th yq mq dq ty ap wr sz)) {f c r : Int} {gm go : Nat → Int} {ru : Nat → Nat → Int} {zi : Nat} (hi4 : zi < 4) (hZ : ZOK f c r gm go ru) (hM : MZ G w A zi f c r gm go ru) {k : Nat} (hk : (k : Int) < r) {y : Int} (hQ : ∀ v : Int, ((((-9999 ≤ y ∧ y ≤ 9999) ∧ lastC gm c < rM ru k y) ∧ v = rM ru k y) ∨ (¬ ((-9999 ≤ y ∧ y ≤ 9999) ∧ lastC gm c < rM ru k y) ∧ v = -9223372036854775808)) → Q (some (.long (lI v))) w) (hy : -9999 ≤ y ∧ y ≤ 9999) {r0 : Int} (hr0 : rM ru k y = r0 * 86400 + ru k 3) (har : -4900000 ≤ r0 ∧ r0 ≤ 4900000) : ∀ (N : Nat) (x : Int), ((0 ≤ ru k 1 ∧ (ru k 2 - wd x) % 7 ≤ N) ∨ (ru k 1 < 0 ∧ (wd x - ru k 2) % 7 ≤ N)) → (-4950000 ≤ x ∧ x ≤ 4950000) → ((0 ≤ ru k 1 ∧ r0 = x + (ru k 2 - wd x) % 7) ∨ (ru k 1 < 0 ∧ r0 = x - (wd x - ru k 2) % 7)) → V l G mX7_ruled rX7_ruled Q X 59 (lof [(0, .ref z), (1, .int (iI (zi : Int))), (2, .int (iI ((10 * zi + 5 * k : Nat) : Int))), (3, .long (lI y)), (5, .int (iI (ru k 0))), (6, .int (iI (ru k 1))), (7, .long (lI (x)))]) [] (w) 0 0 := by
  obtain ⟨hc, hr, hgm, hmono, hf, hgo, hru⟩ := hZ
  have hRV := hru k hk
  obtain ⟨v0, v1, v2, v3, v4⟩ := hRV
  have hlr := lastC_rng (c := c) hgm
  have hk2 : k < 2 := (by omega)
  obtain ⟨gF, gC, gM, gO, gK, gR, z2, z3, z4, z5, z6, z7, l2, l3, l6, l4, l5, l7⟩ := hM
  have q0 : gR ((((10 * zi + 5 * k : Nat) : Nat) : Int)).toNat = ru k 0 := (by rw [show ((((10 * zi + 5 * k : Nat) : Nat) : Int)).toNat = 10 * zi + 5 * k + 0 by omega]; exact l7 k 0 hk (by omega))
  have q1 : gR ((((10 * zi + 5 * k : Nat) : Nat) : Int) + 1).toNat = ru k 1 := (by rw [show ((((10 * zi + 5 * k : Nat) : Nat) : Int) + 1).toNat = 10 * zi + 5 * k + 1 by omega]; exact l7 k 1 hk (by omega))
  have q2 : gR ((((10 * zi + 5 * k : Nat) : Nat) : Int) + 2).toNat = ru k 2 := (by rw [show ((((10 * zi + 5 * k : Nat) : Nat) : Int) + 2).toNat = 10 * zi + 5 * k + 2 by omega]; exact l7 k 2 hk (by omega))
  have q3 : gR ((((10 * zi + 5 * k : Nat) : Nat) : Int) + 3).toNat = ru k 3 := (by rw [show ((((10 * zi + 5 * k : Nat) : Nat) : Int) + 3).toNat = 10 * zi + 5 * k + 3 by omega]; exact l7 k 3 hk (by omega))
  intro N
  induction N with
  | zero =>
    intro x hN hx hr9
    have w0 := wd_c x
    have w1 := wd_c (x + 1)
    have w2 := wd_c (x + -1)
    have hfin : wd x = ru k 2 → rM ru k y = x * 86400 + ru k 3 := fun e2 => (by rw [hr0]; have e3 : x = r0 := (by omega); rw [e3])
    refine v_lload dX7_ruled_59 rfl ?_
    refine v_S1 (rm' := rX7_weekOf) dX7_ruled_61 km_X7_138 ks_X7_weekOf kz_X7 mk_X7_weekOf rfl ⟨Nat.le_of_ble_eq_true rfl, Nat.le_of_ble_eq_true rfl⟩ ⟨Nat.le_of_ble_eq_true rfl, Nat.le_of_ble_eq_true rfl⟩ (Nat.le_of_ble_eq_true rfl) ?_
    refine s_X7_weekOf hst ?_
    refine v_aload_n dX7_ruled_64 rfl ?_
    refine v_get dX7_ruled_65 f_X7_32 (by first | exact h0 | exact z2 | exact z3 | exact z4 | exact z5 | exact z6 | exact z7 | exact aup_s) rfl ?_
    refine v_iload_n dX7_ruled_68 rfl ?_
    refine v_iconst dX7_ruled_69 ?_
    refine v_iadd dX7_ruled_70 ?_
    refine v_iald dX7_ruled_71 (by first | exact h0 | exact z2 | exact z3 | exact z4 | exact z5 | exact z6 | exact z7 | exact aup_s) ?_
    rw [q2]
    refine v_icmp_eq 95 dX7_ruled_72 (fun h_72 => ?_) (fun h_72 => ?_)
    · exact v_lof [(0, .ref z), (1, .int (iI (zi : Int))), (2, .int (iI ((10 * zi + 5 * k : Nat) : Int))), (3, .long (lI y)), (5, .int (iI (ru k 0))), (6, .int (iI (ru k 1))), (7, .long (lI (x)))] (List.forall_mem_cons.mpr ⟨rfl, (List.forall_mem_cons.mpr ⟨rfl, (List.forall_mem_cons.mpr ⟨rfl, (List.forall_mem_cons.mpr ⟨rfl, (List.forall_mem_cons.mpr ⟨rfl, (List.forall_mem_cons.mpr ⟨rfl, (List.forall_mem_cons.mpr ⟨rfl, (fun _ h => nomatch h)⟩)⟩)⟩)⟩)⟩)⟩)⟩) (rul_95 hst h0 hi4 ⟨hc, hr, hgm, hmono, hf, hgo, hru⟩ ⟨gF, gC, gM, gO, gK, gR, z2, z3, z4, z5, z6, z7, l2, l3, l6, l4, l5, l7⟩ hk hQ hy (x := x) (hfin (by omega)) (by omega))
    · refine v_lload dX7_ruled_75 rfl ?_
      refine v_iload dX7_ruled_77 rfl ?_
      refine v_if_ge 88 dX7_ruled_79 (fun h_79 => ?_) (fun h_79 => ?_)
      · refine v_lconst1 dX7_ruled_88 ?_
        refine v_ladd dX7_ruled_89 ?_
        refine v_lstore dX7_ruled_90 (by decide) ?_
        refine v_goto 59 dX7_ruled_92 ?_
        (exfalso; omega)
      · refine v_ldc2 (-1) dX7_ruled_82 kl_X7_210 ?_
        refine v_goto 89 dX7_ruled_85 ?_
        refine v_ladd dX7_ruled_89 ?_
        refine v_lstore dX7_ruled_90 (by decide) ?_
        refine v_goto 59 dX7_ruled_92 ?_
        (exfalso; omega)
  | succ N ih =>
    intro x hN hx hr9
    have w0 := wd_c x
    have w1 := wd_c (x + 1)
    have w2 := wd_c (x + -1)
    have hfin : wd x = ru k 2 → rM ru k y = x * 86400 + ru k 3 := fun e2 => (by rw [hr0]; have e3 : x = r0 := (by omega); rw [e3])
    refine v_lload dX7_ruled_59 rfl ?_
    refine v_S1 (rm' := rX7_weekOf) dX7_ruled_61 km_X7_138 ks_X7_weekOf kz_X7 mk_X7_weekOf rfl ⟨Nat.le_of_ble_eq_true rfl, Nat.le_of_ble_eq_true rfl⟩ ⟨Nat.le_of_ble_eq_true rfl, Nat.le_of_ble_eq_true rfl⟩ (Nat.le_of_ble_eq_true rfl) ?_
    refine s_X7_weekOf hst ?_
    refine v_aload_n dX7_ruled_64 rfl ?_
    refine v_get dX7_ruled_65 f_X7_32 (by first | exact h0 | exact z2 | exact z3 | exact z4 | exact z5 | exact z6 | exact z7 | exact aup_s) rfl ?_
    refine v_iload_n dX7_ruled_68 rfl ?_
    refine v_iconst dX7_ruled_69 ?_
    refine v_iadd dX7_ruled_70 ?_
    refine v_iald dX7_ruled_71 (by first | exact h0 | exact z2 | exact z3 | exact z4 | exact z5 | exact z6 | exact z7 | exact aup_s) ?_
    rw [q2]
    refine v_icmp_eq 95 dX7_ruled_72 (fun h_72 => ?_) (fun h_72 => ?_)
    · exact v_lof [(0, .ref z), (1, .int (iI (zi : Int))), (2, .int (iI ((10 * zi + 5 * k : Nat) : Int))), (3, .long (lI y)), (5, .int (iI (ru k 0))), (6, .int (iI (ru k 1))), (7, .long (lI (x)))] (List.forall_mem_cons.mpr ⟨rfl, (List.forall_mem_cons.mpr ⟨rfl, (List.forall_mem_cons.mpr ⟨rfl, (List.forall_mem_cons.mpr ⟨rfl, (List.forall_mem_cons.mpr ⟨rfl, (List.forall_mem_cons.mpr ⟨rfl, (List.forall_mem_cons.mpr ⟨rfl, (fun _ h => nomatch h)⟩)⟩)⟩)⟩)⟩)⟩)⟩) (rul_95 hst h0 hi4 ⟨hc, hr, hgm, hmono, hf, hgo, hru⟩ ⟨gF, gC, gM, gO, gK, gR, z2, z3, z4, z5, z6, z7, l2, l3, l6, l4, l5, l7⟩ hk hQ hy (x := x) (hfin (by omega)) (by omega))
    · refine v_lload dX7_ruled_75 rfl ?_
      refine v_iload dX7_ruled_77 rfl ?_
      refine v_if_ge 88 dX7_ruled_79 (fun h_79 => ?_) (fun h_79 => ?_)
      · refine v_lconst1 dX7_ruled_88 ?_
        refine v_ladd dX7_ruled_89 ?_
        refine v_lstore dX7_ruled_90 (by decide) ?_
        refine v_goto 59 dX7_ruled_92 ?_
        first | (have g9 : ru k 1 < 0 := (by omega); exact v_lof [(0, .ref z), (1, .int (iI (zi : Int))), (2, .int (iI ((10 * zi + 5 * k : Nat) : Int))), (3, .long (lI y)), (5, .int (iI (ru k 0))), (6, .int (iI (ru k 1))), (7, .long (lI (x + -1)))] (List.forall_mem_cons.mpr ⟨rfl, (List.forall_mem_cons.mpr ⟨rfl, (List.forall_mem_cons.mpr ⟨rfl, (List.forall_mem_cons.mpr ⟨rfl, (List.forall_mem_cons.mpr ⟨rfl, (List.forall_mem_cons.mpr ⟨rfl, (List.forall_mem_cons.mpr ⟨rfl, (fun _ h => nomatch h)⟩)⟩)⟩)⟩)⟩)⟩)⟩) (ih (x + -1) (by omega) (by omega) (by omega))) | (have g9 : 0 ≤ ru k 1 := (by omega); exact v_lof [(0, .ref z), (1, .int (iI (zi : Int))), (2, .int (iI ((10 * zi + 5 * k : Nat) : Int))), (3, .long (lI y)), (5, .int (iI (ru k 0))), (6, .int (iI (ru k 1))), (7, .long (lI (x + 1)))] (List.forall_mem_cons.mpr ⟨rfl, (List.forall_mem_cons.mpr ⟨rfl, (List.forall_mem_cons.mpr ⟨rfl, (List.forall_mem_cons.mpr ⟨rfl, (List.forall_mem_cons.mpr ⟨rfl, (List.forall_mem_cons.mpr ⟨rfl, (List.forall_mem_cons.mpr ⟨rfl, (fun _ h => nomatch h)⟩)⟩)⟩)⟩)⟩)⟩)⟩) (ih (x + 1) (by omega) (by omega) (by omega)))
      · refine v_ldc2 (-1) dX7_ruled_82 kl_X7_210 ?_
        refine v_goto 89 dX7_ruled_85 ?_
        refine v_ladd dX7_ruled_89 ?_
        refine v_lstore dX7_ruled_90 (by decide) ?_
        refine v_goto 59 dX7_ruled_92 ?_
        first | (have g9 : ru k 1 < 0 := (by omega); exact v_lof [(0, .ref z), (1, .int (iI (zi : Int))), (2, .int (iI ((10 * zi + 5 * k : Nat) : Int))), (3, .long (lI y)), (5, .int (iI (ru k 0))), (6, .int (iI (ru k 1))), (7, .long (lI (x + -1)))] (List.forall_mem_cons.mpr ⟨rfl, (List.forall_mem_cons.mpr ⟨rfl, (List.forall_mem_cons.mpr ⟨rfl, (List.forall_mem_cons.mpr ⟨rfl, (List.forall_mem_cons.mpr ⟨rfl, (List.forall_mem_cons.mpr ⟨rfl, (List.forall_mem_cons.mpr ⟨rfl, (fun _ h => nomatch h)⟩)⟩)⟩)⟩)⟩)⟩)⟩) (ih (x + -1) (by omega) (by omega) (by omega))) | (have g9 : 0 ≤ ru k 1 := (by omega); exact v_lof [(0, .ref z), (1, .int (iI (zi : Int))), (2, .int (iI ((10 * zi + 5 * k : Nat) : Int))), (3, .long (lI y)), (5, .int (iI (ru k 0))), (6, .int (iI (ru k 1))), (7, .long (lI (x + 1)))] (List.forall_mem_cons.mpr ⟨rfl, (List.forall_mem_cons.mpr ⟨rfl, (List.forall_mem_cons.mpr ⟨rfl, (List.forall_mem_cons.mpr ⟨rfl, (List.forall_mem_cons.mpr ⟨rfl, (List.forall_mem_cons.mpr ⟨rfl, (List.forall_mem_cons.mpr ⟨rfl, (fun _ h => nomatch h)⟩)⟩)⟩)⟩)⟩)⟩)⟩) (ih (x + 1) (by omega) (by omega) (by omega)))
set_option maxRecDepth 100000 in
set_option maxHeartbeats 4000000 in
theorem s_X7_ruled {l : Launch} {G : GG} {w : AH} {Q : Option Value → AH → Prop} {X : String → AH → Prop} (hst : l.stackTraces = false) {z : Nat} {A : Nat → Nat} {th yq mq dq ty ap wr sz : Int} (h0 : w z = some (mdC A th yq mq dq ty ap wr sz)) {f c r : Int} {gm go : Nat → Int} {ru : Nat → Nat → Int} {zi : Nat} (hi4 : zi < 4) (hZ : ZOK f c r gm go ru) (hM : MZ G w A zi f c r gm go ru) {k : Nat} (hk : (k : Int) < r) {y : Int} (hyr : -1000000 ≤ y ∧ y ≤ 1000000) (hQ : ∀ v : Int, ((((-9999 ≤ y ∧ y ≤ 9999) ∧ lastC gm c < rM ru k y) ∧ v = rM ru k y) ∨ (¬ ((-9999 ≤ y ∧ y ≤ 9999) ∧ lastC gm c < rM ru k y) ∧ v = -9223372036854775808)) → Q (some (.long (lI v))) w) : Ct l G mX7_ruled rX7_ruled [(.ref z), .int (iI (zi : Int)), .int (iI ((10 * zi + 5 * k : Nat) : Int)), .long (lI y)] w Q X := by
  obtain ⟨hc, hr, hgm, hmono, hf, hgo, hru⟩ := hZ
  have hRV := hru k hk
  obtain ⟨v0, v1, v2, v3, v4⟩ := hRV
  have hlr := lastC_rng (c := c) hgm
  have hk2 : k < 2 := (by omega)
  have hlen := lenM_rng y (ru k 0)
  obtain ⟨gF, gC, gM, gO, gK, gR, z2, z3, z4, z5, z6, z7, l2, l3, l6, l4, l5, l7⟩ := hM
  have q0 : gR ((((10 * zi + 5 * k : Nat) : Nat) : Int)).toNat = ru k 0 := (by rw [show ((((10 * zi + 5 * k : Nat) : Nat) : Int)).toNat = 10 * zi + 5 * k + 0 by omega]; exact l7 k 0 hk (by omega))
  have q1 : gR ((((10 * zi + 5 * k : Nat) : Nat) : Int) + 1).toNat = ru k 1 := (by rw [show ((((10 * zi + 5 * k : Nat) : Nat) : Int) + 1).toNat = 10 * zi + 5 * k + 1 by omega]; exact l7 k 1 hk (by omega))
  have q2 : gR ((((10 * zi + 5 * k : Nat) : Nat) : Int) + 2).toNat = ru k 2 := (by rw [show ((((10 * zi + 5 * k : Nat) : Nat) : Int) + 2).toNat = 10 * zi + 5 * k + 2 by omega]; exact l7 k 2 hk (by omega))
  have q3 : gR ((((10 * zi + 5 * k : Nat) : Nat) : Int) + 3).toNat = ru k 3 := (by rw [show ((((10 * zi + 5 * k : Nat) : Nat) : Int) + 3).toNat = 10 * zi + 5 * k + 3 by omega]; exact l7 k 3 hk (by omega))
  refine ct_of hst mk_X7_ruled (Nat.le_of_ble_eq_true rfl) ?_
  refine v_lload_n dX7_ruled_0 rfl ?_
  refine v_ldc2 (-9999) dX7_ruled_1 kl_X7_94 ?_
  refine v_ldc2 (9999) dX7_ruled_4 kl_X7_100 ?_
  refine v_S3 (rm' := rX7_in) dX7_ruled_7 km_X7_102 ks_X7_in kz_X7 mk_X7_in rfl ⟨Nat.le_of_ble_eq_true rfl, Nat.le_of_ble_eq_true rfl⟩ ⟨Nat.le_of_ble_eq_true rfl, Nat.le_of_ble_eq_true rfl⟩ (Nat.le_of_ble_eq_true rfl) ?_
  refine s_X7_in hst (fun ri ei => ?_)
  refine v_if_ne 17 dX7_ruled_10 (fun h_10 => ?_) (fun h_10 => ?_)
  · refine v_aload_n dX7_ruled_17 rfl ?_
    refine v_get dX7_ruled_18 f_X7_32 (by first | exact h0 | exact z2 | exact z3 | exact z4 | exact z5 | exact z6 | exact z7 | exact aup_s) rfl ?_
    refine v_iload_n dX7_ruled_21 rfl ?_
    refine v_iald dX7_ruled_22 (by first | exact h0 | exact z2 | exact z3 | exact z4 | exact z5 | exact z6 | exact z7 | exact aup_s) ?_
    rw [q0]
    refine v_istore dX7_ruled_23 (by decide) ?_
    refine v_aload_n dX7_ruled_25 rfl ?_
    refine v_get dX7_ruled_26 f_X7_32 (by first | exact h0 | exact z2 | exact z3 | exact z4 | exact z5 | exact z6 | exact z7 | exact aup_s) rfl ?_
    refine v_iload_n dX7_ruled_29 rfl ?_
    refine v_iconst dX7_ruled_30 ?_
    refine v_iadd dX7_ruled_31 ?_
    refine v_iald dX7_ruled_32 (by first | exact h0 | exact z2 | exact z3 | exact z4 | exact z5 | exact z6 | exact z7 | exact aup_s) ?_
    rw [q1]
    refine v_istore dX7_ruled_33 (by decide) ?_
    refine v_lload_n dX7_ruled_35 rfl ?_
    refine v_iload dX7_ruled_36 rfl ?_
    refine v_iload dX7_ruled_38 rfl ?_
    refine v_if_ge 52 dX7_ruled_40 (fun h_40 => ?_) (fun h_40 => ?_)
    · refine v_iload dX7_ruled_52 rfl ?_
      refine v_S3 (rm' := rX7_dayOf) dX7_ruled_54 km_X7_96 ks_X7_dayOf kz_X7 mk_X7_dayOf rfl ⟨Nat.le_of_ble_eq_true rfl, Nat.le_of_ble_eq_true rfl⟩ ⟨Nat.le_of_ble_eq_true rfl, Nat.le_of_ble_eq_true rfl⟩ (Nat.le_of_ble_eq_true rfl) ?_
      refine s_X7_dayOf hst ?_
      refine v_lstore dX7_ruled_57 (by decide) ?_
      first
      | (have g9 : ru k 1 < 0 := (by omega)
         have hdc := rday_c (ru k 0) (ru k 1) (ru k 2) y
         have hed9 := ed_rng (y := y) (m := ru k 0) (d := lenM y (ru k 0)) (by omega) v0 (by omega)
         have w0 := wd_c (ed y (ru k 0) (lenM y (ru k 0)))
         exact v_lof [(0, .ref z), (1, .int (iI (zi : Int))), (2, .int (iI ((10 * zi + 5 * k : Nat) : Int))), (3, .long (lI y)), (5, .int (iI (ru k 0))), (6, .int (iI (ru k 1))), (7, .long (lI (ed y (ru k 0) (lenM y (ru k 0)))))] (List.forall_mem_cons.mpr ⟨rfl, (List.forall_mem_cons.mpr ⟨rfl, (List.forall_mem_cons.mpr ⟨rfl, (List.forall_mem_cons.mpr ⟨rfl, (List.forall_mem_cons.mpr ⟨rfl, (List.forall_mem_cons.mpr ⟨rfl, (List.forall_mem_cons.mpr ⟨rfl, (fun _ h => nomatch h)⟩)⟩)⟩)⟩)⟩)⟩)⟩) (rul_loop hst h0 hi4 ⟨hc, hr, hgm, hmono, hf, hgo, hru⟩ ⟨gF, gC, gM, gO, gK, gR, z2, z3, z4, z5, z6, z7, l2, l3, l6, l4, l5, l7⟩ hk hQ (by omega) (r0 := rday (ru k 0) (ru k 1) (ru k 2) y) rfl (by omega) 6 _ (by omega) (by omega) (by omega)))
      | (have hdc := rday_c (ru k 0) (ru k 1) (ru k 2) y
         have hed9 := ed_rng (y := y) (m := ru k 0) (d := ru k 1) (by omega) v0 (by omega)
         have w0 := wd_c (ed y (ru k 0) (ru k 1))
         exact v_lof [(0, .ref z), (1, .int (iI (zi : Int))), (2, .int (iI ((10 * zi + 5 * k : Nat) : Int))), (3, .long (lI y)), (5, .int (iI (ru k 0))), (6, .int (iI (ru k 1))), (7, .long (lI (ed y (ru k 0) (ru k 1))))] (List.forall_mem_cons.mpr ⟨rfl, (List.forall_mem_cons.mpr ⟨rfl, (List.forall_mem_cons.mpr ⟨rfl, (List.forall_mem_cons.mpr ⟨rfl, (List.forall_mem_cons.mpr ⟨rfl, (List.forall_mem_cons.mpr ⟨rfl, (List.forall_mem_cons.mpr ⟨rfl, (fun _ h => nomatch h)⟩)⟩)⟩)⟩)⟩)⟩)⟩) (rul_loop hst h0 hi4 ⟨hc, hr, hgm, hmono, hf, hgo, hru⟩ ⟨gF, gC, gM, gO, gK, gR, z2, z3, z4, z5, z6, z7, l2, l3, l6, l4, l5, l7⟩ hk hQ (by omega) (r0 := rday (ru k 0) (ru k 1) (ru k 2) y) rfl (by omega) 6 _ (by omega) (by omega) (by omega)))
    · refine v_lload_n dX7_ruled_43 rfl ?_
      refine v_iload dX7_ruled_44 rfl ?_
      refine v_S2 (rm' := rX7_length) dX7_ruled_46 km_X7_112 ks_X7_length kz_X7 mk_X7_length rfl ⟨Nat.le_of_ble_eq_true rfl, Nat.le_of_ble_eq_true rfl⟩ ⟨Nat.le_of_ble_eq_true rfl, Nat.le_of_ble_eq_true rfl⟩ (Nat.le_of_ble_eq_true rfl) ?_
      refine s_X7_length hst ?_
      refine v_goto 54 dX7_ruled_49 ?_
      refine v_S3 (rm' := rX7_dayOf) dX7_ruled_54 km_X7_96 ks_X7_dayOf kz_X7 mk_X7_dayOf rfl ⟨Nat.le_of_ble_eq_true rfl, Nat.le_of_ble_eq_true rfl⟩ ⟨Nat.le_of_ble_eq_true rfl, Nat.le_of_ble_eq_true rfl⟩ (Nat.le_of_ble_eq_true rfl) ?_
      refine s_X7_dayOf hst ?_
      refine v_lstore dX7_ruled_57 (by decide) ?_
      first
      | (have g9 : ru k 1 < 0 := (by omega)
         have hdc := rday_c (ru k 0) (ru k 1) (ru k 2) y
         have hed9 := ed_rng (y := y) (m := ru k 0) (d := lenM y (ru k 0)) (by omega) v0 (by omega)
         have w0 := wd_c (ed y (ru k 0) (lenM y (ru k 0)))
         exact v_lof [(0, .ref z), (1, .int (iI (zi : Int))), (2, .int (iI ((10 * zi + 5 * k : Nat) : Int))), (3, .long (lI y)), (5, .int (iI (ru k 0))), (6, .int (iI (ru k 1))), (7, .long (lI (ed y (ru k 0) (lenM y (ru k 0)))))] (List.forall_mem_cons.mpr ⟨rfl, (List.forall_mem_cons.mpr ⟨rfl, (List.forall_mem_cons.mpr ⟨rfl, (List.forall_mem_cons.mpr ⟨rfl, (List.forall_mem_cons.mpr ⟨rfl, (List.forall_mem_cons.mpr ⟨rfl, (List.forall_mem_cons.mpr ⟨rfl, (fun _ h => nomatch h)⟩)⟩)⟩)⟩)⟩)⟩)⟩) (rul_loop hst h0 hi4 ⟨hc, hr, hgm, hmono, hf, hgo, hru⟩ ⟨gF, gC, gM, gO, gK, gR, z2, z3, z4, z5, z6, z7, l2, l3, l6, l4, l5, l7⟩ hk hQ (by omega) (r0 := rday (ru k 0) (ru k 1) (ru k 2) y) rfl (by omega) 6 _ (by omega) (by omega) (by omega)))
      | (have hdc := rday_c (ru k 0) (ru k 1) (ru k 2) y
         have hed9 := ed_rng (y := y) (m := ru k 0) (d := ru k 1) (by omega) v0 (by omega)
         have w0 := wd_c (ed y (ru k 0) (ru k 1))
         exact v_lof [(0, .ref z), (1, .int (iI (zi : Int))), (2, .int (iI ((10 * zi + 5 * k : Nat) : Int))), (3, .long (lI y)), (5, .int (iI (ru k 0))), (6, .int (iI (ru k 1))), (7, .long (lI (ed y (ru k 0) (ru k 1))))] (List.forall_mem_cons.mpr ⟨rfl, (List.forall_mem_cons.mpr ⟨rfl, (List.forall_mem_cons.mpr ⟨rfl, (List.forall_mem_cons.mpr ⟨rfl, (List.forall_mem_cons.mpr ⟨rfl, (List.forall_mem_cons.mpr ⟨rfl, (List.forall_mem_cons.mpr ⟨rfl, (fun _ h => nomatch h)⟩)⟩)⟩)⟩)⟩)⟩)⟩) (rul_loop hst h0 hi4 ⟨hc, hr, hgm, hmono, hf, hgo, hru⟩ ⟨gF, gC, gM, gO, gK, gR, z2, z3, z4, z5, z6, z7, l2, l3, l6, l4, l5, l7⟩ hk hQ (by omega) (r0 := rday (ru k 0) (ru k 1) (ru k 2) y) rfl (by omega) 6 _ (by omega) (by omega) (by omega)))
  · refine v_ldc2 (-9223372036854775808) dX7_ruled_13 kl_X7_206 ?_
    exact v_lret dX7_ruled_16 rfl (by exact hQ _ (by omega))
set_option maxRecDepth 100000 in
set_option maxHeartbeats 4000000 in
theorem s_X7_yearOf {l : Launch} {G : GG} {w : AH} {Q : Option Value → AH → Prop} {X : String → AH → Prop} (hst : l.stackTraces = false) {z : Nat} {A : Nat → Nat} {th yq mq dq ty ap wr sz : Int} (h0 : w z = some (mdC A th yq mq dq ty ap wr sz)) {t : Int} (ht : -378000000000 ≤ t ∧ t ≤ 254000000000) (hQ : ∀ yr' mo' da' : Int,  Q (some (.long (lI (yr (t / 86400))))) (aup w z (mdC A th yr' mo' da' ty ap wr sz))) : Ct l G mX7_yearOf rX7_yearOf [(.ref z), .long (lI t)] w Q X := by
  refine ct_of hst mk_X7_yearOf (Nat.le_of_ble_eq_true rfl) ?_
  refine v_aload_n dX7_yearOf_0 rfl ?_
  refine v_lload_n dX7_yearOf_1 rfl ?_
  refine v_ldc2 (86400) dX7_yearOf_2 kl_X7_171 ?_
  refine v_S2 (rm' := rX7_floor) dX7_yearOf_5 km_X7_59 ks_X7_floor kz_X7 mk_X7_floor rfl ⟨Nat.le_of_ble_eq_true rfl, Nat.le_of_ble_eq_true rfl⟩ ⟨Nat.le_of_ble_eq_true rfl, Nat.le_of_ble_eq_true rfl⟩ (Nat.le_of_ble_eq_true rfl) ?_
  refine s_X7_floor hst ?_
  refine v_V1 (rm' := rX7_tell) (RX7, TX7, 18) dX7_yearOf_8 km_X7_106 kn_X7_tell kv_X7_tell kz_X7 mk_X7_tell rfl rfl (by first | exact h0 | exact aup_s) ⟨Nat.le_of_ble_eq_true rfl, Nat.le_of_ble_eq_true rfl⟩ ⟨Nat.le_of_ble_eq_true rfl, Nat.le_of_ble_eq_true rfl⟩ (Nat.le_of_ble_eq_true rfl) ?_
  refine s_X7_tell hst h0 (by omega) (fun y m d hy hm hd he9 => ?_)
  have hyq : y = yr (t / 86400) := (by rw [← he9]; exact (yr_ed hm hd).symm)
  refine v_aload_n dX7_yearOf_11 rfl ?_
  refine v_get dX7_yearOf_12 f_X7_86 (by first | exact h0 | exact aup_s) rfl ?_
  exact v_lret dX7_yearOf_15 rfl (by exact ql (hQ y m d) hyq)
