set_option maxRecDepth 100000 in
set_option maxHeartbeats 1000000 in
theorem mm_71 {l : Launch} {G : GG} {w : AH} {Q : Option Value → AH → Prop} {X : String → AH → Prop} (hst : l.stackTraces = false) {z : Nat} {A : Nat → Nat} {th yq mq dq ty ap wr sz : Int} (h0 : w z = some (mdC A th yq mq dq ty ap wr sz)) {f c r : Int} {gm go : Nat → Int} {ru : Nat → Nat → Int} {zi : Nat} (hi4 : zi < 4) (hZ : ZOK f c r gm go ru) (hM : MZ G w A zi f c r gm go ru) {i lo la : Int} (hlo : -377705116800 ≤ lo ∧ lo ≤ 253402300799) (hla : la = 0 ∨ la = 1) (hE : ∀ a yv mv dv : Int, mS f c r gm go ru lo la (1 + c + r).toNat = a → V l G mX7_moment rX7_moment Q X 163 (lof [(0, .ref z), (1, .int (iI i)), (2, .int (iI (zi : Int))), (3, .int (iI la)), (4, .long (lI lo)), (6, .long (lI a))]) [] (aup w z (mdC A 0 yv mv dv ty ap wr sz)) 0 0) : ∀ (N k : Nat), 1 + c + r - k ≤ N → (k : Int) ≤ 1 + c + r → ∀ a yv mv dv : Int, mS f c r gm go ru lo la k = a → V l G mX7_moment rX7_moment Q X 71 (lof [(0, .ref z), (1, .int (iI i)), (2, .int (iI (zi : Int))), (3, .int (iI la)), (4, .long (lI lo)), (6, .long (lI (a))), (8, .int (iI ((k : Int))))]) [] (aup w z (mdC A 0 yv mv dv ty ap wr sz)) 0 0 := by
  have hcr := hZ.1
  have hrr := hZ.2.1
  intro N
  induction N with
  | zero =>
    intro k hN hk a yv mv dv hak
    have har := mS_rng (la := la) hZ hlo k hk
    rw [hak] at har
    obtain ⟨gF, gC, gM, gO, gK, gR, z2, z3, z4, z5, z6, z7, l2, l3, l6, l4, l5, l7⟩ := MZ.up (e := (mdC A 0 yv mv dv ty ap wr sz)) h0 hM
    refine v_iload dX7_moment_71 rfl ?_
    refine v_iconst dX7_moment_73 ?_
    refine v_aload_n dX7_moment_74 rfl ?_
    refine v_get dX7_moment_75 f_X7_20 (by first | exact h0 | exact z2 | exact z3 | exact z4 | exact z5 | exact z6 | exact z7 | exact aup_s) rfl ?_
    refine v_iload_n dX7_moment_78 rfl ?_
    refine v_iald dX7_moment_79 (by first | exact h0 | exact z2 | exact z3 | exact z4 | exact z5 | exact z6 | exact z7 | exact aup_s) ?_
    rw [show gC ((zi : Int).toNat) = c from l3]
    refine v_iadd dX7_moment_80 ?_
    refine v_aload_n dX7_moment_81 rfl ?_
    refine v_get dX7_moment_82 f_X7_29 (by first | exact h0 | exact z2 | exact z3 | exact z4 | exact z5 | exact z6 | exact z7 | exact aup_s) rfl ?_
    refine v_iload_n dX7_moment_85 rfl ?_
    refine v_iald dX7_moment_86 (by first | exact h0 | exact z2 | exact z3 | exact z4 | exact z5 | exact z6 | exact z7 | exact aup_s) ?_
    rw [show gK ((zi : Int).toNat) = r from l6]
    refine v_iadd dX7_moment_87 ?_
    refine v_icmp_ge 163 dX7_moment_88 (fun h_88 => ?_) (fun h_88 => ?_)
    · exact v_lof [(0, .ref z), (1, .int (iI i)), (2, .int (iI (zi : Int))), (3, .int (iI la)), (4, .long (lI lo)), (6, .long (lI a))] (List.forall_mem_cons.mpr ⟨rfl, (List.forall_mem_cons.mpr ⟨rfl, (List.forall_mem_cons.mpr ⟨rfl, (List.forall_mem_cons.mpr ⟨rfl, (List.forall_mem_cons.mpr ⟨rfl, (List.forall_mem_cons.mpr ⟨rfl, (fun _ h => nomatch h)⟩)⟩)⟩)⟩)⟩)⟩) (hE a _ _ _ (by rw [show (1 + c + r).toNat = k by omega]; exact hak))
    · refine v_lload dX7_moment_91 rfl ?_
      refine v_aload_n dX7_moment_93 rfl ?_
      refine v_iload_n dX7_moment_94 rfl ?_
      refine v_iload dX7_moment_95 rfl ?_
      refine v_V2 (rm' := rX7_possible) (RX7, TX7, 18) dX7_moment_97 km_X7_239 kn_X7_possible kv_X7_possible kz_X7 mk_X7_possible rfl rfl (by first | exact h0 | exact z2 | exact z3 | exact z4 | exact z5 | exact z6 | exact z7 | exact aup_s) ⟨Nat.le_of_ble_eq_true rfl, Nat.le_of_ble_eq_true rfl⟩ ⟨Nat.le_of_ble_eq_true rfl, Nat.le_of_ble_eq_true rfl⟩ (Nat.le_of_ble_eq_true rfl) ?_
      refine s_X7_possible hst aup_s hi4 hZ (MZ.up h0 hM) (k := k) (by omega) ?_
      have hKr := kOff_rng (k := (k : Int)) hZ (by omega)
      have hK : ∃ K, kOff f go c (fun k => ru k 4) (k : Int) = K := ⟨_, rfl⟩
      obtain ⟨K, hK⟩ := hK
      rw [hK] at hKr ⊢
      refine v_i2l dX7_moment_100 ?_
      refine v_lsub dX7_moment_101 ?_
      refine v_lstore dX7_moment_102 (by decide) ?_
      refine v_aload_n dX7_moment_104 rfl ?_
      refine v_iload_n dX7_moment_105 rfl ?_
      refine v_lload dX7_moment_106 rfl ?_
      refine v_V2 (rm' := rX7_offsetAt) (RX7, TX7, 18) dX7_moment_108 km_X7_235 kn_X7_offsetAt kv_X7_offsetAt kz_X7 mk_X7_offsetAt rfl rfl (by first | exact h0 | exact z2 | exact z3 | exact z4 | exact z5 | exact z6 | exact z7 | exact aup_s) ⟨Nat.le_of_ble_eq_true rfl, Nat.le_of_ble_eq_true rfl⟩ ⟨Nat.le_of_ble_eq_true rfl, Nat.le_of_ble_eq_true rfl⟩ (Nat.le_of_ble_eq_true rfl) ?_
      refine s_X7_offsetAt hst aup_s hi4 hZ (MZ.up h0 hM) (by omega) (fun yr' mo' da' => ?_)
      rw [aup_up]
      have hOr := oA_rng (t := lo - K) hZ
      refine v_aload_n dX7_moment_111 rfl ?_
      refine v_iload_n dX7_moment_112 rfl ?_
      refine v_iload dX7_moment_113 rfl ?_
      refine v_V2 (rm' := rX7_possible) (RX7, TX7, 18) dX7_moment_115 km_X7_239 kn_X7_possible kv_X7_possible kz_X7 mk_X7_possible rfl rfl (by first | exact h0 | exact z2 | exact z3 | exact z4 | exact z5 | exact z6 | exact z7 | exact aup_s) ⟨Nat.le_of_ble_eq_true rfl, Nat.le_of_ble_eq_true rfl⟩ ⟨Nat.le_of_ble_eq_true rfl, Nat.le_of_ble_eq_true rfl⟩ (Nat.le_of_ble_eq_true rfl) ?_
      refine s_X7_possible hst aup_s hi4 hZ (MZ.up h0 hM) (k := k) (by omega) ?_
      rw [hK]
      refine v_icmp_ne 157 dX7_moment_118 (fun h_118 => ?_) (fun h_118 => ?_)
      · refine v_iinc dX7_moment_157 rfl ?_
        rw [show (k : Int) + 1 = ((k + 1 : Nat) : Int) by omega]
        refine v_goto 71 dX7_moment_160 ?_
        (exfalso; omega)
      · refine v_lload dX7_moment_121 rfl ?_
        refine v_ldc2 (-9223372036854775808) dX7_moment_123 kl_X7_206 ?_
        refine v_lif_eq 153 dX7_moment_126 dX7_moment_127 (fun h_126 => ?_) (fun h_126 => ?_)
        · refine v_lload dX7_moment_153 rfl ?_
          refine v_lstore dX7_moment_155 (by decide) ?_
          refine v_iinc dX7_moment_157 rfl ?_
          rw [show (k : Int) + 1 = ((k + 1 : Nat) : Int) by omega]
          refine v_goto 71 dX7_moment_160 ?_
          (exfalso; omega)
        · refine v_iload_n dX7_moment_130 rfl ?_
          refine v_if_eq 145 dX7_moment_131 (fun h_131 => ?_) (fun h_131 => ?_)
          · refine v_lload dX7_moment_145 rfl ?_
            refine v_lload dX7_moment_147 rfl ?_
            refine v_lif_ge 157 dX7_moment_149 dX7_moment_150 (fun h_149 => ?_) (fun h_149 => ?_)
            · refine v_iinc dX7_moment_157 rfl ?_
              rw [show (k : Int) + 1 = ((k + 1 : Nat) : Int) by omega]
              refine v_goto 71 dX7_moment_160 ?_
              (exfalso; omega)
            · refine v_lload dX7_moment_153 rfl ?_
              refine v_lstore dX7_moment_155 (by decide) ?_
              refine v_iinc dX7_moment_157 rfl ?_
              rw [show (k : Int) + 1 = ((k + 1 : Nat) : Int) by omega]
              refine v_goto 71 dX7_moment_160 ?_
              (exfalso; omega)
          · refine v_lload dX7_moment_134 rfl ?_
            refine v_lload dX7_moment_136 rfl ?_
            refine v_lif_le 157 dX7_moment_138 dX7_moment_139 (fun h_138 => ?_) (fun h_138 => ?_)
            · refine v_iinc dX7_moment_157 rfl ?_
              rw [show (k : Int) + 1 = ((k + 1 : Nat) : Int) by omega]
              refine v_goto 71 dX7_moment_160 ?_
              (exfalso; omega)
            · refine v_goto 153 dX7_moment_142 ?_
              refine v_lload dX7_moment_153 rfl ?_
              refine v_lstore dX7_moment_155 (by decide) ?_
              refine v_iinc dX7_moment_157 rfl ?_
              rw [show (k : Int) + 1 = ((k + 1 : Nat) : Int) by omega]
              refine v_goto 71 dX7_moment_160 ?_
              (exfalso; omega)
  | succ N ih =>
    intro k hN hk a yv mv dv hak
    have har := mS_rng (la := la) hZ hlo k hk
    rw [hak] at har
    obtain ⟨gF, gC, gM, gO, gK, gR, z2, z3, z4, z5, z6, z7, l2, l3, l6, l4, l5, l7⟩ := MZ.up (e := (mdC A 0 yv mv dv ty ap wr sz)) h0 hM
    refine v_iload dX7_moment_71 rfl ?_
    refine v_iconst dX7_moment_73 ?_
    refine v_aload_n dX7_moment_74 rfl ?_
    refine v_get dX7_moment_75 f_X7_20 (by first | exact h0 | exact z2 | exact z3 | exact z4 | exact z5 | exact z6 | exact z7 | exact aup_s) rfl ?_
    refine v_iload_n dX7_moment_78 rfl ?_
    refine v_iald dX7_moment_79 (by first | exact h0 | exact z2 | exact z3 | exact z4 | exact z5 | exact z6 | exact z7 | exact aup_s) ?_
    rw [show gC ((zi : Int).toNat) = c from l3]
    refine v_iadd dX7_moment_80 ?_
    refine v_aload_n dX7_moment_81 rfl ?_
    refine v_get dX7_moment_82 f_X7_29 (by first | exact h0 | exact z2 | exact z3 | exact z4 | exact z5 | exact z6 | exact z7 | exact aup_s) rfl ?_
    refine v_iload_n dX7_moment_85 rfl ?_
    refine v_iald dX7_moment_86 (by first | exact h0 | exact z2 | exact z3 | exact z4 | exact z5 | exact z6 | exact z7 | exact aup_s) ?_
    rw [show gK ((zi : Int).toNat) = r from l6]
    refine v_iadd dX7_moment_87 ?_
    refine v_icmp_ge 163 dX7_moment_88 (fun h_88 => ?_) (fun h_88 => ?_)
    · exact v_lof [(0, .ref z), (1, .int (iI i)), (2, .int (iI (zi : Int))), (3, .int (iI la)), (4, .long (lI lo)), (6, .long (lI a))] (List.forall_mem_cons.mpr ⟨rfl, (List.forall_mem_cons.mpr ⟨rfl, (List.forall_mem_cons.mpr ⟨rfl, (List.forall_mem_cons.mpr ⟨rfl, (List.forall_mem_cons.mpr ⟨rfl, (List.forall_mem_cons.mpr ⟨rfl, (fun _ h => nomatch h)⟩)⟩)⟩)⟩)⟩)⟩) (hE a _ _ _ (by rw [show (1 + c + r).toNat = k by omega]; exact hak))
    · refine v_lload dX7_moment_91 rfl ?_
      refine v_aload_n dX7_moment_93 rfl ?_
      refine v_iload_n dX7_moment_94 rfl ?_
      refine v_iload dX7_moment_95 rfl ?_
      refine v_V2 (rm' := rX7_possible) (RX7, TX7, 18) dX7_moment_97 km_X7_239 kn_X7_possible kv_X7_possible kz_X7 mk_X7_possible rfl rfl (by first | exact h0 | exact z2 | exact z3 | exact z4 | exact z5 | exact z6 | exact z7 | exact aup_s) ⟨Nat.le_of_ble_eq_true rfl, Nat.le_of_ble_eq_true rfl⟩ ⟨Nat.le_of_ble_eq_true rfl, Nat.le_of_ble_eq_true rfl⟩ (Nat.le_of_ble_eq_true rfl) ?_
      refine s_X7_possible hst aup_s hi4 hZ (MZ.up h0 hM) (k := k) (by omega) ?_
      have hKr := kOff_rng (k := (k : Int)) hZ (by omega)
      have hK : ∃ K, kOff f go c (fun k => ru k 4) (k : Int) = K := ⟨_, rfl⟩
      obtain ⟨K, hK⟩ := hK
      rw [hK] at hKr ⊢
      refine v_i2l dX7_moment_100 ?_
      refine v_lsub dX7_moment_101 ?_
      refine v_lstore dX7_moment_102 (by decide) ?_
      refine v_aload_n dX7_moment_104 rfl ?_
      refine v_iload_n dX7_moment_105 rfl ?_
      refine v_lload dX7_moment_106 rfl ?_
      refine v_V2 (rm' := rX7_offsetAt) (RX7, TX7, 18) dX7_moment_108 km_X7_235 kn_X7_offsetAt kv_X7_offsetAt kz_X7 mk_X7_offsetAt rfl rfl (by first | exact h0 | exact z2 | exact z3 | exact z4 | exact z5 | exact z6 | exact z7 | exact aup_s) ⟨Nat.le_of_ble_eq_true rfl, Nat.le_of_ble_eq_true rfl⟩ ⟨Nat.le_of_ble_eq_true rfl, Nat.le_of_ble_eq_true rfl⟩ (Nat.le_of_ble_eq_true rfl) ?_
      refine s_X7_offsetAt hst aup_s hi4 hZ (MZ.up h0 hM) (by omega) (fun yr' mo' da' => ?_)
      rw [aup_up]
      have hOr := oA_rng (t := lo - K) hZ
      refine v_aload_n dX7_moment_111 rfl ?_
      refine v_iload_n dX7_moment_112 rfl ?_
      refine v_iload dX7_moment_113 rfl ?_
      refine v_V2 (rm' := rX7_possible) (RX7, TX7, 18) dX7_moment_115 km_X7_239 kn_X7_possible kv_X7_possible kz_X7 mk_X7_possible rfl rfl (by first | exact h0 | exact z2 | exact z3 | exact z4 | exact z5 | exact z6 | exact z7 | exact aup_s) ⟨Nat.le_of_ble_eq_true rfl, Nat.le_of_ble_eq_true rfl⟩ ⟨Nat.le_of_ble_eq_true rfl, Nat.le_of_ble_eq_true rfl⟩ (Nat.le_of_ble_eq_true rfl) ?_
      refine s_X7_possible hst aup_s hi4 hZ (MZ.up h0 hM) (k := k) (by omega) ?_
      rw [hK]
      refine v_icmp_ne 157 dX7_moment_118 (fun h_118 => ?_) (fun h_118 => ?_)
      · refine v_iinc dX7_moment_157 rfl ?_
        rw [show (k : Int) + 1 = ((k + 1 : Nat) : Int) by omega]
        refine v_goto 71 dX7_moment_160 ?_
        first | (exfalso; omega) | (have g9 : (oA f c r gm go ru (lo - K) = K ∧ (a = -9223372036854775808 ∨ (la = 1 ∧ a < lo - K) ∨ (la = 0 ∧ lo - K < a))) := (by omega); exact v_lof [(0, .ref z), (1, .int (iI i)), (2, .int (iI (zi : Int))), (3, .int (iI la)), (4, .long (lI lo)), (6, .long (lI (lo - K))), (8, .int (iI (((k + 1 : Nat) : Int))))] (List.forall_mem_cons.mpr ⟨rfl, (List.forall_mem_cons.mpr ⟨rfl, (List.forall_mem_cons.mpr ⟨rfl, (List.forall_mem_cons.mpr ⟨rfl, (List.forall_mem_cons.mpr ⟨rfl, (List.forall_mem_cons.mpr ⟨rfl, (List.forall_mem_cons.mpr ⟨rfl, (fun _ h => nomatch h)⟩)⟩)⟩)⟩)⟩)⟩)⟩) (ih (k + 1) (by omega) (by omega) _ _ _ _ (mS_p hak hK g9))) | (have g9 : ¬ (oA f c r gm go ru (lo - K) = K ∧ (a = -9223372036854775808 ∨ (la = 1 ∧ a < lo - K) ∨ (la = 0 ∧ lo - K < a))) := (by omega); exact v_lof [(0, .ref z), (1, .int (iI i)), (2, .int (iI (zi : Int))), (3, .int (iI la)), (4, .long (lI lo)), (6, .long (lI (a))), (8, .int (iI (((k + 1 : Nat) : Int))))] (List.forall_mem_cons.mpr ⟨rfl, (List.forall_mem_cons.mpr ⟨rfl, (List.forall_mem_cons.mpr ⟨rfl, (List.forall_mem_cons.mpr ⟨rfl, (List.forall_mem_cons.mpr ⟨rfl, (List.forall_mem_cons.mpr ⟨rfl, (List.forall_mem_cons.mpr ⟨rfl, (fun _ h => nomatch h)⟩)⟩)⟩)⟩)⟩)⟩)⟩) (ih (k + 1) (by omega) (by omega) _ _ _ _ (mS_n hak hK g9)))
      · refine v_lload dX7_moment_121 rfl ?_
        refine v_ldc2 (-9223372036854775808) dX7_moment_123 kl_X7_206 ?_
        refine v_lif_eq 153 dX7_moment_126 dX7_moment_127 (fun h_126 => ?_) (fun h_126 => ?_)
        · refine v_lload dX7_moment_153 rfl ?_
          refine v_lstore dX7_moment_155 (by decide) ?_
          refine v_iinc dX7_moment_157 rfl ?_
          rw [show (k : Int) + 1 = ((k + 1 : Nat) : Int) by omega]
          refine v_goto 71 dX7_moment_160 ?_
          first | (exfalso; omega) | (have g9 : (oA f c r gm go ru (lo - K) = K ∧ (a = -9223372036854775808 ∨ (la = 1 ∧ a < lo - K) ∨ (la = 0 ∧ lo - K < a))) := (by omega); exact v_lof [(0, .ref z), (1, .int (iI i)), (2, .int (iI (zi : Int))), (3, .int (iI la)), (4, .long (lI lo)), (6, .long (lI (lo - K))), (8, .int (iI (((k + 1 : Nat) : Int))))] (List.forall_mem_cons.mpr ⟨rfl, (List.forall_mem_cons.mpr ⟨rfl, (List.forall_mem_cons.mpr ⟨rfl, (List.forall_mem_cons.mpr ⟨rfl, (List.forall_mem_cons.mpr ⟨rfl, (List.forall_mem_cons.mpr ⟨rfl, (List.forall_mem_cons.mpr ⟨rfl, (fun _ h => nomatch h)⟩)⟩)⟩)⟩)⟩)⟩)⟩) (ih (k + 1) (by omega) (by omega) _ _ _ _ (mS_p hak hK g9))) | (have g9 : ¬ (oA f c r gm go ru (lo - K) = K ∧ (a = -9223372036854775808 ∨ (la = 1 ∧ a < lo - K) ∨ (la = 0 ∧ lo - K < a))) := (by omega); exact v_lof [(0, .ref z), (1, .int (iI i)), (2, .int (iI (zi : Int))), (3, .int (iI la)), (4, .long (lI lo)), (6, .long (lI (a))), (8, .int (iI (((k + 1 : Nat) : Int))))] (List.forall_mem_cons.mpr ⟨rfl, (List.forall_mem_cons.mpr ⟨rfl, (List.forall_mem_cons.mpr ⟨rfl, (List.forall_mem_cons.mpr ⟨rfl, (List.forall_mem_cons.mpr ⟨rfl, (List.forall_mem_cons.mpr ⟨rfl, (List.forall_mem_cons.mpr ⟨rfl, (fun _ h => nomatch h)⟩)⟩)⟩)⟩)⟩)⟩)⟩) (ih (k + 1) (by omega) (by omega) _ _ _ _ (mS_n hak hK g9)))
        · refine v_iload_n dX7_moment_130 rfl ?_
          refine v_if_eq 145 dX7_moment_131 (fun h_131 => ?_) (fun h_131 => ?_)
          · refine v_lload dX7_moment_145 rfl ?_
            refine v_lload dX7_moment_147 rfl ?_
            refine v_lif_ge 157 dX7_moment_149 dX7_moment_150 (fun h_149 => ?_) (fun h_149 => ?_)
            · refine v_iinc dX7_moment_157 rfl ?_
              rw [show (k : Int) + 1 = ((k + 1 : Nat) : Int) by omega]
              refine v_goto 71 dX7_moment_160 ?_
              first | (exfalso; omega) | (have g9 : (oA f c r gm go ru (lo - K) = K ∧ (a = -9223372036854775808 ∨ (la = 1 ∧ a < lo - K) ∨ (la = 0 ∧ lo - K < a))) := (by omega); exact v_lof [(0, .ref z), (1, .int (iI i)), (2, .int (iI (zi : Int))), (3, .int (iI la)), (4, .long (lI lo)), (6, .long (lI (lo - K))), (8, .int (iI (((k + 1 : Nat) : Int))))] (List.forall_mem_cons.mpr ⟨rfl, (List.forall_mem_cons.mpr ⟨rfl, (List.forall_mem_cons.mpr ⟨rfl, (List.forall_mem_cons.mpr ⟨rfl, (List.forall_mem_cons.mpr ⟨rfl, (List.forall_mem_cons.mpr ⟨rfl, (List.forall_mem_cons.mpr ⟨rfl, (fun _ h => nomatch h)⟩)⟩)⟩)⟩)⟩)⟩)⟩) (ih (k + 1) (by omega) (by omega) _ _ _ _ (mS_p hak hK g9))) | (have g9 : ¬ (oA f c r gm go ru (lo - K) = K ∧ (a = -9223372036854775808 ∨ (la = 1 ∧ a < lo - K) ∨ (la = 0 ∧ lo - K < a))) := (by omega); exact v_lof [(0, .ref z), (1, .int (iI i)), (2, .int (iI (zi : Int))), (3, .int (iI la)), (4, .long (lI lo)), (6, .long (lI (a))), (8, .int (iI (((k + 1 : Nat) : Int))))] (List.forall_mem_cons.mpr ⟨rfl, (List.forall_mem_cons.mpr ⟨rfl, (List.forall_mem_cons.mpr ⟨rfl, (List.forall_mem_cons.mpr ⟨rfl, (List.forall_mem_cons.mpr ⟨rfl, (List.forall_mem_cons.mpr ⟨rfl, (List.forall_mem_cons.mpr ⟨rfl, (fun _ h => nomatch h)⟩)⟩)⟩)⟩)⟩)⟩)⟩) (ih (k + 1) (by omega) (by omega) _ _ _ _ (mS_n hak hK g9)))
            · refine v_lload dX7_moment_153 rfl ?_
              refine v_lstore dX7_moment_155 (by decide) ?_
              refine v_iinc dX7_moment_157 rfl ?_
              rw [show (k : Int) + 1 = ((k + 1 : Nat) : Int) by omega]
              refine v_goto 71 dX7_moment_160 ?_
              first | (exfalso; omega) | (have g9 : (oA f c r gm go ru (lo - K) = K ∧ (a = -9223372036854775808 ∨ (la = 1 ∧ a < lo - K) ∨ (la = 0 ∧ lo - K < a))) := (by omega); exact v_lof [(0, .ref z), (1, .int (iI i)), (2, .int (iI (zi : Int))), (3, .int (iI la)), (4, .long (lI lo)), (6, .long (lI (lo - K))), (8, .int (iI (((k + 1 : Nat) : Int))))] (List.forall_mem_cons.mpr ⟨rfl, (List.forall_mem_cons.mpr ⟨rfl, (List.forall_mem_cons.mpr ⟨rfl, (List.forall_mem_cons.mpr ⟨rfl, (List.forall_mem_cons.mpr ⟨rfl, (List.forall_mem_cons.mpr ⟨rfl, (List.forall_mem_cons.mpr ⟨rfl, (fun _ h => nomatch h)⟩)⟩)⟩)⟩)⟩)⟩)⟩) (ih (k + 1) (by omega) (by omega) _ _ _ _ (mS_p hak hK g9))) | (have g9 : ¬ (oA f c r gm go ru (lo - K) = K ∧ (a = -9223372036854775808 ∨ (la = 1 ∧ a < lo - K) ∨ (la = 0 ∧ lo - K < a))) := (by omega); exact v_lof [(0, .ref z), (1, .int (iI i)), (2, .int (iI (zi : Int))), (3, .int (iI la)), (4, .long (lI lo)), (6, .long (lI (a))), (8, .int (iI (((k + 1 : Nat) : Int))))] (List.forall_mem_cons.mpr ⟨rfl, (List.forall_mem_cons.mpr ⟨rfl, (List.forall_mem_cons.mpr ⟨rfl, (List.forall_mem_cons.mpr ⟨rfl, (List.forall_mem_cons.mpr ⟨rfl, (List.forall_mem_cons.mpr ⟨rfl, (List.forall_mem_cons.mpr ⟨rfl, (fun _ h => nomatch h)⟩)⟩)⟩)⟩)⟩)⟩)⟩) (ih (k + 1) (by omega) (by omega) _ _ _ _ (mS_n hak hK g9)))
          · refine v_lload dX7_moment_134 rfl ?_
            refine v_lload dX7_moment_136 rfl ?_
            refine v_lif_le 157 dX7_moment_138 dX7_moment_139 (fun h_138 => ?_) (fun h_138 => ?_)
            · refine v_iinc dX7_moment_157 rfl ?_
              rw [show (k : Int) + 1 = ((k + 1 : Nat) : Int) by omega]
              refine v_goto 71 dX7_moment_160 ?_
              first | (exfalso; omega) | (have g9 : (oA f c r gm go ru (lo - K) = K ∧ (a = -9223372036854775808 ∨ (la = 1 ∧ a < lo - K) ∨ (la = 0 ∧ lo - K < a))) := (by omega); exact v_lof [(0, .ref z), (1, .int (iI i)), (2, .int (iI (zi : Int))), (3, .int (iI la)), (4, .long (lI lo)), (6, .long (lI (lo - K))), (8, .int (iI (((k + 1 : Nat) : Int))))] (List.forall_mem_cons.mpr ⟨rfl, (List.forall_mem_cons.mpr ⟨rfl, (List.forall_mem_cons.mpr ⟨rfl, (List.forall_mem_cons.mpr ⟨rfl, (List.forall_mem_cons.mpr ⟨rfl, (List.forall_mem_cons.mpr ⟨rfl, (List.forall_mem_cons.mpr ⟨rfl, (fun _ h => nomatch h)⟩)⟩)⟩)⟩)⟩)⟩)⟩) (ih (k + 1) (by omega) (by omega) _ _ _ _ (mS_p hak hK g9))) | (have g9 : ¬ (oA f c r gm go ru (lo - K) = K ∧ (a = -9223372036854775808 ∨ (la = 1 ∧ a < lo - K) ∨ (la = 0 ∧ lo - K < a))) := (by omega); exact v_lof [(0, .ref z), (1, .int (iI i)), (2, .int (iI (zi : Int))), (3, .int (iI la)), (4, .long (lI lo)), (6, .long (lI (a))), (8, .int (iI (((k + 1 : Nat) : Int))))] (List.forall_mem_cons.mpr ⟨rfl, (List.forall_mem_cons.mpr ⟨rfl, (List.forall_mem_cons.mpr ⟨rfl, (List.forall_mem_cons.mpr ⟨rfl, (List.forall_mem_cons.mpr ⟨rfl, (List.forall_mem_cons.mpr ⟨rfl, (List.forall_mem_cons.mpr ⟨rfl, (fun _ h => nomatch h)⟩)⟩)⟩)⟩)⟩)⟩)⟩) (ih (k + 1) (by omega) (by omega) _ _ _ _ (mS_n hak hK g9)))
            · refine v_goto 153 dX7_moment_142 ?_
              refine v_lload dX7_moment_153 rfl ?_
              refine v_lstore dX7_moment_155 (by decide) ?_
              refine v_iinc dX7_moment_157 rfl ?_
              rw [show (k : Int) + 1 = ((k + 1 : Nat) : Int) by omega]
              refine v_goto 71 dX7_moment_160 ?_
              first | (exfalso; omega) | (have g9 : (oA f c r gm go ru (lo - K) = K ∧ (a = -9223372036854775808 ∨ (la = 1 ∧ a < lo - K) ∨ (la = 0 ∧ lo - K < a))) := (by omega); exact v_lof [(0, .ref z), (1, .int (iI i)), (2, .int (iI (zi : Int))), (3, .int (iI la)), (4, .long (lI lo)), (6, .long (lI (lo - K))), (8, .int (iI (((k + 1 : Nat) : Int))))] (List.forall_mem_cons.mpr ⟨rfl, (List.forall_mem_cons.mpr ⟨rfl, (List.forall_mem_cons.mpr ⟨rfl, (List.forall_mem_cons.mpr ⟨rfl, (List.forall_mem_cons.mpr ⟨rfl, (List.forall_mem_cons.mpr ⟨rfl, (List.forall_mem_cons.mpr ⟨rfl, (fun _ h => nomatch h)⟩)⟩)⟩)⟩)⟩)⟩)⟩) (ih (k + 1) (by omega) (by omega) _ _ _ _ (mS_p hak hK g9))) | (have g9 : ¬ (oA f c r gm go ru (lo - K) = K ∧ (a = -9223372036854775808 ∨ (la = 1 ∧ a < lo - K) ∨ (la = 0 ∧ lo - K < a))) := (by omega); exact v_lof [(0, .ref z), (1, .int (iI i)), (2, .int (iI (zi : Int))), (3, .int (iI la)), (4, .long (lI lo)), (6, .long (lI (a))), (8, .int (iI (((k + 1 : Nat) : Int))))] (List.forall_mem_cons.mpr ⟨rfl, (List.forall_mem_cons.mpr ⟨rfl, (List.forall_mem_cons.mpr ⟨rfl, (List.forall_mem_cons.mpr ⟨rfl, (List.forall_mem_cons.mpr ⟨rfl, (List.forall_mem_cons.mpr ⟨rfl, (List.forall_mem_cons.mpr ⟨rfl, (fun _ h => nomatch h)⟩)⟩)⟩)⟩)⟩)⟩)⟩) (ih (k + 1) (by omega) (by omega) _ _ _ _ (mS_n hak hK g9)))
set_option maxRecDepth 100000 in
set_option maxHeartbeats 1000000 in
theorem mm_183 {l : Launch} {G : GG} {w : AH} {Q : Option Value → AH → Prop} {X : String → AH → Prop} (hst : l.stackTraces = false) {z : Nat} {A : Nat → Nat} {th yq mq dq ty ap wr sz : Int} (h0 : w z = some (mdC A th yq mq dq ty ap wr sz)) {f c r : Int} {gm go : Nat → Int} {ru : Nat → Nat → Int} {zi : Nat} (hi4 : zi < 4) (hZ : ZOK f c r gm go ru) (hM : MZ G w A zi f c r gm go ru) {i lo la : Int} (hlo : -377705116800 ≤ lo ∧ lo ≤ 253402300799) (hla : la = 0 ∨ la = 1) (hE : ∀ E yv mv dv : Int, JA c gm go lo c.toNat E → V l G mX7_moment rX7_moment Q X 223 (lof [(0, .ref z), (1, .int (iI i)), (2, .int (iI (zi : Int))), (3, .int (iI la)), (4, .long (lI lo)), (8, .long (lI (E)))]) [] (aup w z (mdC A 0 yv mv dv ty ap wr sz)) 0 0) : ∀ (N k : Nat), c - k ≤ N → (k : Int) ≤ c → ∀ E yv mv dv : Int, JA c gm go lo k E → V l G mX7_moment rX7_moment Q X 183 (lof [(0, .ref z), (1, .int (iI i)), (2, .int (iI (zi : Int))), (3, .int (iI la)), (4, .long (lI lo)), (8, .long (lI (E))), (10, .int (iI ((k : Int))))]) [] (aup w z (mdC A 0 yv mv dv ty ap wr sz)) 0 0 := by
  have hcr := hZ.1
  have hrr := hZ.2.1
  intro N
  induction N with
  | zero =>
    intro k hN hk E yv mv dv hJA
    have hEr := JA_rng hZ hJA
    have hg9 := hZ.2.2.1 k
    obtain ⟨gF, gC, gM, gO, gK, gR, z2, z3, z4, z5, z6, z7, l2, l3, l6, l4, l5, l7⟩ := MZ.up (e := (mdC A 0 yv mv dv ty ap wr sz)) h0 hM
    refine v_iload dX7_moment_183 rfl ?_
    refine v_aload_n dX7_moment_185 rfl ?_
    refine v_get dX7_moment_186 f_X7_20 (by first | exact h0 | exact z2 | exact z3 | exact z4 | exact z5 | exact z6 | exact z7 | exact aup_s) rfl ?_
    refine v_iload_n dX7_moment_189 rfl ?_
    refine v_iald dX7_moment_190 (by first | exact h0 | exact z2 | exact z3 | exact z4 | exact z5 | exact z6 | exact z7 | exact aup_s) ?_
    rw [show gC ((zi : Int).toNat) = c from l3]
    refine v_icmp_ge 223 dX7_moment_191 (fun h_191 => ?_) (fun h_191 => ?_)
    · exact v_lof [(0, .ref z), (1, .int (iI i)), (2, .int (iI (zi : Int))), (3, .int (iI la)), (4, .long (lI lo)), (8, .long (lI (E)))] (List.forall_mem_cons.mpr ⟨rfl, (List.forall_mem_cons.mpr ⟨rfl, (List.forall_mem_cons.mpr ⟨rfl, (List.forall_mem_cons.mpr ⟨rfl, (List.forall_mem_cons.mpr ⟨rfl, (List.forall_mem_cons.mpr ⟨rfl, (fun _ h => nomatch h)⟩)⟩)⟩)⟩)⟩)⟩) (hE E _ _ _ (by rw [show c.toNat = k by omega]; exact hJA))
    · refine v_aload_n dX7_moment_194 rfl ?_
      refine v_iload_n dX7_moment_195 rfl ?_
      refine v_lload dX7_moment_196 rfl ?_
      refine v_aload_n dX7_moment_198 rfl ?_
      refine v_get dX7_moment_199 f_X7_23 (by first | exact h0 | exact z2 | exact z3 | exact z4 | exact z5 | exact z6 | exact z7 | exact aup_s) rfl ?_
      refine v_bipush dX7_moment_202 ?_
      refine v_iload_n dX7_moment_204 rfl ?_
      refine v_imul dX7_moment_205 ?_
      refine v_iload dX7_moment_206 rfl ?_
      refine v_iadd dX7_moment_208 ?_
      refine v_lald dX7_moment_209 (by first | exact h0 | exact z2 | exact z3 | exact z4 | exact z5 | exact z6 | exact z7 | exact aup_s) ?_
      rw [show gM ((8 * (zi : Int) + (k : Int)).toNat) = gm k by rw [show (8 * (zi : Int) + (k : Int)).toNat = 8 * zi + k by omega]; exact l4 k (by omega)]
      refine v_lload dX7_moment_210 rfl ?_
      refine v_V4 (rm' := rX7_opened) (RX7, TX7, 18) dX7_moment_212 km_X7_243 kn_X7_opened kv_X7_opened kz_X7 mk_X7_opened rfl rfl (by first | exact h0 | exact z2 | exact z3 | exact z4 | exact z5 | exact z6 | exact z7 | exact aup_s) ⟨Nat.le_of_ble_eq_true rfl, Nat.le_of_ble_eq_true rfl⟩ ⟨Nat.le_of_ble_eq_true rfl, Nat.le_of_ble_eq_true rfl⟩ (Nat.le_of_ble_eq_true rfl) ?_
      refine s_X7_opened hst aup_s hi4 hZ (MZ.up h0 hM) hlo (by omega) (by omega) (fun yr' mo' da' v9 e9 => ?_)
      rw [aup_up]
      have hgm9 := oA_gm hZ (i := k) (by omega)
      rw [hgm9] at e9
      have hJ2 := JA_s (E' := v9) hZ hJA (show (k : Int) < c by omega) (by omega)
      refine v_lstore dX7_moment_215 (by decide) ?_
      refine v_iinc dX7_moment_217 rfl ?_
      rw [show (k : Int) + 1 = ((k + 1 : Nat) : Int) by omega]
      refine v_goto 183 dX7_moment_220 ?_
      (exfalso; omega)
  | succ N ih =>
    intro k hN hk E yv mv dv hJA
    have hEr := JA_rng hZ hJA
    have hg9 := hZ.2.2.1 k
    obtain ⟨gF, gC, gM, gO, gK, gR, z2, z3, z4, z5, z6, z7, l2, l3, l6, l4, l5, l7⟩ := MZ.up (e := (mdC A 0 yv mv dv ty ap wr sz)) h0 hM
    refine v_iload dX7_moment_183 rfl ?_
    refine v_aload_n dX7_moment_185 rfl ?_
    refine v_get dX7_moment_186 f_X7_20 (by first | exact h0 | exact z2 | exact z3 | exact z4 | exact z5 | exact z6 | exact z7 | exact aup_s) rfl ?_
    refine v_iload_n dX7_moment_189 rfl ?_
    refine v_iald dX7_moment_190 (by first | exact h0 | exact z2 | exact z3 | exact z4 | exact z5 | exact z6 | exact z7 | exact aup_s) ?_
    rw [show gC ((zi : Int).toNat) = c from l3]
    refine v_icmp_ge 223 dX7_moment_191 (fun h_191 => ?_) (fun h_191 => ?_)
    · exact v_lof [(0, .ref z), (1, .int (iI i)), (2, .int (iI (zi : Int))), (3, .int (iI la)), (4, .long (lI lo)), (8, .long (lI (E)))] (List.forall_mem_cons.mpr ⟨rfl, (List.forall_mem_cons.mpr ⟨rfl, (List.forall_mem_cons.mpr ⟨rfl, (List.forall_mem_cons.mpr ⟨rfl, (List.forall_mem_cons.mpr ⟨rfl, (List.forall_mem_cons.mpr ⟨rfl, (fun _ h => nomatch h)⟩)⟩)⟩)⟩)⟩)⟩) (hE E _ _ _ (by rw [show c.toNat = k by omega]; exact hJA))
    · refine v_aload_n dX7_moment_194 rfl ?_
      refine v_iload_n dX7_moment_195 rfl ?_
      refine v_lload dX7_moment_196 rfl ?_
      refine v_aload_n dX7_moment_198 rfl ?_
      refine v_get dX7_moment_199 f_X7_23 (by first | exact h0 | exact z2 | exact z3 | exact z4 | exact z5 | exact z6 | exact z7 | exact aup_s) rfl ?_
      refine v_bipush dX7_moment_202 ?_
      refine v_iload_n dX7_moment_204 rfl ?_
      refine v_imul dX7_moment_205 ?_
      refine v_iload dX7_moment_206 rfl ?_
      refine v_iadd dX7_moment_208 ?_
      refine v_lald dX7_moment_209 (by first | exact h0 | exact z2 | exact z3 | exact z4 | exact z5 | exact z6 | exact z7 | exact aup_s) ?_
      rw [show gM ((8 * (zi : Int) + (k : Int)).toNat) = gm k by rw [show (8 * (zi : Int) + (k : Int)).toNat = 8 * zi + k by omega]; exact l4 k (by omega)]
      refine v_lload dX7_moment_210 rfl ?_
      refine v_V4 (rm' := rX7_opened) (RX7, TX7, 18) dX7_moment_212 km_X7_243 kn_X7_opened kv_X7_opened kz_X7 mk_X7_opened rfl rfl (by first | exact h0 | exact z2 | exact z3 | exact z4 | exact z5 | exact z6 | exact z7 | exact aup_s) ⟨Nat.le_of_ble_eq_true rfl, Nat.le_of_ble_eq_true rfl⟩ ⟨Nat.le_of_ble_eq_true rfl, Nat.le_of_ble_eq_true rfl⟩ (Nat.le_of_ble_eq_true rfl) ?_
      refine s_X7_opened hst aup_s hi4 hZ (MZ.up h0 hM) hlo (by omega) (by omega) (fun yr' mo' da' v9 e9 => ?_)
      rw [aup_up]
      have hgm9 := oA_gm hZ (i := k) (by omega)
      rw [hgm9] at e9
      have hJ2 := JA_s (E' := v9) hZ hJA (show (k : Int) < c by omega) (by omega)
      refine v_lstore dX7_moment_215 (by decide) ?_
      refine v_iinc dX7_moment_217 rfl ?_
      rw [show (k : Int) + 1 = ((k + 1 : Nat) : Int) by omega]
      refine v_goto 183 dX7_moment_220 ?_
      exact v_lof [(0, .ref z), (1, .int (iI i)), (2, .int (iI (zi : Int))), (3, .int (iI la)), (4, .long (lI lo)), (8, .long (lI (v9))), (10, .int (iI (((k + 1 : Nat) : Int))))] (List.forall_mem_cons.mpr ⟨rfl, (List.forall_mem_cons.mpr ⟨rfl, (List.forall_mem_cons.mpr ⟨rfl, (List.forall_mem_cons.mpr ⟨rfl, (List.forall_mem_cons.mpr ⟨rfl, (List.forall_mem_cons.mpr ⟨rfl, (List.forall_mem_cons.mpr ⟨rfl, (fun _ h => nomatch h)⟩)⟩)⟩)⟩)⟩)⟩)⟩) (ih (k + 1) (by omega) (by omega) _ _ _ _ hJ2)
set_option maxRecDepth 100000 in
set_option maxHeartbeats 1000000 in
theorem mm_251 {l : Launch} {G : GG} {w : AH} {Q : Option Value → AH → Prop} {X : String → AH → Prop} (hst : l.stackTraces = false) {z : Nat} {A : Nat → Nat} {th yq mq dq ty ap wr sz : Int} (h0 : w z = some (mdC A th yq mq dq ty ap wr sz)) {f c r : Int} {gm go : Nat → Int} {ru : Nat → Nat → Int} {zi : Nat} (hi4 : zi < 4) (hZ : ZOK f c r gm go ru) (hM : MZ G w A zi f c r gm go ru) {i lo la : Int} (hlo : -377705116800 ≤ lo ∧ lo ≤ 253402300799) (hla : la = 0 ∨ la = 1) {k : Nat} (hk : (k : Int) < r) (hE : ∀ E yv mv dv : Int, JB f c r gm go ru lo (yr (lo / 86400)) (k + 1) (yr (lo / 86400) - 1) (E) → V l G mX7_moment rX7_moment Q X 301 (lof [(0, .ref z), (1, .int (iI i)), (2, .int (iI (zi : Int))), (3, .int (iI la)), (4, .long (lI lo)), (8, .long (lI (E))), (10, .long (lI (yr (lo / 86400)))), (12, .int (iI ((k : Int))))]) [] (aup w z (mdC A 0 yv mv dv ty ap wr sz)) 0 0) : ∀ (N : Nat) (y : Int), yr (lo / 86400) + 2 - y ≤ N → (yr (lo / 86400) - 1 ≤ y ∧ y ≤ yr (lo / 86400) + 2) → ∀ E yv mv dv : Int, JB f c r gm go ru lo (yr (lo / 86400)) (k) (y) (E) → V l G mX7_moment rX7_moment Q X 251 (lof [(0, .ref z), (1, .int (iI i)), (2, .int (iI (zi : Int))), (3, .int (iI la)), (4, .long (lI lo)), (8, .long (lI (E))), (10, .long (lI (yr (lo / 86400)))), (12, .int (iI ((k : Int)))), (13, .long (lI (y)))]) [] (aup w z (mdC A 0 yv mv dv ty ap wr sz)) 0 0 := by
  have hyt := yr_t (t := lo) (by omega)
  have hcr := hZ.1
  have hrr := hZ.2.1
  intro N
  induction N with
  | zero =>
    intro y hN hy E yv mv dv hJB
    have hEr := JB_rng hZ hJB
    refine v_lload dX7_moment_251 rfl ?_
    refine v_lload dX7_moment_253 rfl ?_
    refine v_lconst1 dX7_moment_255 ?_
    refine v_ladd dX7_moment_256 ?_
    refine v_lif_gt 301 dX7_moment_257 dX7_moment_258 (fun h_257 => ?_) (fun h_257 => ?_)
    · exact v_lof [(0, .ref z), (1, .int (iI i)), (2, .int (iI (zi : Int))), (3, .int (iI la)), (4, .long (lI lo)), (8, .long (lI (E))), (10, .long (lI (yr (lo / 86400)))), (12, .int (iI ((k : Int))))] (List.forall_mem_cons.mpr ⟨rfl, (List.forall_mem_cons.mpr ⟨rfl, (List.forall_mem_cons.mpr ⟨rfl, (List.forall_mem_cons.mpr ⟨rfl, (List.forall_mem_cons.mpr ⟨rfl, (List.forall_mem_cons.mpr ⟨rfl, (List.forall_mem_cons.mpr ⟨rfl, (List.forall_mem_cons.mpr ⟨rfl, (fun _ h => nomatch h)⟩)⟩)⟩)⟩)⟩)⟩)⟩)⟩) (hE E _ _ _ (JB_y hJB (by omega)))
    · refine v_aload_n dX7_moment_261 rfl ?_
      refine v_iload_n dX7_moment_262 rfl ?_
      refine v_bipush dX7_moment_263 ?_
      refine v_iload_n dX7_moment_265 rfl ?_
      refine v_imul dX7_moment_266 ?_
      refine v_iconst dX7_moment_267 ?_
      refine v_iload dX7_moment_268 rfl ?_
      refine v_imul dX7_moment_270 ?_
      refine v_iadd dX7_moment_271 ?_
      rw [show 10 * (zi : Int) + 5 * (k : Int) = ((10 * zi + 5 * k : Nat) : Int) by omega]
      refine v_lload dX7_moment_272 rfl ?_
      refine v_V3 (rm' := rX7_ruled) (RX7, TX7, 18) dX7_moment_274 km_X7_231 kn_X7_ruled kv_X7_ruled kz_X7 mk_X7_ruled rfl rfl (by first | exact h0 | exact z2 | exact z3 | exact z4 | exact z5 | exact z6 | exact z7 | exact aup_s) ⟨Nat.le_of_ble_eq_true rfl, Nat.le_of_ble_eq_true rfl⟩ ⟨Nat.le_of_ble_eq_true rfl, Nat.le_of_ble_eq_true rfl⟩ (Nat.le_of_ble_eq_true rfl) ?_
      refine s_X7_ruled hst aup_s hi4 hZ (MZ.up h0 hM) hk (by omega) (fun v8 e8 => ?_)
      have hrr9 : (-9999 ≤ y ∧ y ≤ 9999) → -377800000000 ≤ rM ru k y ∧ rM ru k y ≤ 253500000000 := fun g => rM_rng (hZ.2.2.2.2.2.2 k hk) g
      have hv8 : v8 = -9223372036854775808 ∨ (-378000000000 ≤ v8 ∧ v8 ≤ 254000000000) := (by omega)
      refine v_lstore dX7_moment_277 (by decide) ?_
      refine v_aload_n dX7_moment_279 rfl ?_
      refine v_iload_n dX7_moment_280 rfl ?_
      refine v_lload dX7_moment_281 rfl ?_
      refine v_lload dX7_moment_283 rfl ?_
      refine v_lload dX7_moment_285 rfl ?_
      refine v_V4 (rm' := rX7_opened) (RX7, TX7, 18) dX7_moment_287 km_X7_243 kn_X7_opened kv_X7_opened kz_X7 mk_X7_opened rfl rfl (by first | exact h0 | exact z2 | exact z3 | exact z4 | exact z5 | exact z6 | exact z7 | exact aup_s) ⟨Nat.le_of_ble_eq_true rfl, Nat.le_of_ble_eq_true rfl⟩ ⟨Nat.le_of_ble_eq_true rfl, Nat.le_of_ble_eq_true rfl⟩ (Nat.le_of_ble_eq_true rfl) ?_
      refine s_X7_opened hst aup_s hi4 hZ (MZ.up h0 hM) hlo (by omega) (by omega) (fun yr' mo' da' v9 e9 => ?_)
      rw [aup_up]
      have hJ2 := JB_s (E' := v9) hZ hJB hk (by omega) e8 e9
      refine v_lstore dX7_moment_290 (by decide) ?_
      refine v_lload dX7_moment_292 rfl ?_
      refine v_lconst1 dX7_moment_294 ?_
      refine v_ladd dX7_moment_295 ?_
      refine v_lstore dX7_moment_296 (by decide) ?_
      refine v_goto 251 dX7_moment_298 ?_
      (exfalso; omega)
  | succ N ih =>
    intro y hN hy E yv mv dv hJB
    have hEr := JB_rng hZ hJB
    refine v_lload dX7_moment_251 rfl ?_
    refine v_lload dX7_moment_253 rfl ?_
    refine v_lconst1 dX7_moment_255 ?_
    refine v_ladd dX7_moment_256 ?_
    refine v_lif_gt 301 dX7_moment_257 dX7_moment_258 (fun h_257 => ?_) (fun h_257 => ?_)
    · exact v_lof [(0, .ref z), (1, .int (iI i)), (2, .int (iI (zi : Int))), (3, .int (iI la)), (4, .long (lI lo)), (8, .long (lI (E))), (10, .long (lI (yr (lo / 86400)))), (12, .int (iI ((k : Int))))] (List.forall_mem_cons.mpr ⟨rfl, (List.forall_mem_cons.mpr ⟨rfl, (List.forall_mem_cons.mpr ⟨rfl, (List.forall_mem_cons.mpr ⟨rfl, (List.forall_mem_cons.mpr ⟨rfl, (List.forall_mem_cons.mpr ⟨rfl, (List.forall_mem_cons.mpr ⟨rfl, (List.forall_mem_cons.mpr ⟨rfl, (fun _ h => nomatch h)⟩)⟩)⟩)⟩)⟩)⟩)⟩)⟩) (hE E _ _ _ (JB_y hJB (by omega)))
    · refine v_aload_n dX7_moment_261 rfl ?_
      refine v_iload_n dX7_moment_262 rfl ?_
      refine v_bipush dX7_moment_263 ?_
      refine v_iload_n dX7_moment_265 rfl ?_
      refine v_imul dX7_moment_266 ?_
      refine v_iconst dX7_moment_267 ?_
      refine v_iload dX7_moment_268 rfl ?_
      refine v_imul dX7_moment_270 ?_
      refine v_iadd dX7_moment_271 ?_
      rw [show 10 * (zi : Int) + 5 * (k : Int) = ((10 * zi + 5 * k : Nat) : Int) by omega]
      refine v_lload dX7_moment_272 rfl ?_
      refine v_V3 (rm' := rX7_ruled) (RX7, TX7, 18) dX7_moment_274 km_X7_231 kn_X7_ruled kv_X7_ruled kz_X7 mk_X7_ruled rfl rfl (by first | exact h0 | exact z2 | exact z3 | exact z4 | exact z5 | exact z6 | exact z7 | exact aup_s) ⟨Nat.le_of_ble_eq_true rfl, Nat.le_of_ble_eq_true rfl⟩ ⟨Nat.le_of_ble_eq_true rfl, Nat.le_of_ble_eq_true rfl⟩ (Nat.le_of_ble_eq_true rfl) ?_
      refine s_X7_ruled hst aup_s hi4 hZ (MZ.up h0 hM) hk (by omega) (fun v8 e8 => ?_)
      have hrr9 : (-9999 ≤ y ∧ y ≤ 9999) → -377800000000 ≤ rM ru k y ∧ rM ru k y ≤ 253500000000 := fun g => rM_rng (hZ.2.2.2.2.2.2 k hk) g
      have hv8 : v8 = -9223372036854775808 ∨ (-378000000000 ≤ v8 ∧ v8 ≤ 254000000000) := (by omega)
      refine v_lstore dX7_moment_277 (by decide) ?_
      refine v_aload_n dX7_moment_279 rfl ?_
      refine v_iload_n dX7_moment_280 rfl ?_
      refine v_lload dX7_moment_281 rfl ?_
      refine v_lload dX7_moment_283 rfl ?_
      refine v_lload dX7_moment_285 rfl ?_
      refine v_V4 (rm' := rX7_opened) (RX7, TX7, 18) dX7_moment_287 km_X7_243 kn_X7_opened kv_X7_opened kz_X7 mk_X7_opened rfl rfl (by first | exact h0 | exact z2 | exact z3 | exact z4 | exact z5 | exact z6 | exact z7 | exact aup_s) ⟨Nat.le_of_ble_eq_true rfl, Nat.le_of_ble_eq_true rfl⟩ ⟨Nat.le_of_ble_eq_true rfl, Nat.le_of_ble_eq_true rfl⟩ (Nat.le_of_ble_eq_true rfl) ?_
      refine s_X7_opened hst aup_s hi4 hZ (MZ.up h0 hM) hlo (by omega) (by omega) (fun yr' mo' da' v9 e9 => ?_)
      rw [aup_up]
      have hJ2 := JB_s (E' := v9) hZ hJB hk (by omega) e8 e9
      refine v_lstore dX7_moment_290 (by decide) ?_
      refine v_lload dX7_moment_292 rfl ?_
      refine v_lconst1 dX7_moment_294 ?_
      refine v_ladd dX7_moment_295 ?_
      refine v_lstore dX7_moment_296 (by decide) ?_
      refine v_goto 251 dX7_moment_298 ?_
      exact v_lof [(0, .ref z), (1, .int (iI i)), (2, .int (iI (zi : Int))), (3, .int (iI la)), (4, .long (lI lo)), (8, .long (lI (v9))), (10, .long (lI (yr (lo / 86400)))), (12, .int (iI ((k : Int)))), (13, .long (lI (y + 1)))] (List.forall_mem_cons.mpr ⟨rfl, (List.forall_mem_cons.mpr ⟨rfl, (List.forall_mem_cons.mpr ⟨rfl, (List.forall_mem_cons.mpr ⟨rfl, (List.forall_mem_cons.mpr ⟨rfl, (List.forall_mem_cons.mpr ⟨rfl, (List.forall_mem_cons.mpr ⟨rfl, (List.forall_mem_cons.mpr ⟨rfl, (List.forall_mem_cons.mpr ⟨rfl, (fun _ h => nomatch h)⟩)⟩)⟩)⟩)⟩)⟩)⟩)⟩)⟩) (ih (y + 1) (by omega) (by omega) _ _ _ _ hJ2)
theorem ME_rng {f c r : Int} {gm go : Nat → Int} {ru : Nat → Nat → Int} {lo E : Int} (hZ : ZOK f c r gm go ru) (hlo : -377705116800 ≤ lo ∧ lo ≤ 253402300799) (hN : ∀ t : Int, t + oA f c r gm go ru t ≠ lo) (h : ME f c r gm go ru lo (yr (lo / 86400)) E) : -377900000000 ≤ E ∧ E ≤ 253500000000 := by
  rcases h with ⟨b1, b2, b3⟩ | ⟨b1 | ⟨b0, b1⟩, b2, b3⟩
  · exfalso
    have hr := oA_rng (t := lo + 64801) hZ
    obtain ⟨T, t1, t2⟩ := gapA hZ hlo hN (64801 + 64801) (lo + 64801) (by omega) (by omega) (by omega)
    rcases t2 with t2 | ⟨t2, t3⟩
    · exact b2 T t2
    · exact b3 T t2 t3
  · have := gq1_rng hZ b1; omega
  · have := gq2_rng hZ b1; omega
set_option maxRecDepth 100000 in
set_option maxHeartbeats 1000000 in
theorem mm_234 {l : Launch} {G : GG} {w : AH} {Q : Option Value → AH → Prop} {X : String → AH → Prop} (hst : l.stackTraces = false) {z : Nat} {A : Nat → Nat} {th yq mq dq ty ap wr sz : Int} (h0 : w z = some (mdC A th yq mq dq ty ap wr sz)) {f c r : Int} {gm go : Nat → Int} {ru : Nat → Nat → Int} {zi : Nat} (hi4 : zi < 4) (hZ : ZOK f c r gm go ru) (hM : MZ G w A zi f c r gm go ru) {i lo la : Int} (hlo : -377705116800 ≤ lo ∧ lo ≤ 253402300799) (hla : la = 0 ∨ la = 1) (hNS : ∀ t : Int, t + oA f c r gm go ru t ≠ lo) (hQ : ∀ yr' mo' da' E : Int, ME f c r gm go ru lo (yr (lo / 86400)) E → Q (some (.long (lI (lo - oA f c r gm go ru (E - 1))))) (aup w z (mdC A 0 yr' mo' da' ty ap wr sz))) : ∀ (N k : Nat), r - k ≤ N → (k : Int) ≤ r → ∀ E yv mv dv : Int, JB f c r gm go ru lo (yr (lo / 86400)) (k) (yr (lo / 86400) - 1) (E) → V l G mX7_moment rX7_moment Q X 234 (lof [(0, .ref z), (1, .int (iI i)), (2, .int (iI (zi : Int))), (3, .int (iI la)), (4, .long (lI lo)), (8, .long (lI (E))), (10, .long (lI (yr (lo / 86400)))), (12, .int (iI ((k : Int))))]) [] (aup w z (mdC A 0 yv mv dv ty ap wr sz)) 0 0 := by
  have hyt := yr_t (t := lo) (by omega)
  have hcr := hZ.1
  have hrr := hZ.2.1
  intro N
  induction N with
  | zero =>
    intro k hN hk E yv mv dv hJB
    have hEr := JB_rng hZ hJB
    obtain ⟨gF, gC, gM, gO, gK, gR, z2, z3, z4, z5, z6, z7, l2, l3, l6, l4, l5, l7⟩ := MZ.up (e := (mdC A 0 yv mv dv ty ap wr sz)) h0 hM
    refine v_iload dX7_moment_234 rfl ?_
    refine v_aload_n dX7_moment_236 rfl ?_
    refine v_get dX7_moment_237 f_X7_29 (by first | exact h0 | exact z2 | exact z3 | exact z4 | exact z5 | exact z6 | exact z7 | exact aup_s) rfl ?_
    refine v_iload_n dX7_moment_240 rfl ?_
    refine v_iald dX7_moment_241 (by first | exact h0 | exact z2 | exact z3 | exact z4 | exact z5 | exact z6 | exact z7 | exact aup_s) ?_
    rw [show gK ((zi : Int).toNat) = r from l6]
    refine v_icmp_ge 307 dX7_moment_242 (fun h_242 => ?_) (fun h_242 => ?_)
    · have hME := JB_e hJB (by omega)
      have hMr := ME_rng hZ hlo hNS hME
      refine v_lload dX7_moment_307 rfl ?_
      refine v_aload_n dX7_moment_309 rfl ?_
      refine v_iload_n dX7_moment_310 rfl ?_
      refine v_lload dX7_moment_311 rfl ?_
      refine v_lconst1 dX7_moment_313 ?_
      refine v_lsub dX7_moment_314 ?_
      refine v_V2 (rm' := rX7_offsetAt) (RX7, TX7, 18) dX7_moment_315 km_X7_235 kn_X7_offsetAt kv_X7_offsetAt kz_X7 mk_X7_offsetAt rfl rfl (by first | exact h0 | exact z2 | exact z3 | exact z4 | exact z5 | exact z6 | exact z7 | exact aup_s) ⟨Nat.le_of_ble_eq_true rfl, Nat.le_of_ble_eq_true rfl⟩ ⟨Nat.le_of_ble_eq_true rfl, Nat.le_of_ble_eq_true rfl⟩ (Nat.le_of_ble_eq_true rfl) ?_
      refine s_X7_offsetAt hst aup_s hi4 hZ (MZ.up h0 hM) (by omega) (fun yr' mo' da' => ?_)
      rw [aup_up]
      have hOr := oA_rng (t := E - 1) hZ
      refine v_i2l dX7_moment_318 ?_
      refine v_lsub dX7_moment_319 ?_
      exact v_lret dX7_moment_320 rfl (by exact hQ _ _ _ E hME)
    · refine v_lload dX7_moment_245 rfl ?_
      refine v_lconst1 dX7_moment_247 ?_
      refine v_lsub dX7_moment_248 ?_
      refine v_lstore dX7_moment_249 (by decide) ?_
      have hE : ∀ E yv mv dv : Int, JB f c r gm go ru lo (yr (lo / 86400)) (k + 1) (yr (lo / 86400) - 1) (E) → V l G mX7_moment rX7_moment Q X 301 (lof [(0, .ref z), (1, .int (iI i)), (2, .int (iI (zi : Int))), (3, .int (iI la)), (4, .long (lI lo)), (8, .long (lI (E))), (10, .long (lI (yr (lo / 86400)))), (12, .int (iI ((k : Int))))]) [] (aup w z (mdC A 0 yv mv dv ty ap wr sz)) 0 0 := by
        intro E9 yv9 mv9 dv9 hJ9
        refine v_iinc dX7_moment_301 rfl ?_
        rw [show (k : Int) + 1 = ((k + 1 : Nat) : Int) by omega]
        refine v_goto 234 dX7_moment_304 ?_
        (exfalso; omega)
      exact v_lof [(0, .ref z), (1, .int (iI i)), (2, .int (iI (zi : Int))), (3, .int (iI la)), (4, .long (lI lo)), (8, .long (lI (E))), (10, .long (lI (yr (lo / 86400)))), (12, .int (iI ((k : Int)))), (13, .long (lI (yr (lo / 86400) - 1)))] (List.forall_mem_cons.mpr ⟨rfl, (List.forall_mem_cons.mpr ⟨rfl, (List.forall_mem_cons.mpr ⟨rfl, (List.forall_mem_cons.mpr ⟨rfl, (List.forall_mem_cons.mpr ⟨rfl, (List.forall_mem_cons.mpr ⟨rfl, (List.forall_mem_cons.mpr ⟨rfl, (List.forall_mem_cons.mpr ⟨rfl, (List.forall_mem_cons.mpr ⟨rfl, (fun _ h => nomatch h)⟩)⟩)⟩)⟩)⟩)⟩)⟩)⟩)⟩) (mm_251 hst h0 hi4 hZ hM hlo hla (show (k : Int) < r by omega) hE 3 _ (by omega) (by omega) E _ _ _ hJB)
  | succ N ih =>
    intro k hN hk E yv mv dv hJB
    have hEr := JB_rng hZ hJB
    obtain ⟨gF, gC, gM, gO, gK, gR, z2, z3, z4, z5, z6, z7, l2, l3, l6, l4, l5, l7⟩ := MZ.up (e := (mdC A 0 yv mv dv ty ap wr sz)) h0 hM
    refine v_iload dX7_moment_234 rfl ?_
    refine v_aload_n dX7_moment_236 rfl ?_
    refine v_get dX7_moment_237 f_X7_29 (by first | exact h0 | exact z2 | exact z3 | exact z4 | exact z5 | exact z6 | exact z7 | exact aup_s) rfl ?_
    refine v_iload_n dX7_moment_240 rfl ?_
    refine v_iald dX7_moment_241 (by first | exact h0 | exact z2 | exact z3 | exact z4 | exact z5 | exact z6 | exact z7 | exact aup_s) ?_
    rw [show gK ((zi : Int).toNat) = r from l6]
    refine v_icmp_ge 307 dX7_moment_242 (fun h_242 => ?_) (fun h_242 => ?_)
    · have hME := JB_e hJB (by omega)
      have hMr := ME_rng hZ hlo hNS hME
      refine v_lload dX7_moment_307 rfl ?_
      refine v_aload_n dX7_moment_309 rfl ?_
      refine v_iload_n dX7_moment_310 rfl ?_
      refine v_lload dX7_moment_311 rfl ?_
      refine v_lconst1 dX7_moment_313 ?_
      refine v_lsub dX7_moment_314 ?_
      refine v_V2 (rm' := rX7_offsetAt) (RX7, TX7, 18) dX7_moment_315 km_X7_235 kn_X7_offsetAt kv_X7_offsetAt kz_X7 mk_X7_offsetAt rfl rfl (by first | exact h0 | exact z2 | exact z3 | exact z4 | exact z5 | exact z6 | exact z7 | exact aup_s) ⟨Nat.le_of_ble_eq_true rfl, Nat.le_of_ble_eq_true rfl⟩ ⟨Nat.le_of_ble_eq_true rfl, Nat.le_of_ble_eq_true rfl⟩ (Nat.le_of_ble_eq_true rfl) ?_
      refine s_X7_offsetAt hst aup_s hi4 hZ (MZ.up h0 hM) (by omega) (fun yr' mo' da' => ?_)
      rw [aup_up]
      have hOr := oA_rng (t := E - 1) hZ
      refine v_i2l dX7_moment_318 ?_
      refine v_lsub dX7_moment_319 ?_
      exact v_lret dX7_moment_320 rfl (by exact hQ _ _ _ E hME)
    · refine v_lload dX7_moment_245 rfl ?_
      refine v_lconst1 dX7_moment_247 ?_
      refine v_lsub dX7_moment_248 ?_
      refine v_lstore dX7_moment_249 (by decide) ?_
      have hE : ∀ E yv mv dv : Int, JB f c r gm go ru lo (yr (lo / 86400)) (k + 1) (yr (lo / 86400) - 1) (E) → V l G mX7_moment rX7_moment Q X 301 (lof [(0, .ref z), (1, .int (iI i)), (2, .int (iI (zi : Int))), (3, .int (iI la)), (4, .long (lI lo)), (8, .long (lI (E))), (10, .long (lI (yr (lo / 86400)))), (12, .int (iI ((k : Int))))]) [] (aup w z (mdC A 0 yv mv dv ty ap wr sz)) 0 0 := by
        intro E9 yv9 mv9 dv9 hJ9
        refine v_iinc dX7_moment_301 rfl ?_
        rw [show (k : Int) + 1 = ((k + 1 : Nat) : Int) by omega]
        refine v_goto 234 dX7_moment_304 ?_
        exact v_lof [(0, .ref z), (1, .int (iI i)), (2, .int (iI (zi : Int))), (3, .int (iI la)), (4, .long (lI lo)), (8, .long (lI (E9))), (10, .long (lI (yr (lo / 86400)))), (12, .int (iI (((k + 1 : Nat) : Int))))] (List.forall_mem_cons.mpr ⟨rfl, (List.forall_mem_cons.mpr ⟨rfl, (List.forall_mem_cons.mpr ⟨rfl, (List.forall_mem_cons.mpr ⟨rfl, (List.forall_mem_cons.mpr ⟨rfl, (List.forall_mem_cons.mpr ⟨rfl, (List.forall_mem_cons.mpr ⟨rfl, (List.forall_mem_cons.mpr ⟨rfl, (fun _ h => nomatch h)⟩)⟩)⟩)⟩)⟩)⟩)⟩)⟩) (ih (k + 1) (by omega) (by omega) _ _ _ _ hJ9)
      exact v_lof [(0, .ref z), (1, .int (iI i)), (2, .int (iI (zi : Int))), (3, .int (iI la)), (4, .long (lI lo)), (8, .long (lI (E))), (10, .long (lI (yr (lo / 86400)))), (12, .int (iI ((k : Int)))), (13, .long (lI (yr (lo / 86400) - 1)))] (List.forall_mem_cons.mpr ⟨rfl, (List.forall_mem_cons.mpr ⟨rfl, (List.forall_mem_cons.mpr ⟨rfl, (List.forall_mem_cons.mpr ⟨rfl, (List.forall_mem_cons.mpr ⟨rfl, (List.forall_mem_cons.mpr ⟨rfl, (List.forall_mem_cons.mpr ⟨rfl, (List.forall_mem_cons.mpr ⟨rfl, (List.forall_mem_cons.mpr ⟨rfl, (fun _ h => nomatch h)⟩)⟩)⟩)⟩)⟩)⟩)⟩)⟩)⟩) (mm_251 hst h0 hi4 hZ hM hlo hla (show (k : Int) < r by omega) hE 3 _ (by omega) (by omega) E _ _ _ hJB)
set_option maxRecDepth 100000 in
set_option maxHeartbeats 1000000 in
theorem mm_223 {l : Launch} {G : GG} {w : AH} {Q : Option Value → AH → Prop} {X : String → AH → Prop} (hst : l.stackTraces = false) {z : Nat} {A : Nat → Nat} {th yq mq dq ty ap wr sz : Int} (h0 : w z = some (mdC A th yq mq dq ty ap wr sz)) {f c r : Int} {gm go : Nat → Int} {ru : Nat → Nat → Int} {zi : Nat} (hi4 : zi < 4) (hZ : ZOK f c r gm go ru) (hM : MZ G w A zi f c r gm go ru) {i lo la : Int} (hlo : -377705116800 ≤ lo ∧ lo ≤ 253402300799) (hla : la = 0 ∨ la = 1) (hNS : ∀ t : Int, t + oA f c r gm go ru t ≠ lo) (hQ : ∀ yr' mo' da' E : Int, ME f c r gm go ru lo (yr (lo / 86400)) E → Q (some (.long (lI (lo - oA f c r gm go ru (E - 1))))) (aup w z (mdC A 0 yr' mo' da' ty ap wr sz))) : ∀ E yv mv dv : Int, JA c gm go lo c.toNat E → V l G mX7_moment rX7_moment Q X 223 (lof [(0, .ref z), (1, .int (iI i)), (2, .int (iI (zi : Int))), (3, .int (iI la)), (4, .long (lI lo)), (8, .long (lI (E)))]) [] (aup w z (mdC A 0 yv mv dv ty ap wr sz)) 0 0 := by
  have hcr := hZ.1
  have hrr := hZ.2.1
  intro E yv mv dv hJA
  refine v_aload_n dX7_moment_223 rfl ?_
  refine v_lload dX7_moment_224 rfl ?_
  refine v_V1 (rm' := rX7_yearOf) (RX7, TX7, 18) dX7_moment_226 km_X7_228 kn_X7_yearOf kv_X7_yearOf kz_X7 mk_X7_yearOf rfl rfl (by first | exact h0 | exact z2 | exact z3 | exact z4 | exact z5 | exact z6 | exact z7 | exact aup_s) ⟨Nat.le_of_ble_eq_true rfl, Nat.le_of_ble_eq_true rfl⟩ ⟨Nat.le_of_ble_eq_true rfl, Nat.le_of_ble_eq_true rfl⟩ (Nat.le_of_ble_eq_true rfl) ?_
  refine s_X7_yearOf hst aup_s (by omega) (fun yr' mo' da' => ?_)
  rw [aup_up]
  refine v_lstore dX7_moment_229 (by decide) ?_
  refine v_iconst dX7_moment_231 ?_
  refine v_istore dX7_moment_232 (by decide) ?_
  exact v_lof [(0, .ref z), (1, .int (iI i)), (2, .int (iI (zi : Int))), (3, .int (iI la)), (4, .long (lI lo)), (8, .long (lI (E))), (10, .long (lI (yr (lo / 86400)))), (12, .int (iI (((0 : Nat) : Int))))] (List.forall_mem_cons.mpr ⟨rfl, (List.forall_mem_cons.mpr ⟨rfl, (List.forall_mem_cons.mpr ⟨rfl, (List.forall_mem_cons.mpr ⟨rfl, (List.forall_mem_cons.mpr ⟨rfl, (List.forall_mem_cons.mpr ⟨rfl, (List.forall_mem_cons.mpr ⟨rfl, (List.forall_mem_cons.mpr ⟨rfl, (fun _ h => nomatch h)⟩)⟩)⟩)⟩)⟩)⟩)⟩)⟩) (mm_234 hst h0 hi4 hZ hM hlo hla hNS hQ 2 0 (by omega) (by omega) E _ _ _ (JB_0 hJA))
set_option maxRecDepth 100000 in
set_option maxHeartbeats 1000000 in
theorem mm_163 {l : Launch} {G : GG} {w : AH} {Q : Option Value → AH → Prop} {X : String → AH → Prop} (hst : l.stackTraces = false) {z : Nat} {A : Nat → Nat} {th yq mq dq ty ap wr sz : Int} (h0 : w z = some (mdC A th yq mq dq ty ap wr sz)) {f c r : Int} {gm go : Nat → Int} {ru : Nat → Nat → Int} {zi : Nat} (hi4 : zi < 4) (hZ : ZOK f c r gm go ru) (hM : MZ G w A zi f c r gm go ru) {i lo la : Int} (hlo : -377705116800 ≤ lo ∧ lo ≤ 253402300799) (hla : la = 0 ∨ la = 1) (hQa : ∀ yr' mo' da' : Int, mS f c r gm go ru lo la (1 + c + r).toNat ≠ -9223372036854775808 → Q (some (.long (lI (mS f c r gm go ru lo la (1 + c + r).toNat)))) (aup w z (mdC A 0 yr' mo' da' ty ap wr sz))) (hQb : ∀ yr' mo' da' E : Int, mS f c r gm go ru lo la (1 + c + r).toNat = -9223372036854775808 → ME f c r gm go ru lo (yr (lo / 86400)) E → Q (some (.long (lI (lo - oA f c r gm go ru (E - 1))))) (aup w z (mdC A 0 yr' mo' da' ty ap wr sz))) : ∀ a yv mv dv : Int, mS f c r gm go ru lo la (1 + c + r).toNat = a → V l G mX7_moment rX7_moment Q X 163 (lof [(0, .ref z), (1, .int (iI i)), (2, .int (iI (zi : Int))), (3, .int (iI la)), (4, .long (lI lo)), (6, .long (lI a))]) [] (aup w z (mdC A 0 yv mv dv ty ap wr sz)) 0 0 := by
  have hcr := hZ.1
  have hrr := hZ.2.1
  intro a yv mv dv ha
  have har := mS_rng (la := la) hZ hlo (1 + c + r).toNat (by omega)
  rw [ha] at har
  refine v_lload dX7_moment_163 rfl ?_
  refine v_ldc2 (-9223372036854775808) dX7_moment_165 kl_X7_206 ?_
  refine v_lif_eq 175 dX7_moment_168 dX7_moment_169 (fun h_168 => ?_) (fun h_168 => ?_)
  · refine v_ldc2 (-9223372036854775808) dX7_moment_175 kl_X7_206 ?_
    refine v_lstore dX7_moment_178 (by decide) ?_
    refine v_iconst dX7_moment_180 ?_
    refine v_istore dX7_moment_181 (by decide) ?_
    exact v_lof [(0, .ref z), (1, .int (iI i)), (2, .int (iI (zi : Int))), (3, .int (iI la)), (4, .long (lI lo)), (8, .long (lI (-9223372036854775808))), (10, .int (iI (((0 : Nat) : Int))))] (List.forall_mem_cons.mpr ⟨rfl, (List.forall_mem_cons.mpr ⟨rfl, (List.forall_mem_cons.mpr ⟨rfl, (List.forall_mem_cons.mpr ⟨rfl, (List.forall_mem_cons.mpr ⟨rfl, (List.forall_mem_cons.mpr ⟨rfl, (List.forall_mem_cons.mpr ⟨rfl, (fun _ h => nomatch h)⟩)⟩)⟩)⟩)⟩)⟩)⟩) (mm_183 hst h0 hi4 hZ hM hlo hla (mm_223 hst h0 hi4 hZ hM hlo hla (noneShows hZ hlo (ha.trans h_168)) (fun y9 m9 d9 E9 h9 => hQb y9 m9 d9 E9 (ha.trans h_168) h9)) 8 0 (by omega) (by omega) _ _ _ _ (Or.inl ⟨rfl, fun j h => absurd h (Nat.not_lt_zero j)⟩))
  · refine v_lload dX7_moment_172 rfl ?_
    exact v_lret dX7_moment_174 rfl (by exact ql (hQa _ _ _ (by omega)) ha.symm)
set_option maxRecDepth 100000 in
set_option maxHeartbeats 4000000 in
theorem s_X7_moment {l : Launch} {G : GG} {w : AH} {Q : Option Value → AH → Prop} {X : String → AH → Prop} (hst : l.stackTraces = false) {z : Nat} {A : Nat → Nat} {th yq mq dq ty ap wr sz : Int} (h0 : w z = some (mdC A th yq mq dq ty ap wr sz)) {gd gn : Nat → Int} (h1 : w (A 0) = some (alA G 8 gd)) (h2 : w (A 1) = some (alA G 8 gn)) (hA01 : A 0 ≠ A 1) (hgd : ∀ k, k < 8 → -4371587 ≤ gd k ∧ gd k ≤ 2932896) (hgn : ∀ k, k < 8 → 0 ≤ gn k ∧ gn k ≤ 86399999999999) {i j la lo : Int} (hi : -2147483648 ≤ i ∧ i ≤ 2147483647) (hj : -2147483648 ≤ j ∧ j ≤ 2147483647) (hla : la = 0 ∨ la = 1) (hlo9 : (0 ≤ i ∧ i ≤ 7) → 86400 * gd i.toNat + gn i.toNat / 1000000000 = lo) {f c r : Int} {gm go : Nat → Int} {ru : Nat → Nat → Int} (hMH : (0 ≤ j ∧ j ≤ 3) → MZ G w A j.toNat f c r gm go ru ∧ ZOK f c r gm go ru) (hQI : ∀ v : Int, (i < 0 ∨ 7 < i) → Q (some (.long (lI v))) (aup w z (mdC A 1 yq mq dq ty ap wr sz))) (hQ2 : ∀ v : Int, (0 ≤ i ∧ i ≤ 7) →  ¬ (0 ≤ j ∧ j ≤ 3) → Q (some (.long (lI v))) (aup w z (mdC A 2 yq mq dq ty ap wr sz))) (hQa : ∀ yr' mo' da' : Int,  (0 ≤ i ∧ i ≤ 7) →  (0 ≤ j ∧ j ≤ 3) → mS f c r gm go ru lo la (1 + c + r).toNat ≠ -9223372036854775808 → Q (some (.long (lI (mS f c r gm go ru lo la (1 + c + r).toNat)))) (aup w z (mdC A 0 yr' mo' da' ty ap wr sz))) (hQb : ∀ yr' mo' da' E : Int, (0 ≤ i ∧ i ≤ 7) →  (0 ≤ j ∧ j ≤ 3) → mS f c r gm go ru lo la (1 + c + r).toNat = -9223372036854775808 → ME f c r gm go ru lo (yr (lo / 86400)) E → Q (some (.long (lI (lo - oA f c r gm go ru (E - 1))))) (aup w z (mdC A 0 yr' mo' da' ty ap wr sz))) : Ct l G mX7_moment rX7_moment [(.ref z), .int (iI i), .int (iI j), .int (iI la)] w Q X := by
  have nz0 : A 0 ≠ z := fun e => ne_of h0 h1 mdal e.symm
  have nz1 : A 1 ≠ z := fun e => ne_of h0 h2 mdal e.symm
  refine ct_of hst mk_X7_moment (Nat.le_of_ble_eq_true rfl) ?_
  refine v_aload_n dX7_moment_0 rfl ?_
  refine v_iload_n dX7_moment_1 rfl ?_
  refine v_V1 (rm' := rX7_isSlot) (RX7, TX7, 18) dX7_moment_2 km_X7_120 kn_X7_isSlot kv_X7_isSlot kz_X7 mk_X7_isSlot rfl rfl (by first | exact h0 | exact aup_s | exact (aup_n nz0).trans h1 | exact (aup_n nz1).trans h2 | exact (aup_n nz0.symm).trans aup_s | exact (aup_n nz0).trans ((aup_n nz0).trans h1) | exact (aup_n nz1).trans ((aup_n nz1).trans h2)) ⟨Nat.le_of_ble_eq_true rfl, Nat.le_of_ble_eq_true rfl⟩ ⟨Nat.le_of_ble_eq_true rfl, Nat.le_of_ble_eq_true rfl⟩ (Nat.le_of_ble_eq_true rfl) ?_
  refine s_X7_isSlot hst h0 hi (fun h7 => ?_) (fun h7 => ?_)
  · have hn := hgn i.toNat (by omega)
    have hg1 := hgd i.toNat (by omega)
    have hl9 := hlo9 h7
    refine v_if_ne 10 dX7_moment_5 (fun h_5 => ?_) (fun h_5 => ?_)
    rotate_left
    · (exfalso; omega)
    refine v_aload_n dX7_moment_10 rfl ?_
    refine v_iload_n dX7_moment_11 rfl ?_
    refine v_i2l dX7_moment_12 ?_
    refine v_lconst0 dX7_moment_13 ?_
    refine v_ldc2 (3) dX7_moment_14 kl_X7_90 ?_
    refine v_S3 (rm' := rX7_in) dX7_moment_17 km_X7_102 ks_X7_in kz_X7 mk_X7_in rfl ⟨Nat.le_of_ble_eq_true rfl, Nat.le_of_ble_eq_true rfl⟩ ⟨Nat.le_of_ble_eq_true rfl, Nat.le_of_ble_eq_true rfl⟩ (Nat.le_of_ble_eq_true rfl) ?_
    refine s_X7_in hst (fun ri ei => ?_)
    refine v_if_eq 27 dX7_moment_20 (fun h_20 => ?_) (fun h_20 => ?_)
    · refine v_iconst dX7_moment_27 ?_
      refine v_put dX7_moment_28 f_X7_41 (by first | exact h0 | exact aup_s | exact (aup_n nz0).trans h1 | exact (aup_n nz1).trans h2 | exact (aup_n nz0.symm).trans aup_s | exact (aup_n nz0).trans ((aup_n nz0).trans h1) | exact (aup_n nz1).trans ((aup_n nz1).trans h2)) rfl rfl (Nat.le_of_ble_eq_true rfl) ?_
      try rw [aup_up]
      refine v_aload_n dX7_moment_31 rfl ?_
      refine v_get dX7_moment_32 f_X7_41 (by first | exact h0 | exact aup_s | exact (aup_n nz0).trans h1 | exact (aup_n nz1).trans h2 | exact (aup_n nz0.symm).trans aup_s | exact (aup_n nz0).trans ((aup_n nz0).trans h1) | exact (aup_n nz1).trans ((aup_n nz1).trans h2)) rfl ?_
      refine v_if_le 40 dX7_moment_35 (fun h_35 => ?_) (fun h_35 => ?_)
      · first
        | (exfalso; omega)
        | (obtain ⟨hM, hZ⟩ := hMH (by omega)
           obtain ⟨zi, ezi⟩ := Int.eq_ofNat_of_zero_le (show 0 ≤ j by omega)
           rw [ezi] at hM
           simp only [Int.toNat_natCast] at hM
           have hlo : -377705116800 ≤ lo ∧ lo ≤ 253402300799 := (by omega)
           rw [ezi]
           refine v_ldc2 (86400) dX7_moment_40 kl_X7_171 ?_
           refine v_aload_n dX7_moment_43 rfl ?_
           refine v_get dX7_moment_44 f_X7_7 (by first | exact h0 | exact aup_s | exact (aup_n nz0).trans h1 | exact (aup_n nz1).trans h2 | exact (aup_n nz0.symm).trans aup_s | exact (aup_n nz0).trans ((aup_n nz0).trans h1) | exact (aup_n nz1).trans ((aup_n nz1).trans h2)) rfl ?_
           refine v_iload_n dX7_moment_47 rfl ?_
           refine v_lald dX7_moment_48 (by first | exact h0 | exact aup_s | exact (aup_n nz0).trans h1 | exact (aup_n nz1).trans h2 | exact (aup_n nz0.symm).trans aup_s | exact (aup_n nz0).trans ((aup_n nz0).trans h1) | exact (aup_n nz1).trans ((aup_n nz1).trans h2)) ?_
           refine v_lmul dX7_moment_49 ?_
           refine v_aload_n dX7_moment_50 rfl ?_
           refine v_get dX7_moment_51 f_X7_13 (by first | exact h0 | exact aup_s | exact (aup_n nz0).trans h1 | exact (aup_n nz1).trans h2 | exact (aup_n nz0.symm).trans aup_s | exact (aup_n nz0).trans ((aup_n nz0).trans h1) | exact (aup_n nz1).trans ((aup_n nz1).trans h2)) rfl ?_
           refine v_iload_n dX7_moment_54 rfl ?_
           refine v_lald dX7_moment_55 (by first | exact h0 | exact aup_s | exact (aup_n nz0).trans h1 | exact (aup_n nz1).trans h2 | exact (aup_n nz0.symm).trans aup_s | exact (aup_n nz0).trans ((aup_n nz0).trans h1) | exact (aup_n nz1).trans ((aup_n nz1).trans h2)) ?_
           refine v_ldc2 (1000000000) dX7_moment_56 kl_X7_134 ?_
           refine v_ldivP dX7_moment_59 ?_
           refine v_ladd dX7_moment_60 ?_
           rw [hl9]
           refine v_lstore dX7_moment_61 (by decide) ?_
           refine v_ldc2 (-9223372036854775808) dX7_moment_63 kl_X7_206 ?_
           refine v_lstore dX7_moment_66 (by decide) ?_
           refine v_iconst dX7_moment_68 ?_
           refine v_istore dX7_moment_69 (by decide) ?_
           exact v_lof [(0, .ref z), (1, .int (iI i)), (2, .int (iI (zi : Int))), (3, .int (iI la)), (4, .long (lI lo)), (6, .long (lI (-9223372036854775808))), (8, .int (iI (((0 : Nat) : Int))))] (List.forall_mem_cons.mpr ⟨rfl, (List.forall_mem_cons.mpr ⟨rfl, (List.forall_mem_cons.mpr ⟨rfl, (List.forall_mem_cons.mpr ⟨rfl, (List.forall_mem_cons.mpr ⟨rfl, (List.forall_mem_cons.mpr ⟨rfl, (List.forall_mem_cons.mpr ⟨rfl, (fun _ h => nomatch h)⟩)⟩)⟩)⟩)⟩)⟩)⟩) (mm_71 hst h0 (by omega) hZ hM hlo hla (mm_163 hst h0 (by omega) hZ hM hlo hla (fun y9 m9 d9 h9 => hQa y9 m9 d9 h7 (by omega) h9) (fun y9 m9 d9 E9 h9 h8 => hQb y9 m9 d9 E9 h7 (by omega) h9 h8)) 11 0 (by have := hZ.1; have := hZ.2.1; omega) (by have := hZ.1; have := hZ.2.1; omega) _ _ _ _ rfl))
      · refine v_lconst0 dX7_moment_38 ?_
        exact v_lret dX7_moment_39 rfl (by first | (exfalso; omega) | exact hQI _ (by omega) | exact hQ2 _ h7 (by omega))
    · refine v_iconst dX7_moment_23 ?_
      refine v_goto 28 dX7_moment_24 ?_
      refine v_put dX7_moment_28 f_X7_41 (by first | exact h0 | exact aup_s | exact (aup_n nz0).trans h1 | exact (aup_n nz1).trans h2 | exact (aup_n nz0.symm).trans aup_s | exact (aup_n nz0).trans ((aup_n nz0).trans h1) | exact (aup_n nz1).trans ((aup_n nz1).trans h2)) rfl rfl (Nat.le_of_ble_eq_true rfl) ?_
      try rw [aup_up]
      refine v_aload_n dX7_moment_31 rfl ?_
      refine v_get dX7_moment_32 f_X7_41 (by first | exact h0 | exact aup_s | exact (aup_n nz0).trans h1 | exact (aup_n nz1).trans h2 | exact (aup_n nz0.symm).trans aup_s | exact (aup_n nz0).trans ((aup_n nz0).trans h1) | exact (aup_n nz1).trans ((aup_n nz1).trans h2)) rfl ?_
      refine v_if_le 40 dX7_moment_35 (fun h_35 => ?_) (fun h_35 => ?_)
      · first
        | (exfalso; omega)
        | (obtain ⟨hM, hZ⟩ := hMH (by omega)
           obtain ⟨zi, ezi⟩ := Int.eq_ofNat_of_zero_le (show 0 ≤ j by omega)
           rw [ezi] at hM
           simp only [Int.toNat_natCast] at hM
           have hlo : -377705116800 ≤ lo ∧ lo ≤ 253402300799 := (by omega)
           rw [ezi]
           refine v_ldc2 (86400) dX7_moment_40 kl_X7_171 ?_
           refine v_aload_n dX7_moment_43 rfl ?_
           refine v_get dX7_moment_44 f_X7_7 (by first | exact h0 | exact aup_s | exact (aup_n nz0).trans h1 | exact (aup_n nz1).trans h2 | exact (aup_n nz0.symm).trans aup_s | exact (aup_n nz0).trans ((aup_n nz0).trans h1) | exact (aup_n nz1).trans ((aup_n nz1).trans h2)) rfl ?_
           refine v_iload_n dX7_moment_47 rfl ?_
           refine v_lald dX7_moment_48 (by first | exact h0 | exact aup_s | exact (aup_n nz0).trans h1 | exact (aup_n nz1).trans h2 | exact (aup_n nz0.symm).trans aup_s | exact (aup_n nz0).trans ((aup_n nz0).trans h1) | exact (aup_n nz1).trans ((aup_n nz1).trans h2)) ?_
           refine v_lmul dX7_moment_49 ?_
           refine v_aload_n dX7_moment_50 rfl ?_
           refine v_get dX7_moment_51 f_X7_13 (by first | exact h0 | exact aup_s | exact (aup_n nz0).trans h1 | exact (aup_n nz1).trans h2 | exact (aup_n nz0.symm).trans aup_s | exact (aup_n nz0).trans ((aup_n nz0).trans h1) | exact (aup_n nz1).trans ((aup_n nz1).trans h2)) rfl ?_
           refine v_iload_n dX7_moment_54 rfl ?_
           refine v_lald dX7_moment_55 (by first | exact h0 | exact aup_s | exact (aup_n nz0).trans h1 | exact (aup_n nz1).trans h2 | exact (aup_n nz0.symm).trans aup_s | exact (aup_n nz0).trans ((aup_n nz0).trans h1) | exact (aup_n nz1).trans ((aup_n nz1).trans h2)) ?_
           refine v_ldc2 (1000000000) dX7_moment_56 kl_X7_134 ?_
           refine v_ldivP dX7_moment_59 ?_
           refine v_ladd dX7_moment_60 ?_
           rw [hl9]
           refine v_lstore dX7_moment_61 (by decide) ?_
           refine v_ldc2 (-9223372036854775808) dX7_moment_63 kl_X7_206 ?_
           refine v_lstore dX7_moment_66 (by decide) ?_
           refine v_iconst dX7_moment_68 ?_
           refine v_istore dX7_moment_69 (by decide) ?_
           exact v_lof [(0, .ref z), (1, .int (iI i)), (2, .int (iI (zi : Int))), (3, .int (iI la)), (4, .long (lI lo)), (6, .long (lI (-9223372036854775808))), (8, .int (iI (((0 : Nat) : Int))))] (List.forall_mem_cons.mpr ⟨rfl, (List.forall_mem_cons.mpr ⟨rfl, (List.forall_mem_cons.mpr ⟨rfl, (List.forall_mem_cons.mpr ⟨rfl, (List.forall_mem_cons.mpr ⟨rfl, (List.forall_mem_cons.mpr ⟨rfl, (List.forall_mem_cons.mpr ⟨rfl, (fun _ h => nomatch h)⟩)⟩)⟩)⟩)⟩)⟩)⟩) (mm_71 hst h0 (by omega) hZ hM hlo hla (mm_163 hst h0 (by omega) hZ hM hlo hla (fun y9 m9 d9 h9 => hQa y9 m9 d9 h7 (by omega) h9) (fun y9 m9 d9 E9 h9 h8 => hQb y9 m9 d9 E9 h7 (by omega) h9 h8)) 11 0 (by have := hZ.1; have := hZ.2.1; omega) (by have := hZ.1; have := hZ.2.1; omega) _ _ _ _ rfl))
      · refine v_lconst0 dX7_moment_38 ?_
        exact v_lret dX7_moment_39 rfl (by first | (exfalso; omega) | exact hQI _ (by omega) | exact hQ2 _ h7 (by omega))
  · refine v_if_ne 10 dX7_moment_5 (fun h_5 => ?_) (fun h_5 => ?_)
    · (exfalso; omega)
    refine v_lconst0 dX7_moment_8 ?_
    exact v_lret dX7_moment_9 rfl (by first | (exfalso; omega) | exact hQI _ (by omega) | exact hQ2 _ h7 (by omega))
