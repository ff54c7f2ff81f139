set_option maxRecDepth 100000 in
set_option maxHeartbeats 1000000 in
theorem mo_chg {l : Launch} {G : GG} {w : AH} {Q : Option Value → AH → Prop} {X : String → AH → Prop} (hst : l.stackTraces = false) {z : Nat} {A : Nat → Nat} {th yq mq dq ty ap wr sz : Int} (h0 : w z = some (mdC A th yq mq dq ty ap wr sz)) {f c r : Int} {gm go : Nat → Int} {ru : Nat → Nat → Int} {zi : Nat} (hi4 : zi < 4) (hZ : ZOK f c r gm go ru) (hM : MZ G w A zi f c r gm go ru) {t : Int} (ht : -378000000000 ≤ t ∧ t ≤ 254000000000) (hE : ∀ v : Int, obc f gm go t c.toNat = v → V l G mX7_offsetAt rX7_offsetAt Q X 64 (lof [(0, .ref z), (1, .int (iI (zi : Int))), (2, .long (lI t)), (4, .int (iI (v)))]) [] (w) 0 0) : ∀ (N k : Nat), c - k ≤ N → (k : Int) ≤ c → ∀ v : Int, obc f gm go t k = v → V l G mX7_offsetAt rX7_offsetAt Q X 11 (lof [(0, .ref z), (1, .int (iI (zi : Int))), (2, .long (lI t)), (4, .int (iI (v))), (5, .int (iI ((k : Int))))]) [] (w) 0 0 := by
  obtain ⟨hc, hr, hgm, hmono, hf, hgo, hru⟩ := hZ
  obtain ⟨gF, gC, gM, gO, gK, gR, z2, z3, z4, z5, z6, z7, l2, l3, l6, l4, l5, l7⟩ := hM
  intro N
  induction N with
  | zero =>
    intro k hN hk v hv
    have hg9 := hgm k
    refine v_iload dX7_offsetAt_11 rfl ?_
    refine v_aload_n dX7_offsetAt_13 rfl ?_
    refine v_get dX7_offsetAt_14 f_X7_20 (by first | exact h0 | exact z2 | exact z3 | exact z4 | exact z5 | exact z6 | exact z7 | exact aup_s) rfl ?_
    refine v_iload_n dX7_offsetAt_17 rfl ?_
    refine v_iald dX7_offsetAt_18 (by first | exact h0 | exact z2 | exact z3 | exact z4 | exact z5 | exact z6 | exact z7 | exact aup_s) ?_
    rw [show gC ((zi : Int).toNat) = c from l3]
    refine v_icmp_ge 64 dX7_offsetAt_19 (fun h_19 => ?_) (fun h_19 => ?_)
    · exact v_lof [(0, .ref z), (1, .int (iI (zi : Int))), (2, .long (lI t)), (4, .int (iI (v)))] (List.forall_mem_cons.mpr ⟨rfl, (List.forall_mem_cons.mpr ⟨rfl, (List.forall_mem_cons.mpr ⟨rfl, (List.forall_mem_cons.mpr ⟨rfl, (fun _ h => nomatch h)⟩)⟩)⟩)⟩) (hE v (by rw [show c.toNat = k by omega]; exact hv))
    · refine v_aload_n dX7_offsetAt_22 rfl ?_
      refine v_get dX7_offsetAt_23 f_X7_23 (by first | exact h0 | exact z2 | exact z3 | exact z4 | exact z5 | exact z6 | exact z7 | exact aup_s) rfl ?_
      refine v_bipush dX7_offsetAt_26 ?_
      refine v_iload_n dX7_offsetAt_28 rfl ?_
      refine v_imul dX7_offsetAt_29 ?_
      refine v_iload dX7_offsetAt_30 rfl ?_
      refine v_iadd dX7_offsetAt_32 ?_
      refine v_lald dX7_offsetAt_33 (by first | exact h0 | exact z2 | exact z3 | exact z4 | exact z5 | exact z6 | exact z7 | exact aup_s) ?_
      rw [show gM ((8 * (zi : Int) + (k : Int)).toNat) = gm k by rw [show (8 * (zi : Int) + (k : Int)).toNat = 8 * zi + k by omega]; exact l4 k (by omega)]
      refine v_lload_n dX7_offsetAt_34 rfl ?_
      refine v_lif_gt 54 dX7_offsetAt_35 dX7_offsetAt_36 (fun h_35 => ?_) (fun h_35 => ?_)
      · refine v_iload dX7_offsetAt_54 rfl ?_
        refine v_istore dX7_offsetAt_56 (by decide) ?_
        refine v_iinc dX7_offsetAt_58 rfl ?_
        rw [show (k : Int) + 1 = ((k + 1 : Nat) : Int) by omega]
        refine v_goto 11 dX7_offsetAt_61 ?_
        (exfalso; omega)
      · refine v_aload_n dX7_offsetAt_39 rfl ?_
        refine v_get dX7_offsetAt_40 f_X7_26 (by first | exact h0 | exact z2 | exact z3 | exact z4 | exact z5 | exact z6 | exact z7 | exact aup_s) rfl ?_
        refine v_bipush dX7_offsetAt_43 ?_
        refine v_iload_n dX7_offsetAt_45 rfl ?_
        refine v_imul dX7_offsetAt_46 ?_
        refine v_iload dX7_offsetAt_47 rfl ?_
        refine v_iadd dX7_offsetAt_49 ?_
        refine v_iald dX7_offsetAt_50 (by first | exact h0 | exact z2 | exact z3 | exact z4 | exact z5 | exact z6 | exact z7 | exact aup_s) ?_
        rw [show gO ((8 * (zi : Int) + (k : Int)).toNat) = go k by rw [show (8 * (zi : Int) + (k : Int)).toNat = 8 * zi + k by omega]; exact l5 k (by omega)]
        refine v_goto 56 dX7_offsetAt_51 ?_
        refine v_istore dX7_offsetAt_56 (by decide) ?_
        refine v_iinc dX7_offsetAt_58 rfl ?_
        rw [show (k : Int) + 1 = ((k + 1 : Nat) : Int) by omega]
        refine v_goto 11 dX7_offsetAt_61 ?_
        (exfalso; omega)
  | succ N ih =>
    intro k hN hk v hv
    have hg9 := hgm k
    refine v_iload dX7_offsetAt_11 rfl ?_
    refine v_aload_n dX7_offsetAt_13 rfl ?_
    refine v_get dX7_offsetAt_14 f_X7_20 (by first | exact h0 | exact z2 | exact z3 | exact z4 | exact z5 | exact z6 | exact z7 | exact aup_s) rfl ?_
    refine v_iload_n dX7_offsetAt_17 rfl ?_
    refine v_iald dX7_offsetAt_18 (by first | exact h0 | exact z2 | exact z3 | exact z4 | exact z5 | exact z6 | exact z7 | exact aup_s) ?_
    rw [show gC ((zi : Int).toNat) = c from l3]
    refine v_icmp_ge 64 dX7_offsetAt_19 (fun h_19 => ?_) (fun h_19 => ?_)
    · exact v_lof [(0, .ref z), (1, .int (iI (zi : Int))), (2, .long (lI t)), (4, .int (iI (v)))] (List.forall_mem_cons.mpr ⟨rfl, (List.forall_mem_cons.mpr ⟨rfl, (List.forall_mem_cons.mpr ⟨rfl, (List.forall_mem_cons.mpr ⟨rfl, (fun _ h => nomatch h)⟩)⟩)⟩)⟩) (hE v (by rw [show c.toNat = k by omega]; exact hv))
    · refine v_aload_n dX7_offsetAt_22 rfl ?_
      refine v_get dX7_offsetAt_23 f_X7_23 (by first | exact h0 | exact z2 | exact z3 | exact z4 | exact z5 | exact z6 | exact z7 | exact aup_s) rfl ?_
      refine v_bipush dX7_offsetAt_26 ?_
      refine v_iload_n dX7_offsetAt_28 rfl ?_
      refine v_imul dX7_offsetAt_29 ?_
      refine v_iload dX7_offsetAt_30 rfl ?_
      refine v_iadd dX7_offsetAt_32 ?_
      refine v_lald dX7_offsetAt_33 (by first | exact h0 | exact z2 | exact z3 | exact z4 | exact z5 | exact z6 | exact z7 | exact aup_s) ?_
      rw [show gM ((8 * (zi : Int) + (k : Int)).toNat) = gm k by rw [show (8 * (zi : Int) + (k : Int)).toNat = 8 * zi + k by omega]; exact l4 k (by omega)]
      refine v_lload_n dX7_offsetAt_34 rfl ?_
      refine v_lif_gt 54 dX7_offsetAt_35 dX7_offsetAt_36 (fun h_35 => ?_) (fun h_35 => ?_)
      · refine v_iload dX7_offsetAt_54 rfl ?_
        refine v_istore dX7_offsetAt_56 (by decide) ?_
        refine v_iinc dX7_offsetAt_58 rfl ?_
        rw [show (k : Int) + 1 = ((k + 1 : Nat) : Int) by omega]
        refine v_goto 11 dX7_offsetAt_61 ?_
        first | (have g9 : gm k ≤ t := (by omega); exact v_lof [(0, .ref z), (1, .int (iI (zi : Int))), (2, .long (lI t)), (4, .int (iI (go k))), (5, .int (iI (((k + 1 : Nat) : Int))))] (List.forall_mem_cons.mpr ⟨rfl, (List.forall_mem_cons.mpr ⟨rfl, (List.forall_mem_cons.mpr ⟨rfl, (List.forall_mem_cons.mpr ⟨rfl, (List.forall_mem_cons.mpr ⟨rfl, (fun _ h => nomatch h)⟩)⟩)⟩)⟩)⟩) (ih (k + 1) (by omega) (by omega) _ (show (if gm k ≤ t then go k else obc f gm go t k) = go k from if_pos g9))) | (have g9 : ¬ gm k ≤ t := (by omega); exact v_lof [(0, .ref z), (1, .int (iI (zi : Int))), (2, .long (lI t)), (4, .int (iI (v))), (5, .int (iI (((k + 1 : Nat) : Int))))] (List.forall_mem_cons.mpr ⟨rfl, (List.forall_mem_cons.mpr ⟨rfl, (List.forall_mem_cons.mpr ⟨rfl, (List.forall_mem_cons.mpr ⟨rfl, (List.forall_mem_cons.mpr ⟨rfl, (fun _ h => nomatch h)⟩)⟩)⟩)⟩)⟩) (ih (k + 1) (by omega) (by omega) _ ((show (if gm k ≤ t then go k else obc f gm go t k) = obc f gm go t k from if_neg g9).trans hv)))
      · refine v_aload_n dX7_offsetAt_39 rfl ?_
        refine v_get dX7_offsetAt_40 f_X7_26 (by first | exact h0 | exact z2 | exact z3 | exact z4 | exact z5 | exact z6 | exact z7 | exact aup_s) rfl ?_
        refine v_bipush dX7_offsetAt_43 ?_
        refine v_iload_n dX7_offsetAt_45 rfl ?_
        refine v_imul dX7_offsetAt_46 ?_
        refine v_iload dX7_offsetAt_47 rfl ?_
        refine v_iadd dX7_offsetAt_49 ?_
        refine v_iald dX7_offsetAt_50 (by first | exact h0 | exact z2 | exact z3 | exact z4 | exact z5 | exact z6 | exact z7 | exact aup_s) ?_
        rw [show gO ((8 * (zi : Int) + (k : Int)).toNat) = go k by rw [show (8 * (zi : Int) + (k : Int)).toNat = 8 * zi + k by omega]; exact l5 k (by omega)]
        refine v_goto 56 dX7_offsetAt_51 ?_
        refine v_istore dX7_offsetAt_56 (by decide) ?_
        refine v_iinc dX7_offsetAt_58 rfl ?_
        rw [show (k : Int) + 1 = ((k + 1 : Nat) : Int) by omega]
        refine v_goto 11 dX7_offsetAt_61 ?_
        first | (have g9 : gm k ≤ t := (by omega); exact v_lof [(0, .ref z), (1, .int (iI (zi : Int))), (2, .long (lI t)), (4, .int (iI (go k))), (5, .int (iI (((k + 1 : Nat) : Int))))] (List.forall_mem_cons.mpr ⟨rfl, (List.forall_mem_cons.mpr ⟨rfl, (List.forall_mem_cons.mpr ⟨rfl, (List.forall_mem_cons.mpr ⟨rfl, (List.forall_mem_cons.mpr ⟨rfl, (fun _ h => nomatch h)⟩)⟩)⟩)⟩)⟩) (ih (k + 1) (by omega) (by omega) _ (show (if gm k ≤ t then go k else obc f gm go t k) = go k from if_pos g9))) | (have g9 : ¬ gm k ≤ t := (by omega); exact v_lof [(0, .ref z), (1, .int (iI (zi : Int))), (2, .long (lI t)), (4, .int (iI (v))), (5, .int (iI (((k + 1 : Nat) : Int))))] (List.forall_mem_cons.mpr ⟨rfl, (List.forall_mem_cons.mpr ⟨rfl, (List.forall_mem_cons.mpr ⟨rfl, (List.forall_mem_cons.mpr ⟨rfl, (List.forall_mem_cons.mpr ⟨rfl, (fun _ h => nomatch h)⟩)⟩)⟩)⟩)⟩) (ih (k + 1) (by omega) (by omega) _ ((show (if gm k ≤ t then go k else obc f gm go t k) = obc f gm go t k from if_neg g9).trans hv)))
theorem iY_st4 {L t : Int} {ru : Nat → Nat → Int} {k : Nat} {y0 y : Int} {s : Int × Int} (h : y ≤ y0 + 1) : iY L t ru k (y0 + 2 - y).toNat y s = iY L t ru k (y0 + 2 - (y + 1)).toNat (y + 1) (sY L t ru k y s) := by
  rw [show (y0 + 2 - y).toNat = (y0 + 2 - (y + 1)).toNat + 1 by omega]
  rfl
set_option maxRecDepth 100000 in
set_option maxHeartbeats 1000000 in
theorem mo_in {l : Launch} {G : GG} {w : AH} {Q : Option Value → AH → Prop} {X : String → AH → Prop} (hst : l.stackTraces = false) {z : Nat} {A : Nat → Nat} {th yq mq dq ty ap wr sz : Int} (h0 : w z = some (mdC A th yq mq dq ty ap wr sz)) {f c r : Int} {gm go : Nat → Int} {ru : Nat → Nat → Int} {zi : Nat} (hi4 : zi < 4) (hZ : ZOK f c r gm go ru) (hM : MZ G w A zi f c r gm go ru) {t : Int} (ht : -378000000000 ≤ t ∧ t ≤ 254000000000) {y0 : Int} (hy0 : -10011 ≤ y0 ∧ y0 ≤ 10020) {k : Nat} (hk : (k : Int) < r) {S1 S2 : Int} (hE : V l G mX7_offsetAt rX7_offsetAt Q X 181 (lof [(0, .ref z), (1, .int (iI (zi : Int))), (2, .long (lI t)), (4, .int (iI (S2))), (5, .long (lI (S1))), (7, .long (lI y0)), (9, .int (iI ((k : Int))))]) [] (w) 0 0) : ∀ (N : Nat) (y a b : Int), (y0 + 2 - y ≤ N) → (y0 - 2 ≤ y ∧ y ≤ y0 + 2) → (-9223372036854775808 ≤ a ∧ a ≤ 9223372036854775807) → iY (lastC gm c) t ru k (y0 + 2 - y).toNat y (a, b) = (S1, S2) → V l G mX7_offsetAt rX7_offsetAt Q X 98 (lof [(0, .ref z), (1, .int (iI (zi : Int))), (2, .long (lI t)), (4, .int (iI (b))), (5, .long (lI (a))), (7, .long (lI y0)), (9, .int (iI ((k : Int)))), (10, .long (lI (y)))]) [] (w) 0 0 := by
  have hLr := lastC_rng (c := c) hZ.2.2.1
  have hRV := hZ.2.2.2.2.2.2 k hk
  obtain ⟨hc, hr, hgm, hmono, hf, hgo, hru⟩ := hZ
  obtain ⟨gF, gC, gM, gO, gK, gR, z2, z3, z4, z5, z6, z7, l2, l3, l6, l4, l5, l7⟩ := hM
  intro N
  induction N with
  | zero =>
    intro y a b hN hy har hS
    refine v_lload dX7_offsetAt_98 rfl ?_
    refine v_lload dX7_offsetAt_100 rfl ?_
    refine v_lconst1 dX7_offsetAt_102 ?_
    refine v_ladd dX7_offsetAt_103 ?_
    refine v_lif_gt 181 dX7_offsetAt_104 dX7_offsetAt_105 (fun h_104 => ?_) (fun h_104 => ?_)
    · have hx : (a, b) = (S1, S2) := (by rw [← hS, show (y0 + 2 - y).toNat = 0 by omega]; rfl)
      injection hx with hx1 hx2
      subst hx1 hx2
      exact v_lof [(0, .ref z), (1, .int (iI (zi : Int))), (2, .long (lI t)), (4, .int (iI (b))), (5, .long (lI (a))), (7, .long (lI y0)), (9, .int (iI ((k : Int))))] (List.forall_mem_cons.mpr ⟨rfl, (List.forall_mem_cons.mpr ⟨rfl, (List.forall_mem_cons.mpr ⟨rfl, (List.forall_mem_cons.mpr ⟨rfl, (List.forall_mem_cons.mpr ⟨rfl, (List.forall_mem_cons.mpr ⟨rfl, (List.forall_mem_cons.mpr ⟨rfl, (fun _ h => nomatch h)⟩)⟩)⟩)⟩)⟩)⟩)⟩) (hE)
    · refine v_aload_n dX7_offsetAt_108 rfl ?_
      refine v_iload_n dX7_offsetAt_109 rfl ?_
      refine v_bipush dX7_offsetAt_110 ?_
      refine v_iload_n dX7_offsetAt_112 rfl ?_
      refine v_imul dX7_offsetAt_113 ?_
      refine v_iconst dX7_offsetAt_114 ?_
      refine v_iload dX7_offsetAt_115 rfl ?_
      refine v_imul dX7_offsetAt_117 ?_
      refine v_iadd dX7_offsetAt_118 ?_
      rw [show 10 * (zi : Int) + 5 * (k : Int) = ((10 * zi + 5 * k : Nat) : Int) by omega]
      refine v_lload dX7_offsetAt_119 rfl ?_
      refine v_V3 (rm' := rX7_ruled) (RX7, TX7, 18) dX7_offsetAt_121 km_X7_231 kn_X7_ruled kv_X7_ruled kz_X7 mk_X7_ruled rfl rfl (by first | exact h0 | exact z2 | exact z3 | exact z4 | exact z5 | exact z6 | exact z7 | exact aup_s) ⟨Nat.le_of_ble_eq_true rfl, Nat.le_of_ble_eq_true rfl⟩ ⟨Nat.le_of_ble_eq_true rfl, Nat.le_of_ble_eq_true rfl⟩ (Nat.le_of_ble_eq_true rfl) ?_
      refine s_X7_ruled hst h0 hi4 ⟨hc, hr, hgm, hmono, hf, hgo, hru⟩ ⟨gF, gC, gM, gO, gK, gR, z2, z3, z4, z5, z6, z7, l2, l3, l6, l4, l5, l7⟩ hk (by omega) (fun v9 e9 => ?_)
      have hrr : (-9999 ≤ y ∧ y ≤ 9999) → -377800000000 ≤ rM ru k y ∧ rM ru k y ≤ 253500000000 := fun g => rM_rng (hru k hk) g
      refine v_lstore dX7_offsetAt_124 (by decide) ?_
      refine v_lload dX7_offsetAt_126 rfl ?_
      refine v_ldc2 (-9223372036854775808) dX7_offsetAt_128 kl_X7_206 ?_
      refine v_lif_eq 172 dX7_offsetAt_131 dX7_offsetAt_132 (fun h_131 => ?_) (fun h_131 => ?_)
      · refine v_lload dX7_offsetAt_172 rfl ?_
        refine v_lconst1 dX7_offsetAt_174 ?_
        refine v_ladd dX7_offsetAt_175 ?_
        refine v_lstore dX7_offsetAt_176 (by decide) ?_
        refine v_goto 98 dX7_offsetAt_178 ?_
        (exfalso; omega)
      · refine v_lload dX7_offsetAt_135 rfl ?_
        refine v_lload_n dX7_offsetAt_137 rfl ?_
        refine v_lif_gt 172 dX7_offsetAt_138 dX7_offsetAt_139 (fun h_138 => ?_) (fun h_138 => ?_)
        · refine v_lload dX7_offsetAt_172 rfl ?_
          refine v_lconst1 dX7_offsetAt_174 ?_
          refine v_ladd dX7_offsetAt_175 ?_
          refine v_lstore dX7_offsetAt_176 (by decide) ?_
          refine v_goto 98 dX7_offsetAt_178 ?_
          (exfalso; omega)
        · refine v_lload dX7_offsetAt_142 rfl ?_
          refine v_lload dX7_offsetAt_144 rfl ?_
          refine v_lif_lt 172 dX7_offsetAt_146 dX7_offsetAt_147 (fun h_146 => ?_) (fun h_146 => ?_)
          · refine v_lload dX7_offsetAt_172 rfl ?_
            refine v_lconst1 dX7_offsetAt_174 ?_
            refine v_ladd dX7_offsetAt_175 ?_
            refine v_lstore dX7_offsetAt_176 (by decide) ?_
            refine v_goto 98 dX7_offsetAt_178 ?_
            (exfalso; omega)
          · refine v_lload dX7_offsetAt_150 rfl ?_
            refine v_lstore dX7_offsetAt_152 (by decide) ?_
            refine v_aload_n dX7_offsetAt_154 rfl ?_
            refine v_get dX7_offsetAt_155 f_X7_32 (by first | exact h0 | exact z2 | exact z3 | exact z4 | exact z5 | exact z6 | exact z7 | exact aup_s) rfl ?_
            refine v_bipush dX7_offsetAt_158 ?_
            refine v_iload_n dX7_offsetAt_160 rfl ?_
            refine v_imul dX7_offsetAt_161 ?_
            refine v_iconst dX7_offsetAt_162 ?_
            refine v_iload dX7_offsetAt_163 rfl ?_
            refine v_imul dX7_offsetAt_165 ?_
            refine v_iadd dX7_offsetAt_166 ?_
            refine v_iconst dX7_offsetAt_167 ?_
            refine v_iadd dX7_offsetAt_168 ?_
            refine v_iald dX7_offsetAt_169 (by first | exact h0 | exact z2 | exact z3 | exact z4 | exact z5 | exact z6 | exact z7 | exact aup_s) ?_
            rw [show gR ((10 * (zi : Int) + 5 * (k : Int) + 4).toNat) = ru k 4 by rw [show (10 * (zi : Int) + 5 * (k : Int) + 4).toNat = 10 * zi + 5 * k + 4 by omega]; exact l7 k 4 hk (by omega)]
            refine v_istore dX7_offsetAt_170 (by decide) ?_
            refine v_lload dX7_offsetAt_172 rfl ?_
            refine v_lconst1 dX7_offsetAt_174 ?_
            refine v_ladd dX7_offsetAt_175 ?_
            refine v_lstore dX7_offsetAt_176 (by decide) ?_
            refine v_goto 98 dX7_offsetAt_178 ?_
            (exfalso; omega)
  | succ N ih =>
    intro y a b hN hy har hS
    refine v_lload dX7_offsetAt_98 rfl ?_
    refine v_lload dX7_offsetAt_100 rfl ?_
    refine v_lconst1 dX7_offsetAt_102 ?_
    refine v_ladd dX7_offsetAt_103 ?_
    refine v_lif_gt 181 dX7_offsetAt_104 dX7_offsetAt_105 (fun h_104 => ?_) (fun h_104 => ?_)
    · have hx : (a, b) = (S1, S2) := (by rw [← hS, show (y0 + 2 - y).toNat = 0 by omega]; rfl)
      injection hx with hx1 hx2
      subst hx1 hx2
      exact v_lof [(0, .ref z), (1, .int (iI (zi : Int))), (2, .long (lI t)), (4, .int (iI (b))), (5, .long (lI (a))), (7, .long (lI y0)), (9, .int (iI ((k : Int))))] (List.forall_mem_cons.mpr ⟨rfl, (List.forall_mem_cons.mpr ⟨rfl, (List.forall_mem_cons.mpr ⟨rfl, (List.forall_mem_cons.mpr ⟨rfl, (List.forall_mem_cons.mpr ⟨rfl, (List.forall_mem_cons.mpr ⟨rfl, (List.forall_mem_cons.mpr ⟨rfl, (fun _ h => nomatch h)⟩)⟩)⟩)⟩)⟩)⟩)⟩) (hE)
    · refine v_aload_n dX7_offsetAt_108 rfl ?_
      refine v_iload_n dX7_offsetAt_109 rfl ?_
      refine v_bipush dX7_offsetAt_110 ?_
      refine v_iload_n dX7_offsetAt_112 rfl ?_
      refine v_imul dX7_offsetAt_113 ?_
      refine v_iconst dX7_offsetAt_114 ?_
      refine v_iload dX7_offsetAt_115 rfl ?_
      refine v_imul dX7_offsetAt_117 ?_
      refine v_iadd dX7_offsetAt_118 ?_
      rw [show 10 * (zi : Int) + 5 * (k : Int) = ((10 * zi + 5 * k : Nat) : Int) by omega]
      refine v_lload dX7_offsetAt_119 rfl ?_
      refine v_V3 (rm' := rX7_ruled) (RX7, TX7, 18) dX7_offsetAt_121 km_X7_231 kn_X7_ruled kv_X7_ruled kz_X7 mk_X7_ruled rfl rfl (by first | exact h0 | exact z2 | exact z3 | exact z4 | exact z5 | exact z6 | exact z7 | exact aup_s) ⟨Nat.le_of_ble_eq_true rfl, Nat.le_of_ble_eq_true rfl⟩ ⟨Nat.le_of_ble_eq_true rfl, Nat.le_of_ble_eq_true rfl⟩ (Nat.le_of_ble_eq_true rfl) ?_
      refine s_X7_ruled hst h0 hi4 ⟨hc, hr, hgm, hmono, hf, hgo, hru⟩ ⟨gF, gC, gM, gO, gK, gR, z2, z3, z4, z5, z6, z7, l2, l3, l6, l4, l5, l7⟩ hk (by omega) (fun v9 e9 => ?_)
      have hrr : (-9999 ≤ y ∧ y ≤ 9999) → -377800000000 ≤ rM ru k y ∧ rM ru k y ≤ 253500000000 := fun g => rM_rng (hru k hk) g
      refine v_lstore dX7_offsetAt_124 (by decide) ?_
      refine v_lload dX7_offsetAt_126 rfl ?_
      refine v_ldc2 (-9223372036854775808) dX7_offsetAt_128 kl_X7_206 ?_
      refine v_lif_eq 172 dX7_offsetAt_131 dX7_offsetAt_132 (fun h_131 => ?_) (fun h_131 => ?_)
      · refine v_lload dX7_offsetAt_172 rfl ?_
        refine v_lconst1 dX7_offsetAt_174 ?_
        refine v_ladd dX7_offsetAt_175 ?_
        refine v_lstore dX7_offsetAt_176 (by decide) ?_
        refine v_goto 98 dX7_offsetAt_178 ?_
        first | (have g9 : ((-9999 ≤ y ∧ y ≤ 9999) ∧ lastC gm c < rM ru k y ∧ rM ru k y ≤ t ∧ a ≤ rM ru k y) := (by omega); have g8 : v9 = rM ru k y := (by omega); subst g8; exact v_lof [(0, .ref z), (1, .int (iI (zi : Int))), (2, .long (lI t)), (4, .int (iI (ru k 4))), (5, .long (lI (rM ru k y))), (7, .long (lI y0)), (9, .int (iI ((k : Int)))), (10, .long (lI (y + 1)))] (List.forall_mem_cons.mpr ⟨rfl, (List.forall_mem_cons.mpr ⟨rfl, (List.forall_mem_cons.mpr ⟨rfl, (List.forall_mem_cons.mpr ⟨rfl, (List.forall_mem_cons.mpr ⟨rfl, (List.forall_mem_cons.mpr ⟨rfl, (List.forall_mem_cons.mpr ⟨rfl, (List.forall_mem_cons.mpr ⟨rfl, (fun _ h => nomatch h)⟩)⟩)⟩)⟩)⟩)⟩)⟩)⟩) (ih (y + 1) _ _ (by omega) (by omega) (by omega) (by have e9 := (iY_st4 (L := lastC gm c) (t := t) (ru := ru) (k := k) (s := (a, b)) (show y ≤ y0 + 1 by omega)).symm.trans hS; rw [sY_p g9] at e9; exact e9))) | (have g9 : ¬ ((-9999 ≤ y ∧ y ≤ 9999) ∧ lastC gm c < rM ru k y ∧ rM ru k y ≤ t ∧ a ≤ rM ru k y) := (by omega); exact v_lof [(0, .ref z), (1, .int (iI (zi : Int))), (2, .long (lI t)), (4, .int (iI (b))), (5, .long (lI (a))), (7, .long (lI y0)), (9, .int (iI ((k : Int)))), (10, .long (lI (y + 1)))] (List.forall_mem_cons.mpr ⟨rfl, (List.forall_mem_cons.mpr ⟨rfl, (List.forall_mem_cons.mpr ⟨rfl, (List.forall_mem_cons.mpr ⟨rfl, (List.forall_mem_cons.mpr ⟨rfl, (List.forall_mem_cons.mpr ⟨rfl, (List.forall_mem_cons.mpr ⟨rfl, (List.forall_mem_cons.mpr ⟨rfl, (fun _ h => nomatch h)⟩)⟩)⟩)⟩)⟩)⟩)⟩)⟩) (ih (y + 1) _ _ (by omega) (by omega) har (by have e9 := (iY_st4 (L := lastC gm c) (t := t) (ru := ru) (k := k) (s := (a, b)) (show y ≤ y0 + 1 by omega)).symm.trans hS; rw [sY_n g9] at e9; exact e9)))
      · refine v_lload dX7_offsetAt_135 rfl ?_
        refine v_lload_n dX7_offsetAt_137 rfl ?_
        refine v_lif_gt 172 dX7_offsetAt_138 dX7_offsetAt_139 (fun h_138 => ?_) (fun h_138 => ?_)
        · refine v_lload dX7_offsetAt_172 rfl ?_
          refine v_lconst1 dX7_offsetAt_174 ?_
          refine v_ladd dX7_offsetAt_175 ?_
          refine v_lstore dX7_offsetAt_176 (by decide) ?_
          refine v_goto 98 dX7_offsetAt_178 ?_
          first | (have g9 : ((-9999 ≤ y ∧ y ≤ 9999) ∧ lastC gm c < rM ru k y ∧ rM ru k y ≤ t ∧ a ≤ rM ru k y) := (by omega); have g8 : v9 = rM ru k y := (by omega); subst g8; exact v_lof [(0, .ref z), (1, .int (iI (zi : Int))), (2, .long (lI t)), (4, .int (iI (ru k 4))), (5, .long (lI (rM ru k y))), (7, .long (lI y0)), (9, .int (iI ((k : Int)))), (10, .long (lI (y + 1)))] (List.forall_mem_cons.mpr ⟨rfl, (List.forall_mem_cons.mpr ⟨rfl, (List.forall_mem_cons.mpr ⟨rfl, (List.forall_mem_cons.mpr ⟨rfl, (List.forall_mem_cons.mpr ⟨rfl, (List.forall_mem_cons.mpr ⟨rfl, (List.forall_mem_cons.mpr ⟨rfl, (List.forall_mem_cons.mpr ⟨rfl, (fun _ h => nomatch h)⟩)⟩)⟩)⟩)⟩)⟩)⟩)⟩) (ih (y + 1) _ _ (by omega) (by omega) (by omega) (by have e9 := (iY_st4 (L := lastC gm c) (t := t) (ru := ru) (k := k) (s := (a, b)) (show y ≤ y0 + 1 by omega)).symm.trans hS; rw [sY_p g9] at e9; exact e9))) | (have g9 : ¬ ((-9999 ≤ y ∧ y ≤ 9999) ∧ lastC gm c < rM ru k y ∧ rM ru k y ≤ t ∧ a ≤ rM ru k y) := (by omega); exact v_lof [(0, .ref z), (1, .int (iI (zi : Int))), (2, .long (lI t)), (4, .int (iI (b))), (5, .long (lI (a))), (7, .long (lI y0)), (9, .int (iI ((k : Int)))), (10, .long (lI (y + 1)))] (List.forall_mem_cons.mpr ⟨rfl, (List.forall_mem_cons.mpr ⟨rfl, (List.forall_mem_cons.mpr ⟨rfl, (List.forall_mem_cons.mpr ⟨rfl, (List.forall_mem_cons.mpr ⟨rfl, (List.forall_mem_cons.mpr ⟨rfl, (List.forall_mem_cons.mpr ⟨rfl, (List.forall_mem_cons.mpr ⟨rfl, (fun _ h => nomatch h)⟩)⟩)⟩)⟩)⟩)⟩)⟩)⟩) (ih (y + 1) _ _ (by omega) (by omega) har (by have e9 := (iY_st4 (L := lastC gm c) (t := t) (ru := ru) (k := k) (s := (a, b)) (show y ≤ y0 + 1 by omega)).symm.trans hS; rw [sY_n g9] at e9; exact e9)))
        · refine v_lload dX7_offsetAt_142 rfl ?_
          refine v_lload dX7_offsetAt_144 rfl ?_
          refine v_lif_lt 172 dX7_offsetAt_146 dX7_offsetAt_147 (fun h_146 => ?_) (fun h_146 => ?_)
          · refine v_lload dX7_offsetAt_172 rfl ?_
            refine v_lconst1 dX7_offsetAt_174 ?_
            refine v_ladd dX7_offsetAt_175 ?_
            refine v_lstore dX7_offsetAt_176 (by decide) ?_
            refine v_goto 98 dX7_offsetAt_178 ?_
            first | (have g9 : ((-9999 ≤ y ∧ y ≤ 9999) ∧ lastC gm c < rM ru k y ∧ rM ru k y ≤ t ∧ a ≤ rM ru k y) := (by omega); have g8 : v9 = rM ru k y := (by omega); subst g8; exact v_lof [(0, .ref z), (1, .int (iI (zi : Int))), (2, .long (lI t)), (4, .int (iI (ru k 4))), (5, .long (lI (rM ru k y))), (7, .long (lI y0)), (9, .int (iI ((k : Int)))), (10, .long (lI (y + 1)))] (List.forall_mem_cons.mpr ⟨rfl, (List.forall_mem_cons.mpr ⟨rfl, (List.forall_mem_cons.mpr ⟨rfl, (List.forall_mem_cons.mpr ⟨rfl, (List.forall_mem_cons.mpr ⟨rfl, (List.forall_mem_cons.mpr ⟨rfl, (List.forall_mem_cons.mpr ⟨rfl, (List.forall_mem_cons.mpr ⟨rfl, (fun _ h => nomatch h)⟩)⟩)⟩)⟩)⟩)⟩)⟩)⟩) (ih (y + 1) _ _ (by omega) (by omega) (by omega) (by have e9 := (iY_st4 (L := lastC gm c) (t := t) (ru := ru) (k := k) (s := (a, b)) (show y ≤ y0 + 1 by omega)).symm.trans hS; rw [sY_p g9] at e9; exact e9))) | (have g9 : ¬ ((-9999 ≤ y ∧ y ≤ 9999) ∧ lastC gm c < rM ru k y ∧ rM ru k y ≤ t ∧ a ≤ rM ru k y) := (by omega); exact v_lof [(0, .ref z), (1, .int (iI (zi : Int))), (2, .long (lI t)), (4, .int (iI (b))), (5, .long (lI (a))), (7, .long (lI y0)), (9, .int (iI ((k : Int)))), (10, .long (lI (y + 1)))] (List.forall_mem_cons.mpr ⟨rfl, (List.forall_mem_cons.mpr ⟨rfl, (List.forall_mem_cons.mpr ⟨rfl, (List.forall_mem_cons.mpr ⟨rfl, (List.forall_mem_cons.mpr ⟨rfl, (List.forall_mem_cons.mpr ⟨rfl, (List.forall_mem_cons.mpr ⟨rfl, (List.forall_mem_cons.mpr ⟨rfl, (fun _ h => nomatch h)⟩)⟩)⟩)⟩)⟩)⟩)⟩)⟩) (ih (y + 1) _ _ (by omega) (by omega) har (by have e9 := (iY_st4 (L := lastC gm c) (t := t) (ru := ru) (k := k) (s := (a, b)) (show y ≤ y0 + 1 by omega)).symm.trans hS; rw [sY_n g9] at e9; exact e9)))
          · refine v_lload dX7_offsetAt_150 rfl ?_
            refine v_lstore dX7_offsetAt_152 (by decide) ?_
            refine v_aload_n dX7_offsetAt_154 rfl ?_
            refine v_get dX7_offsetAt_155 f_X7_32 (by first | exact h0 | exact z2 | exact z3 | exact z4 | exact z5 | exact z6 | exact z7 | exact aup_s) rfl ?_
            refine v_bipush dX7_offsetAt_158 ?_
            refine v_iload_n dX7_offsetAt_160 rfl ?_
            refine v_imul dX7_offsetAt_161 ?_
            refine v_iconst dX7_offsetAt_162 ?_
            refine v_iload dX7_offsetAt_163 rfl ?_
            refine v_imul dX7_offsetAt_165 ?_
            refine v_iadd dX7_offsetAt_166 ?_
            refine v_iconst dX7_offsetAt_167 ?_
            refine v_iadd dX7_offsetAt_168 ?_
            refine v_iald dX7_offsetAt_169 (by first | exact h0 | exact z2 | exact z3 | exact z4 | exact z5 | exact z6 | exact z7 | exact aup_s) ?_
            rw [show gR ((10 * (zi : Int) + 5 * (k : Int) + 4).toNat) = ru k 4 by rw [show (10 * (zi : Int) + 5 * (k : Int) + 4).toNat = 10 * zi + 5 * k + 4 by omega]; exact l7 k 4 hk (by omega)]
            refine v_istore dX7_offsetAt_170 (by decide) ?_
            refine v_lload dX7_offsetAt_172 rfl ?_
            refine v_lconst1 dX7_offsetAt_174 ?_
            refine v_ladd dX7_offsetAt_175 ?_
            refine v_lstore dX7_offsetAt_176 (by decide) ?_
            refine v_goto 98 dX7_offsetAt_178 ?_
            first | (have g9 : ((-9999 ≤ y ∧ y ≤ 9999) ∧ lastC gm c < rM ru k y ∧ rM ru k y ≤ t ∧ a ≤ rM ru k y) := (by omega); have g8 : v9 = rM ru k y := (by omega); subst g8; exact v_lof [(0, .ref z), (1, .int (iI (zi : Int))), (2, .long (lI t)), (4, .int (iI (ru k 4))), (5, .long (lI (rM ru k y))), (7, .long (lI y0)), (9, .int (iI ((k : Int)))), (10, .long (lI (y + 1)))] (List.forall_mem_cons.mpr ⟨rfl, (List.forall_mem_cons.mpr ⟨rfl, (List.forall_mem_cons.mpr ⟨rfl, (List.forall_mem_cons.mpr ⟨rfl, (List.forall_mem_cons.mpr ⟨rfl, (List.forall_mem_cons.mpr ⟨rfl, (List.forall_mem_cons.mpr ⟨rfl, (List.forall_mem_cons.mpr ⟨rfl, (fun _ h => nomatch h)⟩)⟩)⟩)⟩)⟩)⟩)⟩)⟩) (ih (y + 1) _ _ (by omega) (by omega) (by omega) (by have e9 := (iY_st4 (L := lastC gm c) (t := t) (ru := ru) (k := k) (s := (a, b)) (show y ≤ y0 + 1 by omega)).symm.trans hS; rw [sY_p g9] at e9; exact e9))) | (have g9 : ¬ ((-9999 ≤ y ∧ y ≤ 9999) ∧ lastC gm c < rM ru k y ∧ rM ru k y ≤ t ∧ a ≤ rM ru k y) := (by omega); exact v_lof [(0, .ref z), (1, .int (iI (zi : Int))), (2, .long (lI t)), (4, .int (iI (b))), (5, .long (lI (a))), (7, .long (lI y0)), (9, .int (iI ((k : Int)))), (10, .long (lI (y + 1)))] (List.forall_mem_cons.mpr ⟨rfl, (List.forall_mem_cons.mpr ⟨rfl, (List.forall_mem_cons.mpr ⟨rfl, (List.forall_mem_cons.mpr ⟨rfl, (List.forall_mem_cons.mpr ⟨rfl, (List.forall_mem_cons.mpr ⟨rfl, (List.forall_mem_cons.mpr ⟨rfl, (List.forall_mem_cons.mpr ⟨rfl, (fun _ h => nomatch h)⟩)⟩)⟩)⟩)⟩)⟩)⟩)⟩) (ih (y + 1) _ _ (by omega) (by omega) har (by have e9 := (iY_st4 (L := lastC gm c) (t := t) (ru := ru) (k := k) (s := (a, b)) (show y ≤ y0 + 1 by omega)).symm.trans hS; rw [sY_n g9] at e9; exact e9)))
theorem rY_L2 {f c r : Int} {gm go : Nat → Int} {ru : Nat → Nat → Int} {L t y0 a b : Int} (h : ZOK f c r gm go ru) (ha : -9223372036854775808 ≤ a ∧ a ≤ 9223372036854775807) (k : Nat) (hk : (k : Int) ≤ r) : -9223372036854775808 ≤ (rY L t ru y0 k (a, b)).1 ∧ (rY L t ru y0 k (a, b)).1 ≤ 9223372036854775807 := by
  refine rY_P (fun s => -9223372036854775808 ≤ s.1 ∧ s.1 ≤ 9223372036854775807) ha k (fun j y s hj hy _ _ _ => ?_)
  have := rM_rng (h.2.2.2.2.2.2 j (by omega)) hy
  show -9223372036854775808 ≤ rM ru j y ∧ rM ru j y ≤ 9223372036854775807
  omega
set_option maxRecDepth 100000 in
set_option maxHeartbeats 1000000 in
theorem mo_out {l : Launch} {G : GG} {w : AH} {Q : Option Value → AH → Prop} {X : String → AH → Prop} (hst : l.stackTraces = false) {z : Nat} {A : Nat → Nat} {th yq mq dq ty ap wr sz : Int} (h0 : w z = some (mdC A th yq mq dq ty ap wr sz)) {f c r : Int} {gm go : Nat → Int} {ru : Nat → Nat → Int} {zi : Nat} (hi4 : zi < 4) (hZ : ZOK f c r gm go ru) (hM : MZ G w A zi f c r gm go ru) {t : Int} (ht : -378000000000 ≤ t ∧ t ≤ 254000000000) {y0 bs : Int} (hy : y0 = yr (t / 86400)) (hy0 : -10011 ≤ y0 ∧ y0 ≤ 10020) (hQ : Q (some (.int (iI (rY (lastC gm c) t ru y0 r.toNat (-9223372036854775808, bs)).2))) w) : ∀ (N k : Nat), r - k ≤ N → (k : Int) ≤ r → ∀ a b : Int, rY (lastC gm c) t ru y0 k (-9223372036854775808, bs) = (a, b) → (-9223372036854775808 ≤ a ∧ a ≤ 9223372036854775807) → V l G mX7_offsetAt rX7_offsetAt Q X 79 (lof [(0, .ref z), (1, .int (iI (zi : Int))), (2, .long (lI t)), (4, .int (iI (b))), (5, .long (lI (a))), (7, .long (lI y0)), (9, .int (iI ((k : Int))))]) [] (w) 0 0 := by
  have hLr := lastC_rng (c := c) hZ.2.2.1
  obtain ⟨hc, hr, hgm, hmono, hf, hgo, hru⟩ := hZ
  obtain ⟨gF, gC, gM, gO, gK, gR, z2, z3, z4, z5, z6, z7, l2, l3, l6, l4, l5, l7⟩ := hM
  intro N
  induction N with
  | zero =>
    intro k hN hk a b hab har
    refine v_iload dX7_offsetAt_79 rfl ?_
    refine v_aload_n dX7_offsetAt_81 rfl ?_
    refine v_get dX7_offsetAt_82 f_X7_29 (by first | exact h0 | exact z2 | exact z3 | exact z4 | exact z5 | exact z6 | exact z7 | exact aup_s) rfl ?_
    refine v_iload_n dX7_offsetAt_85 rfl ?_
    refine v_iald dX7_offsetAt_86 (by first | exact h0 | exact z2 | exact z3 | exact z4 | exact z5 | exact z6 | exact z7 | exact aup_s) ?_
    rw [show gK ((zi : Int).toNat) = r from l6]
    refine v_icmp_ge 187 dX7_offsetAt_87 (fun h_87 => ?_) (fun h_87 => ?_)
    · refine v_iload dX7_offsetAt_187 rfl ?_
      exact v_iret dX7_offsetAt_189 rfl (by exact qi hQ (by rw [show r.toNat = k by omega, hab]))
    · refine v_lload dX7_offsetAt_90 rfl ?_
      refine v_ldc2 (2) dX7_offsetAt_92 kl_X7_64 ?_
      refine v_lsub dX7_offsetAt_95 ?_
      refine v_lstore dX7_offsetAt_96 (by decide) ?_
      have hlo : ∃ S1 S2, rY (lastC gm c) t ru y0 (k + 1) (-9223372036854775808, bs) = (S1, S2) := ⟨_, _, rfl⟩
      obtain ⟨S1, S2, hS⟩ := hlo
      have hSr := rY_L2 (t := t) (y0 := y0) (b := bs) (a := -9223372036854775808) ⟨hc, hr, hgm, hmono, hf, hgo, hru⟩ (L := lastC gm c) (by omega) (k + 1) (by omega)
      rw [hS] at hSr
      have hSr2 : -9223372036854775808 ≤ S1 ∧ S1 ≤ 9223372036854775807 := hSr
      have hE : V l G mX7_offsetAt rX7_offsetAt Q X 181 (lof [(0, .ref z), (1, .int (iI (zi : Int))), (2, .long (lI t)), (4, .int (iI (S2))), (5, .long (lI (S1))), (7, .long (lI y0)), (9, .int (iI ((k : Int))))]) [] (w) 0 0 := by
        refine v_iinc dX7_offsetAt_181 rfl ?_
        rw [show (k : Int) + 1 = ((k + 1 : Nat) : Int) by omega]
        refine v_goto 79 dX7_offsetAt_184 ?_
        (exfalso; omega)
      exact v_lof [(0, .ref z), (1, .int (iI (zi : Int))), (2, .long (lI t)), (4, .int (iI (b))), (5, .long (lI (a))), (7, .long (lI y0)), (9, .int (iI ((k : Int)))), (10, .long (lI (y0 - 2)))] (List.forall_mem_cons.mpr ⟨rfl, (List.forall_mem_cons.mpr ⟨rfl, (List.forall_mem_cons.mpr ⟨rfl, (List.forall_mem_cons.mpr ⟨rfl, (List.forall_mem_cons.mpr ⟨rfl, (List.forall_mem_cons.mpr ⟨rfl, (List.forall_mem_cons.mpr ⟨rfl, (List.forall_mem_cons.mpr ⟨rfl, (fun _ h => nomatch h)⟩)⟩)⟩)⟩)⟩)⟩)⟩)⟩) (mo_in hst h0 hi4 ⟨hc, hr, hgm, hmono, hf, hgo, hru⟩ ⟨gF, gC, gM, gO, gK, gR, z2, z3, z4, z5, z6, z7, l2, l3, l6, l4, l5, l7⟩ ht hy0 (by omega) hE 4 (y0 - 2) a b (by omega) (by omega) har (by rw [show (y0 + 2 - (y0 - 2)).toNat = 4 by omega, hy, iY_4 (hru k (by omega)), ← hy, ← hab]; exact hS))
  | succ N ih =>
    intro k hN hk a b hab har
    refine v_iload dX7_offsetAt_79 rfl ?_
    refine v_aload_n dX7_offsetAt_81 rfl ?_
    refine v_get dX7_offsetAt_82 f_X7_29 (by first | exact h0 | exact z2 | exact z3 | exact z4 | exact z5 | exact z6 | exact z7 | exact aup_s) rfl ?_
    refine v_iload_n dX7_offsetAt_85 rfl ?_
    refine v_iald dX7_offsetAt_86 (by first | exact h0 | exact z2 | exact z3 | exact z4 | exact z5 | exact z6 | exact z7 | exact aup_s) ?_
    rw [show gK ((zi : Int).toNat) = r from l6]
    refine v_icmp_ge 187 dX7_offsetAt_87 (fun h_87 => ?_) (fun h_87 => ?_)
    · refine v_iload dX7_offsetAt_187 rfl ?_
      exact v_iret dX7_offsetAt_189 rfl (by exact qi hQ (by rw [show r.toNat = k by omega, hab]))
    · refine v_lload dX7_offsetAt_90 rfl ?_
      refine v_ldc2 (2) dX7_offsetAt_92 kl_X7_64 ?_
      refine v_lsub dX7_offsetAt_95 ?_
      refine v_lstore dX7_offsetAt_96 (by decide) ?_
      have hlo : ∃ S1 S2, rY (lastC gm c) t ru y0 (k + 1) (-9223372036854775808, bs) = (S1, S2) := ⟨_, _, rfl⟩
      obtain ⟨S1, S2, hS⟩ := hlo
      have hSr := rY_L2 (t := t) (y0 := y0) (b := bs) (a := -9223372036854775808) ⟨hc, hr, hgm, hmono, hf, hgo, hru⟩ (L := lastC gm c) (by omega) (k + 1) (by omega)
      rw [hS] at hSr
      have hSr2 : -9223372036854775808 ≤ S1 ∧ S1 ≤ 9223372036854775807 := hSr
      have hE : V l G mX7_offsetAt rX7_offsetAt Q X 181 (lof [(0, .ref z), (1, .int (iI (zi : Int))), (2, .long (lI t)), (4, .int (iI (S2))), (5, .long (lI (S1))), (7, .long (lI y0)), (9, .int (iI ((k : Int))))]) [] (w) 0 0 := by
        refine v_iinc dX7_offsetAt_181 rfl ?_
        rw [show (k : Int) + 1 = ((k + 1 : Nat) : Int) by omega]
        refine v_goto 79 dX7_offsetAt_184 ?_
        exact v_lof [(0, .ref z), (1, .int (iI (zi : Int))), (2, .long (lI t)), (4, .int (iI (S2))), (5, .long (lI (S1))), (7, .long (lI y0)), (9, .int (iI (((k + 1 : Nat) : Int))))] (List.forall_mem_cons.mpr ⟨rfl, (List.forall_mem_cons.mpr ⟨rfl, (List.forall_mem_cons.mpr ⟨rfl, (List.forall_mem_cons.mpr ⟨rfl, (List.forall_mem_cons.mpr ⟨rfl, (List.forall_mem_cons.mpr ⟨rfl, (List.forall_mem_cons.mpr ⟨rfl, (fun _ h => nomatch h)⟩)⟩)⟩)⟩)⟩)⟩)⟩) (ih (k + 1) (by omega) (by omega) S1 S2 hS hSr2)
      exact v_lof [(0, .ref z), (1, .int (iI (zi : Int))), (2, .long (lI t)), (4, .int (iI (b))), (5, .long (lI (a))), (7, .long (lI y0)), (9, .int (iI ((k : Int)))), (10, .long (lI (y0 - 2)))] (List.forall_mem_cons.mpr ⟨rfl, (List.forall_mem_cons.mpr ⟨rfl, (List.forall_mem_cons.mpr ⟨rfl, (List.forall_mem_cons.mpr ⟨rfl, (List.forall_mem_cons.mpr ⟨rfl, (List.forall_mem_cons.mpr ⟨rfl, (List.forall_mem_cons.mpr ⟨rfl, (List.forall_mem_cons.mpr ⟨rfl, (fun _ h => nomatch h)⟩)⟩)⟩)⟩)⟩)⟩)⟩)⟩) (mo_in hst h0 hi4 ⟨hc, hr, hgm, hmono, hf, hgo, hru⟩ ⟨gF, gC, gM, gO, gK, gR, z2, z3, z4, z5, z6, z7, l2, l3, l6, l4, l5, l7⟩ ht hy0 (by omega) hE 4 (y0 - 2) a b (by omega) (by omega) har (by rw [show (y0 + 2 - (y0 - 2)).toNat = 4 by omega, hy, iY_4 (hru k (by omega)), ← hy, ← hab]; exact hS))
set_option maxRecDepth 100000 in
set_option maxHeartbeats 4000000 in
theorem s_X7_offsetAt {l : Launch} {G : GG} {w : AH} {Q : Option Value → AH → Prop} {X : String → AH → Prop} (hst : l.stackTraces = false) {z : Nat} {A : Nat → Nat} {th yq mq dq ty ap wr sz : Int} (h0 : w z = some (mdC A th yq mq dq ty ap wr sz)) {f c r : Int} {gm go : Nat → Int} {ru : Nat → Nat → Int} {zi : Nat} (hi4 : zi < 4) (hZ : ZOK f c r gm go ru) (hM : MZ G w A zi f c r gm go ru) {t : Int} (ht : -378000000000 ≤ t ∧ t ≤ 254000000000) (hQ : ∀ yr' mo' da' : Int,  Q (some (.int (iI (oA f c r gm go ru t)))) (aup w z (mdC A th yr' mo' da' ty ap wr sz))) : Ct l G mX7_offsetAt rX7_offsetAt [(.ref z), .int (iI (zi : Int)), .long (lI t)] w Q X := by
  have hLr := lastC_rng (c := c) hZ.2.2.1
  obtain ⟨hc, hr, hgm, hmono, hf, hgo, hru⟩ := hZ
  obtain ⟨gF, gC, gM, gO, gK, gR, z2, z3, z4, z5, z6, z7, l2, l3, l6, l4, l5, l7⟩ := hM
  refine ct_of hst mk_X7_offsetAt (Nat.le_of_ble_eq_true rfl) ?_
  have hE : ∀ v : Int, obc f gm go t c.toNat = v → V l G mX7_offsetAt rX7_offsetAt Q X 64 (lof [(0, .ref z), (1, .int (iI (zi : Int))), (2, .long (lI t)), (4, .int (iI (v)))]) [] (w) 0 0 := by
    intro v hv
    refine v_ldc2 (-9223372036854775808) dX7_offsetAt_64 kl_X7_206 ?_
    refine v_lstore dX7_offsetAt_67 (by decide) ?_
    refine v_aload_n dX7_offsetAt_69 rfl ?_
    refine v_lload_n dX7_offsetAt_70 rfl ?_
    refine v_V1 (rm' := rX7_yearOf) (RX7, TX7, 18) dX7_offsetAt_71 km_X7_228 kn_X7_yearOf kv_X7_yearOf kz_X7 mk_X7_yearOf rfl rfl (by first | exact h0 | exact z2 | exact z3 | exact z4 | exact z5 | exact z6 | exact z7 | exact aup_s) ⟨Nat.le_of_ble_eq_true rfl, Nat.le_of_ble_eq_true rfl⟩ ⟨Nat.le_of_ble_eq_true rfl, Nat.le_of_ble_eq_true rfl⟩ (Nat.le_of_ble_eq_true rfl) ?_
    refine s_X7_yearOf hst h0 ht (fun yr' mo' da' => ?_)
    have hM2 := MZ.up (e := (mdC A th yr' mo' da' ty ap wr sz)) h0 ⟨gF, gC, gM, gO, gK, gR, z2, z3, z4, z5, z6, z7, l2, l3, l6, l4, l5, l7⟩
    have hq2 : (rY (lastC gm c) t ru (yr (t / 86400)) r.toNat (-9223372036854775808, v)).2 = oA f c r gm go ru t := (by rw [← hv]; exact ((rY_R (s := (-9223372036854775808, obc f gm go t c.toNat)) (s' := (lastC gm c, obc f gm go t c.toNat)) ⟨rfl, Or.inr ⟨hLr.1, Int.le_refl _⟩⟩ r.toNat).1))
    refine v_lstore dX7_offsetAt_74 (by decide) ?_
    refine v_iconst dX7_offsetAt_76 ?_
    refine v_istore dX7_offsetAt_77 (by decide) ?_
    exact v_lof [(0, .ref z), (1, .int (iI (zi : Int))), (2, .long (lI t)), (4, .int (iI (v))), (5, .long (lI (-9223372036854775808))), (7, .long (lI (yr (t / 86400)))), (9, .int (iI (((0 : Nat) : Int))))] (List.forall_mem_cons.mpr ⟨rfl, (List.forall_mem_cons.mpr ⟨rfl, (List.forall_mem_cons.mpr ⟨rfl, (List.forall_mem_cons.mpr ⟨rfl, (List.forall_mem_cons.mpr ⟨rfl, (List.forall_mem_cons.mpr ⟨rfl, (List.forall_mem_cons.mpr ⟨rfl, (fun _ h => nomatch h)⟩)⟩)⟩)⟩)⟩)⟩)⟩) (mo_out hst aup_s hi4 ⟨hc, hr, hgm, hmono, hf, hgo, hru⟩ hM2 ht rfl (yr_t ht) (by rw [hq2]; exact hQ yr' mo' da') 2 0 (by omega) (by omega) _ _ rfl (by omega))
  refine v_aload_n dX7_offsetAt_0 rfl ?_
  refine v_get dX7_offsetAt_1 f_X7_16 (by first | exact h0 | exact z2 | exact z3 | exact z4 | exact z5 | exact z6 | exact z7 | exact aup_s) rfl ?_
  refine v_iload_n dX7_offsetAt_4 rfl ?_
  refine v_iald dX7_offsetAt_5 (by first | exact h0 | exact z2 | exact z3 | exact z4 | exact z5 | exact z6 | exact z7 | exact aup_s) ?_
  rw [show gF ((zi : Int).toNat) = f from l2]
  refine v_istore dX7_offsetAt_6 (by decide) ?_
  refine v_iconst dX7_offsetAt_8 ?_
  refine v_istore dX7_offsetAt_9 (by decide) ?_
  exact v_lof [(0, .ref z), (1, .int (iI (zi : Int))), (2, .long (lI t)), (4, .int (iI (f))), (5, .int (iI (((0 : Nat) : Int))))] (List.forall_mem_cons.mpr ⟨rfl, (List.forall_mem_cons.mpr ⟨rfl, (List.forall_mem_cons.mpr ⟨rfl, (List.forall_mem_cons.mpr ⟨rfl, (List.forall_mem_cons.mpr ⟨rfl, (fun _ h => nomatch h)⟩)⟩)⟩)⟩)⟩) (mo_chg hst h0 hi4 ⟨hc, hr, hgm, hmono, hf, hgo, hru⟩ ⟨gF, gC, gM, gO, gK, gR, z2, z3, z4, z5, z6, z7, l2, l3, l6, l4, l5, l7⟩ ht hE 8 0 (by omega) (by omega) _ rfl)
