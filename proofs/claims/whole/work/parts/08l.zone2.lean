theorem rY_L {f c r : Int} {gm go : Nat → Int} {ru : Nat → Nat → Int} {L t y0 b : Int} (h : ZOK f c r gm go ru) (hL : -9223372036854775808 ≤ L ∧ L ≤ 9223372036854775807) (k : Nat) (hk : (k : Int) ≤ r) : -9223372036854775808 ≤ (rY L t ru y0 k (L, b)).1 ∧ (rY L t ru y0 k (L, b)).1 ≤ 9223372036854775807 := by
  refine rY_P (fun s => -9223372036854775808 ≤ s.1 ∧ s.1 ≤ 9223372036854775807) hL k (fun j y s hj hy _ _ _ => ?_)
  have := rM_rng (h.2.2.2.2.2.2 j (by omega)) hy
  show -9223372036854775808 ≤ rM ru j y ∧ rM ru j y ≤ 9223372036854775807
  omega
set_option maxRecDepth 100000 in
set_option maxHeartbeats 1000000 in
theorem oat_in {l : Launch} {G : GG} {w : AH} {Q : Option Value → AH → Prop} {X : String → AH → Prop} (hst : l.stackTraces = false) {z am ao ar : Nat} {ra : Nat → Nat} {f c r : Int} {gm go : Nat → Int} {ru : Nat → Nat → Int} (h0 : w z = some (zoC f am ao c ar r)) (h1 : w am = some (alA G 8 gm)) (h2 : w ao = some (aiA G 8 go)) (h3 : w ar = some (arA G 6 2 (fun i => some (ra i)))) (h4 : ∀ k, k < 2 → w (ra k) = some (ruC (ru k 0) (ru k 1) (ru k 2) (ru k 3) (ru k 4))) (hZ : ZOK f c r gm go ru) {t y0 L : Int} (ht : -378000000000 ≤ t ∧ t ≤ 254000000000) (hL : lastC gm c = L) (hy0 : -10011 ≤ y0 ∧ y0 ≤ 10020) {i : Nat} (hi : (i : Int) < r) {S1 S2 : Int} (hE : V l G mX5_offsetAt rX5_offsetAt Q X 121 (lof [(0, .ref z), (1, .long (lI t)), (3, .int (iI (S2))), (4, .int (iI y0)), (5, .long (lI (S1))), (7, .int (iI ((i : Int))))]) [] (w) 0 0) : ∀ (N : Nat) (y a b : Int), (y ≤ y0 → y ≤ 9999 → 9999 - y < N) → (-9999 ≤ y ∧ y ≤ 10100) → (-9223372036854775808 ≤ a ∧ a ≤ 9223372036854775807) → iY L t ru i (y0 + 1 - y).toNat y (a, b) = (S1, S2) → V l G mX5_offsetAt rX5_offsetAt Q X 48 (lof [(0, .ref z), (1, .long (lI t)), (3, .int (iI (b))), (4, .int (iI y0)), (5, .long (lI (a))), (7, .int (iI ((i : Int)))), (8, .int (iI (y)))]) [] (w) 0 0 := by
  have hLr := lastC_rng (c := c) hZ.2.2.1
  rw [hL] at hLr
  have hRV := hZ.2.2.2.2.2.2 i hi
  obtain ⟨hc, hr, hgm, hmono, hf, hgo, hru⟩ := hZ
  intro N
  induction N with
  | zero =>
    intro y a b hN hy har hS
    refine v_iload dX5_offsetAt_48 rfl ?_
    refine v_iload dX5_offsetAt_50 rfl ?_
    refine v_sipush dX5_offsetAt_52 ?_
    refine v_S2 (rm' := rJ9_min_7cf53) dX5_offsetAt_55 km_X5_67 ks_J9_min_7cf53 kz_J9 mk_J9_min_7cf53 rfl ⟨Nat.le_of_ble_eq_true rfl, Nat.le_of_ble_eq_true rfl⟩ ⟨Nat.le_of_ble_eq_true rfl, Nat.le_of_ble_eq_true rfl⟩ (Nat.le_of_ble_eq_true rfl) ?_
    refine s_J9_min_7cf53 hst (fun rmn emn => ?_)
    refine v_icmp_gt 121 dX5_offsetAt_58 (fun h_58 => ?_) (fun h_58 => ?_)
    · have hx : (a, b) = (S1, S2) := (by rw [← hS]; rcases (show y0 < y ∨ 9999 < y by omega) with g | g; (rw [show (y0 + 1 - y).toNat = 0 by omega]; rfl); (rw [iY_out _ _ _ (Or.inl g)]))
      injection hx with hx1 hx2
      subst hx1 hx2
      exact v_lof [(0, .ref z), (1, .long (lI t)), (3, .int (iI (b))), (4, .int (iI y0)), (5, .long (lI (a))), (7, .int (iI ((i : Int))))] (List.forall_mem_cons.mpr ⟨rfl, (List.forall_mem_cons.mpr ⟨rfl, (List.forall_mem_cons.mpr ⟨rfl, (List.forall_mem_cons.mpr ⟨rfl, (List.forall_mem_cons.mpr ⟨rfl, (List.forall_mem_cons.mpr ⟨rfl, (fun _ h => nomatch h)⟩)⟩)⟩)⟩)⟩)⟩) (hE)
    · have h5 := h4 i (by omega)
      have hyr : -9999 ≤ y ∧ y ≤ 9999 := (by omega)
      have hmr := rM_rng hRV hyr
      have v0 := hRV.1
      have v1 := hRV.2.1
      have v2 := hRV.2.2.1
      have v3 := hRV.2.2.2.1
      refine v_aload_n dX5_offsetAt_61 rfl ?_
      refine v_get dX5_offsetAt_62 f_X5_21 (by first | exact h0 | exact h1 | exact h2 | exact h3 | exact h5) rfl ?_
      refine v_iload dX5_offsetAt_65 rfl ?_
      refine v_aald (t := 6) dX5_offsetAt_67 (fun _ => rfl) (by first | exact h0 | exact h1 | exact h2 | exact h3 | exact h5) (by exact rfl) ?_
      refine v_iload dX5_offsetAt_68 rfl ?_
      refine v_V1 (rm' := rX3_momentIn) (RX3, TX3, 5) dX5_offsetAt_70 km_X5_70 kn_X3_momentIn kv_X3_momentIn kz_X3 mk_X3_momentIn rfl rfl (by first | exact h0 | exact h1 | exact h2 | exact h3 | exact h5) ⟨Nat.le_of_ble_eq_true rfl, Nat.le_of_ble_eq_true rfl⟩ ⟨Nat.le_of_ble_eq_true rfl, Nat.le_of_ble_eq_true rfl⟩ (Nat.le_of_ble_eq_true rfl) ?_
      refine s_X3_momentIn hst h5 v0 v1 v2 v3 hyr ?_
      rw [show rMom (ru i 0) (ru i 1) (ru i 2) (ru i 3) y = rM ru i y from rfl]
      refine v_lstore dX5_offsetAt_73 (by decide) ?_
      refine v_lload dX5_offsetAt_75 rfl ?_
      refine v_lload_n dX5_offsetAt_77 rfl ?_
      refine v_lif_gt 115 dX5_offsetAt_78 dX5_offsetAt_79 (fun h_78 => ?_) (fun h_78 => ?_)
      · refine v_iinc dX5_offsetAt_115 rfl ?_
        refine v_goto 48 dX5_offsetAt_118 ?_
        (exfalso; omega)
      · refine v_lload dX5_offsetAt_82 rfl ?_
        refine v_aload_n dX5_offsetAt_84 rfl ?_
        refine v_V0 (rm' := rX5_lastChange) (RX5, TX5, 6) dX5_offsetAt_85 km_X5_36 kn_X5_lastChange kv_X5_lastChange kz_X5 mk_X5_lastChange rfl rfl (by first | exact h0 | exact h1 | exact h2 | exact h3 | exact h5) ⟨Nat.le_of_ble_eq_true rfl, Nat.le_of_ble_eq_true rfl⟩ ⟨Nat.le_of_ble_eq_true rfl, Nat.le_of_ble_eq_true rfl⟩ (Nat.le_of_ble_eq_true rfl) ?_
        refine s_X5_lastChange hst h0 h1 hc hr ?_
        rw [hL]
        refine v_lif_le 115 dX5_offsetAt_88 dX5_offsetAt_89 (fun h_88 => ?_) (fun h_88 => ?_)
        · refine v_iinc dX5_offsetAt_115 rfl ?_
          refine v_goto 48 dX5_offsetAt_118 ?_
          (exfalso; omega)
        · refine v_lload dX5_offsetAt_92 rfl ?_
          refine v_lload dX5_offsetAt_94 rfl ?_
          refine v_lif_lt 115 dX5_offsetAt_96 dX5_offsetAt_97 (fun h_96 => ?_) (fun h_96 => ?_)
          · refine v_iinc dX5_offsetAt_115 rfl ?_
            refine v_goto 48 dX5_offsetAt_118 ?_
            (exfalso; omega)
          · refine v_lload dX5_offsetAt_100 rfl ?_
            refine v_lstore dX5_offsetAt_102 (by decide) ?_
            refine v_aload_n dX5_offsetAt_104 rfl ?_
            refine v_get dX5_offsetAt_105 f_X5_21 (by first | exact h0 | exact h1 | exact h2 | exact h3 | exact h5) rfl ?_
            refine v_iload dX5_offsetAt_108 rfl ?_
            refine v_aald (t := 6) dX5_offsetAt_110 (fun _ => rfl) (by first | exact h0 | exact h1 | exact h2 | exact h3 | exact h5) (by exact rfl) ?_
            refine v_getN dX5_offsetAt_111 f_X5_74 (by first | exact h0 | exact h1 | exact h2 | exact h3 | exact h5) rfl ?_
            refine v_istore_n dX5_offsetAt_114 (by decide) ?_
            refine v_iinc dX5_offsetAt_115 rfl ?_
            refine v_goto 48 dX5_offsetAt_118 ?_
            (exfalso; omega)
  | succ N ih =>
    intro y a b hN hy har hS
    refine v_iload dX5_offsetAt_48 rfl ?_
    refine v_iload dX5_offsetAt_50 rfl ?_
    refine v_sipush dX5_offsetAt_52 ?_
    refine v_S2 (rm' := rJ9_min_7cf53) dX5_offsetAt_55 km_X5_67 ks_J9_min_7cf53 kz_J9 mk_J9_min_7cf53 rfl ⟨Nat.le_of_ble_eq_true rfl, Nat.le_of_ble_eq_true rfl⟩ ⟨Nat.le_of_ble_eq_true rfl, Nat.le_of_ble_eq_true rfl⟩ (Nat.le_of_ble_eq_true rfl) ?_
    refine s_J9_min_7cf53 hst (fun rmn emn => ?_)
    refine v_icmp_gt 121 dX5_offsetAt_58 (fun h_58 => ?_) (fun h_58 => ?_)
    · have hx : (a, b) = (S1, S2) := (by rw [← hS]; rcases (show y0 < y ∨ 9999 < y by omega) with g | g; (rw [show (y0 + 1 - y).toNat = 0 by omega]; rfl); (rw [iY_out _ _ _ (Or.inl g)]))
      injection hx with hx1 hx2
      subst hx1 hx2
      exact v_lof [(0, .ref z), (1, .long (lI t)), (3, .int (iI (b))), (4, .int (iI y0)), (5, .long (lI (a))), (7, .int (iI ((i : Int))))] (List.forall_mem_cons.mpr ⟨rfl, (List.forall_mem_cons.mpr ⟨rfl, (List.forall_mem_cons.mpr ⟨rfl, (List.forall_mem_cons.mpr ⟨rfl, (List.forall_mem_cons.mpr ⟨rfl, (List.forall_mem_cons.mpr ⟨rfl, (fun _ h => nomatch h)⟩)⟩)⟩)⟩)⟩)⟩) (hE)
    · have h5 := h4 i (by omega)
      have hyr : -9999 ≤ y ∧ y ≤ 9999 := (by omega)
      have hmr := rM_rng hRV hyr
      have v0 := hRV.1
      have v1 := hRV.2.1
      have v2 := hRV.2.2.1
      have v3 := hRV.2.2.2.1
      refine v_aload_n dX5_offsetAt_61 rfl ?_
      refine v_get dX5_offsetAt_62 f_X5_21 (by first | exact h0 | exact h1 | exact h2 | exact h3 | exact h5) rfl ?_
      refine v_iload dX5_offsetAt_65 rfl ?_
      refine v_aald (t := 6) dX5_offsetAt_67 (fun _ => rfl) (by first | exact h0 | exact h1 | exact h2 | exact h3 | exact h5) (by exact rfl) ?_
      refine v_iload dX5_offsetAt_68 rfl ?_
      refine v_V1 (rm' := rX3_momentIn) (RX3, TX3, 5) dX5_offsetAt_70 km_X5_70 kn_X3_momentIn kv_X3_momentIn kz_X3 mk_X3_momentIn rfl rfl (by first | exact h0 | exact h1 | exact h2 | exact h3 | exact h5) ⟨Nat.le_of_ble_eq_true rfl, Nat.le_of_ble_eq_true rfl⟩ ⟨Nat.le_of_ble_eq_true rfl, Nat.le_of_ble_eq_true rfl⟩ (Nat.le_of_ble_eq_true rfl) ?_
      refine s_X3_momentIn hst h5 v0 v1 v2 v3 hyr ?_
      rw [show rMom (ru i 0) (ru i 1) (ru i 2) (ru i 3) y = rM ru i y from rfl]
      refine v_lstore dX5_offsetAt_73 (by decide) ?_
      refine v_lload dX5_offsetAt_75 rfl ?_
      refine v_lload_n dX5_offsetAt_77 rfl ?_
      refine v_lif_gt 115 dX5_offsetAt_78 dX5_offsetAt_79 (fun h_78 => ?_) (fun h_78 => ?_)
      · refine v_iinc dX5_offsetAt_115 rfl ?_
        refine v_goto 48 dX5_offsetAt_118 ?_
        first | (have g9 : ((-9999 ≤ y ∧ y ≤ 9999) ∧ L < rM ru i y ∧ rM ru i y ≤ t ∧ a ≤ rM ru i y) := (by omega); exact v_lof [(0, .ref z), (1, .long (lI t)), (3, .int (iI (ru i 4))), (4, .int (iI y0)), (5, .long (lI (rM ru i y))), (7, .int (iI ((i : Int)))), (8, .int (iI (y + 1)))] (List.forall_mem_cons.mpr ⟨rfl, (List.forall_mem_cons.mpr ⟨rfl, (List.forall_mem_cons.mpr ⟨rfl, (List.forall_mem_cons.mpr ⟨rfl, (List.forall_mem_cons.mpr ⟨rfl, (List.forall_mem_cons.mpr ⟨rfl, (List.forall_mem_cons.mpr ⟨rfl, (fun _ h => nomatch h)⟩)⟩)⟩)⟩)⟩)⟩)⟩) (ih (y + 1) _ _ (by omega) (by omega) (by omega) (by have e9 := (iY_st (L := L) (t := t) (ru := ru) (k := i) (s := (a, b)) (show y ≤ y0 by omega)).symm.trans hS; rw [sY_p g9] at e9; exact e9))) | (have g9 : ¬ ((-9999 ≤ y ∧ y ≤ 9999) ∧ L < rM ru i y ∧ rM ru i y ≤ t ∧ a ≤ rM ru i y) := (by omega); exact v_lof [(0, .ref z), (1, .long (lI t)), (3, .int (iI (b))), (4, .int (iI y0)), (5, .long (lI (a))), (7, .int (iI ((i : Int)))), (8, .int (iI (y + 1)))] (List.forall_mem_cons.mpr ⟨rfl, (List.forall_mem_cons.mpr ⟨rfl, (List.forall_mem_cons.mpr ⟨rfl, (List.forall_mem_cons.mpr ⟨rfl, (List.forall_mem_cons.mpr ⟨rfl, (List.forall_mem_cons.mpr ⟨rfl, (List.forall_mem_cons.mpr ⟨rfl, (fun _ h => nomatch h)⟩)⟩)⟩)⟩)⟩)⟩)⟩) (ih (y + 1) _ _ (by omega) (by omega) har (by have e9 := (iY_st (L := L) (t := t) (ru := ru) (k := i) (s := (a, b)) (show y ≤ y0 by omega)).symm.trans hS; rw [sY_n g9] at e9; exact e9)))
      · refine v_lload dX5_offsetAt_82 rfl ?_
        refine v_aload_n dX5_offsetAt_84 rfl ?_
        refine v_V0 (rm' := rX5_lastChange) (RX5, TX5, 6) dX5_offsetAt_85 km_X5_36 kn_X5_lastChange kv_X5_lastChange kz_X5 mk_X5_lastChange rfl rfl (by first | exact h0 | exact h1 | exact h2 | exact h3 | exact h5) ⟨Nat.le_of_ble_eq_true rfl, Nat.le_of_ble_eq_true rfl⟩ ⟨Nat.le_of_ble_eq_true rfl, Nat.le_of_ble_eq_true rfl⟩ (Nat.le_of_ble_eq_true rfl) ?_
        refine s_X5_lastChange hst h0 h1 hc hr ?_
        rw [hL]
        refine v_lif_le 115 dX5_offsetAt_88 dX5_offsetAt_89 (fun h_88 => ?_) (fun h_88 => ?_)
        · refine v_iinc dX5_offsetAt_115 rfl ?_
          refine v_goto 48 dX5_offsetAt_118 ?_
          first | (have g9 : ((-9999 ≤ y ∧ y ≤ 9999) ∧ L < rM ru i y ∧ rM ru i y ≤ t ∧ a ≤ rM ru i y) := (by omega); exact v_lof [(0, .ref z), (1, .long (lI t)), (3, .int (iI (ru i 4))), (4, .int (iI y0)), (5, .long (lI (rM ru i y))), (7, .int (iI ((i : Int)))), (8, .int (iI (y + 1)))] (List.forall_mem_cons.mpr ⟨rfl, (List.forall_mem_cons.mpr ⟨rfl, (List.forall_mem_cons.mpr ⟨rfl, (List.forall_mem_cons.mpr ⟨rfl, (List.forall_mem_cons.mpr ⟨rfl, (List.forall_mem_cons.mpr ⟨rfl, (List.forall_mem_cons.mpr ⟨rfl, (fun _ h => nomatch h)⟩)⟩)⟩)⟩)⟩)⟩)⟩) (ih (y + 1) _ _ (by omega) (by omega) (by omega) (by have e9 := (iY_st (L := L) (t := t) (ru := ru) (k := i) (s := (a, b)) (show y ≤ y0 by omega)).symm.trans hS; rw [sY_p g9] at e9; exact e9))) | (have g9 : ¬ ((-9999 ≤ y ∧ y ≤ 9999) ∧ L < rM ru i y ∧ rM ru i y ≤ t ∧ a ≤ rM ru i y) := (by omega); exact v_lof [(0, .ref z), (1, .long (lI t)), (3, .int (iI (b))), (4, .int (iI y0)), (5, .long (lI (a))), (7, .int (iI ((i : Int)))), (8, .int (iI (y + 1)))] (List.forall_mem_cons.mpr ⟨rfl, (List.forall_mem_cons.mpr ⟨rfl, (List.forall_mem_cons.mpr ⟨rfl, (List.forall_mem_cons.mpr ⟨rfl, (List.forall_mem_cons.mpr ⟨rfl, (List.forall_mem_cons.mpr ⟨rfl, (List.forall_mem_cons.mpr ⟨rfl, (fun _ h => nomatch h)⟩)⟩)⟩)⟩)⟩)⟩)⟩) (ih (y + 1) _ _ (by omega) (by omega) har (by have e9 := (iY_st (L := L) (t := t) (ru := ru) (k := i) (s := (a, b)) (show y ≤ y0 by omega)).symm.trans hS; rw [sY_n g9] at e9; exact e9)))
        · refine v_lload dX5_offsetAt_92 rfl ?_
          refine v_lload dX5_offsetAt_94 rfl ?_
          refine v_lif_lt 115 dX5_offsetAt_96 dX5_offsetAt_97 (fun h_96 => ?_) (fun h_96 => ?_)
          · refine v_iinc dX5_offsetAt_115 rfl ?_
            refine v_goto 48 dX5_offsetAt_118 ?_
            first | (have g9 : ((-9999 ≤ y ∧ y ≤ 9999) ∧ L < rM ru i y ∧ rM ru i y ≤ t ∧ a ≤ rM ru i y) := (by omega); exact v_lof [(0, .ref z), (1, .long (lI t)), (3, .int (iI (ru i 4))), (4, .int (iI y0)), (5, .long (lI (rM ru i y))), (7, .int (iI ((i : Int)))), (8, .int (iI (y + 1)))] (List.forall_mem_cons.mpr ⟨rfl, (List.forall_mem_cons.mpr ⟨rfl, (List.forall_mem_cons.mpr ⟨rfl, (List.forall_mem_cons.mpr ⟨rfl, (List.forall_mem_cons.mpr ⟨rfl, (List.forall_mem_cons.mpr ⟨rfl, (List.forall_mem_cons.mpr ⟨rfl, (fun _ h => nomatch h)⟩)⟩)⟩)⟩)⟩)⟩)⟩) (ih (y + 1) _ _ (by omega) (by omega) (by omega) (by have e9 := (iY_st (L := L) (t := t) (ru := ru) (k := i) (s := (a, b)) (show y ≤ y0 by omega)).symm.trans hS; rw [sY_p g9] at e9; exact e9))) | (have g9 : ¬ ((-9999 ≤ y ∧ y ≤ 9999) ∧ L < rM ru i y ∧ rM ru i y ≤ t ∧ a ≤ rM ru i y) := (by omega); exact v_lof [(0, .ref z), (1, .long (lI t)), (3, .int (iI (b))), (4, .int (iI y0)), (5, .long (lI (a))), (7, .int (iI ((i : Int)))), (8, .int (iI (y + 1)))] (List.forall_mem_cons.mpr ⟨rfl, (List.forall_mem_cons.mpr ⟨rfl, (List.forall_mem_cons.mpr ⟨rfl, (List.forall_mem_cons.mpr ⟨rfl, (List.forall_mem_cons.mpr ⟨rfl, (List.forall_mem_cons.mpr ⟨rfl, (List.forall_mem_cons.mpr ⟨rfl, (fun _ h => nomatch h)⟩)⟩)⟩)⟩)⟩)⟩)⟩) (ih (y + 1) _ _ (by omega) (by omega) har (by have e9 := (iY_st (L := L) (t := t) (ru := ru) (k := i) (s := (a, b)) (show y ≤ y0 by omega)).symm.trans hS; rw [sY_n g9] at e9; exact e9)))
          · refine v_lload dX5_offsetAt_100 rfl ?_
            refine v_lstore dX5_offsetAt_102 (by decide) ?_
            refine v_aload_n dX5_offsetAt_104 rfl ?_
            refine v_get dX5_offsetAt_105 f_X5_21 (by first | exact h0 | exact h1 | exact h2 | exact h3 | exact h5) rfl ?_
            refine v_iload dX5_offsetAt_108 rfl ?_
            refine v_aald (t := 6) dX5_offsetAt_110 (fun _ => rfl) (by first | exact h0 | exact h1 | exact h2 | exact h3 | exact h5) (by exact rfl) ?_
            refine v_getN dX5_offsetAt_111 f_X5_74 (by first | exact h0 | exact h1 | exact h2 | exact h3 | exact h5) rfl ?_
            refine v_istore_n dX5_offsetAt_114 (by decide) ?_
            refine v_iinc dX5_offsetAt_115 rfl ?_
            refine v_goto 48 dX5_offsetAt_118 ?_
            first | (have g9 : ((-9999 ≤ y ∧ y ≤ 9999) ∧ L < rM ru i y ∧ rM ru i y ≤ t ∧ a ≤ rM ru i y) := (by omega); exact v_lof [(0, .ref z), (1, .long (lI t)), (3, .int (iI (ru i 4))), (4, .int (iI y0)), (5, .long (lI (rM ru i y))), (7, .int (iI ((i : Int)))), (8, .int (iI (y + 1)))] (List.forall_mem_cons.mpr ⟨rfl, (List.forall_mem_cons.mpr ⟨rfl, (List.forall_mem_cons.mpr ⟨rfl, (List.forall_mem_cons.mpr ⟨rfl, (List.forall_mem_cons.mpr ⟨rfl, (List.forall_mem_cons.mpr ⟨rfl, (List.forall_mem_cons.mpr ⟨rfl, (fun _ h => nomatch h)⟩)⟩)⟩)⟩)⟩)⟩)⟩) (ih (y + 1) _ _ (by omega) (by omega) (by omega) (by have e9 := (iY_st (L := L) (t := t) (ru := ru) (k := i) (s := (a, b)) (show y ≤ y0 by omega)).symm.trans hS; rw [sY_p g9] at e9; exact e9))) | (have g9 : ¬ ((-9999 ≤ y ∧ y ≤ 9999) ∧ L < rM ru i y ∧ rM ru i y ≤ t ∧ a ≤ rM ru i y) := (by omega); exact v_lof [(0, .ref z), (1, .long (lI t)), (3, .int (iI (b))), (4, .int (iI y0)), (5, .long (lI (a))), (7, .int (iI ((i : Int)))), (8, .int (iI (y + 1)))] (List.forall_mem_cons.mpr ⟨rfl, (List.forall_mem_cons.mpr ⟨rfl, (List.forall_mem_cons.mpr ⟨rfl, (List.forall_mem_cons.mpr ⟨rfl, (List.forall_mem_cons.mpr ⟨rfl, (List.forall_mem_cons.mpr ⟨rfl, (List.forall_mem_cons.mpr ⟨rfl, (fun _ h => nomatch h)⟩)⟩)⟩)⟩)⟩)⟩)⟩) (ih (y + 1) _ _ (by omega) (by omega) har (by have e9 := (iY_st (L := L) (t := t) (ru := ru) (k := i) (s := (a, b)) (show y ≤ y0 by omega)).symm.trans hS; rw [sY_n g9] at e9; exact e9)))
set_option maxRecDepth 100000 in
set_option maxHeartbeats 1000000 in
theorem oat_out {l : Launch} {G : GG} {w : AH} {Q : Option Value → AH → Prop} {X : String → AH → Prop} (hst : l.stackTraces = false) {z am ao ar : Nat} {ra : Nat → Nat} {f c r : Int} {gm go : Nat → Int} {ru : Nat → Nat → Int} (h0 : w z = some (zoC f am ao c ar r)) (h1 : w am = some (alA G 8 gm)) (h2 : w ao = some (aiA G 8 go)) (h3 : w ar = some (arA G 6 2 (fun i => some (ra i)))) (h4 : ∀ k, k < 2 → w (ra k) = some (ruC (ru k 0) (ru k 1) (ru k 2) (ru k 3) (ru k 4))) (hZ : ZOK f c r gm go ru) {t y0 L bs : Int} (ht : -378000000000 ≤ t ∧ t ≤ 254000000000) (hL : lastC gm c = L) (hy0 : -10011 ≤ y0 ∧ y0 ≤ 10020) (hQ : Q (some (.int (iI (rY L t ru y0 r.toNat (L, bs)).2))) w) : ∀ (N i : Nat), r - i ≤ N → (i : Int) ≤ r → ∀ a b : Int, rY L t ru y0 i (L, bs) = (a, b) → (-9223372036854775808 ≤ a ∧ a ≤ 9223372036854775807) → V l G mX5_offsetAt rX5_offsetAt Q X 27 (lof [(0, .ref z), (1, .long (lI t)), (3, .int (iI (b))), (4, .int (iI y0)), (5, .long (lI (a))), (7, .int (iI ((i : Int))))]) [] (w) 0 0 := by
  have hLr := lastC_rng (c := c) hZ.2.2.1
  rw [hL] at hLr
  obtain ⟨hc, hr, hgm, hmono, hf, hgo, hru⟩ := hZ
  intro N
  induction N with
  | zero =>
    intro i hN hi a b hab har
    refine v_iload dX5_offsetAt_27 rfl ?_
    refine v_aload_n dX5_offsetAt_29 rfl ?_
    refine v_get dX5_offsetAt_30 f_X5_33 (by first | exact h0 | exact h1 | exact h2 | exact h3 | exact h5) rfl ?_
    refine v_icmp_ge 127 dX5_offsetAt_33 (fun h_33 => ?_) (fun h_33 => ?_)
    · refine v_iload_n dX5_offsetAt_127 rfl ?_
      exact v_iret dX5_offsetAt_128 rfl (by exact qi hQ (by rw [show r.toNat = i by omega, hab]))
    · refine v_iload dX5_offsetAt_36 rfl ?_
      refine v_iconst dX5_offsetAt_38 ?_
      refine v_isub dX5_offsetAt_39 ?_
      refine v_sipush dX5_offsetAt_40 ?_
      refine v_S2 (rm' := rJ9_max_7cf53) dX5_offsetAt_43 km_X5_63 ks_J9_max_7cf53 kz_J9 mk_J9_max_7cf53 rfl ⟨Nat.le_of_ble_eq_true rfl, Nat.le_of_ble_eq_true rfl⟩ ⟨Nat.le_of_ble_eq_true rfl, Nat.le_of_ble_eq_true rfl⟩ (Nat.le_of_ble_eq_true rfl) ?_
      refine s_J9_max_7cf53 hst (fun rmx emx => ?_)
      refine v_istore dX5_offsetAt_46 (by decide) ?_
      have hlo : ∃ S1 S2, rY L t ru y0 (i + 1) (L, bs) = (S1, S2) := ⟨_, _, rfl⟩
      obtain ⟨S1, S2, hS⟩ := hlo
      have hSr := rY_L (t := t) (y0 := y0) (b := bs) ⟨hc, hr, hgm, hmono, hf, hgo, hru⟩ (L := L) (by omega) (i + 1) (by omega)
      rw [hS] at hSr
      have hSr2 : -9223372036854775808 ≤ S1 ∧ S1 ≤ 9223372036854775807 := hSr
      have hE : V l G mX5_offsetAt rX5_offsetAt Q X 121 (lof [(0, .ref z), (1, .long (lI t)), (3, .int (iI (S2))), (4, .int (iI y0)), (5, .long (lI (S1))), (7, .int (iI ((i : Int))))]) [] (w) 0 0 := by
        refine v_iinc dX5_offsetAt_121 rfl ?_
        rw [show (i : Int) + 1 = ((i + 1 : Nat) : Int) by omega]
        refine v_goto 27 dX5_offsetAt_124 ?_
        (exfalso; omega)
      exact v_lof [(0, .ref z), (1, .long (lI t)), (3, .int (iI (b))), (4, .int (iI y0)), (5, .long (lI (a))), (7, .int (iI ((i : Int)))), (8, .int (iI (rmx)))] (List.forall_mem_cons.mpr ⟨rfl, (List.forall_mem_cons.mpr ⟨rfl, (List.forall_mem_cons.mpr ⟨rfl, (List.forall_mem_cons.mpr ⟨rfl, (List.forall_mem_cons.mpr ⟨rfl, (List.forall_mem_cons.mpr ⟨rfl, (List.forall_mem_cons.mpr ⟨rfl, (fun _ h => nomatch h)⟩)⟩)⟩)⟩)⟩)⟩)⟩) (oat_in hst h0 h1 h2 h3 h4 ⟨hc, hr, hgm, hmono, hf, hgo, hru⟩ ht hL hy0 (by omega) hE 20001 rmx a b (by omega) (by omega) har (by rw [iY_lo (by omega), ← hab]; exact hS))
  | succ N ih =>
    intro i hN hi a b hab har
    refine v_iload dX5_offsetAt_27 rfl ?_
    refine v_aload_n dX5_offsetAt_29 rfl ?_
    refine v_get dX5_offsetAt_30 f_X5_33 (by first | exact h0 | exact h1 | exact h2 | exact h3 | exact h5) rfl ?_
    refine v_icmp_ge 127 dX5_offsetAt_33 (fun h_33 => ?_) (fun h_33 => ?_)
    · refine v_iload_n dX5_offsetAt_127 rfl ?_
      exact v_iret dX5_offsetAt_128 rfl (by exact qi hQ (by rw [show r.toNat = i by omega, hab]))
    · refine v_iload dX5_offsetAt_36 rfl ?_
      refine v_iconst dX5_offsetAt_38 ?_
      refine v_isub dX5_offsetAt_39 ?_
      refine v_sipush dX5_offsetAt_40 ?_
      refine v_S2 (rm' := rJ9_max_7cf53) dX5_offsetAt_43 km_X5_63 ks_J9_max_7cf53 kz_J9 mk_J9_max_7cf53 rfl ⟨Nat.le_of_ble_eq_true rfl, Nat.le_of_ble_eq_true rfl⟩ ⟨Nat.le_of_ble_eq_true rfl, Nat.le_of_ble_eq_true rfl⟩ (Nat.le_of_ble_eq_true rfl) ?_
      refine s_J9_max_7cf53 hst (fun rmx emx => ?_)
      refine v_istore dX5_offsetAt_46 (by decide) ?_
      have hlo : ∃ S1 S2, rY L t ru y0 (i + 1) (L, bs) = (S1, S2) := ⟨_, _, rfl⟩
      obtain ⟨S1, S2, hS⟩ := hlo
      have hSr := rY_L (t := t) (y0 := y0) (b := bs) ⟨hc, hr, hgm, hmono, hf, hgo, hru⟩ (L := L) (by omega) (i + 1) (by omega)
      rw [hS] at hSr
      have hSr2 : -9223372036854775808 ≤ S1 ∧ S1 ≤ 9223372036854775807 := hSr
      have hE : V l G mX5_offsetAt rX5_offsetAt Q X 121 (lof [(0, .ref z), (1, .long (lI t)), (3, .int (iI (S2))), (4, .int (iI y0)), (5, .long (lI (S1))), (7, .int (iI ((i : Int))))]) [] (w) 0 0 := by
        refine v_iinc dX5_offsetAt_121 rfl ?_
        rw [show (i : Int) + 1 = ((i + 1 : Nat) : Int) by omega]
        refine v_goto 27 dX5_offsetAt_124 ?_
        exact v_lof [(0, .ref z), (1, .long (lI t)), (3, .int (iI (S2))), (4, .int (iI y0)), (5, .long (lI (S1))), (7, .int (iI (((i + 1 : Nat) : Int))))] (List.forall_mem_cons.mpr ⟨rfl, (List.forall_mem_cons.mpr ⟨rfl, (List.forall_mem_cons.mpr ⟨rfl, (List.forall_mem_cons.mpr ⟨rfl, (List.forall_mem_cons.mpr ⟨rfl, (List.forall_mem_cons.mpr ⟨rfl, (fun _ h => nomatch h)⟩)⟩)⟩)⟩)⟩)⟩) (ih (i + 1) (by omega) (by omega) S1 S2 hS hSr2)
      exact v_lof [(0, .ref z), (1, .long (lI t)), (3, .int (iI (b))), (4, .int (iI y0)), (5, .long (lI (a))), (7, .int (iI ((i : Int)))), (8, .int (iI (rmx)))] (List.forall_mem_cons.mpr ⟨rfl, (List.forall_mem_cons.mpr ⟨rfl, (List.forall_mem_cons.mpr ⟨rfl, (List.forall_mem_cons.mpr ⟨rfl, (List.forall_mem_cons.mpr ⟨rfl, (List.forall_mem_cons.mpr ⟨rfl, (List.forall_mem_cons.mpr ⟨rfl, (fun _ h => nomatch h)⟩)⟩)⟩)⟩)⟩)⟩)⟩) (oat_in hst h0 h1 h2 h3 h4 ⟨hc, hr, hgm, hmono, hf, hgo, hru⟩ ht hL hy0 (by omega) hE 20001 rmx a b (by omega) (by omega) har (by rw [iY_lo (by omega), ← hab]; exact hS))
set_option maxRecDepth 100000 in
set_option maxHeartbeats 4000000 in
theorem s_X5_offsetAt {l : Launch} {G : GG} {w : AH} {Q : Option Value → AH → Prop} {X : String → AH → Prop} (hst : l.stackTraces = false) {z am ao ar : Nat} {ra : Nat → Nat} {f c r : Int} {gm go : Nat → Int} {ru : Nat → Nat → Int} (h0 : w z = some (zoC f am ao c ar r)) (h1 : w am = some (alA G 8 gm)) (h2 : w ao = some (aiA G 8 go)) (h3 : w ar = some (arA G 6 2 (fun i => some (ra i)))) (h4 : ∀ k, k < 2 → w (ra k) = some (ruC (ru k 0) (ru k 1) (ru k 2) (ru k 3) (ru k 4))) (hZ : ZOK f c r gm go ru) {t : Int} (ht : -378000000000 ≤ t ∧ t ≤ 254000000000) (hQ : Q (some (.int (iI (oA f c r gm go ru t)))) w) : Ct l G mX5_offsetAt rX5_offsetAt [(.ref z), .long (lI t)] w Q X := by
  have hLr := lastC_rng (c := c) hZ.2.2.1
  have hyt := yr_t ht
  obtain ⟨hc, hr, hgm, hmono, hf, hgo, hru⟩ := hZ
  refine ct_of hst mk_X5_offsetAt (Nat.le_of_ble_eq_true rfl) ?_
  refine v_aload_n dX5_offsetAt_0 rfl ?_
  refine v_lload_n dX5_offsetAt_1 rfl ?_
  refine v_V1 (rm' := rX5_offsetByChanges) (RX5, TX5, 6) dX5_offsetAt_2 km_X5_46 kn_X5_offsetByChanges kv_X5_offsetByChanges kz_X5 mk_X5_offsetByChanges rfl rfl (by first | exact h0 | exact h1 | exact h2 | exact h3 | exact h5) ⟨Nat.le_of_ble_eq_true rfl, Nat.le_of_ble_eq_true rfl⟩ ⟨Nat.le_of_ble_eq_true rfl, Nat.le_of_ble_eq_true rfl⟩ (Nat.le_of_ble_eq_true rfl) ?_
  refine s_X5_offsetByChanges hst h0 h1 h2 hc hr (by omega) (fun k => by have := hgm k; omega) hmono ?_
  refine v_istore_n dX5_offsetAt_5 (by decide) ?_
  refine v_lload_n dX5_offsetAt_6 rfl ?_
  refine v_ldc2 (86400) dX5_offsetAt_7 kl_X5_50 ?_
  refine v_S2 (rm' := rJ9_floorDiv_f86c9) dX5_offsetAt_10 km_X5_52 ks_J9_floorDiv_f86c9 kz_J9 mk_J9_floorDiv_f86c9 rfl ⟨Nat.le_of_ble_eq_true rfl, Nat.le_of_ble_eq_true rfl⟩ ⟨Nat.le_of_ble_eq_true rfl, Nat.le_of_ble_eq_true rfl⟩ (Nat.le_of_ble_eq_true rfl) ?_
  refine s_J9_floorDiv_f86c9 hst ?_
  refine v_S1 (rm' := rX0_yearOfDay) dX5_offsetAt_13 km_X5_58 ks_X0_yearOfDay kz_X0 mk_X0_yearOfDay rfl ⟨Nat.le_of_ble_eq_true rfl, Nat.le_of_ble_eq_true rfl⟩ ⟨Nat.le_of_ble_eq_true rfl, Nat.le_of_ble_eq_true rfl⟩ (Nat.le_of_ble_eq_true rfl) ?_
  refine s_X0_yearOfDay hst ?_
  refine v_istore dX5_offsetAt_16 (by decide) ?_
  refine v_aload_n dX5_offsetAt_18 rfl ?_
  refine v_V0 (rm' := rX5_lastChange) (RX5, TX5, 6) dX5_offsetAt_19 km_X5_36 kn_X5_lastChange kv_X5_lastChange kz_X5 mk_X5_lastChange rfl rfl (by first | exact h0 | exact h1 | exact h2 | exact h3 | exact h5) ⟨Nat.le_of_ble_eq_true rfl, Nat.le_of_ble_eq_true rfl⟩ ⟨Nat.le_of_ble_eq_true rfl, Nat.le_of_ble_eq_true rfl⟩ (Nat.le_of_ble_eq_true rfl) ?_
  refine s_X5_lastChange hst h0 h1 hc hr ?_
  refine v_lstore dX5_offsetAt_22 (by decide) ?_
  refine v_iconst dX5_offsetAt_24 ?_
  refine v_istore dX5_offsetAt_25 (by decide) ?_
  exact v_lof [(0, .ref z), (1, .long (lI t)), (3, .int (iI (obc f gm go t c.toNat))), (4, .int (iI (yr (t / 86400)))), (5, .long (lI (lastC gm c))), (7, .int (iI (((0 : Nat) : Int))))] (List.forall_mem_cons.mpr ⟨rfl, (List.forall_mem_cons.mpr ⟨rfl, (List.forall_mem_cons.mpr ⟨rfl, (List.forall_mem_cons.mpr ⟨rfl, (List.forall_mem_cons.mpr ⟨rfl, (List.forall_mem_cons.mpr ⟨rfl, (fun _ h => nomatch h)⟩)⟩)⟩)⟩)⟩)⟩) (oat_out hst h0 h1 h2 h3 h4 ⟨hc, hr, hgm, hmono, hf, hgo, hru⟩ ht rfl hyt hQ 2 0 (by omega) (by omega) _ _ rfl (by omega))
