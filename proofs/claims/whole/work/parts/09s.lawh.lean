set_option maxRecDepth 100000 in
set_option maxHeartbeats 8000000 in
theorem lw_text {l : Launch} {G : GG} {Q : Option Value → AH → Prop} {X : String → AH → Prop} {B : Nat → Nat} {i : Int} {w : AH} {kc ks : Nat} (hst : l.stackTraces = false) (hB : iB B) (hi : 0 ≤ i ∧ i + 7 ≤ (G.scr.2.1 : Int)) (hL9 : G.scr.2.1 ≤ 448) (hk : kc ≤ 500000 ∧ ks ≤ 7000000) (h : SS G B w) (K : ∀ w' : AH, SS G B w' → V l G mL_law room_1 Q X 1530 (lof [(0, .ref G.scr.1), (1, .ref (B 0)), (2, .ref (B 39)), (3, .ref (B 50)), (4, .ref (B 51)), (5, .int (iI i))]) [] w' (kc + 8) (ks + 48)) : V l G mL_law room_1 Q X 1462 (lof [(0, .ref G.scr.1), (1, .ref (B 0)), (2, .ref (B 39)), (3, .ref (B 50)), (4, .ref (B 51)), (5, .int (iI i))]) [] w kc ks := by
  obtain ⟨th, gd, gn, L, gl, fz, cz, rz, gm, go, ru, vF, vC, vM, vO, vK, vR, hc, hm, ho, hd⟩ := h
  have hgd := hc.gdr
  have hgn := hc.gnr
  obtain ⟨a1, e1⟩ : ∃ a : Int, scI G (i + 1).toNat = a := ⟨_, rfl⟩
  have r1 : -2147483648 ≤ a1 ∧ a1 ≤ 2147483647 := e1 ▸ scI_r G _
  obtain ⟨a2, e2⟩ : ∃ a : Int, scI G (i + 2).toNat = a := ⟨_, rfl⟩
  have r2 : -2147483648 ≤ a2 ∧ a2 ≤ 2147483647 := e2 ▸ scI_r G _
  obtain ⟨y, m, d, hE1⟩ := hc.pick a1
  obtain ⟨⟨vo, o50⟩, vd, o51⟩ := id ho
  obtain ⟨gpp, ⟨np, l37⟩, l38⟩ := hc.2.2.1
  refine v_aload_n dL_law_1462 rfl ?_
  refine v_aload_n dL_law_1463 rfl ?_
  refine v_iload dL_law_1464 rfl ?_
  refine v_iconst dL_law_1466 ?_
  refine v_iadd dL_law_1467 ?_
  refine v_sldA (a := a1) dL_law_1468 e1 ?_
  refine v_aload_n dL_law_1469 rfl ?_
  refine v_iload dL_law_1470 rfl ?_
  refine v_iconst dL_law_1472 ?_
  refine v_iadd dL_law_1473 ?_
  refine v_sldA (a := a2) dL_law_1474 e2 ?_
  refine v_aload_n dL_law_1475 rfl ?_
  refine v_SW4 (rm' := rL_text) dL_law_1476 km_L_160 ks_L_text kz_L mk_L_text rfl ⟨Nat.le_of_ble_eq_true rfl, Nat.le_of_ble_eq_true rfl⟩ ⟨by show kc + 2 ≤ 600128; omega, by show ks + 12 ≤ 7301098; omega⟩ (Nat.le_of_ble_eq_true rfl) ?_
  refine s_L_text (sa := fun k => B (2 + k)) (s0 := (np, gpp)) hst o50 hc.1.1 hc.1.2.1 hc.sv r1 ?_ l37 l38 r2 ?_ ?_
  · intro g1
    have m1 := hm
    obtain ⟨yq, mq, dq, ap, wr, sz, gp, n0, n1, n2, nMA, n8, n9⟩ := id m1
    refine v_istore dL_law_1479 (by decide) ?_
    refine v_aload_n dL_law_1481 rfl ?_
    refine v_aload_n dL_law_1482 rfl ?_
    refine v_iload dL_law_1483 rfl ?_
    refine v_iconst dL_law_1485 ?_
    refine v_iadd dL_law_1486 ?_
    refine v_sldA (a := a1) dL_law_1487 e1 ?_
    refine v_aload_n dL_law_1488 rfl ?_
    refine v_iload dL_law_1489 rfl ?_
    refine v_iconst dL_law_1491 ?_
    refine v_iadd dL_law_1492 ?_
    refine v_sldA (a := a2) dL_law_1493 e2 ?_
    refine v_V2 (rm' := rX7_text) (RX7, TX7, 18) dL_law_1494 km_L_162 kn_X7_text kv_X7_text kz_X7 mk_X7_text rfl rfl (by exact n0) ⟨Nat.le_of_ble_eq_true rfl, Nat.le_of_ble_eq_true rfl⟩ ⟨by show kc + 2 + 0 ≤ 600128; omega, by show ks + 12 + 0 ≤ 7301098; omega⟩ (Nat.le_of_ble_eq_true rfl) ?_
    refine s_X7_text hst n0 n1 n2 (hA_of hB 0 1 (by omega) (by omega) (by omega)) hgd hgn n9 (hA_of hB 0 9 (by omega) (by omega) (by omega)) (hA_of hB 1 9 (by omega) (by omega) (by omega)) r1 r2 (hV_of hE1) ?_ ?_ ?_
    · intro v9 b1
      refine v_istore dL_law_1497 (by decide) ?_
      refine v_aload_n dL_law_1499 rfl ?_
      refine v_V0 (rm' := rX7_thrown) (RX7, TX7, 18) dL_law_1500 km_L_85 kn_X7_thrown kv_X7_thrown kz_X7 mk_X7_thrown rfl rfl (by exact aup_s) ⟨Nat.le_of_ble_eq_true rfl, Nat.le_of_ble_eq_true rfl⟩ ⟨by show kc + 2 + 0 + 0 ≤ 600128; omega, by show ks + 12 + 0 + 0 ≤ 7301098; omega⟩ (Nat.le_of_ble_eq_true rfl) ?_
      refine s_X7_thrown hst (aup_s) ?_
      refine v_iload dL_law_1503 rfl ?_
      refine v_icmp_eq 1510 dL_law_1505 (fun h9 => ?_) (fun h9 => ?_)
      rotate_left
      · (exfalso; omega)
      refine v_iload dL_law_1510 rfl ?_
      refine v_if_ne 1527 dL_law_1512 (fun h9 => ?_) (fun h9 => ?_)
      rotate_left
      · (exfalso; omega)
      refine v_goto 1530 dL_law_1527 ?_
      exact v_wid (kc' := kc + 8) (ks' := ks + 48) (by show kc + 2 + 0 + 0 ≤ kc + 8; omega) (by show ks + 12 + 0 + 0 ≤ ks + 48; omega) (v_lof [(0, .ref G.scr.1), (1, .ref (B 0)), (2, .ref (B 39)), (3, .ref (B 50)), (4, .ref (B 51)), (5, .int (iI i))] (List.forall_mem_cons.mpr ⟨rfl, (List.forall_mem_cons.mpr ⟨rfl, (List.forall_mem_cons.mpr ⟨rfl, (List.forall_mem_cons.mpr ⟨rfl, (List.forall_mem_cons.mpr ⟨rfl, (List.forall_mem_cons.mpr ⟨rfl, (fun _ h => nomatch h)⟩)⟩)⟩)⟩)⟩)⟩) (K _ (SS.of (hc.o hB ⟨by omega, by omega⟩) (m1.md hB) (ho.c hB (by omega)) hd)))
    · intro v9 b1 b2
      exfalso; first | omega | contradiction
    · intro b1 b2
      exfalso; first | omega | contradiction
  · intro g1 x1
    have m1 := hm
    obtain ⟨yq, mq, dq, ap, wr, sz, gp, n0, n1, n2, nMA, n8, n9⟩ := id m1
    refine v_istore dL_law_1479 (by decide) ?_
    refine v_aload_n dL_law_1481 rfl ?_
    refine v_aload_n dL_law_1482 rfl ?_
    refine v_iload dL_law_1483 rfl ?_
    refine v_iconst dL_law_1485 ?_
    refine v_iadd dL_law_1486 ?_
    refine v_sldA (a := a1) dL_law_1487 e1 ?_
    refine v_aload_n dL_law_1488 rfl ?_
    refine v_iload dL_law_1489 rfl ?_
    refine v_iconst dL_law_1491 ?_
    refine v_iadd dL_law_1492 ?_
    refine v_sldA (a := a2) dL_law_1493 e2 ?_
    refine v_V2 (rm' := rX7_text) (RX7, TX7, 18) dL_law_1494 km_L_162 kn_X7_text kv_X7_text kz_X7 mk_X7_text rfl rfl (by exact n0) ⟨Nat.le_of_ble_eq_true rfl, Nat.le_of_ble_eq_true rfl⟩ ⟨by show kc + 2 + 0 ≤ 600128; omega, by show ks + 12 + 0 ≤ 7301098; omega⟩ (Nat.le_of_ble_eq_true rfl) ?_
    refine s_X7_text hst n0 n1 n2 (hA_of hB 0 1 (by omega) (by omega) (by omega)) hgd hgn n9 (hA_of hB 0 9 (by omega) (by omega) (by omega)) (hA_of hB 1 9 (by omega) (by omega) (by omega)) r1 r2 (hV_of hE1) ?_ ?_ ?_
    · intro v9 b1
      exfalso; first | omega | contradiction
    · intro v9 b1 b2
      refine v_istore dL_law_1497 (by decide) ?_
      refine v_aload_n dL_law_1499 rfl ?_
      refine v_V0 (rm' := rX7_thrown) (RX7, TX7, 18) dL_law_1500 km_L_85 kn_X7_thrown kv_X7_thrown kz_X7 mk_X7_thrown rfl rfl (by exact aup_s) ⟨Nat.le_of_ble_eq_true rfl, Nat.le_of_ble_eq_true rfl⟩ ⟨by show kc + 2 + 0 + 0 ≤ 600128; omega, by show ks + 12 + 0 + 0 ≤ 7301098; omega⟩ (Nat.le_of_ble_eq_true rfl) ?_
      refine s_X7_thrown hst (aup_s) ?_
      refine v_iload dL_law_1503 rfl ?_
      refine v_icmp_eq 1510 dL_law_1505 (fun h9 => ?_) (fun h9 => ?_)
      rotate_left
      · (exfalso; omega)
      refine v_iload dL_law_1510 rfl ?_
      refine v_if_ne 1527 dL_law_1512 (fun h9 => ?_) (fun h9 => ?_)
      rotate_left
      · (exfalso; omega)
      refine v_goto 1530 dL_law_1527 ?_
      exact v_wid (kc' := kc + 8) (ks' := ks + 48) (by show kc + 2 + 0 + 0 ≤ kc + 8; omega) (by show ks + 12 + 0 + 0 ≤ ks + 48; omega) (v_lof [(0, .ref G.scr.1), (1, .ref (B 0)), (2, .ref (B 39)), (3, .ref (B 50)), (4, .ref (B 51)), (5, .int (iI i))] (List.forall_mem_cons.mpr ⟨rfl, (List.forall_mem_cons.mpr ⟨rfl, (List.forall_mem_cons.mpr ⟨rfl, (List.forall_mem_cons.mpr ⟨rfl, (List.forall_mem_cons.mpr ⟨rfl, (List.forall_mem_cons.mpr ⟨rfl, (fun _ h => nomatch h)⟩)⟩)⟩)⟩)⟩)⟩) (K _ (SS.of (hc.o hB ⟨by omega, by omega⟩) (m1.md hB) (ho.c hB (by omega)) hd)))
    · intro b1 b2
      exfalso; first | omega | contradiction
  · intro y9 m9 d9 n9 g1 g2 g3 g4 g5 g6 x1
    obtain ⟨rfl, rfl, rfl, rfl⟩ := pkE_eq g1 hE1 g2 g3 g4 g5 g6
    have m1 := ((hm.ph hB (s := tTxt y m d (gn a1.toNat) (0, gpp))).c hB (k := 50) (e := alA G 1 (gup vo 0 (if a2 < (tTxt y m d (gn a1.toNat) (0, gpp)).1 then (tTxt y m d (gn a1.toNat) (0, gpp)).2 a2.toNat else -1))) ⟨by omega, by omega⟩)
    obtain ⟨yq, mq, dq, ap, wr, sz, gp, n0, n1, n2, nMA, n8, n9⟩ := id m1
    refine v_istore dL_law_1479 (by decide) ?_
    refine v_aload_n dL_law_1481 rfl ?_
    refine v_aload_n dL_law_1482 rfl ?_
    refine v_iload dL_law_1483 rfl ?_
    refine v_iconst dL_law_1485 ?_
    refine v_iadd dL_law_1486 ?_
    refine v_sldA (a := a1) dL_law_1487 e1 ?_
    refine v_aload_n dL_law_1488 rfl ?_
    refine v_iload dL_law_1489 rfl ?_
    refine v_iconst dL_law_1491 ?_
    refine v_iadd dL_law_1492 ?_
    refine v_sldA (a := a2) dL_law_1493 e2 ?_
    refine v_V2 (rm' := rX7_text) (RX7, TX7, 18) dL_law_1494 km_L_162 kn_X7_text kv_X7_text kz_X7 mk_X7_text rfl rfl (by exact n0) ⟨Nat.le_of_ble_eq_true rfl, Nat.le_of_ble_eq_true rfl⟩ ⟨by show kc + 2 + 0 ≤ 600128; omega, by show ks + 12 + 0 ≤ 7301098; omega⟩ (Nat.le_of_ble_eq_true rfl) ?_
    refine s_X7_text hst n0 n1 n2 (hA_of hB 0 1 (by omega) (by omega) (by omega)) hgd hgn n9 (hA_of hB 0 9 (by omega) (by omega) (by omega)) (hA_of hB 1 9 (by omega) (by omega) (by omega)) r1 r2 (hV_of hE1) ?_ ?_ ?_
    · intro v9 b1
      exfalso; first | omega | contradiction
    · intro v9 b1 b2
      exfalso; first | omega | contradiction
    · intro b1 b2
      unfold NH
      have v8 := tTxt_val (y := y) (m := m) (d := d) (n := gn a1.toNat) (g := gp) b2
      refine v_istore dL_law_1497 (by decide) ?_
      refine v_aload_n dL_law_1499 rfl ?_
      refine v_V0 (rm' := rX7_thrown) (RX7, TX7, 18) dL_law_1500 km_L_85 kn_X7_thrown kv_X7_thrown kz_X7 mk_X7_thrown rfl rfl (by exact aup_s) ⟨Nat.le_of_ble_eq_true rfl, Nat.le_of_ble_eq_true rfl⟩ ⟨by show kc + 2 + 0 + 0 ≤ 600128; omega, by show ks + 12 + 0 + 0 ≤ 7301098; omega⟩ (Nat.le_of_ble_eq_true rfl) ?_
      refine s_X7_thrown hst (aup_s) ?_
      refine v_iload dL_law_1503 rfl ?_
      refine v_icmp_eq 1510 dL_law_1505 (fun h9 => ?_) (fun h9 => ?_)
      rotate_left
      · (exfalso; omega)
      refine v_iload dL_law_1510 rfl ?_
      refine v_if_ne 1527 dL_law_1512 (fun h9 => ?_) (fun h9 => ?_)
      · (exfalso; omega)
      refine v_aload_n dL_law_1515 rfl ?_
      refine v_iconst dL_law_1516 ?_
      refine v_laldX dL_law_1517 (by exact (kp hB (by omega) 50 (by omega) (by omega)).trans ((kp hB (by omega) 50 (by omega) (by omega)).trans aup_s)) (show _ = if a2 < (tTxt y m d (gn a1.toNat) (0, gp)).1 then (tTxt y m d (gn a1.toNat) (0, gp)).2 a2.toNat else -1 from gup_s.trans (tAg_v x1)) ?_
      refine v_iload dL_law_1518 rfl ?_
      refine v_i2l dL_law_1520 ?_
      refine v_lsame 1527 dL_law_1521 dL_law_1522 ?_
      refine v_goto 1530 dL_law_1527 ?_
      exact v_wid (kc' := kc + 8) (ks' := ks + 48) (by show kc + 2 + 0 + 0 ≤ kc + 8; omega) (by show ks + 12 + 0 + 0 ≤ ks + 48; omega) (v_lof [(0, .ref G.scr.1), (1, .ref (B 0)), (2, .ref (B 39)), (3, .ref (B 50)), (4, .ref (B 51)), (5, .int (iI i))] (List.forall_mem_cons.mpr ⟨rfl, (List.forall_mem_cons.mpr ⟨rfl, (List.forall_mem_cons.mpr ⟨rfl, (List.forall_mem_cons.mpr ⟨rfl, (List.forall_mem_cons.mpr ⟨rfl, (List.forall_mem_cons.mpr ⟨rfl, (fun _ h => nomatch h)⟩)⟩)⟩)⟩)⟩)⟩) (K _ (SS.of ((((hc.pg hB).o hB ⟨by omega, by omega⟩).o hB ⟨by omega, by omega⟩).o hB ⟨by omega, by omega⟩) ((m1.pg hB).md hB) ((((ho.ph hB).l hB).c hB (by omega)).c hB (by omega)) hd)))
