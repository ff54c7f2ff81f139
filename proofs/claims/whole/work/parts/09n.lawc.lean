set_option maxRecDepth 100000 in
set_option maxHeartbeats 8000000 in
theorem lw_until {l : Launch} {G : GG} {Q : Option Value → AH → Prop} {X : String → AH → Prop} {B : Nat → Nat} {i : Int} {w : AH} {kc ks : Nat} (hst : l.stackTraces = false) (hB : iB B) (hi : 0 ≤ i ∧ i + 7 ≤ (G.scr.2.1 : Int)) (hL9 : G.scr.2.1 ≤ 448) (hk : kc ≤ 500000 ∧ ks ≤ 7000000) (h : SS G B w) (K : ∀ w' : AH, SS G B w' → V l G mL_law room_1 Q X 1530 (lof [(0, .ref G.scr.1), (1, .ref (B 0)), (2, .ref (B 39)), (3, .ref (B 50)), (4, .ref (B 51)), (5, .int (iI i))]) [] w' (kc + 8) (ks + 48)) : V l G mL_law room_1 Q X 543 (lof [(0, .ref G.scr.1), (1, .ref (B 0)), (2, .ref (B 39)), (3, .ref (B 50)), (4, .ref (B 51)), (5, .int (iI i))]) [] w kc ks := by
  obtain ⟨th, gd, gn, L, gl, fz, cz, rz, gm, go, ru, vF, vC, vM, vO, vK, vR, hc, hm, ho, hd⟩ := h
  have hgd := hc.gdr
  have hgn := hc.gnr
  obtain ⟨a1, e1⟩ : ∃ a : Int, scI G (i + 1).toNat = a := ⟨_, rfl⟩
  have r1 : -2147483648 ≤ a1 ∧ a1 ≤ 2147483647 := e1 ▸ scI_r G _
  obtain ⟨a2, e2⟩ : ∃ a : Int, scI G (i + 2).toNat = a := ⟨_, rfl⟩
  have r2 : -2147483648 ≤ a2 ∧ a2 ≤ 2147483647 := e2 ▸ scI_r G _
  obtain ⟨a3, e3⟩ : ∃ a : Int, scI G (i + 3).toNat = a := ⟨_, rfl⟩
  have r3 : -2147483648 ≤ a3 ∧ a3 ≤ 2147483647 := e3 ▸ scI_r G _
  obtain ⟨y, m, d, hE1⟩ := hc.pick a1
  obtain ⟨y2, m2, d2, hE2⟩ := hc.pick a2
  obtain ⟨⟨vo, o50⟩, vd, o51⟩ := id ho
  refine v_aload_n dL_law_543 rfl ?_
  refine v_aload_n dL_law_544 rfl ?_
  refine v_iload dL_law_545 rfl ?_
  refine v_iconst dL_law_547 ?_
  refine v_iadd dL_law_548 ?_
  refine v_sldA (a := a1) dL_law_549 e1 ?_
  refine v_aload_n dL_law_550 rfl ?_
  refine v_iload dL_law_551 rfl ?_
  refine v_iconst dL_law_553 ?_
  refine v_iadd dL_law_554 ?_
  refine v_sldA (a := a2) dL_law_555 e2 ?_
  refine v_aload_n dL_law_556 rfl ?_
  refine v_iload dL_law_557 rfl ?_
  refine v_iconst dL_law_559 ?_
  refine v_iadd dL_law_560 ?_
  refine v_sldA (a := a3) dL_law_561 e3 ?_
  refine v_aload_n dL_law_562 rfl ?_
  refine v_SW5 (rm' := rL_until) dL_law_563 km_L_107 ks_L_until kz_L mk_L_until rfl ⟨Nat.le_of_ble_eq_true rfl, Nat.le_of_ble_eq_true rfl⟩ ⟨by show kc + 4 ≤ 600128; omega, by show ks + 24 ≤ 7301098; omega⟩ (Nat.le_of_ble_eq_true rfl) ?_
  refine s_L_until (sa := fun k => B (2 + k)) hst o50 hc.1.1 hc.1.2.1 hc.sv r1 ?_ r2 ?_ r3 ?_ ?_ ?_ ?_ ?_
  · intro g1
    have m1 := hm
    obtain ⟨yq, mq, dq, ap, wr, sz, gp, n0, n1, n2, nMA, n8, n9⟩ := id m1
    refine v_istore dL_law_566 (by decide) ?_
    refine v_aload_n dL_law_568 rfl ?_
    refine v_aload_n dL_law_569 rfl ?_
    refine v_iload dL_law_570 rfl ?_
    refine v_iconst dL_law_572 ?_
    refine v_iadd dL_law_573 ?_
    refine v_sldA (a := a1) dL_law_574 e1 ?_
    refine v_aload_n dL_law_575 rfl ?_
    refine v_iload dL_law_576 rfl ?_
    refine v_iconst dL_law_578 ?_
    refine v_iadd dL_law_579 ?_
    refine v_sldA (a := a2) dL_law_580 e2 ?_
    refine v_aload_n dL_law_581 rfl ?_
    refine v_iload dL_law_582 rfl ?_
    refine v_iconst dL_law_584 ?_
    refine v_iadd dL_law_585 ?_
    refine v_sldA (a := a3) dL_law_586 e3 ?_
    refine v_V3 (rm' := rX7_until) (RX7, TX7, 18) dL_law_587 km_L_110 kn_X7_until kv_X7_until kz_X7 mk_X7_until rfl rfl (by exact n0) ⟨Nat.le_of_ble_eq_true rfl, Nat.le_of_ble_eq_true rfl⟩ ⟨by show kc + 4 + 0 ≤ 600128; omega, by show ks + 24 + 0 ≤ 7301098; omega⟩ (Nat.le_of_ble_eq_true rfl) ?_
    refine s_X7_until hst n0 n1 n2 (hA_of hB 0 1 (by omega) (by omega) (by omega)) hgd hgn r1 r2 r3 (hV_of hE1) (hV_of hE2) ?_ ?_ ?_ ?_ ?_ ?_ ?_
    · intro v9 b1
      refine v_lstore dL_law_590 (by decide) ?_
      refine v_aload_n dL_law_592 rfl ?_
      refine v_V0 (rm' := rX7_thrown) (RX7, TX7, 18) dL_law_593 km_L_85 kn_X7_thrown kv_X7_thrown kz_X7 mk_X7_thrown rfl rfl (by exact aup_s) ⟨Nat.le_of_ble_eq_true rfl, Nat.le_of_ble_eq_true rfl⟩ ⟨by show kc + 4 + 0 + 0 ≤ 600128; omega, by show ks + 24 + 0 + 0 ≤ 7301098; omega⟩ (Nat.le_of_ble_eq_true rfl) ?_
      refine s_X7_thrown hst (aup_s) ?_
      refine v_iload dL_law_596 rfl ?_
      refine v_icmp_eq 603 dL_law_598 (fun h9 => ?_) (fun h9 => ?_)
      rotate_left
      · (exfalso; omega)
      refine v_iload dL_law_603 rfl ?_
      refine v_if_ne 619 dL_law_605 (fun h9 => ?_) (fun h9 => ?_)
      rotate_left
      · (exfalso; omega)
      refine v_goto 1530 dL_law_619 ?_
      exact v_wid (kc' := kc + 8) (ks' := ks + 48) (by show kc + 4 + 0 + 0 ≤ kc + 8; omega) (by show ks + 24 + 0 + 0 ≤ ks + 48; omega) (v_lof [(0, .ref G.scr.1), (1, .ref (B 0)), (2, .ref (B 39)), (3, .ref (B 50)), (4, .ref (B 51)), (5, .int (iI i))] (List.forall_mem_cons.mpr ⟨rfl, (List.forall_mem_cons.mpr ⟨rfl, (List.forall_mem_cons.mpr ⟨rfl, (List.forall_mem_cons.mpr ⟨rfl, (List.forall_mem_cons.mpr ⟨rfl, (List.forall_mem_cons.mpr ⟨rfl, (fun _ h => nomatch h)⟩)⟩)⟩)⟩)⟩)⟩) (K _ (SS.of (hc.o hB ⟨by omega, by omega⟩) (m1.md hB) (ho.c hB (by omega)) hd)))
    · intro v9 b1 b2 b3
      exfalso; first | omega | contradiction
    · intro q1 q2 q3 b1 b2 b3 M8 r8 b4 b5
      exfalso; first | omega | contradiction
    · intro b1 b2 b3 D8 r8 b4 b5
      exfalso; first | omega | contradiction
    · intro b1 b2 b3 D8 b4
      exfalso; first | omega | contradiction
    · intro v9 b1 b2 b3 D8 R8 b4 b5 b6
      exfalso; first | omega | contradiction
    · intro b1 b2 b3 D8 R8 r8 b4 b5 b6 b7
      exfalso; first | omega | contradiction
  · intro g1 g2
    have m1 := hm
    obtain ⟨yq, mq, dq, ap, wr, sz, gp, n0, n1, n2, nMA, n8, n9⟩ := id m1
    refine v_istore dL_law_566 (by decide) ?_
    refine v_aload_n dL_law_568 rfl ?_
    refine v_aload_n dL_law_569 rfl ?_
    refine v_iload dL_law_570 rfl ?_
    refine v_iconst dL_law_572 ?_
    refine v_iadd dL_law_573 ?_
    refine v_sldA (a := a1) dL_law_574 e1 ?_
    refine v_aload_n dL_law_575 rfl ?_
    refine v_iload dL_law_576 rfl ?_
    refine v_iconst dL_law_578 ?_
    refine v_iadd dL_law_579 ?_
    refine v_sldA (a := a2) dL_law_580 e2 ?_
    refine v_aload_n dL_law_581 rfl ?_
    refine v_iload dL_law_582 rfl ?_
    refine v_iconst dL_law_584 ?_
    refine v_iadd dL_law_585 ?_
    refine v_sldA (a := a3) dL_law_586 e3 ?_
    refine v_V3 (rm' := rX7_until) (RX7, TX7, 18) dL_law_587 km_L_110 kn_X7_until kv_X7_until kz_X7 mk_X7_until rfl rfl (by exact n0) ⟨Nat.le_of_ble_eq_true rfl, Nat.le_of_ble_eq_true rfl⟩ ⟨by show kc + 4 + 0 ≤ 600128; omega, by show ks + 24 + 0 ≤ 7301098; omega⟩ (Nat.le_of_ble_eq_true rfl) ?_
    refine s_X7_until hst n0 n1 n2 (hA_of hB 0 1 (by omega) (by omega) (by omega)) hgd hgn r1 r2 r3 (hV_of hE1) (hV_of hE2) ?_ ?_ ?_ ?_ ?_ ?_ ?_
    · intro v9 b1
      refine v_lstore dL_law_590 (by decide) ?_
      refine v_aload_n dL_law_592 rfl ?_
      refine v_V0 (rm' := rX7_thrown) (RX7, TX7, 18) dL_law_593 km_L_85 kn_X7_thrown kv_X7_thrown kz_X7 mk_X7_thrown rfl rfl (by exact aup_s) ⟨Nat.le_of_ble_eq_true rfl, Nat.le_of_ble_eq_true rfl⟩ ⟨by show kc + 4 + 0 + 0 ≤ 600128; omega, by show ks + 24 + 0 + 0 ≤ 7301098; omega⟩ (Nat.le_of_ble_eq_true rfl) ?_
      refine s_X7_thrown hst (aup_s) ?_
      refine v_iload dL_law_596 rfl ?_
      refine v_icmp_eq 603 dL_law_598 (fun h9 => ?_) (fun h9 => ?_)
      rotate_left
      · (exfalso; omega)
      refine v_iload dL_law_603 rfl ?_
      refine v_if_ne 619 dL_law_605 (fun h9 => ?_) (fun h9 => ?_)
      rotate_left
      · (exfalso; omega)
      refine v_goto 1530 dL_law_619 ?_
      exact v_wid (kc' := kc + 8) (ks' := ks + 48) (by show kc + 4 + 0 + 0 ≤ kc + 8; omega) (by show ks + 24 + 0 + 0 ≤ ks + 48; omega) (v_lof [(0, .ref G.scr.1), (1, .ref (B 0)), (2, .ref (B 39)), (3, .ref (B 50)), (4, .ref (B 51)), (5, .int (iI i))] (List.forall_mem_cons.mpr ⟨rfl, (List.forall_mem_cons.mpr ⟨rfl, (List.forall_mem_cons.mpr ⟨rfl, (List.forall_mem_cons.mpr ⟨rfl, (List.forall_mem_cons.mpr ⟨rfl, (List.forall_mem_cons.mpr ⟨rfl, (fun _ h => nomatch h)⟩)⟩)⟩)⟩)⟩)⟩) (K _ (SS.of (hc.o hB ⟨by omega, by omega⟩) (m1.md hB) (ho.c hB (by omega)) hd)))
    · intro v9 b1 b2 b3
      exfalso; first | omega | contradiction
    · intro q1 q2 q3 b1 b2 b3 M8 r8 b4 b5
      exfalso; first | omega | contradiction
    · intro b1 b2 b3 D8 r8 b4 b5
      exfalso; first | omega | contradiction
    · intro b1 b2 b3 D8 b4
      exfalso; first | omega | contradiction
    · intro v9 b1 b2 b3 D8 R8 b4 b5 b6
      exfalso; first | omega | contradiction
    · intro b1 b2 b3 D8 R8 r8 b4 b5 b6 b7
      exfalso; first | omega | contradiction
  · intro g1 g2 x1
    have m1 := hm
    obtain ⟨yq, mq, dq, ap, wr, sz, gp, n0, n1, n2, nMA, n8, n9⟩ := id m1
    refine v_istore dL_law_566 (by decide) ?_
    refine v_aload_n dL_law_568 rfl ?_
    refine v_aload_n dL_law_569 rfl ?_
    refine v_iload dL_law_570 rfl ?_
    refine v_iconst dL_law_572 ?_
    refine v_iadd dL_law_573 ?_
    refine v_sldA (a := a1) dL_law_574 e1 ?_
    refine v_aload_n dL_law_575 rfl ?_
    refine v_iload dL_law_576 rfl ?_
    refine v_iconst dL_law_578 ?_
    refine v_iadd dL_law_579 ?_
    refine v_sldA (a := a2) dL_law_580 e2 ?_
    refine v_aload_n dL_law_581 rfl ?_
    refine v_iload dL_law_582 rfl ?_
    refine v_iconst dL_law_584 ?_
    refine v_iadd dL_law_585 ?_
    refine v_sldA (a := a3) dL_law_586 e3 ?_
    refine v_V3 (rm' := rX7_until) (RX7, TX7, 18) dL_law_587 km_L_110 kn_X7_until kv_X7_until kz_X7 mk_X7_until rfl rfl (by exact n0) ⟨Nat.le_of_ble_eq_true rfl, Nat.le_of_ble_eq_true rfl⟩ ⟨by show kc + 4 + 0 ≤ 600128; omega, by show ks + 24 + 0 ≤ 7301098; omega⟩ (Nat.le_of_ble_eq_true rfl) ?_
    refine s_X7_until hst n0 n1 n2 (hA_of hB 0 1 (by omega) (by omega) (by omega)) hgd hgn r1 r2 r3 (hV_of hE1) (hV_of hE2) ?_ ?_ ?_ ?_ ?_ ?_ ?_
    · intro v9 b1
      exfalso; first | omega | contradiction
    · intro v9 b1 b2 b3
      refine v_lstore dL_law_590 (by decide) ?_
      refine v_aload_n dL_law_592 rfl ?_
      refine v_V0 (rm' := rX7_thrown) (RX7, TX7, 18) dL_law_593 km_L_85 kn_X7_thrown kv_X7_thrown kz_X7 mk_X7_thrown rfl rfl (by exact aup_s) ⟨Nat.le_of_ble_eq_true rfl, Nat.le_of_ble_eq_true rfl⟩ ⟨by show kc + 4 + 0 + 0 ≤ 600128; omega, by show ks + 24 + 0 + 0 ≤ 7301098; omega⟩ (Nat.le_of_ble_eq_true rfl) ?_
      refine s_X7_thrown hst (aup_s) ?_
      refine v_iload dL_law_596 rfl ?_
      refine v_icmp_eq 603 dL_law_598 (fun h9 => ?_) (fun h9 => ?_)
      rotate_left
      · (exfalso; omega)
      refine v_iload dL_law_603 rfl ?_
      refine v_if_ne 619 dL_law_605 (fun h9 => ?_) (fun h9 => ?_)
      rotate_left
      · (exfalso; omega)
      refine v_goto 1530 dL_law_619 ?_
      exact v_wid (kc' := kc + 8) (ks' := ks + 48) (by show kc + 4 + 0 + 0 ≤ kc + 8; omega) (by show ks + 24 + 0 + 0 ≤ ks + 48; omega) (v_lof [(0, .ref G.scr.1), (1, .ref (B 0)), (2, .ref (B 39)), (3, .ref (B 50)), (4, .ref (B 51)), (5, .int (iI i))] (List.forall_mem_cons.mpr ⟨rfl, (List.forall_mem_cons.mpr ⟨rfl, (List.forall_mem_cons.mpr ⟨rfl, (List.forall_mem_cons.mpr ⟨rfl, (List.forall_mem_cons.mpr ⟨rfl, (List.forall_mem_cons.mpr ⟨rfl, (fun _ h => nomatch h)⟩)⟩)⟩)⟩)⟩)⟩) (K _ (SS.of (hc.o hB ⟨by omega, by omega⟩) (m1.md hB) (ho.c hB (by omega)) hd)))
    · intro q1 q2 q3 b1 b2 b3 M8 r8 b4 b5
      exfalso; first | omega | contradiction
    · intro b1 b2 b3 D8 r8 b4 b5
      exfalso; first | omega | contradiction
    · intro b1 b2 b3 D8 b4
      exfalso; first | omega | contradiction
    · intro v9 b1 b2 b3 D8 R8 b4 b5 b6
      exfalso; first | omega | contradiction
    · intro b1 b2 b3 D8 R8 r8 b4 b5 b6 b7
      exfalso; first | omega | contradiction
  · intro y9 m9 d9 n9 g1 g2 g3 g4 g5 g6 y8 m8 d8 n8 k1 k2 k3 k4 k5 k6 x1 M9 r9 x2 x3
    obtain ⟨rfl, rfl, rfl, rfl⟩ := pkE_eq g1 hE1 g2 g3 g4 g5 g6
    obtain ⟨rfl, rfl, rfl, rfl⟩ := pkE_eq k1 hE2 k2 k3 k4 k5 k6
    have m1 := (hm.c hB (k := 50) (e := alA G 1 (gup vo 0 (r9))) ⟨by omega, by omega⟩)
    obtain ⟨yq, mq, dq, ap, wr, sz, gp, n0, n1, n2, nMA, n8, n9⟩ := id m1
    refine v_istore dL_law_566 (by decide) ?_
    refine v_aload_n dL_law_568 rfl ?_
    refine v_aload_n dL_law_569 rfl ?_
    refine v_iload dL_law_570 rfl ?_
    refine v_iconst dL_law_572 ?_
    refine v_iadd dL_law_573 ?_
    refine v_sldA (a := a1) dL_law_574 e1 ?_
    refine v_aload_n dL_law_575 rfl ?_
    refine v_iload dL_law_576 rfl ?_
    refine v_iconst dL_law_578 ?_
    refine v_iadd dL_law_579 ?_
    refine v_sldA (a := a2) dL_law_580 e2 ?_
    refine v_aload_n dL_law_581 rfl ?_
    refine v_iload dL_law_582 rfl ?_
    refine v_iconst dL_law_584 ?_
    refine v_iadd dL_law_585 ?_
    refine v_sldA (a := a3) dL_law_586 e3 ?_
    refine v_V3 (rm' := rX7_until) (RX7, TX7, 18) dL_law_587 km_L_110 kn_X7_until kv_X7_until kz_X7 mk_X7_until rfl rfl (by exact n0) ⟨Nat.le_of_ble_eq_true rfl, Nat.le_of_ble_eq_true rfl⟩ ⟨by show kc + 4 + 0 ≤ 600128; omega, by show ks + 24 + 0 ≤ 7301098; omega⟩ (Nat.le_of_ble_eq_true rfl) ?_
    refine s_X7_until hst n0 n1 n2 (hA_of hB 0 1 (by omega) (by omega) (by omega)) hgd hgn r1 r2 r3 (hV_of hE1) (hV_of hE2) ?_ ?_ ?_ ?_ ?_ ?_ ?_
    · intro v9 b1
      exfalso; first | omega | contradiction
    · intro v9 b1 b2 b3
      exfalso; first | omega | contradiction
    · intro q1 q2 q3 b1 b2 b3 M8 r8 b4 b5
      have e9 := monE_u x2 b4
      subst e9
      have e8 := tq_u x3 b5
      subst e8
      refine v_lstore dL_law_590 (by decide) ?_
      refine v_aload_n dL_law_592 rfl ?_
      refine v_V0 (rm' := rX7_thrown) (RX7, TX7, 18) dL_law_593 km_L_85 kn_X7_thrown kv_X7_thrown kz_X7 mk_X7_thrown rfl rfl (by exact aup_s) ⟨Nat.le_of_ble_eq_true rfl, Nat.le_of_ble_eq_true rfl⟩ ⟨by show kc + 4 + 0 + 0 ≤ 600128; omega, by show ks + 24 + 0 + 0 ≤ 7301098; omega⟩ (Nat.le_of_ble_eq_true rfl) ?_
      refine s_X7_thrown hst (aup_s) ?_
      refine v_iload dL_law_596 rfl ?_
      refine v_icmp_eq 603 dL_law_598 (fun h9 => ?_) (fun h9 => ?_)
      rotate_left
      · (exfalso; omega)
      refine v_iload dL_law_603 rfl ?_
      refine v_if_ne 619 dL_law_605 (fun h9 => ?_) (fun h9 => ?_)
      · (exfalso; omega)
      refine v_aload_n dL_law_608 rfl ?_
      refine v_iconst dL_law_609 ?_
      refine v_laldX dL_law_610 (by exact (kp hB (by omega) 50 (by omega) (by omega)).trans aup_s) (show _ = r9 from gup_s) ?_
      refine v_lload dL_law_611 rfl ?_
      refine v_lsame 619 dL_law_613 dL_law_614 ?_
      refine v_goto 1530 dL_law_619 ?_
      exact v_wid (kc' := kc + 8) (ks' := ks + 48) (by show kc + 4 + 0 + 0 ≤ kc + 8; omega) (by show ks + 24 + 0 + 0 ≤ ks + 48; omega) (v_lof [(0, .ref G.scr.1), (1, .ref (B 0)), (2, .ref (B 39)), (3, .ref (B 50)), (4, .ref (B 51)), (5, .int (iI i))] (List.forall_mem_cons.mpr ⟨rfl, (List.forall_mem_cons.mpr ⟨rfl, (List.forall_mem_cons.mpr ⟨rfl, (List.forall_mem_cons.mpr ⟨rfl, (List.forall_mem_cons.mpr ⟨rfl, (List.forall_mem_cons.mpr ⟨rfl, (fun _ h => nomatch h)⟩)⟩)⟩)⟩)⟩)⟩) (K _ (SS.of ((hc.o hB ⟨by omega, by omega⟩).o hB ⟨by omega, by omega⟩) (m1.md hB) ((ho.l hB).c hB (by omega)) hd)))
    · intro b1 b2 b3 D8 r8 b4 b5
      exfalso; first | omega | contradiction
    · intro b1 b2 b3 D8 b4
      exfalso; first | omega | contradiction
    · intro v9 b1 b2 b3 D8 R8 b4 b5 b6
      exfalso; first | omega | contradiction
    · intro b1 b2 b3 D8 R8 r8 b4 b5 b6 b7
      exfalso; first | omega | contradiction
  · intro y9 m9 d9 n9 g1 g2 g3 g4 g5 g6 y8 m8 d8 n8 k1 k2 k3 k4 k5 k6 x1 D9 r9 x2 x3
    obtain ⟨rfl, rfl, rfl, rfl⟩ := pkE_eq g1 hE1 g2 g3 g4 g5 g6
    obtain ⟨rfl, rfl, rfl, rfl⟩ := pkE_eq k1 hE2 k2 k3 k4 k5 k6
    have m1 := (hm.c hB (k := 50) (e := alA G 1 (gup vo 0 (r9))) ⟨by omega, by omega⟩)
    obtain ⟨yq, mq, dq, ap, wr, sz, gp, n0, n1, n2, nMA, n8, n9⟩ := id m1
    refine v_istore dL_law_566 (by decide) ?_
    refine v_aload_n dL_law_568 rfl ?_
    refine v_aload_n dL_law_569 rfl ?_
    refine v_iload dL_law_570 rfl ?_
    refine v_iconst dL_law_572 ?_
    refine v_iadd dL_law_573 ?_
    refine v_sldA (a := a1) dL_law_574 e1 ?_
    refine v_aload_n dL_law_575 rfl ?_
    refine v_iload dL_law_576 rfl ?_
    refine v_iconst dL_law_578 ?_
    refine v_iadd dL_law_579 ?_
    refine v_sldA (a := a2) dL_law_580 e2 ?_
    refine v_aload_n dL_law_581 rfl ?_
    refine v_iload dL_law_582 rfl ?_
    refine v_iconst dL_law_584 ?_
    refine v_iadd dL_law_585 ?_
    refine v_sldA (a := a3) dL_law_586 e3 ?_
    refine v_V3 (rm' := rX7_until) (RX7, TX7, 18) dL_law_587 km_L_110 kn_X7_until kv_X7_until kz_X7 mk_X7_until rfl rfl (by exact n0) ⟨Nat.le_of_ble_eq_true rfl, Nat.le_of_ble_eq_true rfl⟩ ⟨by show kc + 4 + 0 ≤ 600128; omega, by show ks + 24 + 0 ≤ 7301098; omega⟩ (Nat.le_of_ble_eq_true rfl) ?_
    refine s_X7_until hst n0 n1 n2 (hA_of hB 0 1 (by omega) (by omega) (by omega)) hgd hgn r1 r2 r3 (hV_of hE1) (hV_of hE2) ?_ ?_ ?_ ?_ ?_ ?_ ?_
    · intro v9 b1
      exfalso; first | omega | contradiction
    · intro v9 b1 b2 b3
      exfalso; first | omega | contradiction
    · intro q1 q2 q3 b1 b2 b3 M8 r8 b4 b5
      exfalso; first | omega | contradiction
    · intro b1 b2 b3 D8 r8 b4 b5
      have e9 := dayE_u x2 b4
      subst e9
      have e8 := tq_u x3 b5
      subst e8
      refine v_lstore dL_law_590 (by decide) ?_
      refine v_aload_n dL_law_592 rfl ?_
      refine v_V0 (rm' := rX7_thrown) (RX7, TX7, 18) dL_law_593 km_L_85 kn_X7_thrown kv_X7_thrown kz_X7 mk_X7_thrown rfl rfl (by exact aup_s) ⟨Nat.le_of_ble_eq_true rfl, Nat.le_of_ble_eq_true rfl⟩ ⟨by show kc + 4 + 0 + 0 ≤ 600128; omega, by show ks + 24 + 0 + 0 ≤ 7301098; omega⟩ (Nat.le_of_ble_eq_true rfl) ?_
      refine s_X7_thrown hst (aup_s) ?_
      refine v_iload dL_law_596 rfl ?_
      refine v_icmp_eq 603 dL_law_598 (fun h9 => ?_) (fun h9 => ?_)
      rotate_left
      · (exfalso; omega)
      refine v_iload dL_law_603 rfl ?_
      refine v_if_ne 619 dL_law_605 (fun h9 => ?_) (fun h9 => ?_)
      · (exfalso; omega)
      refine v_aload_n dL_law_608 rfl ?_
      refine v_iconst dL_law_609 ?_
      refine v_laldX dL_law_610 (by exact (kp hB (by omega) 50 (by omega) (by omega)).trans aup_s) (show _ = r9 from gup_s) ?_
      refine v_lload dL_law_611 rfl ?_
      refine v_lsame 619 dL_law_613 dL_law_614 ?_
      refine v_goto 1530 dL_law_619 ?_
      exact v_wid (kc' := kc + 8) (ks' := ks + 48) (by show kc + 4 + 0 + 0 ≤ kc + 8; omega) (by show ks + 24 + 0 + 0 ≤ ks + 48; omega) (v_lof [(0, .ref G.scr.1), (1, .ref (B 0)), (2, .ref (B 39)), (3, .ref (B 50)), (4, .ref (B 51)), (5, .int (iI i))] (List.forall_mem_cons.mpr ⟨rfl, (List.forall_mem_cons.mpr ⟨rfl, (List.forall_mem_cons.mpr ⟨rfl, (List.forall_mem_cons.mpr ⟨rfl, (List.forall_mem_cons.mpr ⟨rfl, (List.forall_mem_cons.mpr ⟨rfl, (fun _ h => nomatch h)⟩)⟩)⟩)⟩)⟩)⟩) (K _ (SS.of ((hc.o hB ⟨by omega, by omega⟩).o hB ⟨by omega, by omega⟩) (m1.md hB) ((ho.l hB).c hB (by omega)) hd)))
    · intro b1 b2 b3 D8 b4
      exfalso; first | omega | contradiction
    · intro v9 b1 b2 b3 D8 R8 b4 b5 b6
      exfalso; first | omega | contradiction
    · intro b1 b2 b3 D8 R8 r8 b4 b5 b6 b7
      exfalso; first | omega | contradiction
  · intro y9 m9 d9 n9 g1 g2 g3 g4 g5 g6 y8 m8 d8 n8 k1 k2 k3 k4 k5 k6 x1 D9 R9 x2 x3 x4
    obtain ⟨rfl, rfl, rfl, rfl⟩ := pkE_eq g1 hE1 g2 g3 g4 g5 g6
    obtain ⟨rfl, rfl, rfl, rfl⟩ := pkE_eq k1 hE2 k2 k3 k4 k5 k6
    have m1 := hm
    obtain ⟨yq, mq, dq, ap, wr, sz, gp, n0, n1, n2, nMA, n8, n9⟩ := id m1
    refine v_istore dL_law_566 (by decide) ?_
    refine v_aload_n dL_law_568 rfl ?_
    refine v_aload_n dL_law_569 rfl ?_
    refine v_iload dL_law_570 rfl ?_
    refine v_iconst dL_law_572 ?_
    refine v_iadd dL_law_573 ?_
    refine v_sldA (a := a1) dL_law_574 e1 ?_
    refine v_aload_n dL_law_575 rfl ?_
    refine v_iload dL_law_576 rfl ?_
    refine v_iconst dL_law_578 ?_
    refine v_iadd dL_law_579 ?_
    refine v_sldA (a := a2) dL_law_580 e2 ?_
    refine v_aload_n dL_law_581 rfl ?_
    refine v_iload dL_law_582 rfl ?_
    refine v_iconst dL_law_584 ?_
    refine v_iadd dL_law_585 ?_
    refine v_sldA (a := a3) dL_law_586 e3 ?_
    refine v_V3 (rm' := rX7_until) (RX7, TX7, 18) dL_law_587 km_L_110 kn_X7_until kv_X7_until kz_X7 mk_X7_until rfl rfl (by exact n0) ⟨Nat.le_of_ble_eq_true rfl, Nat.le_of_ble_eq_true rfl⟩ ⟨by show kc + 4 + 0 ≤ 600128; omega, by show ks + 24 + 0 ≤ 7301098; omega⟩ (Nat.le_of_ble_eq_true rfl) ?_
    refine s_X7_until hst n0 n1 n2 (hA_of hB 0 1 (by omega) (by omega) (by omega)) hgd hgn r1 r2 r3 (hV_of hE1) (hV_of hE2) ?_ ?_ ?_ ?_ ?_ ?_ ?_
    · intro v9 b1
      exfalso; first | omega | contradiction
    · intro v9 b1 b2 b3
      exfalso; first | omega | contradiction
    · intro q1 q2 q3 b1 b2 b3 M8 r8 b4 b5
      exfalso; first | omega | contradiction
    · intro b1 b2 b3 D8 r8 b4 b5
      exfalso; first | omega | contradiction
    · intro b1 b2 b3 D8 b4
      exfalso; first | omega | contradiction
    · intro v9 b1 b2 b3 D8 R8 b4 b5 b6
      refine v_lstore dL_law_590 (by decide) ?_
      refine v_aload_n dL_law_592 rfl ?_
      refine v_V0 (rm' := rX7_thrown) (RX7, TX7, 18) dL_law_593 km_L_85 kn_X7_thrown kv_X7_thrown kz_X7 mk_X7_thrown rfl rfl (by exact aup_s) ⟨Nat.le_of_ble_eq_true rfl, Nat.le_of_ble_eq_true rfl⟩ ⟨by show kc + 4 + 0 + 0 ≤ 600128; omega, by show ks + 24 + 0 + 0 ≤ 7301098; omega⟩ (Nat.le_of_ble_eq_true rfl) ?_
      refine s_X7_thrown hst (aup_s) ?_
      refine v_iload dL_law_596 rfl ?_
      refine v_icmp_eq 603 dL_law_598 (fun h9 => ?_) (fun h9 => ?_)
      rotate_left
      · (exfalso; omega)
      refine v_iload dL_law_603 rfl ?_
      refine v_if_ne 619 dL_law_605 (fun h9 => ?_) (fun h9 => ?_)
      rotate_left
      · (exfalso; omega)
      refine v_goto 1530 dL_law_619 ?_
      exact v_wid (kc' := kc + 8) (ks' := ks + 48) (by show kc + 4 + 0 + 0 ≤ kc + 8; omega) (by show ks + 24 + 0 + 0 ≤ ks + 48; omega) (v_lof [(0, .ref G.scr.1), (1, .ref (B 0)), (2, .ref (B 39)), (3, .ref (B 50)), (4, .ref (B 51)), (5, .int (iI i))] (List.forall_mem_cons.mpr ⟨rfl, (List.forall_mem_cons.mpr ⟨rfl, (List.forall_mem_cons.mpr ⟨rfl, (List.forall_mem_cons.mpr ⟨rfl, (List.forall_mem_cons.mpr ⟨rfl, (List.forall_mem_cons.mpr ⟨rfl, (fun _ h => nomatch h)⟩)⟩)⟩)⟩)⟩)⟩) (K _ (SS.of (hc.o hB ⟨by omega, by omega⟩) (m1.md hB) (ho.c hB (by omega)) hd)))
    · intro b1 b2 b3 D8 R8 r8 b4 b5 b6 b7
      exfalso
      have e9 := dayE_u x2 b4
      have e8 := rstE_u x3 b5
      have e7 := b6 x1
      rw [← e9, ← e8] at e7
      exact x4 e7
  · intro y9 m9 d9 n9 g1 g2 g3 g4 g5 g6 y8 m8 d8 n8 k1 k2 k3 k4 k5 k6 x1 D9 R9 r9 x2 x3 x4 x5
    obtain ⟨rfl, rfl, rfl, rfl⟩ := pkE_eq g1 hE1 g2 g3 g4 g5 g6
    obtain ⟨rfl, rfl, rfl, rfl⟩ := pkE_eq k1 hE2 k2 k3 k4 k5 k6
    have m1 := (hm.c hB (k := 50) (e := alA G 1 (gup vo 0 (D9 * uPD a3 + r9))) ⟨by omega, by omega⟩)
    obtain ⟨yq, mq, dq, ap, wr, sz, gp, n0, n1, n2, nMA, n8, n9⟩ := id m1
    refine v_istore dL_law_566 (by decide) ?_
    refine v_aload_n dL_law_568 rfl ?_
    refine v_aload_n dL_law_569 rfl ?_
    refine v_iload dL_law_570 rfl ?_
    refine v_iconst dL_law_572 ?_
    refine v_iadd dL_law_573 ?_
    refine v_sldA (a := a1) dL_law_574 e1 ?_
    refine v_aload_n dL_law_575 rfl ?_
    refine v_iload dL_law_576 rfl ?_
    refine v_iconst dL_law_578 ?_
    refine v_iadd dL_law_579 ?_
    refine v_sldA (a := a2) dL_law_580 e2 ?_
    refine v_aload_n dL_law_581 rfl ?_
    refine v_iload dL_law_582 rfl ?_
    refine v_iconst dL_law_584 ?_
    refine v_iadd dL_law_585 ?_
    refine v_sldA (a := a3) dL_law_586 e3 ?_
    refine v_V3 (rm' := rX7_until) (RX7, TX7, 18) dL_law_587 km_L_110 kn_X7_until kv_X7_until kz_X7 mk_X7_until rfl rfl (by exact n0) ⟨Nat.le_of_ble_eq_true rfl, Nat.le_of_ble_eq_true rfl⟩ ⟨by show kc + 4 + 0 ≤ 600128; omega, by show ks + 24 + 0 ≤ 7301098; omega⟩ (Nat.le_of_ble_eq_true rfl) ?_
    refine s_X7_until hst n0 n1 n2 (hA_of hB 0 1 (by omega) (by omega) (by omega)) hgd hgn r1 r2 r3 (hV_of hE1) (hV_of hE2) ?_ ?_ ?_ ?_ ?_ ?_ ?_
    · intro v9 b1
      exfalso; first | omega | contradiction
    · intro v9 b1 b2 b3
      exfalso; first | omega | contradiction
    · intro q1 q2 q3 b1 b2 b3 M8 r8 b4 b5
      exfalso; first | omega | contradiction
    · intro b1 b2 b3 D8 r8 b4 b5
      exfalso; first | omega | contradiction
    · intro b1 b2 b3 D8 b4
      have e9 := dayE_u x2 b4
      have u7 : uPD a3 = 1 := by rw [b3]; rfl
      have u8 : uSZ a3 = 86400000000000 := by rw [b3]; rfl
      rw [u8] at x5
      have e8 := tq_0 (rstE_r (hE1 g1).2.2.2 (hE2 k1).2.2.2 x3) x5
      have e6 : D9 * uPD a3 + r9 = D8 := by rw [u7]; omega
      refine v_lstore dL_law_590 (by decide) ?_
      refine v_aload_n dL_law_592 rfl ?_
      refine v_V0 (rm' := rX7_thrown) (RX7, TX7, 18) dL_law_593 km_L_85 kn_X7_thrown kv_X7_thrown kz_X7 mk_X7_thrown rfl rfl (by exact aup_s) ⟨Nat.le_of_ble_eq_true rfl, Nat.le_of_ble_eq_true rfl⟩ ⟨by show kc + 4 + 0 + 0 ≤ 600128; omega, by show ks + 24 + 0 + 0 ≤ 7301098; omega⟩ (Nat.le_of_ble_eq_true rfl) ?_
      refine s_X7_thrown hst (aup_s) ?_
      refine v_iload dL_law_596 rfl ?_
      refine v_icmp_eq 603 dL_law_598 (fun h9 => ?_) (fun h9 => ?_)
      rotate_left
      · (exfalso; omega)
      refine v_iload dL_law_603 rfl ?_
      refine v_if_ne 619 dL_law_605 (fun h9 => ?_) (fun h9 => ?_)
      · (exfalso; omega)
      refine v_aload_n dL_law_608 rfl ?_
      refine v_iconst dL_law_609 ?_
      refine v_laldX dL_law_610 (by exact (kp hB (by omega) 50 (by omega) (by omega)).trans aup_s) (show _ = D8 from gup_s.trans e6) ?_
      refine v_lload dL_law_611 rfl ?_
      refine v_lsame 619 dL_law_613 dL_law_614 ?_
      refine v_goto 1530 dL_law_619 ?_
      exact v_wid (kc' := kc + 8) (ks' := ks + 48) (by show kc + 4 + 0 + 0 ≤ kc + 8; omega) (by show ks + 24 + 0 + 0 ≤ ks + 48; omega) (v_lof [(0, .ref G.scr.1), (1, .ref (B 0)), (2, .ref (B 39)), (3, .ref (B 50)), (4, .ref (B 51)), (5, .int (iI i))] (List.forall_mem_cons.mpr ⟨rfl, (List.forall_mem_cons.mpr ⟨rfl, (List.forall_mem_cons.mpr ⟨rfl, (List.forall_mem_cons.mpr ⟨rfl, (List.forall_mem_cons.mpr ⟨rfl, (List.forall_mem_cons.mpr ⟨rfl, (fun _ h => nomatch h)⟩)⟩)⟩)⟩)⟩)⟩) (K _ (SS.of ((hc.o hB ⟨by omega, by omega⟩).o hB ⟨by omega, by omega⟩) (m1.md hB) ((ho.l hB).c hB (by omega)) hd)))
    · intro v9 b1 b2 b3 D8 R8 b4 b5 b6
      exfalso
      have e9 := dayE_u x2 b4
      have e8 := rstE_u x3 b5
      have e7 := x4 b3
      rw [e9, e8] at e7
      exact b6 e7
    · intro b1 b2 b3 D8 R8 r8 b4 b5 b6 b7
      have e9 := dayE_u x2 b4
      subst e9
      have e8 := rstE_u x3 b5
      subst e8
      have e7 := tq_u x5 b7
      subst e7
      refine v_lstore dL_law_590 (by decide) ?_
      refine v_aload_n dL_law_592 rfl ?_
      refine v_V0 (rm' := rX7_thrown) (RX7, TX7, 18) dL_law_593 km_L_85 kn_X7_thrown kv_X7_thrown kz_X7 mk_X7_thrown rfl rfl (by exact aup_s) ⟨Nat.le_of_ble_eq_true rfl, Nat.le_of_ble_eq_true rfl⟩ ⟨by show kc + 4 + 0 + 0 ≤ 600128; omega, by show ks + 24 + 0 + 0 ≤ 7301098; omega⟩ (Nat.le_of_ble_eq_true rfl) ?_
      refine s_X7_thrown hst (aup_s) ?_
      refine v_iload dL_law_596 rfl ?_
      refine v_icmp_eq 603 dL_law_598 (fun h9 => ?_) (fun h9 => ?_)
      rotate_left
      · (exfalso; omega)
      refine v_iload dL_law_603 rfl ?_
      refine v_if_ne 619 dL_law_605 (fun h9 => ?_) (fun h9 => ?_)
      · (exfalso; omega)
      refine v_aload_n dL_law_608 rfl ?_
      refine v_iconst dL_law_609 ?_
      refine v_laldX dL_law_610 (by exact (kp hB (by omega) 50 (by omega) (by omega)).trans aup_s) (show _ = D9 * uPD a3 + r9 from gup_s) ?_
      refine v_lload dL_law_611 rfl ?_
      refine v_lsame 619 dL_law_613 dL_law_614 ?_
      refine v_goto 1530 dL_law_619 ?_
      exact v_wid (kc' := kc + 8) (ks' := ks + 48) (by show kc + 4 + 0 + 0 ≤ kc + 8; omega) (by show ks + 24 + 0 + 0 ≤ ks + 48; omega) (v_lof [(0, .ref G.scr.1), (1, .ref (B 0)), (2, .ref (B 39)), (3, .ref (B 50)), (4, .ref (B 51)), (5, .int (iI i))] (List.forall_mem_cons.mpr ⟨rfl, (List.forall_mem_cons.mpr ⟨rfl, (List.forall_mem_cons.mpr ⟨rfl, (List.forall_mem_cons.mpr ⟨rfl, (List.forall_mem_cons.mpr ⟨rfl, (List.forall_mem_cons.mpr ⟨rfl, (fun _ h => nomatch h)⟩)⟩)⟩)⟩)⟩)⟩) (K _ (SS.of ((hc.o hB ⟨by omega, by omega⟩).o hB ⟨by omega, by omega⟩) (m1.md hB) ((ho.l hB).c hB (by omega)) hd)))
set_option maxRecDepth 100000 in
set_option maxHeartbeats 8000000 in
theorem lw_span {l : Launch} {G : GG} {Q : Option Value → AH → Prop} {X : String → AH → Prop} {B : Nat → Nat} {i : Int} {w : AH} {kc ks : Nat} (hst : l.stackTraces = false) (hB : iB B) (hi : 0 ≤ i ∧ i + 7 ≤ (G.scr.2.1 : Int)) (hL9 : G.scr.2.1 ≤ 448) (hk : kc ≤ 500000 ∧ ks ≤ 7000000) (h : SS G B w) (K : ∀ w' : AH, SS G B w' → V l G mL_law room_1 Q X 1530 (lof [(0, .ref G.scr.1), (1, .ref (B 0)), (2, .ref (B 39)), (3, .ref (B 50)), (4, .ref (B 51)), (5, .int (iI i))]) [] w' (kc + 8) (ks + 48)) : V l G mL_law room_1 Q X 622 (lof [(0, .ref G.scr.1), (1, .ref (B 0)), (2, .ref (B 39)), (3, .ref (B 50)), (4, .ref (B 51)), (5, .int (iI i))]) [] w kc ks := by
  obtain ⟨th, gd, gn, L, gl, fz, cz, rz, gm, go, ru, vF, vC, vM, vO, vK, vR, hc, hm, ho, hd⟩ := h
  have hgd := hc.gdr
  have hgn := hc.gnr
  obtain ⟨a1, e1⟩ : ∃ a : Int, scI G (i + 1).toNat = a := ⟨_, rfl⟩
  have r1 : -2147483648 ≤ a1 ∧ a1 ≤ 2147483647 := e1 ▸ scI_r G _
  obtain ⟨a2, e2⟩ : ∃ a : Int, scI G (i + 2).toNat = a := ⟨_, rfl⟩
  have r2 : -2147483648 ≤ a2 ∧ a2 ≤ 2147483647 := e2 ▸ scI_r G _
  obtain ⟨a3, e3⟩ : ∃ a : Int, scI G (i + 3).toNat = a := ⟨_, rfl⟩
  have r3 : -2147483648 ≤ a3 ∧ a3 ≤ 2147483647 := e3 ▸ scI_r G _
  obtain ⟨y, m, d, hE1⟩ := hc.pick a1
  obtain ⟨y2, m2, d2, hE2⟩ := hc.pick a2
  obtain ⟨⟨vo, o50⟩, vd, o51⟩ := id ho
  refine v_aload_n dL_law_622 rfl ?_
  refine v_aload_n dL_law_623 rfl ?_
  refine v_iload dL_law_624 rfl ?_
  refine v_iconst dL_law_626 ?_
  refine v_iadd dL_law_627 ?_
  refine v_sldA (a := a1) dL_law_628 e1 ?_
  refine v_aload_n dL_law_629 rfl ?_
  refine v_iload dL_law_630 rfl ?_
  refine v_iconst dL_law_632 ?_
  refine v_iadd dL_law_633 ?_
  refine v_sldA (a := a2) dL_law_634 e2 ?_
  refine v_aload_n dL_law_635 rfl ?_
  refine v_iload dL_law_636 rfl ?_
  refine v_iconst dL_law_638 ?_
  refine v_iadd dL_law_639 ?_
  refine v_sldA (a := a3) dL_law_640 e3 ?_
  refine v_aload_n dL_law_641 rfl ?_
  refine v_SW5 (rm' := rL_span) dL_law_642 km_L_111 ks_L_span kz_L mk_L_span rfl ⟨Nat.le_of_ble_eq_true rfl, Nat.le_of_ble_eq_true rfl⟩ ⟨by show kc + 3 ≤ 600128; omega, by show ks + 18 ≤ 7301098; omega⟩ (Nat.le_of_ble_eq_true rfl) ?_
  refine s_L_span (sa := fun k => B (2 + k)) hst o50 hc.1.1 hc.1.2.1 hc.sv r1 ?_ r2 ?_ r3 ?_ ?_ ?_
  · intro g1
    have m1 := hm
    obtain ⟨yq, mq, dq, ap, wr, sz, gp, n0, n1, n2, nMA, n8, n9⟩ := id m1
    refine v_istore dL_law_645 (by decide) ?_
    refine v_aload_n dL_law_647 rfl ?_
    refine v_aload_n dL_law_648 rfl ?_
    refine v_iload dL_law_649 rfl ?_
    refine v_iconst dL_law_651 ?_
    refine v_iadd dL_law_652 ?_
    refine v_sldA (a := a1) dL_law_653 e1 ?_
    refine v_aload_n dL_law_654 rfl ?_
    refine v_iload dL_law_655 rfl ?_
    refine v_iconst dL_law_657 ?_
    refine v_iadd dL_law_658 ?_
    refine v_sldA (a := a2) dL_law_659 e2 ?_
    refine v_aload_n dL_law_660 rfl ?_
    refine v_iload dL_law_661 rfl ?_
    refine v_iconst dL_law_663 ?_
    refine v_iadd dL_law_664 ?_
    refine v_sldA (a := a3) dL_law_665 e3 ?_
    refine v_V3 (rm' := rX7_span) (RX7, TX7, 18) dL_law_666 km_L_113 kn_X7_span kv_X7_span kz_X7 mk_X7_span rfl rfl (by exact n0) ⟨Nat.le_of_ble_eq_true rfl, Nat.le_of_ble_eq_true rfl⟩ ⟨by show kc + 3 + 0 ≤ 600128; omega, by show ks + 18 + 0 ≤ 7301098; omega⟩ (Nat.le_of_ble_eq_true rfl) ?_
    refine s_X7_span hst n0 n1 n2 (hA_of hB 0 1 (by omega) (by omega) (by omega)) hgd hgn r1 r2 r3 (hV_of hE1) (hV_of hE2) ?_ ?_ ?_ ?_
    · intro v9 b1
      refine v_istore dL_law_669 (by decide) ?_
      refine v_aload_n dL_law_671 rfl ?_
      refine v_V0 (rm' := rX7_thrown) (RX7, TX7, 18) dL_law_672 km_L_85 kn_X7_thrown kv_X7_thrown kz_X7 mk_X7_thrown rfl rfl (by exact aup_s) ⟨Nat.le_of_ble_eq_true rfl, Nat.le_of_ble_eq_true rfl⟩ ⟨by show kc + 3 + 0 + 0 ≤ 600128; omega, by show ks + 18 + 0 + 0 ≤ 7301098; omega⟩ (Nat.le_of_ble_eq_true rfl) ?_
      refine s_X7_thrown hst (aup_s) ?_
      refine v_iload dL_law_675 rfl ?_
      refine v_icmp_eq 682 dL_law_677 (fun h9 => ?_) (fun h9 => ?_)
      rotate_left
      · (exfalso; omega)
      refine v_iload dL_law_682 rfl ?_
      refine v_if_ne 699 dL_law_684 (fun h9 => ?_) (fun h9 => ?_)
      rotate_left
      · (exfalso; omega)
      refine v_goto 1530 dL_law_699 ?_
      exact v_wid (kc' := kc + 8) (ks' := ks + 48) (by show kc + 3 + 0 + 0 ≤ kc + 8; omega) (by show ks + 18 + 0 + 0 ≤ ks + 48; omega) (v_lof [(0, .ref G.scr.1), (1, .ref (B 0)), (2, .ref (B 39)), (3, .ref (B 50)), (4, .ref (B 51)), (5, .int (iI i))] (List.forall_mem_cons.mpr ⟨rfl, (List.forall_mem_cons.mpr ⟨rfl, (List.forall_mem_cons.mpr ⟨rfl, (List.forall_mem_cons.mpr ⟨rfl, (List.forall_mem_cons.mpr ⟨rfl, (List.forall_mem_cons.mpr ⟨rfl, (fun _ h => nomatch h)⟩)⟩)⟩)⟩)⟩)⟩) (K _ (SS.of (hc.o hB ⟨by omega, by omega⟩) (m1.md hB) (ho.c hB (by omega)) hd)))
    · intro v9 b1 b2 b3
      exfalso; first | omega | contradiction
    · intro q1 q2 q3 b1 b2 b3 M8 r8 b4 b5
      exfalso; first | omega | contradiction
    · intro q1 q2 q3 b1 b2 b3 M8 b4
      exfalso; first | omega | contradiction
  · intro g1 g2
    have m1 := hm
    obtain ⟨yq, mq, dq, ap, wr, sz, gp, n0, n1, n2, nMA, n8, n9⟩ := id m1
    refine v_istore dL_law_645 (by decide) ?_
    refine v_aload_n dL_law_647 rfl ?_
    refine v_aload_n dL_law_648 rfl ?_
    refine v_iload dL_law_649 rfl ?_
    refine v_iconst dL_law_651 ?_
    refine v_iadd dL_law_652 ?_
    refine v_sldA (a := a1) dL_law_653 e1 ?_
    refine v_aload_n dL_law_654 rfl ?_
    refine v_iload dL_law_655 rfl ?_
    refine v_iconst dL_law_657 ?_
    refine v_iadd dL_law_658 ?_
    refine v_sldA (a := a2) dL_law_659 e2 ?_
    refine v_aload_n dL_law_660 rfl ?_
    refine v_iload dL_law_661 rfl ?_
    refine v_iconst dL_law_663 ?_
    refine v_iadd dL_law_664 ?_
    refine v_sldA (a := a3) dL_law_665 e3 ?_
    refine v_V3 (rm' := rX7_span) (RX7, TX7, 18) dL_law_666 km_L_113 kn_X7_span kv_X7_span kz_X7 mk_X7_span rfl rfl (by exact n0) ⟨Nat.le_of_ble_eq_true rfl, Nat.le_of_ble_eq_true rfl⟩ ⟨by show kc + 3 + 0 ≤ 600128; omega, by show ks + 18 + 0 ≤ 7301098; omega⟩ (Nat.le_of_ble_eq_true rfl) ?_
    refine s_X7_span hst n0 n1 n2 (hA_of hB 0 1 (by omega) (by omega) (by omega)) hgd hgn r1 r2 r3 (hV_of hE1) (hV_of hE2) ?_ ?_ ?_ ?_
    · intro v9 b1
      refine v_istore dL_law_669 (by decide) ?_
      refine v_aload_n dL_law_671 rfl ?_
      refine v_V0 (rm' := rX7_thrown) (RX7, TX7, 18) dL_law_672 km_L_85 kn_X7_thrown kv_X7_thrown kz_X7 mk_X7_thrown rfl rfl (by exact aup_s) ⟨Nat.le_of_ble_eq_true rfl, Nat.le_of_ble_eq_true rfl⟩ ⟨by show kc + 3 + 0 + 0 ≤ 600128; omega, by show ks + 18 + 0 + 0 ≤ 7301098; omega⟩ (Nat.le_of_ble_eq_true rfl) ?_
      refine s_X7_thrown hst (aup_s) ?_
      refine v_iload dL_law_675 rfl ?_
      refine v_icmp_eq 682 dL_law_677 (fun h9 => ?_) (fun h9 => ?_)
      rotate_left
      · (exfalso; omega)
      refine v_iload dL_law_682 rfl ?_
      refine v_if_ne 699 dL_law_684 (fun h9 => ?_) (fun h9 => ?_)
      rotate_left
      · (exfalso; omega)
      refine v_goto 1530 dL_law_699 ?_
      exact v_wid (kc' := kc + 8) (ks' := ks + 48) (by show kc + 3 + 0 + 0 ≤ kc + 8; omega) (by show ks + 18 + 0 + 0 ≤ ks + 48; omega) (v_lof [(0, .ref G.scr.1), (1, .ref (B 0)), (2, .ref (B 39)), (3, .ref (B 50)), (4, .ref (B 51)), (5, .int (iI i))] (List.forall_mem_cons.mpr ⟨rfl, (List.forall_mem_cons.mpr ⟨rfl, (List.forall_mem_cons.mpr ⟨rfl, (List.forall_mem_cons.mpr ⟨rfl, (List.forall_mem_cons.mpr ⟨rfl, (List.forall_mem_cons.mpr ⟨rfl, (fun _ h => nomatch h)⟩)⟩)⟩)⟩)⟩)⟩) (K _ (SS.of (hc.o hB ⟨by omega, by omega⟩) (m1.md hB) (ho.c hB (by omega)) hd)))
    · intro v9 b1 b2 b3
      exfalso; first | omega | contradiction
    · intro q1 q2 q3 b1 b2 b3 M8 r8 b4 b5
      exfalso; first | omega | contradiction
    · intro q1 q2 q3 b1 b2 b3 M8 b4
      exfalso; first | omega | contradiction
  · intro g1 g2 x1
    have m1 := hm
    obtain ⟨yq, mq, dq, ap, wr, sz, gp, n0, n1, n2, nMA, n8, n9⟩ := id m1
    refine v_istore dL_law_645 (by decide) ?_
    refine v_aload_n dL_law_647 rfl ?_
    refine v_aload_n dL_law_648 rfl ?_
    refine v_iload dL_law_649 rfl ?_
    refine v_iconst dL_law_651 ?_
    refine v_iadd dL_law_652 ?_
    refine v_sldA (a := a1) dL_law_653 e1 ?_
    refine v_aload_n dL_law_654 rfl ?_
    refine v_iload dL_law_655 rfl ?_
    refine v_iconst dL_law_657 ?_
    refine v_iadd dL_law_658 ?_
    refine v_sldA (a := a2) dL_law_659 e2 ?_
    refine v_aload_n dL_law_660 rfl ?_
    refine v_iload dL_law_661 rfl ?_
    refine v_iconst dL_law_663 ?_
    refine v_iadd dL_law_664 ?_
    refine v_sldA (a := a3) dL_law_665 e3 ?_
    refine v_V3 (rm' := rX7_span) (RX7, TX7, 18) dL_law_666 km_L_113 kn_X7_span kv_X7_span kz_X7 mk_X7_span rfl rfl (by exact n0) ⟨Nat.le_of_ble_eq_true rfl, Nat.le_of_ble_eq_true rfl⟩ ⟨by show kc + 3 + 0 ≤ 600128; omega, by show ks + 18 + 0 ≤ 7301098; omega⟩ (Nat.le_of_ble_eq_true rfl) ?_
    refine s_X7_span hst n0 n1 n2 (hA_of hB 0 1 (by omega) (by omega) (by omega)) hgd hgn r1 r2 r3 (hV_of hE1) (hV_of hE2) ?_ ?_ ?_ ?_
    · intro v9 b1
      exfalso; first | omega | contradiction
    · intro v9 b1 b2 b3
      refine v_istore dL_law_669 (by decide) ?_
      refine v_aload_n dL_law_671 rfl ?_
      refine v_V0 (rm' := rX7_thrown) (RX7, TX7, 18) dL_law_672 km_L_85 kn_X7_thrown kv_X7_thrown kz_X7 mk_X7_thrown rfl rfl (by exact aup_s) ⟨Nat.le_of_ble_eq_true rfl, Nat.le_of_ble_eq_true rfl⟩ ⟨by show kc + 3 + 0 + 0 ≤ 600128; omega, by show ks + 18 + 0 + 0 ≤ 7301098; omega⟩ (Nat.le_of_ble_eq_true rfl) ?_
      refine s_X7_thrown hst (aup_s) ?_
      refine v_iload dL_law_675 rfl ?_
      refine v_icmp_eq 682 dL_law_677 (fun h9 => ?_) (fun h9 => ?_)
      rotate_left
      · (exfalso; omega)
      refine v_iload dL_law_682 rfl ?_
      refine v_if_ne 699 dL_law_684 (fun h9 => ?_) (fun h9 => ?_)
      rotate_left
      · (exfalso; omega)
      refine v_goto 1530 dL_law_699 ?_
      exact v_wid (kc' := kc + 8) (ks' := ks + 48) (by show kc + 3 + 0 + 0 ≤ kc + 8; omega) (by show ks + 18 + 0 + 0 ≤ ks + 48; omega) (v_lof [(0, .ref G.scr.1), (1, .ref (B 0)), (2, .ref (B 39)), (3, .ref (B 50)), (4, .ref (B 51)), (5, .int (iI i))] (List.forall_mem_cons.mpr ⟨rfl, (List.forall_mem_cons.mpr ⟨rfl, (List.forall_mem_cons.mpr ⟨rfl, (List.forall_mem_cons.mpr ⟨rfl, (List.forall_mem_cons.mpr ⟨rfl, (List.forall_mem_cons.mpr ⟨rfl, (fun _ h => nomatch h)⟩)⟩)⟩)⟩)⟩)⟩) (K _ (SS.of (hc.o hB ⟨by omega, by omega⟩) (m1.md hB) (ho.c hB (by omega)) hd)))
    · intro q1 q2 q3 b1 b2 b3 M8 r8 b4 b5
      exfalso; first | omega | contradiction
    · intro q1 q2 q3 b1 b2 b3 M8 b4
      exfalso; first | omega | contradiction
  · intro y9 m9 d9 n9 g1 g2 g3 g4 g5 g6 y8 m8 d8 n8 k1 k2 k3 k4 k5 k6 x1 M9 r9 x2 x3
    obtain ⟨rfl, rfl, rfl, rfl⟩ := pkE_eq g1 hE1 g2 g3 g4 g5 g6
    obtain ⟨rfl, rfl, rfl, rfl⟩ := pkE_eq k1 hE2 k2 k3 k4 k5 k6
    have m1 := (hm.c hB (k := 50) (e := alA G 1 (gup vo 0 (r9))) ⟨by omega, by omega⟩)
    obtain ⟨yq, mq, dq, ap, wr, sz, gp, n0, n1, n2, nMA, n8, n9⟩ := id m1
    refine v_istore dL_law_645 (by decide) ?_
    refine v_aload_n dL_law_647 rfl ?_
    refine v_aload_n dL_law_648 rfl ?_
    refine v_iload dL_law_649 rfl ?_
    refine v_iconst dL_law_651 ?_
    refine v_iadd dL_law_652 ?_
    refine v_sldA (a := a1) dL_law_653 e1 ?_
    refine v_aload_n dL_law_654 rfl ?_
    refine v_iload dL_law_655 rfl ?_
    refine v_iconst dL_law_657 ?_
    refine v_iadd dL_law_658 ?_
    refine v_sldA (a := a2) dL_law_659 e2 ?_
    refine v_aload_n dL_law_660 rfl ?_
    refine v_iload dL_law_661 rfl ?_
    refine v_iconst dL_law_663 ?_
    refine v_iadd dL_law_664 ?_
    refine v_sldA (a := a3) dL_law_665 e3 ?_
    refine v_V3 (rm' := rX7_span) (RX7, TX7, 18) dL_law_666 km_L_113 kn_X7_span kv_X7_span kz_X7 mk_X7_span rfl rfl (by exact n0) ⟨Nat.le_of_ble_eq_true rfl, Nat.le_of_ble_eq_true rfl⟩ ⟨by show kc + 3 + 0 ≤ 600128; omega, by show ks + 18 + 0 ≤ 7301098; omega⟩ (Nat.le_of_ble_eq_true rfl) ?_
    refine s_X7_span hst n0 n1 n2 (hA_of hB 0 1 (by omega) (by omega) (by omega)) hgd hgn r1 r2 r3 (hV_of hE1) (hV_of hE2) ?_ ?_ ?_ ?_
    · intro v9 b1
      exfalso; first | omega | contradiction
    · intro v9 b1 b2 b3
      exfalso; first | omega | contradiction
    · intro q1 q2 q3 b1 b2 b3 M8 r8 b4 b5
      have e8 := spm_u (monE_u x2 b4) x3 b5
      subst e8
      have e7 := spm_r g3 g4 k3 k4 x2 x3
      refine v_istore dL_law_669 (by decide) ?_
      refine v_aload_n dL_law_671 rfl ?_
      refine v_V0 (rm' := rX7_thrown) (RX7, TX7, 18) dL_law_672 km_L_85 kn_X7_thrown kv_X7_thrown kz_X7 mk_X7_thrown rfl rfl (by exact aup_s) ⟨Nat.le_of_ble_eq_true rfl, Nat.le_of_ble_eq_true rfl⟩ ⟨by show kc + 3 + 0 + 0 ≤ 600128; omega, by show ks + 18 + 0 + 0 ≤ 7301098; omega⟩ (Nat.le_of_ble_eq_true rfl) ?_
      refine s_X7_thrown hst (aup_s) ?_
      refine v_iload dL_law_675 rfl ?_
      refine v_icmp_eq 682 dL_law_677 (fun h9 => ?_) (fun h9 => ?_)
      rotate_left
      · (exfalso; omega)
      refine v_iload dL_law_682 rfl ?_
      refine v_if_ne 699 dL_law_684 (fun h9 => ?_) (fun h9 => ?_)
      · (exfalso; omega)
      refine v_aload_n dL_law_687 rfl ?_
      refine v_iconst dL_law_688 ?_
      refine v_laldX dL_law_689 (by exact (kp hB (by omega) 50 (by omega) (by omega)).trans aup_s) (show _ = r9 from gup_s) ?_
      refine v_iload dL_law_690 rfl ?_
      refine v_i2l dL_law_692 ?_
      refine v_lsame 699 dL_law_693 dL_law_694 ?_
      refine v_goto 1530 dL_law_699 ?_
      exact v_wid (kc' := kc + 8) (ks' := ks + 48) (by show kc + 3 + 0 + 0 ≤ kc + 8; omega) (by show ks + 18 + 0 + 0 ≤ ks + 48; omega) (v_lof [(0, .ref G.scr.1), (1, .ref (B 0)), (2, .ref (B 39)), (3, .ref (B 50)), (4, .ref (B 51)), (5, .int (iI i))] (List.forall_mem_cons.mpr ⟨rfl, (List.forall_mem_cons.mpr ⟨rfl, (List.forall_mem_cons.mpr ⟨rfl, (List.forall_mem_cons.mpr ⟨rfl, (List.forall_mem_cons.mpr ⟨rfl, (List.forall_mem_cons.mpr ⟨rfl, (fun _ h => nomatch h)⟩)⟩)⟩)⟩)⟩)⟩) (K _ (SS.of ((hc.o hB ⟨by omega, by omega⟩).o hB ⟨by omega, by omega⟩) (m1.md hB) ((ho.l hB).c hB (by omega)) hd)))
    · intro q1 q2 q3 b1 b2 b3 M8 b4
      exfalso; first | omega | contradiction
  · intro y9 m9 d9 n9 g1 g2 g3 g4 g5 g6 y8 m8 d8 n8 k1 k2 k3 k4 k5 k6 x1 M9 x2
    obtain ⟨rfl, rfl, rfl, rfl⟩ := pkE_eq g1 hE1 g2 g3 g4 g5 g6
    obtain ⟨rfl, rfl, rfl, rfl⟩ := pkE_eq k1 hE2 k2 k3 k4 k5 k6
    have m1 := (hm.c hB (k := 50) (e := alA G 1 (gup vo 0 (ed y2 m2 d2 - monT (y * 12 + m - 1 + M9) d))) ⟨by omega, by omega⟩)
    obtain ⟨yq, mq, dq, ap, wr, sz, gp, n0, n1, n2, nMA, n8, n9⟩ := id m1
    refine v_istore dL_law_645 (by decide) ?_
    refine v_aload_n dL_law_647 rfl ?_
    refine v_aload_n dL_law_648 rfl ?_
    refine v_iload dL_law_649 rfl ?_
    refine v_iconst dL_law_651 ?_
    refine v_iadd dL_law_652 ?_
    refine v_sldA (a := a1) dL_law_653 e1 ?_
    refine v_aload_n dL_law_654 rfl ?_
    refine v_iload dL_law_655 rfl ?_
    refine v_iconst dL_law_657 ?_
    refine v_iadd dL_law_658 ?_
    refine v_sldA (a := a2) dL_law_659 e2 ?_
    refine v_aload_n dL_law_660 rfl ?_
    refine v_iload dL_law_661 rfl ?_
    refine v_iconst dL_law_663 ?_
    refine v_iadd dL_law_664 ?_
    refine v_sldA (a := a3) dL_law_665 e3 ?_
    refine v_V3 (rm' := rX7_span) (RX7, TX7, 18) dL_law_666 km_L_113 kn_X7_span kv_X7_span kz_X7 mk_X7_span rfl rfl (by exact n0) ⟨Nat.le_of_ble_eq_true rfl, Nat.le_of_ble_eq_true rfl⟩ ⟨by show kc + 3 + 0 ≤ 600128; omega, by show ks + 18 + 0 ≤ 7301098; omega⟩ (Nat.le_of_ble_eq_true rfl) ?_
    refine s_X7_span hst n0 n1 n2 (hA_of hB 0 1 (by omega) (by omega) (by omega)) hgd hgn r1 r2 r3 (hV_of hE1) (hV_of hE2) ?_ ?_ ?_ ?_
    · intro v9 b1
      exfalso; first | omega | contradiction
    · intro v9 b1 b2 b3
      exfalso; first | omega | contradiction
    · intro q1 q2 q3 b1 b2 b3 M8 r8 b4 b5
      exfalso; first | omega | contradiction
    · intro q1 q2 q3 b1 b2 b3 M8 b4
      have e9 := monE_u x2 b4
      subst e9
      have e7 := spanD_rng g3 g4 g5 k3 k4 k5 x2
      refine v_istore dL_law_669 (by decide) ?_
      refine v_aload_n dL_law_671 rfl ?_
      refine v_V0 (rm' := rX7_thrown) (RX7, TX7, 18) dL_law_672 km_L_85 kn_X7_thrown kv_X7_thrown kz_X7 mk_X7_thrown rfl rfl (by exact aup_s) ⟨Nat.le_of_ble_eq_true rfl, Nat.le_of_ble_eq_true rfl⟩ ⟨by show kc + 3 + 0 + 0 ≤ 600128; omega, by show ks + 18 + 0 + 0 ≤ 7301098; omega⟩ (Nat.le_of_ble_eq_true rfl) ?_
      refine s_X7_thrown hst (aup_s) ?_
      refine v_iload dL_law_675 rfl ?_
      refine v_icmp_eq 682 dL_law_677 (fun h9 => ?_) (fun h9 => ?_)
      rotate_left
      · (exfalso; omega)
      refine v_iload dL_law_682 rfl ?_
      refine v_if_ne 699 dL_law_684 (fun h9 => ?_) (fun h9 => ?_)
      · (exfalso; omega)
      refine v_aload_n dL_law_687 rfl ?_
      refine v_iconst dL_law_688 ?_
      refine v_laldX dL_law_689 (by exact (kp hB (by omega) 50 (by omega) (by omega)).trans aup_s) (show _ = ed y2 m2 d2 - monT (y * 12 + m - 1 + M9) d from gup_s) ?_
      refine v_iload dL_law_690 rfl ?_
      refine v_i2l dL_law_692 ?_
      refine v_lsame 699 dL_law_693 dL_law_694 ?_
      refine v_goto 1530 dL_law_699 ?_
      exact v_wid (kc' := kc + 8) (ks' := ks + 48) (by show kc + 3 + 0 + 0 ≤ kc + 8; omega) (by show ks + 18 + 0 + 0 ≤ ks + 48; omega) (v_lof [(0, .ref G.scr.1), (1, .ref (B 0)), (2, .ref (B 39)), (3, .ref (B 50)), (4, .ref (B 51)), (5, .int (iI i))] (List.forall_mem_cons.mpr ⟨rfl, (List.forall_mem_cons.mpr ⟨rfl, (List.forall_mem_cons.mpr ⟨rfl, (List.forall_mem_cons.mpr ⟨rfl, (List.forall_mem_cons.mpr ⟨rfl, (List.forall_mem_cons.mpr ⟨rfl, (fun _ h => nomatch h)⟩)⟩)⟩)⟩)⟩)⟩) (K _ (SS.of ((hc.o hB ⟨by omega, by omega⟩).o hB ⟨by omega, by omega⟩) (m1.md hB) ((ho.l hB).c hB (by omega)) hd)))
