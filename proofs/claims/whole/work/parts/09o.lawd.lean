set_option maxRecDepth 100000 in
set_option maxHeartbeats 8000000 in
theorem lw_adjust {l : Launch} {G : GG} {Q : Option Value → AH → Prop} {X : String → AH → Prop} {B : Nat → Nat} {i : Int} {w : AH} {kc ks : Nat} (hst : l.stackTraces = false) (hB : iB B) (hi : 0 ≤ i ∧ i + 7 ≤ (G.scr.2.1 : Int)) (hL9 : G.scr.2.1 ≤ 448) (hk : kc ≤ 500000 ∧ ks ≤ 7000000) (h : SS G B w) (K : ∀ w' : AH, SS G B w' → V l G mL_law room_1 Q X 1530 (lof [(0, .ref G.scr.1), (1, .ref (B 0)), (2, .ref (B 39)), (3, .ref (B 50)), (4, .ref (B 51)), (5, .int (iI i))]) [] w' (kc + 8) (ks + 48)) : V l G mL_law room_1 Q X 702 (lof [(0, .ref G.scr.1), (1, .ref (B 0)), (2, .ref (B 39)), (3, .ref (B 50)), (4, .ref (B 51)), (5, .int (iI i))]) [] w kc ks := by
  obtain ⟨th, gd, gn, L, gl, fz, cz, rz, gm, go, ru, vF, vC, vM, vO, vK, vR, hc, hm, ho, hd⟩ := h
  have hgd := hc.gdr
  have hgn := hc.gnr
  obtain ⟨a1, e1⟩ : ∃ a : Int, scI G (i + 1).toNat = a := ⟨_, rfl⟩
  have r1 : -2147483648 ≤ a1 ∧ a1 ≤ 2147483647 := e1 ▸ scI_r G _
  obtain ⟨a2, e2⟩ : ∃ a : Int, scI G (i + 2).toNat = a := ⟨_, rfl⟩
  have r2 : -2147483648 ≤ a2 ∧ a2 ≤ 2147483647 := e2 ▸ scI_r G _
  obtain ⟨a3, e3⟩ : ∃ a : Int, scI G (i + 3).toNat = a := ⟨_, rfl⟩
  have r3 : -2147483648 ≤ a3 ∧ a3 ≤ 2147483647 := e3 ▸ scI_r G _
  obtain ⟨y, m, d, hE1⟩ := hc.pick a1
  refine v_aload_n dL_law_702 rfl ?_
  refine v_aload_n dL_law_703 rfl ?_
  refine v_iload dL_law_704 rfl ?_
  refine v_iconst dL_law_706 ?_
  refine v_iadd dL_law_707 ?_
  refine v_sldA (a := a1) dL_law_708 e1 ?_
  refine v_aload_n dL_law_709 rfl ?_
  refine v_iload dL_law_710 rfl ?_
  refine v_iconst dL_law_712 ?_
  refine v_iadd dL_law_713 ?_
  refine v_sldA (a := a2) dL_law_714 e2 ?_
  refine v_aload_n dL_law_715 rfl ?_
  refine v_iload dL_law_716 rfl ?_
  refine v_iconst dL_law_718 ?_
  refine v_iadd dL_law_719 ?_
  refine v_sldA (a := a3) dL_law_720 e3 ?_
  refine v_SW4 (rm' := rL_adjust) dL_law_721 km_L_114 ks_L_adjust kz_L mk_L_adjust rfl ⟨Nat.le_of_ble_eq_true rfl, Nat.le_of_ble_eq_true rfl⟩ ⟨by show kc + 3 ≤ 600128; omega, by show ks + 18 ≤ 7301098; omega⟩ (Nat.le_of_ble_eq_true rfl) ?_
  refine s_L_adjust (sa := fun k => B (2 + k)) hst hc.1.1 hc.1.2.1 hc.sv r1 ?_ r2 r3 ?_ ?_ ?_
  · intro g1
    have m1 := hm
    obtain ⟨yq, mq, dq, ap, wr, sz, gp, n0, n1, n2, nMA, n8, n9⟩ := id m1
    refine v_istore dL_law_724 (by decide) ?_
    refine v_aload_n dL_law_726 rfl ?_
    refine v_aload_n dL_law_727 rfl ?_
    refine v_iload dL_law_728 rfl ?_
    refine v_iconst dL_law_730 ?_
    refine v_iadd dL_law_731 ?_
    refine v_sldA (a := a1) dL_law_732 e1 ?_
    refine v_aload_n dL_law_733 rfl ?_
    refine v_iload dL_law_734 rfl ?_
    refine v_iconst dL_law_736 ?_
    refine v_iadd dL_law_737 ?_
    refine v_sldA (a := a2) dL_law_738 e2 ?_
    refine v_aload_n dL_law_739 rfl ?_
    refine v_iload dL_law_740 rfl ?_
    refine v_iconst dL_law_742 ?_
    refine v_iadd dL_law_743 ?_
    refine v_sldA (a := a3) dL_law_744 e3 ?_
    refine v_V3 (rm' := rX7_adjust) (RX7, TX7, 18) dL_law_745 km_L_117 kn_X7_adjust kv_X7_adjust kz_X7 mk_X7_adjust rfl rfl (by exact n0) ⟨Nat.le_of_ble_eq_true rfl, Nat.le_of_ble_eq_true rfl⟩ ⟨by show kc + 3 + 0 ≤ 600128; omega, by show ks + 18 + 0 ≤ 7301098; omega⟩ (Nat.le_of_ble_eq_true rfl) ?_
    refine s_X7_adjust hst n0 n1 n2 (hA_of hB 0 1 (by omega) (by omega) (by omega)) hgd hgn r1 r2 r3 (hV_of hE1) ?_ ?_ ?_ ?_
    · intro b1
      refine v_aload_n dL_law_748 rfl ?_
      refine v_V0 (rm' := rX7_thrown) (RX7, TX7, 18) dL_law_749 km_L_85 kn_X7_thrown kv_X7_thrown kz_X7 mk_X7_thrown rfl rfl (by exact aup_s) ⟨Nat.le_of_ble_eq_true rfl, Nat.le_of_ble_eq_true rfl⟩ ⟨by show kc + 3 + 0 + 0 ≤ 600128; omega, by show ks + 18 + 0 + 0 ≤ 7301098; omega⟩ (Nat.le_of_ble_eq_true rfl) ?_
      refine s_X7_thrown hst (aup_s) ?_
      refine v_iload dL_law_752 rfl ?_
      refine v_icmp_eq 759 dL_law_754 (fun h9 => ?_) (fun h9 => ?_)
      rotate_left
      · (exfalso; omega)
      refine v_goto 1530 dL_law_759 ?_
      exact v_wid (kc' := kc + 8) (ks' := ks + 48) (by show kc + 3 + 0 + 0 ≤ kc + 8; omega) (by show ks + 18 + 0 + 0 ≤ ks + 48; omega) (v_lof [(0, .ref G.scr.1), (1, .ref (B 0)), (2, .ref (B 39)), (3, .ref (B 50)), (4, .ref (B 51)), (5, .int (iI i))] (List.forall_mem_cons.mpr ⟨rfl, (List.forall_mem_cons.mpr ⟨rfl, (List.forall_mem_cons.mpr ⟨rfl, (List.forall_mem_cons.mpr ⟨rfl, (List.forall_mem_cons.mpr ⟨rfl, (List.forall_mem_cons.mpr ⟨rfl, (fun _ h => nomatch h)⟩)⟩)⟩)⟩)⟩)⟩) (K _ (SS.of (hc.o hB ⟨by omega, by omega⟩) (m1.md hB) (ho.c hB (by omega)) hd)))
    · intro b1 b2
      exfalso; first | omega | contradiction
    · intro q1 q2 q3 b1 b2 r8 b3 b4
      exfalso; first | omega | contradiction
    · intro q1 q2 q3 b1 b2 r8 b3 b4
      exfalso; first | omega | contradiction
  · intro g1 x1
    have m1 := hm
    obtain ⟨yq, mq, dq, ap, wr, sz, gp, n0, n1, n2, nMA, n8, n9⟩ := id m1
    refine v_istore dL_law_724 (by decide) ?_
    refine v_aload_n dL_law_726 rfl ?_
    refine v_aload_n dL_law_727 rfl ?_
    refine v_iload dL_law_728 rfl ?_
    refine v_iconst dL_law_730 ?_
    refine v_iadd dL_law_731 ?_
    refine v_sldA (a := a1) dL_law_732 e1 ?_
    refine v_aload_n dL_law_733 rfl ?_
    refine v_iload dL_law_734 rfl ?_
    refine v_iconst dL_law_736 ?_
    refine v_iadd dL_law_737 ?_
    refine v_sldA (a := a2) dL_law_738 e2 ?_
    refine v_aload_n dL_law_739 rfl ?_
    refine v_iload dL_law_740 rfl ?_
    refine v_iconst dL_law_742 ?_
    refine v_iadd dL_law_743 ?_
    refine v_sldA (a := a3) dL_law_744 e3 ?_
    refine v_V3 (rm' := rX7_adjust) (RX7, TX7, 18) dL_law_745 km_L_117 kn_X7_adjust kv_X7_adjust kz_X7 mk_X7_adjust rfl rfl (by exact n0) ⟨Nat.le_of_ble_eq_true rfl, Nat.le_of_ble_eq_true rfl⟩ ⟨by show kc + 3 + 0 ≤ 600128; omega, by show ks + 18 + 0 ≤ 7301098; omega⟩ (Nat.le_of_ble_eq_true rfl) ?_
    refine s_X7_adjust hst n0 n1 n2 (hA_of hB 0 1 (by omega) (by omega) (by omega)) hgd hgn r1 r2 r3 (hV_of hE1) ?_ ?_ ?_ ?_
    · intro b1
      exfalso; first | omega | contradiction
    · intro b1 b2
      refine v_aload_n dL_law_748 rfl ?_
      refine v_V0 (rm' := rX7_thrown) (RX7, TX7, 18) dL_law_749 km_L_85 kn_X7_thrown kv_X7_thrown kz_X7 mk_X7_thrown rfl rfl (by exact aup_s) ⟨Nat.le_of_ble_eq_true rfl, Nat.le_of_ble_eq_true rfl⟩ ⟨by show kc + 3 + 0 + 0 ≤ 600128; omega, by show ks + 18 + 0 + 0 ≤ 7301098; omega⟩ (Nat.le_of_ble_eq_true rfl) ?_
      refine s_X7_thrown hst (aup_s) ?_
      refine v_iload dL_law_752 rfl ?_
      refine v_icmp_eq 759 dL_law_754 (fun h9 => ?_) (fun h9 => ?_)
      rotate_left
      · (exfalso; omega)
      refine v_goto 1530 dL_law_759 ?_
      exact v_wid (kc' := kc + 8) (ks' := ks + 48) (by show kc + 3 + 0 + 0 ≤ kc + 8; omega) (by show ks + 18 + 0 + 0 ≤ ks + 48; omega) (v_lof [(0, .ref G.scr.1), (1, .ref (B 0)), (2, .ref (B 39)), (3, .ref (B 50)), (4, .ref (B 51)), (5, .int (iI i))] (List.forall_mem_cons.mpr ⟨rfl, (List.forall_mem_cons.mpr ⟨rfl, (List.forall_mem_cons.mpr ⟨rfl, (List.forall_mem_cons.mpr ⟨rfl, (List.forall_mem_cons.mpr ⟨rfl, (List.forall_mem_cons.mpr ⟨rfl, (fun _ h => nomatch h)⟩)⟩)⟩)⟩)⟩)⟩) (K _ (SS.of (hc.o hB ⟨by omega, by omega⟩) (m1.md hB) (ho.c hB (by omega)) hd)))
    · intro q1 q2 q3 b1 b2 r8 b3 b4
      exfalso; first | omega | contradiction
    · intro q1 q2 q3 b1 b2 r8 b3 b4
      exfalso; first | omega | contradiction
  · intro y9 m9 d9 n9 g1 g2 g3 g4 g5 g6 x1 r9 x2 x3
    obtain ⟨rfl, rfl, rfl, rfl⟩ := pkE_eq g1 hE1 g2 g3 g4 g5 g6
    have m1 := hm
    obtain ⟨yq, mq, dq, ap, wr, sz, gp, n0, n1, n2, nMA, n8, n9⟩ := id m1
    refine v_istore dL_law_724 (by decide) ?_
    refine v_aload_n dL_law_726 rfl ?_
    refine v_aload_n dL_law_727 rfl ?_
    refine v_iload dL_law_728 rfl ?_
    refine v_iconst dL_law_730 ?_
    refine v_iadd dL_law_731 ?_
    refine v_sldA (a := a1) dL_law_732 e1 ?_
    refine v_aload_n dL_law_733 rfl ?_
    refine v_iload dL_law_734 rfl ?_
    refine v_iconst dL_law_736 ?_
    refine v_iadd dL_law_737 ?_
    refine v_sldA (a := a2) dL_law_738 e2 ?_
    refine v_aload_n dL_law_739 rfl ?_
    refine v_iload dL_law_740 rfl ?_
    refine v_iconst dL_law_742 ?_
    refine v_iadd dL_law_743 ?_
    refine v_sldA (a := a3) dL_law_744 e3 ?_
    refine v_V3 (rm' := rX7_adjust) (RX7, TX7, 18) dL_law_745 km_L_117 kn_X7_adjust kv_X7_adjust kz_X7 mk_X7_adjust rfl rfl (by exact n0) ⟨Nat.le_of_ble_eq_true rfl, Nat.le_of_ble_eq_true rfl⟩ ⟨by show kc + 3 + 0 ≤ 600128; omega, by show ks + 18 + 0 ≤ 7301098; omega⟩ (Nat.le_of_ble_eq_true rfl) ?_
    refine s_X7_adjust hst n0 n1 n2 (hA_of hB 0 1 (by omega) (by omega) (by omega)) hgd hgn r1 r2 r3 (hV_of hE1) ?_ ?_ ?_ ?_
    · intro b1
      exfalso; first | omega | contradiction
    · intro b1 b2
      exfalso; first | omega | contradiction
    · intro q1 q2 q3 b1 b2 r8 b3 b4
      refine v_aload_n dL_law_748 rfl ?_
      refine v_V0 (rm' := rX7_thrown) (RX7, TX7, 18) dL_law_749 km_L_85 kn_X7_thrown kv_X7_thrown kz_X7 mk_X7_thrown rfl rfl (by exact aup_s) ⟨Nat.le_of_ble_eq_true rfl, Nat.le_of_ble_eq_true rfl⟩ ⟨by show kc + 3 + 0 + 0 ≤ 600128; omega, by show ks + 18 + 0 + 0 ≤ 7301098; omega⟩ (Nat.le_of_ble_eq_true rfl) ?_
      refine s_X7_thrown hst (aup_s) ?_
      refine v_iload dL_law_752 rfl ?_
      refine v_icmp_eq 759 dL_law_754 (fun h9 => ?_) (fun h9 => ?_)
      rotate_left
      · (exfalso; omega)
      refine v_goto 1530 dL_law_759 ?_
      exact v_wid (kc' := kc + 8) (ks' := ks + 48) (by show kc + 3 + 0 + 0 ≤ kc + 8; omega) (by show ks + 18 + 0 + 0 ≤ ks + 48; omega) (v_lof [(0, .ref G.scr.1), (1, .ref (B 0)), (2, .ref (B 39)), (3, .ref (B 50)), (4, .ref (B 51)), (5, .int (iI i))] (List.forall_mem_cons.mpr ⟨rfl, (List.forall_mem_cons.mpr ⟨rfl, (List.forall_mem_cons.mpr ⟨rfl, (List.forall_mem_cons.mpr ⟨rfl, (List.forall_mem_cons.mpr ⟨rfl, (List.forall_mem_cons.mpr ⟨rfl, (fun _ h => nomatch h)⟩)⟩)⟩)⟩)⟩)⟩) (K _ (SS.of (hc.o hB ⟨by omega, by omega⟩) (m1.md hB) (ho.c hB (by omega)) hd)))
    · intro q1 q2 q3 b1 b2 r8 b3 b4
      exfalso
      have e9 := adE_u x2 b3
      omega
  · intro y9 m9 d9 n9 g1 g2 g3 g4 g5 g6 x1 r9 y7 m7 d7 x2 v1 v2 v3 x3
    obtain ⟨rfl, rfl, rfl, rfl⟩ := pkE_eq g1 hE1 g2 g3 g4 g5 g6
    have m1 := (hm.c hB (k := (2 + a1.toNat)) (e := stC y7 m7 d7 (gn a1.toNat)) ⟨by omega, by omega⟩)
    obtain ⟨yq, mq, dq, ap, wr, sz, gp, n0, n1, n2, nMA, n8, n9⟩ := id m1
    refine v_istore dL_law_724 (by decide) ?_
    refine v_aload_n dL_law_726 rfl ?_
    refine v_aload_n dL_law_727 rfl ?_
    refine v_iload dL_law_728 rfl ?_
    refine v_iconst dL_law_730 ?_
    refine v_iadd dL_law_731 ?_
    refine v_sldA (a := a1) dL_law_732 e1 ?_
    refine v_aload_n dL_law_733 rfl ?_
    refine v_iload dL_law_734 rfl ?_
    refine v_iconst dL_law_736 ?_
    refine v_iadd dL_law_737 ?_
    refine v_sldA (a := a2) dL_law_738 e2 ?_
    refine v_aload_n dL_law_739 rfl ?_
    refine v_iload dL_law_740 rfl ?_
    refine v_iconst dL_law_742 ?_
    refine v_iadd dL_law_743 ?_
    refine v_sldA (a := a3) dL_law_744 e3 ?_
    refine v_V3 (rm' := rX7_adjust) (RX7, TX7, 18) dL_law_745 km_L_117 kn_X7_adjust kv_X7_adjust kz_X7 mk_X7_adjust rfl rfl (by exact n0) ⟨Nat.le_of_ble_eq_true rfl, Nat.le_of_ble_eq_true rfl⟩ ⟨by show kc + 3 + 0 ≤ 600128; omega, by show ks + 18 + 0 ≤ 7301098; omega⟩ (Nat.le_of_ble_eq_true rfl) ?_
    refine s_X7_adjust hst n0 n1 n2 (hA_of hB 0 1 (by omega) (by omega) (by omega)) hgd hgn r1 r2 r3 (hV_of hE1) ?_ ?_ ?_ ?_
    · intro b1
      exfalso; first | omega | contradiction
    · intro b1 b2
      exfalso; first | omega | contradiction
    · intro q1 q2 q3 b1 b2 r8 b3 b4
      exfalso
      have e9 := adE_u x2 b3
      have e8 := ed_rng v1 v2 v3
      omega
    · intro q1 q2 q3 b1 b2 r8 b3 b4
      have e9 := adE_u x2 b3
      subst e9
      refine v_aload_n dL_law_748 rfl ?_
      refine v_V0 (rm' := rX7_thrown) (RX7, TX7, 18) dL_law_749 km_L_85 kn_X7_thrown kv_X7_thrown kz_X7 mk_X7_thrown rfl rfl (by exact (kp hB (by omega) 39 (by omega) (by omega)).trans aup_s) ⟨Nat.le_of_ble_eq_true rfl, Nat.le_of_ble_eq_true rfl⟩ ⟨by show kc + 3 + 0 + 0 ≤ 600128; omega, by show ks + 18 + 0 + 0 ≤ 7301098; omega⟩ (Nat.le_of_ble_eq_true rfl) ?_
      refine s_X7_thrown hst ((kp hB (by omega) 39 (by omega) (by omega)).trans aup_s) ?_
      refine v_iload dL_law_752 rfl ?_
      refine v_icmp_eq 759 dL_law_754 (fun h9 => ?_) (fun h9 => ?_)
      rotate_left
      · (exfalso; omega)
      refine v_goto 1530 dL_law_759 ?_
      exact v_wid (kc' := kc + 8) (ks' := ks + 48) (by show kc + 3 + 0 + 0 ≤ kc + 8; omega) (by show ks + 18 + 0 + 0 ≤ ks + 48; omega) (v_lof [(0, .ref G.scr.1), (1, .ref (B 0)), (2, .ref (B 39)), (3, .ref (B 50)), (4, .ref (B 51)), (5, .int (iI i))] (List.forall_mem_cons.mpr ⟨rfl, (List.forall_mem_cons.mpr ⟨rfl, (List.forall_mem_cons.mpr ⟨rfl, (List.forall_mem_cons.mpr ⟨rfl, (List.forall_mem_cons.mpr ⟨rfl, (List.forall_mem_cons.mpr ⟨rfl, (fun _ h => nomatch h)⟩)⟩)⟩)⟩)⟩)⟩) (K _ (SS.of (((hc.sd hB (k := a1.toNat) (by omega) ⟨v1, v2, v3⟩ rfl x3).o hB ⟨by omega, by omega⟩).o hB ⟨by omega, by omega⟩) ((m1.md hB).d hB) (((ho.c hB (by omega)).c hB (by omega)).c hB (by omega)) hd)))
set_option maxRecDepth 100000 in
set_option maxHeartbeats 8000000 in
theorem lw_copy {l : Launch} {G : GG} {Q : Option Value → AH → Prop} {X : String → AH → Prop} {B : Nat → Nat} {i : Int} {w : AH} {kc ks : Nat} (hst : l.stackTraces = false) (hB : iB B) (hi : 0 ≤ i ∧ i + 7 ≤ (G.scr.2.1 : Int)) (hL9 : G.scr.2.1 ≤ 448) (hk : kc ≤ 500000 ∧ ks ≤ 7000000) (h : SS G B w) (K : ∀ w' : AH, SS G B w' → V l G mL_law room_1 Q X 1530 (lof [(0, .ref G.scr.1), (1, .ref (B 0)), (2, .ref (B 39)), (3, .ref (B 50)), (4, .ref (B 51)), (5, .int (iI i))]) [] w' (kc + 8) (ks + 48)) : V l G mL_law room_1 Q X 762 (lof [(0, .ref G.scr.1), (1, .ref (B 0)), (2, .ref (B 39)), (3, .ref (B 50)), (4, .ref (B 51)), (5, .int (iI i))]) [] w kc ks := by
  obtain ⟨th, gd, gn, L, gl, fz, cz, rz, gm, go, ru, vF, vC, vM, vO, vK, vR, hc, hm, ho, hd⟩ := h
  have hgd := hc.gdr
  have hgn := hc.gnr
  obtain ⟨a1, e1⟩ : ∃ a : Int, scI G (i + 1).toNat = a := ⟨_, rfl⟩
  have r1 : -2147483648 ≤ a1 ∧ a1 ≤ 2147483647 := e1 ▸ scI_r G _
  obtain ⟨a2, e2⟩ : ∃ a : Int, scI G (i + 2).toNat = a := ⟨_, rfl⟩
  have r2 : -2147483648 ≤ a2 ∧ a2 ≤ 2147483647 := e2 ▸ scI_r G _
  obtain ⟨y, m, d, hE1⟩ := hc.pick a1
  obtain ⟨y2, m2, d2, hE2⟩ := hc.pick a2
  obtain ⟨⟨vo, o50⟩, vd, o51⟩ := id ho
  refine v_aload_n dL_law_762 rfl ?_
  refine v_aload_n dL_law_763 rfl ?_
  refine v_iload dL_law_764 rfl ?_
  refine v_iconst dL_law_766 ?_
  refine v_iadd dL_law_767 ?_
  refine v_sldA (a := a1) dL_law_768 e1 ?_
  refine v_aload_n dL_law_769 rfl ?_
  refine v_iload dL_law_770 rfl ?_
  refine v_iconst dL_law_772 ?_
  refine v_iadd dL_law_773 ?_
  refine v_sldA (a := a2) dL_law_774 e2 ?_
  refine v_aload_n dL_law_775 rfl ?_
  refine v_SW4 (rm' := rL_copy) dL_law_776 km_L_118 ks_L_copy kz_L mk_L_copy rfl ⟨Nat.le_of_ble_eq_true rfl, Nat.le_of_ble_eq_true rfl⟩ ⟨by show kc + 2 ≤ 600128; omega, by show ks + 12 ≤ 7301098; omega⟩ (Nat.le_of_ble_eq_true rfl) ?_
  refine s_L_copy (sa := fun k => B (2 + k)) hst o50 hc.1.1 hc.1.2.1 hc.sv r1 ?_ r2 ?_ ?_
  · intro g1
    have m1 := hm
    obtain ⟨yq, mq, dq, ap, wr, sz, gp, n0, n1, n2, nMA, n8, n9⟩ := id m1
    refine v_istore dL_law_779 (by decide) ?_
    refine v_aload_n dL_law_781 rfl ?_
    refine v_aload_n dL_law_782 rfl ?_
    refine v_iload dL_law_783 rfl ?_
    refine v_iconst dL_law_785 ?_
    refine v_iadd dL_law_786 ?_
    refine v_sldA (a := a1) dL_law_787 e1 ?_
    refine v_aload_n dL_law_788 rfl ?_
    refine v_iload dL_law_789 rfl ?_
    refine v_iconst dL_law_791 ?_
    refine v_iadd dL_law_792 ?_
    refine v_sldA (a := a2) dL_law_793 e2 ?_
    refine v_V2 (rm' := rX7_copy) (RX7, TX7, 18) dL_law_794 km_L_120 kn_X7_copy kv_X7_copy kz_X7 mk_X7_copy rfl rfl (by exact n0) ⟨Nat.le_of_ble_eq_true rfl, Nat.le_of_ble_eq_true rfl⟩ ⟨by show kc + 2 + 0 ≤ 600128; omega, by show ks + 12 + 0 ≤ 7301098; omega⟩ (Nat.le_of_ble_eq_true rfl) ?_
    refine s_X7_copy hst n0 n1 n2 (hA_of hB 0 1 (by omega) (by omega) (by omega)) hgd hgn r1 r2 ?_ ?_
    · intro b1
      refine v_istore dL_law_797 (by decide) ?_
      refine v_aload_n dL_law_799 rfl ?_
      refine v_V0 (rm' := rX7_thrown) (RX7, TX7, 18) dL_law_800 km_L_85 kn_X7_thrown kv_X7_thrown kz_X7 mk_X7_thrown rfl rfl (by exact aup_s) ⟨Nat.le_of_ble_eq_true rfl, Nat.le_of_ble_eq_true rfl⟩ ⟨by show kc + 2 + 0 + 0 ≤ 600128; omega, by show ks + 12 + 0 + 0 ≤ 7301098; omega⟩ (Nat.le_of_ble_eq_true rfl) ?_
      refine s_X7_thrown hst (aup_s) ?_
      refine v_iload dL_law_803 rfl ?_
      refine v_icmp_eq 810 dL_law_805 (fun h9 => ?_) (fun h9 => ?_)
      rotate_left
      · (exfalso; omega)
      refine v_iload dL_law_810 rfl ?_
      refine v_if_ne 827 dL_law_812 (fun h9 => ?_) (fun h9 => ?_)
      rotate_left
      · (exfalso; omega)
      refine v_goto 1530 dL_law_827 ?_
      exact v_wid (kc' := kc + 8) (ks' := ks + 48) (by show kc + 2 + 0 + 0 ≤ kc + 8; omega) (by show ks + 12 + 0 + 0 ≤ ks + 48; omega) (v_lof [(0, .ref G.scr.1), (1, .ref (B 0)), (2, .ref (B 39)), (3, .ref (B 50)), (4, .ref (B 51)), (5, .int (iI i))] (List.forall_mem_cons.mpr ⟨rfl, (List.forall_mem_cons.mpr ⟨rfl, (List.forall_mem_cons.mpr ⟨rfl, (List.forall_mem_cons.mpr ⟨rfl, (List.forall_mem_cons.mpr ⟨rfl, (List.forall_mem_cons.mpr ⟨rfl, (fun _ h => nomatch h)⟩)⟩)⟩)⟩)⟩)⟩) (K _ (SS.of (hc.o hB ⟨by omega, by omega⟩) (m1.md hB) (ho.c hB (by omega)) hd)))
    · intro r8 b1 b2 b3
      exfalso; first | omega | contradiction
  · intro g1 g2
    have m1 := hm
    obtain ⟨yq, mq, dq, ap, wr, sz, gp, n0, n1, n2, nMA, n8, n9⟩ := id m1
    refine v_istore dL_law_779 (by decide) ?_
    refine v_aload_n dL_law_781 rfl ?_
    refine v_aload_n dL_law_782 rfl ?_
    refine v_iload dL_law_783 rfl ?_
    refine v_iconst dL_law_785 ?_
    refine v_iadd dL_law_786 ?_
    refine v_sldA (a := a1) dL_law_787 e1 ?_
    refine v_aload_n dL_law_788 rfl ?_
    refine v_iload dL_law_789 rfl ?_
    refine v_iconst dL_law_791 ?_
    refine v_iadd dL_law_792 ?_
    refine v_sldA (a := a2) dL_law_793 e2 ?_
    refine v_V2 (rm' := rX7_copy) (RX7, TX7, 18) dL_law_794 km_L_120 kn_X7_copy kv_X7_copy kz_X7 mk_X7_copy rfl rfl (by exact n0) ⟨Nat.le_of_ble_eq_true rfl, Nat.le_of_ble_eq_true rfl⟩ ⟨by show kc + 2 + 0 ≤ 600128; omega, by show ks + 12 + 0 ≤ 7301098; omega⟩ (Nat.le_of_ble_eq_true rfl) ?_
    refine s_X7_copy hst n0 n1 n2 (hA_of hB 0 1 (by omega) (by omega) (by omega)) hgd hgn r1 r2 ?_ ?_
    · intro b1
      refine v_istore dL_law_797 (by decide) ?_
      refine v_aload_n dL_law_799 rfl ?_
      refine v_V0 (rm' := rX7_thrown) (RX7, TX7, 18) dL_law_800 km_L_85 kn_X7_thrown kv_X7_thrown kz_X7 mk_X7_thrown rfl rfl (by exact aup_s) ⟨Nat.le_of_ble_eq_true rfl, Nat.le_of_ble_eq_true rfl⟩ ⟨by show kc + 2 + 0 + 0 ≤ 600128; omega, by show ks + 12 + 0 + 0 ≤ 7301098; omega⟩ (Nat.le_of_ble_eq_true rfl) ?_
      refine s_X7_thrown hst (aup_s) ?_
      refine v_iload dL_law_803 rfl ?_
      refine v_icmp_eq 810 dL_law_805 (fun h9 => ?_) (fun h9 => ?_)
      rotate_left
      · (exfalso; omega)
      refine v_iload dL_law_810 rfl ?_
      refine v_if_ne 827 dL_law_812 (fun h9 => ?_) (fun h9 => ?_)
      rotate_left
      · (exfalso; omega)
      refine v_goto 1530 dL_law_827 ?_
      exact v_wid (kc' := kc + 8) (ks' := ks + 48) (by show kc + 2 + 0 + 0 ≤ kc + 8; omega) (by show ks + 12 + 0 + 0 ≤ ks + 48; omega) (v_lof [(0, .ref G.scr.1), (1, .ref (B 0)), (2, .ref (B 39)), (3, .ref (B 50)), (4, .ref (B 51)), (5, .int (iI i))] (List.forall_mem_cons.mpr ⟨rfl, (List.forall_mem_cons.mpr ⟨rfl, (List.forall_mem_cons.mpr ⟨rfl, (List.forall_mem_cons.mpr ⟨rfl, (List.forall_mem_cons.mpr ⟨rfl, (List.forall_mem_cons.mpr ⟨rfl, (fun _ h => nomatch h)⟩)⟩)⟩)⟩)⟩)⟩) (K _ (SS.of (hc.o hB ⟨by omega, by omega⟩) (m1.md hB) (ho.c hB (by omega)) hd)))
    · intro r8 b1 b2 b3
      exfalso; first | omega | contradiction
  · intro y9 m9 d9 n9 g1 g2 g3 g4 g5 g6 y8 m8 d8 n8 k1 k2 k3 k4 k5 k6 r9 x1
    obtain ⟨rfl, rfl, rfl, rfl⟩ := pkE_eq g1 hE1 g2 g3 g4 g5 g6
    obtain ⟨rfl, rfl, rfl, rfl⟩ := pkE_eq k1 hE2 k2 k3 k4 k5 k6
    have m1 := ((hm.c hB (k := (2 + a2.toNat)) (e := stC y m d (gn a1.toNat)) ⟨by omega, by omega⟩).c hB (k := 50) (e := alA G 1 (gup vo 0 (r9))) ⟨by omega, by omega⟩)
    obtain ⟨yq, mq, dq, ap, wr, sz, gp, n0, n1, n2, nMA, n8, n9⟩ := id m1
    refine v_istore dL_law_779 (by decide) ?_
    refine v_aload_n dL_law_781 rfl ?_
    refine v_aload_n dL_law_782 rfl ?_
    refine v_iload dL_law_783 rfl ?_
    refine v_iconst dL_law_785 ?_
    refine v_iadd dL_law_786 ?_
    refine v_sldA (a := a1) dL_law_787 e1 ?_
    refine v_aload_n dL_law_788 rfl ?_
    refine v_iload dL_law_789 rfl ?_
    refine v_iconst dL_law_791 ?_
    refine v_iadd dL_law_792 ?_
    refine v_sldA (a := a2) dL_law_793 e2 ?_
    refine v_V2 (rm' := rX7_copy) (RX7, TX7, 18) dL_law_794 km_L_120 kn_X7_copy kv_X7_copy kz_X7 mk_X7_copy rfl rfl (by exact n0) ⟨Nat.le_of_ble_eq_true rfl, Nat.le_of_ble_eq_true rfl⟩ ⟨by show kc + 2 + 0 ≤ 600128; omega, by show ks + 12 + 0 ≤ 7301098; omega⟩ (Nat.le_of_ble_eq_true rfl) ?_
    refine s_X7_copy hst n0 n1 n2 (hA_of hB 0 1 (by omega) (by omega) (by omega)) hgd hgn r1 r2 ?_ ?_
    · intro b1
      exfalso; first | omega | contradiction
    · intro r8 b1 b2 b3
      rw [(hE1 g1).2.1, (hE2 k1).2.1] at b3
      have e9 := cmpE_u x1 b3
      subst e9
      have e8 := cmpE_r x1
      refine v_istore dL_law_797 (by decide) ?_
      refine v_aload_n dL_law_799 rfl ?_
      refine v_V0 (rm' := rX7_thrown) (RX7, TX7, 18) dL_law_800 km_L_85 kn_X7_thrown kv_X7_thrown kz_X7 mk_X7_thrown rfl rfl (by exact (kp hB (by omega) 39 (by omega) (by omega)).trans ((kp hB (by omega) 39 (by omega) (by omega)).trans aup_s)) ⟨Nat.le_of_ble_eq_true rfl, Nat.le_of_ble_eq_true rfl⟩ ⟨by show kc + 2 + 0 + 0 ≤ 600128; omega, by show ks + 12 + 0 + 0 ≤ 7301098; omega⟩ (Nat.le_of_ble_eq_true rfl) ?_
      refine s_X7_thrown hst ((kp hB (by omega) 39 (by omega) (by omega)).trans ((kp hB (by omega) 39 (by omega) (by omega)).trans aup_s)) ?_
      refine v_iload dL_law_803 rfl ?_
      refine v_icmp_eq 810 dL_law_805 (fun h9 => ?_) (fun h9 => ?_)
      rotate_left
      · (exfalso; omega)
      refine v_iload dL_law_810 rfl ?_
      refine v_if_ne 827 dL_law_812 (fun h9 => ?_) (fun h9 => ?_)
      · (exfalso; omega)
      refine v_aload_n dL_law_815 rfl ?_
      refine v_iconst dL_law_816 ?_
      refine v_laldX dL_law_817 (by exact (kp hB (by omega) 50 (by omega) (by omega)).trans ((kp hB (by omega) 50 (by omega) (by omega)).trans ((kp hB (by omega) 50 (by omega) (by omega)).trans aup_s))) (show _ = r9 from gup_s) ?_
      refine v_iload dL_law_818 rfl ?_
      refine v_i2l dL_law_820 ?_
      refine v_lsame 827 dL_law_821 dL_law_822 ?_
      refine v_goto 1530 dL_law_827 ?_
      exact v_wid (kc' := kc + 8) (ks' := ks + 48) (by show kc + 2 + 0 + 0 ≤ kc + 8; omega) (by show ks + 12 + 0 + 0 ≤ ks + 48; omega) (v_lof [(0, .ref G.scr.1), (1, .ref (B 0)), (2, .ref (B 39)), (3, .ref (B 50)), (4, .ref (B 51)), (5, .int (iI i))] (List.forall_mem_cons.mpr ⟨rfl, (List.forall_mem_cons.mpr ⟨rfl, (List.forall_mem_cons.mpr ⟨rfl, (List.forall_mem_cons.mpr ⟨rfl, (List.forall_mem_cons.mpr ⟨rfl, (List.forall_mem_cons.mpr ⟨rfl, (fun _ h => nomatch h)⟩)⟩)⟩)⟩)⟩)⟩) (K _ (SS.of (((((hc.sb hB (k := a2.toNat) (by omega) (hE1 g1).2.2.1 (hE1 g1).2.2.2 (hE1 g1).2.1.symm rfl).o hB ⟨by omega, by omega⟩).o hB ⟨by omega, by omega⟩).o hB ⟨by omega, by omega⟩).o hB ⟨by omega, by omega⟩) (((m1.md hB).d hB).n hB) (((((ho.c hB (by omega)).l hB).c hB (by omega)).c hB (by omega)).c hB (by omega)) hd)))
