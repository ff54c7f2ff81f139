set_option maxRecDepth 100000 in
set_option maxHeartbeats 8000000 in
theorem lw_plus {l : Launch} {G : GG} {Q : Option Value → AH → Prop} {X : String → AH → Prop} {B : Nat → Nat} {i : Int} {w : AH} {kc ks : Nat} (hst : l.stackTraces = false) (hB : iB B) (hi : 0 ≤ i ∧ i + 7 ≤ (G.scr.2.1 : Int)) (hL9 : G.scr.2.1 ≤ 448) (hk : kc ≤ 500000 ∧ ks ≤ 7000000) (h : SS G B w) (K : ∀ w' : AH, SS G B w' → V l G mL_law room_1 Q X 1530 (lof [(0, .ref G.scr.1), (1, .ref (B 0)), (2, .ref (B 39)), (3, .ref (B 50)), (4, .ref (B 51)), (5, .int (iI i))]) [] w' (kc + 8) (ks + 48)) : V l G mL_law room_1 Q X 451 (lof [(0, .ref G.scr.1), (1, .ref (B 0)), (2, .ref (B 39)), (3, .ref (B 50)), (4, .ref (B 51)), (5, .int (iI i))]) [] w kc ks := by
  obtain ⟨th, gd, gn, L, gl, fz, cz, rz, gm, go, ru, vF, vC, vM, vO, vK, vR, hc, hm, ho, hd⟩ := h
  have hgd := hc.gdr
  have hgn := hc.gnr
  obtain ⟨a1, e1⟩ : ∃ a : Int, scI G (i + 1).toNat = a := ⟨_, rfl⟩
  have r1 : -2147483648 ≤ a1 ∧ a1 ≤ 2147483647 := e1 ▸ scI_r G _
  obtain ⟨a2, e2⟩ : ∃ a : Int, scI G (i + 2).toNat = a := ⟨_, rfl⟩
  have r2 : -2147483648 ≤ a2 ∧ a2 ≤ 2147483647 := e2 ▸ scI_r G _
  obtain ⟨a3, e3⟩ : ∃ a : Int, scI G (i + 3).toNat = a := ⟨_, rfl⟩
  have r3 : -2147483648 ≤ a3 ∧ a3 ≤ 2147483647 := e3 ▸ scI_r G _
  obtain ⟨a4, e4⟩ : ∃ a : Int, scI G (i + 4).toNat = a := ⟨_, rfl⟩
  have r4 : -2147483648 ≤ a4 ∧ a4 ≤ 2147483647 := e4 ▸ scI_r G _
  obtain ⟨t, et⟩ : ∃ t : Int, mLg a2 a3 = t := ⟨_, rfl⟩
  have rt : -9223372036854775808 ≤ t ∧ t ≤ 9223372036854775807 := et ▸ mLg_r _ _
  obtain ⟨y, m, d, hE1⟩ := hc.pick a1
  refine v_aload_n dL_law_451 rfl ?_
  refine v_aload_n dL_law_452 rfl ?_
  refine v_iload dL_law_453 rfl ?_
  refine v_iconst dL_law_455 ?_
  refine v_iadd dL_law_456 ?_
  refine v_sldA (a := a1) dL_law_457 e1 ?_
  refine v_aload_n dL_law_458 rfl ?_
  refine v_iload dL_law_459 rfl ?_
  refine v_iconst dL_law_461 ?_
  refine v_iadd dL_law_462 ?_
  refine v_sldA (a := a2) dL_law_463 e2 ?_
  refine v_i2l dL_law_464 ?_
  refine v_bipush dL_law_465 ?_
  refine v_lshl dL_law_467 ?_
  refine v_aload_n dL_law_468 rfl ?_
  refine v_iload dL_law_469 rfl ?_
  refine v_iconst dL_law_471 ?_
  refine v_iadd dL_law_472 ?_
  refine v_sldA (a := a3) dL_law_473 e3 ?_
  refine v_i2l dL_law_474 ?_
  refine v_ldc2 4294967295 dL_law_475 kl_L_97 ?_
  refine v_land dL_law_478 ?_
  refine v_lorL (t := t) dL_law_479 et ?_
  refine v_aload_n dL_law_480 rfl ?_
  refine v_iload dL_law_481 rfl ?_
  refine v_iconst dL_law_483 ?_
  refine v_iadd dL_law_484 ?_
  refine v_sldA (a := a4) dL_law_485 e4 ?_
  refine v_SW4 (rm' := rL_plus) dL_law_486 km_L_103 ks_L_plus kz_L mk_L_plus rfl ⟨Nat.le_of_ble_eq_true rfl, Nat.le_of_ble_eq_true rfl⟩ ⟨by show kc + 3 ≤ 600128; omega, by show ks + 18 ≤ 7301098; omega⟩ (Nat.le_of_ble_eq_true rfl) ?_
  refine s_L_plus (sa := fun k => B (2 + k)) hst hc.1.1 hc.1.2.1 hc.sv r1 ?_ rt r4 ?_ ?_ ?_ ?_ ?_ ?_
  · intro g1
    have m1 := hm
    obtain ⟨yq, mq, dq, ap, wr, sz, gp, n0, n1, n2, nMA, n8, n9⟩ := id m1
    refine v_istore dL_law_489 (by decide) ?_
    refine v_aload_n dL_law_491 rfl ?_
    refine v_aload_n dL_law_492 rfl ?_
    refine v_iload dL_law_493 rfl ?_
    refine v_iconst dL_law_495 ?_
    refine v_iadd dL_law_496 ?_
    refine v_sldA (a := a1) dL_law_497 e1 ?_
    refine v_aload_n dL_law_498 rfl ?_
    refine v_iload dL_law_499 rfl ?_
    refine v_iconst dL_law_501 ?_
    refine v_iadd dL_law_502 ?_
    refine v_sldA (a := a2) dL_law_503 e2 ?_
    refine v_i2l dL_law_504 ?_
    refine v_bipush dL_law_505 ?_
    refine v_lshl dL_law_507 ?_
    refine v_aload_n dL_law_508 rfl ?_
    refine v_iload dL_law_509 rfl ?_
    refine v_iconst dL_law_511 ?_
    refine v_iadd dL_law_512 ?_
    refine v_sldA (a := a3) dL_law_513 e3 ?_
    refine v_i2l dL_law_514 ?_
    refine v_ldc2 4294967295 dL_law_515 kl_L_97 ?_
    refine v_land dL_law_518 ?_
    refine v_lorL (t := t) dL_law_519 et ?_
    refine v_aload_n dL_law_520 rfl ?_
    refine v_iload dL_law_521 rfl ?_
    refine v_iconst dL_law_523 ?_
    refine v_iadd dL_law_524 ?_
    refine v_sldA (a := a4) dL_law_525 e4 ?_
    refine v_V3 (rm' := rX7_plus) (RX7, TX7, 18) dL_law_526 km_L_106 kn_X7_plus kv_X7_plus kz_X7 mk_X7_plus rfl rfl (by exact n0) ⟨Nat.le_of_ble_eq_true rfl, Nat.le_of_ble_eq_true rfl⟩ ⟨by show kc + 3 + 0 ≤ 600128; omega, by show ks + 18 + 0 ≤ 7301098; omega⟩ (Nat.le_of_ble_eq_true rfl) ?_
    refine s_X7_plus hst n0 n1 n2 (hA_of hB 0 1 (by omega) (by omega) (by omega)) hgd hgn r1 r4 rt (hV_of hE1) ?_ ?_ ?_ ?_ ?_ ?_ ?_
    · intro b1
      refine v_aload_n dL_law_529 rfl ?_
      refine v_V0 (rm' := rX7_thrown) (RX7, TX7, 18) dL_law_530 km_L_85 kn_X7_thrown kv_X7_thrown kz_X7 mk_X7_thrown rfl rfl (by exact aup_s) ⟨Nat.le_of_ble_eq_true rfl, Nat.le_of_ble_eq_true rfl⟩ ⟨by show kc + 3 + 0 + 0 ≤ 600128; omega, by show ks + 18 + 0 + 0 ≤ 7301098; omega⟩ (Nat.le_of_ble_eq_true rfl) ?_
      refine s_X7_thrown hst (aup_s) ?_
      refine v_iload dL_law_533 rfl ?_
      refine v_icmp_eq 540 dL_law_535 (fun h9 => ?_) (fun h9 => ?_)
      rotate_left
      · (exfalso; omega)
      refine v_goto 1530 dL_law_540 ?_
      exact v_wid (kc' := kc + 8) (ks' := ks + 48) (by show kc + 3 + 0 + 0 ≤ kc + 8; omega) (by show ks + 18 + 0 + 0 ≤ ks + 48; omega) (v_lof [(0, .ref G.scr.1), (1, .ref (B 0)), (2, .ref (B 39)), (3, .ref (B 50)), (4, .ref (B 51)), (5, .int (iI i))] (List.forall_mem_cons.mpr ⟨rfl, (List.forall_mem_cons.mpr ⟨rfl, (List.forall_mem_cons.mpr ⟨rfl, (List.forall_mem_cons.mpr ⟨rfl, (List.forall_mem_cons.mpr ⟨rfl, (List.forall_mem_cons.mpr ⟨rfl, (fun _ h => nomatch h)⟩)⟩)⟩)⟩)⟩)⟩) (K _ (SS.of (hc.o hB ⟨by omega, by omega⟩) (m1.md hB) (ho.c hB (by omega)) hd)))
    · intro b1 b2
      exfalso; first | omega | contradiction
    · intro q1 q2 q3 b1 b2 b3
      exfalso; first | omega | contradiction
    · intro q1 q2 q3 b1 b2 b3 t8 b4 b5
      exfalso; first | omega | contradiction
    · intro q1 q2 q3 b1 b2 b3 t8 b4 b5
      exfalso; first | omega | contradiction
    · intro q1 q2 q3 b1 b2 b3 T8 D8 b4 b5
      exfalso; first | omega | contradiction
    · intro q1 q2 q3 b1 b2 b3 T8 D8 b4 b5
      exfalso; first | omega | contradiction
  · intro g1 x1
    have m1 := hm
    obtain ⟨yq, mq, dq, ap, wr, sz, gp, n0, n1, n2, nMA, n8, n9⟩ := id m1
    refine v_istore dL_law_489 (by decide) ?_
    refine v_aload_n dL_law_491 rfl ?_
    refine v_aload_n dL_law_492 rfl ?_
    refine v_iload dL_law_493 rfl ?_
    refine v_iconst dL_law_495 ?_
    refine v_iadd dL_law_496 ?_
    refine v_sldA (a := a1) dL_law_497 e1 ?_
    refine v_aload_n dL_law_498 rfl ?_
    refine v_iload dL_law_499 rfl ?_
    refine v_iconst dL_law_501 ?_
    refine v_iadd dL_law_502 ?_
    refine v_sldA (a := a2) dL_law_503 e2 ?_
    refine v_i2l dL_law_504 ?_
    refine v_bipush dL_law_505 ?_
    refine v_lshl dL_law_507 ?_
    refine v_aload_n dL_law_508 rfl ?_
    refine v_iload dL_law_509 rfl ?_
    refine v_iconst dL_law_511 ?_
    refine v_iadd dL_law_512 ?_
    refine v_sldA (a := a3) dL_law_513 e3 ?_
    refine v_i2l dL_law_514 ?_
    refine v_ldc2 4294967295 dL_law_515 kl_L_97 ?_
    refine v_land dL_law_518 ?_
    refine v_lorL (t := t) dL_law_519 et ?_
    refine v_aload_n dL_law_520 rfl ?_
    refine v_iload dL_law_521 rfl ?_
    refine v_iconst dL_law_523 ?_
    refine v_iadd dL_law_524 ?_
    refine v_sldA (a := a4) dL_law_525 e4 ?_
    refine v_V3 (rm' := rX7_plus) (RX7, TX7, 18) dL_law_526 km_L_106 kn_X7_plus kv_X7_plus kz_X7 mk_X7_plus rfl rfl (by exact n0) ⟨Nat.le_of_ble_eq_true rfl, Nat.le_of_ble_eq_true rfl⟩ ⟨by show kc + 3 + 0 ≤ 600128; omega, by show ks + 18 + 0 ≤ 7301098; omega⟩ (Nat.le_of_ble_eq_true rfl) ?_
    refine s_X7_plus hst n0 n1 n2 (hA_of hB 0 1 (by omega) (by omega) (by omega)) hgd hgn r1 r4 rt (hV_of hE1) ?_ ?_ ?_ ?_ ?_ ?_ ?_
    · intro b1
      exfalso; first | omega | contradiction
    · intro b1 b2
      refine v_aload_n dL_law_529 rfl ?_
      refine v_V0 (rm' := rX7_thrown) (RX7, TX7, 18) dL_law_530 km_L_85 kn_X7_thrown kv_X7_thrown kz_X7 mk_X7_thrown rfl rfl (by exact aup_s) ⟨Nat.le_of_ble_eq_true rfl, Nat.le_of_ble_eq_true rfl⟩ ⟨by show kc + 3 + 0 + 0 ≤ 600128; omega, by show ks + 18 + 0 + 0 ≤ 7301098; omega⟩ (Nat.le_of_ble_eq_true rfl) ?_
      refine s_X7_thrown hst (aup_s) ?_
      refine v_iload dL_law_533 rfl ?_
      refine v_icmp_eq 540 dL_law_535 (fun h9 => ?_) (fun h9 => ?_)
      rotate_left
      · (exfalso; omega)
      refine v_goto 1530 dL_law_540 ?_
      exact v_wid (kc' := kc + 8) (ks' := ks + 48) (by show kc + 3 + 0 + 0 ≤ kc + 8; omega) (by show ks + 18 + 0 + 0 ≤ ks + 48; omega) (v_lof [(0, .ref G.scr.1), (1, .ref (B 0)), (2, .ref (B 39)), (3, .ref (B 50)), (4, .ref (B 51)), (5, .int (iI i))] (List.forall_mem_cons.mpr ⟨rfl, (List.forall_mem_cons.mpr ⟨rfl, (List.forall_mem_cons.mpr ⟨rfl, (List.forall_mem_cons.mpr ⟨rfl, (List.forall_mem_cons.mpr ⟨rfl, (List.forall_mem_cons.mpr ⟨rfl, (fun _ h => nomatch h)⟩)⟩)⟩)⟩)⟩)⟩) (K _ (SS.of (hc.o hB ⟨by omega, by omega⟩) (m1.md hB) (ho.c hB (by omega)) hd)))
    · intro q1 q2 q3 b1 b2 b3
      exfalso; first | omega | contradiction
    · intro q1 q2 q3 b1 b2 b3 t8 b4 b5
      exfalso; first | omega | contradiction
    · intro q1 q2 q3 b1 b2 b3 t8 b4 b5
      exfalso; first | omega | contradiction
    · intro q1 q2 q3 b1 b2 b3 T8 D8 b4 b5
      exfalso; first | omega | contradiction
    · intro q1 q2 q3 b1 b2 b3 T8 D8 b4 b5
      exfalso; first | omega | contradiction
  · intro y9 m9 d9 n9 g1 g2 g3 g4 g5 g6 x1 x2
    obtain ⟨rfl, rfl, rfl, rfl⟩ := pkE_eq g1 hE1 g2 g3 g4 g5 g6
    have m1 := hm
    obtain ⟨yq, mq, dq, ap, wr, sz, gp, n0, n1, n2, nMA, n8, n9⟩ := id m1
    refine v_istore dL_law_489 (by decide) ?_
    refine v_aload_n dL_law_491 rfl ?_
    refine v_aload_n dL_law_492 rfl ?_
    refine v_iload dL_law_493 rfl ?_
    refine v_iconst dL_law_495 ?_
    refine v_iadd dL_law_496 ?_
    refine v_sldA (a := a1) dL_law_497 e1 ?_
    refine v_aload_n dL_law_498 rfl ?_
    refine v_iload dL_law_499 rfl ?_
    refine v_iconst dL_law_501 ?_
    refine v_iadd dL_law_502 ?_
    refine v_sldA (a := a2) dL_law_503 e2 ?_
    refine v_i2l dL_law_504 ?_
    refine v_bipush dL_law_505 ?_
    refine v_lshl dL_law_507 ?_
    refine v_aload_n dL_law_508 rfl ?_
    refine v_iload dL_law_509 rfl ?_
    refine v_iconst dL_law_511 ?_
    refine v_iadd dL_law_512 ?_
    refine v_sldA (a := a3) dL_law_513 e3 ?_
    refine v_i2l dL_law_514 ?_
    refine v_ldc2 4294967295 dL_law_515 kl_L_97 ?_
    refine v_land dL_law_518 ?_
    refine v_lorL (t := t) dL_law_519 et ?_
    refine v_aload_n dL_law_520 rfl ?_
    refine v_iload dL_law_521 rfl ?_
    refine v_iconst dL_law_523 ?_
    refine v_iadd dL_law_524 ?_
    refine v_sldA (a := a4) dL_law_525 e4 ?_
    refine v_V3 (rm' := rX7_plus) (RX7, TX7, 18) dL_law_526 km_L_106 kn_X7_plus kv_X7_plus kz_X7 mk_X7_plus rfl rfl (by exact n0) ⟨Nat.le_of_ble_eq_true rfl, Nat.le_of_ble_eq_true rfl⟩ ⟨by show kc + 3 + 0 ≤ 600128; omega, by show ks + 18 + 0 ≤ 7301098; omega⟩ (Nat.le_of_ble_eq_true rfl) ?_
    refine s_X7_plus hst n0 n1 n2 (hA_of hB 0 1 (by omega) (by omega) (by omega)) hgd hgn r1 r4 rt (hV_of hE1) ?_ ?_ ?_ ?_ ?_ ?_ ?_
    · intro b1
      exfalso; first | omega | contradiction
    · intro b1 b2
      exfalso; first | omega | contradiction
    · intro q1 q2 q3 b1 b2 b3
      refine v_aload_n dL_law_529 rfl ?_
      refine v_V0 (rm' := rX7_thrown) (RX7, TX7, 18) dL_law_530 km_L_85 kn_X7_thrown kv_X7_thrown kz_X7 mk_X7_thrown rfl rfl (by exact aup_s) ⟨Nat.le_of_ble_eq_true rfl, Nat.le_of_ble_eq_true rfl⟩ ⟨by show kc + 3 + 0 + 0 ≤ 600128; omega, by show ks + 18 + 0 + 0 ≤ 7301098; omega⟩ (Nat.le_of_ble_eq_true rfl) ?_
      refine s_X7_thrown hst (aup_s) ?_
      refine v_iload dL_law_533 rfl ?_
      refine v_icmp_eq 540 dL_law_535 (fun h9 => ?_) (fun h9 => ?_)
      rotate_left
      · (exfalso; omega)
      refine v_goto 1530 dL_law_540 ?_
      exact v_wid (kc' := kc + 8) (ks' := ks + 48) (by show kc + 3 + 0 + 0 ≤ kc + 8; omega) (by show ks + 18 + 0 + 0 ≤ ks + 48; omega) (v_lof [(0, .ref G.scr.1), (1, .ref (B 0)), (2, .ref (B 39)), (3, .ref (B 50)), (4, .ref (B 51)), (5, .int (iI i))] (List.forall_mem_cons.mpr ⟨rfl, (List.forall_mem_cons.mpr ⟨rfl, (List.forall_mem_cons.mpr ⟨rfl, (List.forall_mem_cons.mpr ⟨rfl, (List.forall_mem_cons.mpr ⟨rfl, (List.forall_mem_cons.mpr ⟨rfl, (fun _ h => nomatch h)⟩)⟩)⟩)⟩)⟩)⟩) (K _ (SS.of (hc.o hB ⟨by omega, by omega⟩) (m1.md hB) (ho.c hB (by omega)) hd)))
    · intro q1 q2 q3 b1 b2 b3 t8 b4 b5
      exfalso; first | omega | contradiction
    · intro q1 q2 q3 b1 b2 b3 t8 b4 b5
      exfalso; first | omega | contradiction
    · intro q1 q2 q3 b1 b2 b3 T8 D8 b4 b5
      exfalso; first | omega | contradiction
    · intro q1 q2 q3 b1 b2 b3 T8 D8 b4 b5
      exfalso; first | omega | contradiction
  · intro y9 m9 d9 n9 g1 g2 g3 g4 g5 g6 x1 x2 t9 x3 x4
    obtain ⟨rfl, rfl, rfl, rfl⟩ := pkE_eq g1 hE1 g2 g3 g4 g5 g6
    have m1 := (hm.c hB (k := (2 + a1.toNat)) (e := stC (t9 / 12) (t9 % 12 + 1) (if d ≤ lenM (t9 / 12) (t9 % 12 + 1) then d else lenM (t9 / 12) (t9 % 12 + 1)) (gn a1.toNat)) ⟨by omega, by omega⟩)
    obtain ⟨yq, mq, dq, ap, wr, sz, gp, n0, n1, n2, nMA, n8, n9⟩ := id m1
    refine v_istore dL_law_489 (by decide) ?_
    refine v_aload_n dL_law_491 rfl ?_
    refine v_aload_n dL_law_492 rfl ?_
    refine v_iload dL_law_493 rfl ?_
    refine v_iconst dL_law_495 ?_
    refine v_iadd dL_law_496 ?_
    refine v_sldA (a := a1) dL_law_497 e1 ?_
    refine v_aload_n dL_law_498 rfl ?_
    refine v_iload dL_law_499 rfl ?_
    refine v_iconst dL_law_501 ?_
    refine v_iadd dL_law_502 ?_
    refine v_sldA (a := a2) dL_law_503 e2 ?_
    refine v_i2l dL_law_504 ?_
    refine v_bipush dL_law_505 ?_
    refine v_lshl dL_law_507 ?_
    refine v_aload_n dL_law_508 rfl ?_
    refine v_iload dL_law_509 rfl ?_
    refine v_iconst dL_law_511 ?_
    refine v_iadd dL_law_512 ?_
    refine v_sldA (a := a3) dL_law_513 e3 ?_
    refine v_i2l dL_law_514 ?_
    refine v_ldc2 4294967295 dL_law_515 kl_L_97 ?_
    refine v_land dL_law_518 ?_
    refine v_lorL (t := t) dL_law_519 et ?_
    refine v_aload_n dL_law_520 rfl ?_
    refine v_iload dL_law_521 rfl ?_
    refine v_iconst dL_law_523 ?_
    refine v_iadd dL_law_524 ?_
    refine v_sldA (a := a4) dL_law_525 e4 ?_
    refine v_V3 (rm' := rX7_plus) (RX7, TX7, 18) dL_law_526 km_L_106 kn_X7_plus kv_X7_plus kz_X7 mk_X7_plus rfl rfl (by exact n0) ⟨Nat.le_of_ble_eq_true rfl, Nat.le_of_ble_eq_true rfl⟩ ⟨by show kc + 3 + 0 ≤ 600128; omega, by show ks + 18 + 0 ≤ 7301098; omega⟩ (Nat.le_of_ble_eq_true rfl) ?_
    refine s_X7_plus hst n0 n1 n2 (hA_of hB 0 1 (by omega) (by omega) (by omega)) hgd hgn r1 r4 rt (hV_of hE1) ?_ ?_ ?_ ?_ ?_ ?_ ?_
    · intro b1
      exfalso; first | omega | contradiction
    · intro b1 b2
      exfalso; first | omega | contradiction
    · intro q1 q2 q3 b1 b2 b3
      exfalso; first | omega | contradiction
    · intro q1 q2 q3 b1 b2 b3 t8 b4 b5
      have e9 : t9 = t8 := by rw [x3, b4]
      subst e9
      refine v_aload_n dL_law_529 rfl ?_
      refine v_V0 (rm' := rX7_thrown) (RX7, TX7, 18) dL_law_530 km_L_85 kn_X7_thrown kv_X7_thrown kz_X7 mk_X7_thrown rfl rfl (by exact (kp hB (by omega) 39 (by omega) (by omega)).trans aup_s) ⟨Nat.le_of_ble_eq_true rfl, Nat.le_of_ble_eq_true rfl⟩ ⟨by show kc + 3 + 0 + 0 ≤ 600128; omega, by show ks + 18 + 0 + 0 ≤ 7301098; omega⟩ (Nat.le_of_ble_eq_true rfl) ?_
      refine s_X7_thrown hst ((kp hB (by omega) 39 (by omega) (by omega)).trans aup_s) ?_
      refine v_iload dL_law_533 rfl ?_
      refine v_icmp_eq 540 dL_law_535 (fun h9 => ?_) (fun h9 => ?_)
      rotate_left
      · (exfalso; omega)
      refine v_goto 1530 dL_law_540 ?_
      exact v_wid (kc' := kc + 8) (ks' := ks + 48) (by show kc + 3 + 0 + 0 ≤ kc + 8; omega) (by show ks + 18 + 0 + 0 ≤ ks + 48; omega) (v_lof [(0, .ref G.scr.1), (1, .ref (B 0)), (2, .ref (B 39)), (3, .ref (B 50)), (4, .ref (B 51)), (5, .int (iI i))] (List.forall_mem_cons.mpr ⟨rfl, (List.forall_mem_cons.mpr ⟨rfl, (List.forall_mem_cons.mpr ⟨rfl, (List.forall_mem_cons.mpr ⟨rfl, (List.forall_mem_cons.mpr ⟨rfl, (List.forall_mem_cons.mpr ⟨rfl, (fun _ h => nomatch h)⟩)⟩)⟩)⟩)⟩)⟩) (K _ (SS.of (((hc.sd hB (k := a1.toNat) (by omega) (monT_ok t9 d x4 g5.1) rfl (show ed (t9 / 12) (t9 % 12 + 1) (if d ≤ lenM (t9 / 12) (t9 % 12 + 1) then d else lenM (t9 / 12) (t9 % 12 + 1)) = monT t9 d from rfl)).o hB ⟨by omega, by omega⟩).o hB ⟨by omega, by omega⟩) ((m1.md hB).d hB) (((ho.c hB (by omega)).c hB (by omega)).c hB (by omega)) hd)))
    · intro q1 q2 q3 b1 b2 b3 t8 b4 b5
      exfalso
      rw [x3] at x4
      rw [b4] at b5
      omega
    · intro q1 q2 q3 b1 b2 b3 T8 D8 b4 b5
      exfalso; first | omega | contradiction
    · intro q1 q2 q3 b1 b2 b3 T8 D8 b4 b5
      exfalso; first | omega | contradiction
  · intro y9 m9 d9 n9 g1 g2 g3 g4 g5 g6 x1 x2 t9 x3 x4
    obtain ⟨rfl, rfl, rfl, rfl⟩ := pkE_eq g1 hE1 g2 g3 g4 g5 g6
    have m1 := hm
    obtain ⟨yq, mq, dq, ap, wr, sz, gp, n0, n1, n2, nMA, n8, n9⟩ := id m1
    refine v_istore dL_law_489 (by decide) ?_
    refine v_aload_n dL_law_491 rfl ?_
    refine v_aload_n dL_law_492 rfl ?_
    refine v_iload dL_law_493 rfl ?_
    refine v_iconst dL_law_495 ?_
    refine v_iadd dL_law_496 ?_
    refine v_sldA (a := a1) dL_law_497 e1 ?_
    refine v_aload_n dL_law_498 rfl ?_
    refine v_iload dL_law_499 rfl ?_
    refine v_iconst dL_law_501 ?_
    refine v_iadd dL_law_502 ?_
    refine v_sldA (a := a2) dL_law_503 e2 ?_
    refine v_i2l dL_law_504 ?_
    refine v_bipush dL_law_505 ?_
    refine v_lshl dL_law_507 ?_
    refine v_aload_n dL_law_508 rfl ?_
    refine v_iload dL_law_509 rfl ?_
    refine v_iconst dL_law_511 ?_
    refine v_iadd dL_law_512 ?_
    refine v_sldA (a := a3) dL_law_513 e3 ?_
    refine v_i2l dL_law_514 ?_
    refine v_ldc2 4294967295 dL_law_515 kl_L_97 ?_
    refine v_land dL_law_518 ?_
    refine v_lorL (t := t) dL_law_519 et ?_
    refine v_aload_n dL_law_520 rfl ?_
    refine v_iload dL_law_521 rfl ?_
    refine v_iconst dL_law_523 ?_
    refine v_iadd dL_law_524 ?_
    refine v_sldA (a := a4) dL_law_525 e4 ?_
    refine v_V3 (rm' := rX7_plus) (RX7, TX7, 18) dL_law_526 km_L_106 kn_X7_plus kv_X7_plus kz_X7 mk_X7_plus rfl rfl (by exact n0) ⟨Nat.le_of_ble_eq_true rfl, Nat.le_of_ble_eq_true rfl⟩ ⟨by show kc + 3 + 0 ≤ 600128; omega, by show ks + 18 + 0 ≤ 7301098; omega⟩ (Nat.le_of_ble_eq_true rfl) ?_
    refine s_X7_plus hst n0 n1 n2 (hA_of hB 0 1 (by omega) (by omega) (by omega)) hgd hgn r1 r4 rt (hV_of hE1) ?_ ?_ ?_ ?_ ?_ ?_ ?_
    · intro b1
      exfalso; first | omega | contradiction
    · intro b1 b2
      exfalso; first | omega | contradiction
    · intro q1 q2 q3 b1 b2 b3
      exfalso; first | omega | contradiction
    · intro q1 q2 q3 b1 b2 b3 t8 b4 b5
      exfalso
      rw [x3] at x4
      rw [b4] at b5
      omega
    · intro q1 q2 q3 b1 b2 b3 t8 b4 b5
      refine v_aload_n dL_law_529 rfl ?_
      refine v_V0 (rm' := rX7_thrown) (RX7, TX7, 18) dL_law_530 km_L_85 kn_X7_thrown kv_X7_thrown kz_X7 mk_X7_thrown rfl rfl (by exact aup_s) ⟨Nat.le_of_ble_eq_true rfl, Nat.le_of_ble_eq_true rfl⟩ ⟨by show kc + 3 + 0 + 0 ≤ 600128; omega, by show ks + 18 + 0 + 0 ≤ 7301098; omega⟩ (Nat.le_of_ble_eq_true rfl) ?_
      refine s_X7_thrown hst (aup_s) ?_
      refine v_iload dL_law_533 rfl ?_
      refine v_icmp_eq 540 dL_law_535 (fun h9 => ?_) (fun h9 => ?_)
      rotate_left
      · (exfalso; omega)
      refine v_goto 1530 dL_law_540 ?_
      exact v_wid (kc' := kc + 8) (ks' := ks + 48) (by show kc + 3 + 0 + 0 ≤ kc + 8; omega) (by show ks + 18 + 0 + 0 ≤ ks + 48; omega) (v_lof [(0, .ref G.scr.1), (1, .ref (B 0)), (2, .ref (B 39)), (3, .ref (B 50)), (4, .ref (B 51)), (5, .int (iI i))] (List.forall_mem_cons.mpr ⟨rfl, (List.forall_mem_cons.mpr ⟨rfl, (List.forall_mem_cons.mpr ⟨rfl, (List.forall_mem_cons.mpr ⟨rfl, (List.forall_mem_cons.mpr ⟨rfl, (List.forall_mem_cons.mpr ⟨rfl, (fun _ h => nomatch h)⟩)⟩)⟩)⟩)⟩)⟩) (K _ (SS.of (hc.o hB ⟨by omega, by omega⟩) (m1.md hB) (ho.c hB (by omega)) hd)))
    · intro q1 q2 q3 b1 b2 b3 T8 D8 b4 b5
      exfalso; first | omega | contradiction
    · intro q1 q2 q3 b1 b2 b3 T8 D8 b4 b5
      exfalso; first | omega | contradiction
  · intro y9 m9 d9 n9 g1 g2 g3 g4 g5 g6 x1 x2 y7 m7 d7 T9 D9 v1 v2 v3 x3 x4
    obtain ⟨rfl, rfl, rfl, rfl⟩ := pkE_eq g1 hE1 g2 g3 g4 g5 g6
    have m1 := (hm.c hB (k := (2 + a1.toNat)) (e := stC y7 m7 d7 T9) ⟨by omega, by omega⟩)
    obtain ⟨yq, mq, dq, ap, wr, sz, gp, n0, n1, n2, nMA, n8, n9⟩ := id m1
    refine v_istore dL_law_489 (by decide) ?_
    refine v_aload_n dL_law_491 rfl ?_
    refine v_aload_n dL_law_492 rfl ?_
    refine v_iload dL_law_493 rfl ?_
    refine v_iconst dL_law_495 ?_
    refine v_iadd dL_law_496 ?_
    refine v_sldA (a := a1) dL_law_497 e1 ?_
    refine v_aload_n dL_law_498 rfl ?_
    refine v_iload dL_law_499 rfl ?_
    refine v_iconst dL_law_501 ?_
    refine v_iadd dL_law_502 ?_
    refine v_sldA (a := a2) dL_law_503 e2 ?_
    refine v_i2l dL_law_504 ?_
    refine v_bipush dL_law_505 ?_
    refine v_lshl dL_law_507 ?_
    refine v_aload_n dL_law_508 rfl ?_
    refine v_iload dL_law_509 rfl ?_
    refine v_iconst dL_law_511 ?_
    refine v_iadd dL_law_512 ?_
    refine v_sldA (a := a3) dL_law_513 e3 ?_
    refine v_i2l dL_law_514 ?_
    refine v_ldc2 4294967295 dL_law_515 kl_L_97 ?_
    refine v_land dL_law_518 ?_
    refine v_lorL (t := t) dL_law_519 et ?_
    refine v_aload_n dL_law_520 rfl ?_
    refine v_iload dL_law_521 rfl ?_
    refine v_iconst dL_law_523 ?_
    refine v_iadd dL_law_524 ?_
    refine v_sldA (a := a4) dL_law_525 e4 ?_
    refine v_V3 (rm' := rX7_plus) (RX7, TX7, 18) dL_law_526 km_L_106 kn_X7_plus kv_X7_plus kz_X7 mk_X7_plus rfl rfl (by exact n0) ⟨Nat.le_of_ble_eq_true rfl, Nat.le_of_ble_eq_true rfl⟩ ⟨by show kc + 3 + 0 ≤ 600128; omega, by show ks + 18 + 0 ≤ 7301098; omega⟩ (Nat.le_of_ble_eq_true rfl) ?_
    refine s_X7_plus hst n0 n1 n2 (hA_of hB 0 1 (by omega) (by omega) (by omega)) hgd hgn r1 r4 rt (hV_of hE1) ?_ ?_ ?_ ?_ ?_ ?_ ?_
    · intro b1
      exfalso; first | omega | contradiction
    · intro b1 b2
      exfalso; first | omega | contradiction
    · intro q1 q2 q3 b1 b2 b3
      exfalso; first | omega | contradiction
    · intro q1 q2 q3 b1 b2 b3 t8 b4 b5
      exfalso; first | omega | contradiction
    · intro q1 q2 q3 b1 b2 b3 t8 b4 b5
      exfalso; first | omega | contradiction
    · intro q1 q2 q3 b1 b2 b3 T8 D8 b4 b5
      obtain ⟨rfl, rfl⟩ := plE_u x3 b4
      refine v_aload_n dL_law_529 rfl ?_
      refine v_V0 (rm' := rX7_thrown) (RX7, TX7, 18) dL_law_530 km_L_85 kn_X7_thrown kv_X7_thrown kz_X7 mk_X7_thrown rfl rfl (by exact (kp hB (by omega) 39 (by omega) (by omega)).trans ((kp hB (by omega) 39 (by omega) (by omega)).trans aup_s)) ⟨Nat.le_of_ble_eq_true rfl, Nat.le_of_ble_eq_true rfl⟩ ⟨by show kc + 3 + 0 + 0 ≤ 600128; omega, by show ks + 18 + 0 + 0 ≤ 7301098; omega⟩ (Nat.le_of_ble_eq_true rfl) ?_
      refine s_X7_thrown hst ((kp hB (by omega) 39 (by omega) (by omega)).trans ((kp hB (by omega) 39 (by omega) (by omega)).trans aup_s)) ?_
      refine v_iload dL_law_533 rfl ?_
      refine v_icmp_eq 540 dL_law_535 (fun h9 => ?_) (fun h9 => ?_)
      rotate_left
      · (exfalso; omega)
      refine v_goto 1530 dL_law_540 ?_
      exact v_wid (kc' := kc + 8) (ks' := ks + 48) (by show kc + 3 + 0 + 0 ≤ kc + 8; omega) (by show ks + 18 + 0 + 0 ≤ ks + 48; omega) (v_lof [(0, .ref G.scr.1), (1, .ref (B 0)), (2, .ref (B 39)), (3, .ref (B 50)), (4, .ref (B 51)), (5, .int (iI i))] (List.forall_mem_cons.mpr ⟨rfl, (List.forall_mem_cons.mpr ⟨rfl, (List.forall_mem_cons.mpr ⟨rfl, (List.forall_mem_cons.mpr ⟨rfl, (List.forall_mem_cons.mpr ⟨rfl, (List.forall_mem_cons.mpr ⟨rfl, (fun _ h => nomatch h)⟩)⟩)⟩)⟩)⟩)⟩) (K _ (SS.of ((((hc.sb hB (k := a1.toNat) (by omega) ⟨v1, v2, v3⟩ (plE_T x2 (hE1 g1).2.2.2 x3) x4 rfl).o hB ⟨by omega, by omega⟩).o hB ⟨by omega, by omega⟩).o hB ⟨by omega, by omega⟩) (((m1.md hB).d hB).n hB) ((((ho.c hB (by omega)).c hB (by omega)).c hB (by omega)).c hB (by omega)) hd)))
    · intro q1 q2 q3 b1 b2 b3 T8 D8 b4 b5
      exfalso
      obtain ⟨e8, e9⟩ := plE_u x3 b4
      have e7 := ed_rng v1 v2 v3
      omega
  · intro y9 m9 d9 n9 g1 g2 g3 g4 g5 g6 x1 x2 T9 D9 x3 x4
    obtain ⟨rfl, rfl, rfl, rfl⟩ := pkE_eq g1 hE1 g2 g3 g4 g5 g6
    have m1 := hm
    obtain ⟨yq, mq, dq, ap, wr, sz, gp, n0, n1, n2, nMA, n8, n9⟩ := id m1
    refine v_istore dL_law_489 (by decide) ?_
    refine v_aload_n dL_law_491 rfl ?_
    refine v_aload_n dL_law_492 rfl ?_
    refine v_iload dL_law_493 rfl ?_
    refine v_iconst dL_law_495 ?_
    refine v_iadd dL_law_496 ?_
    refine v_sldA (a := a1) dL_law_497 e1 ?_
    refine v_aload_n dL_law_498 rfl ?_
    refine v_iload dL_law_499 rfl ?_
    refine v_iconst dL_law_501 ?_
    refine v_iadd dL_law_502 ?_
    refine v_sldA (a := a2) dL_law_503 e2 ?_
    refine v_i2l dL_law_504 ?_
    refine v_bipush dL_law_505 ?_
    refine v_lshl dL_law_507 ?_
    refine v_aload_n dL_law_508 rfl ?_
    refine v_iload dL_law_509 rfl ?_
    refine v_iconst dL_law_511 ?_
    refine v_iadd dL_law_512 ?_
    refine v_sldA (a := a3) dL_law_513 e3 ?_
    refine v_i2l dL_law_514 ?_
    refine v_ldc2 4294967295 dL_law_515 kl_L_97 ?_
    refine v_land dL_law_518 ?_
    refine v_lorL (t := t) dL_law_519 et ?_
    refine v_aload_n dL_law_520 rfl ?_
    refine v_iload dL_law_521 rfl ?_
    refine v_iconst dL_law_523 ?_
    refine v_iadd dL_law_524 ?_
    refine v_sldA (a := a4) dL_law_525 e4 ?_
    refine v_V3 (rm' := rX7_plus) (RX7, TX7, 18) dL_law_526 km_L_106 kn_X7_plus kv_X7_plus kz_X7 mk_X7_plus rfl rfl (by exact n0) ⟨Nat.le_of_ble_eq_true rfl, Nat.le_of_ble_eq_true rfl⟩ ⟨by show kc + 3 + 0 ≤ 600128; omega, by show ks + 18 + 0 ≤ 7301098; omega⟩ (Nat.le_of_ble_eq_true rfl) ?_
    refine s_X7_plus hst n0 n1 n2 (hA_of hB 0 1 (by omega) (by omega) (by omega)) hgd hgn r1 r4 rt (hV_of hE1) ?_ ?_ ?_ ?_ ?_ ?_ ?_
    · intro b1
      exfalso; first | omega | contradiction
    · intro b1 b2
      exfalso; first | omega | contradiction
    · intro q1 q2 q3 b1 b2 b3
      exfalso; first | omega | contradiction
    · intro q1 q2 q3 b1 b2 b3 t8 b4 b5
      exfalso; first | omega | contradiction
    · intro q1 q2 q3 b1 b2 b3 t8 b4 b5
      exfalso; first | omega | contradiction
    · intro q1 q2 q3 b1 b2 b3 T8 D8 b4 b5
      exfalso
      obtain ⟨e8, e9⟩ := plE_u x3 b4
      omega
    · intro q1 q2 q3 b1 b2 b3 T8 D8 b4 b5
      refine v_aload_n dL_law_529 rfl ?_
      refine v_V0 (rm' := rX7_thrown) (RX7, TX7, 18) dL_law_530 km_L_85 kn_X7_thrown kv_X7_thrown kz_X7 mk_X7_thrown rfl rfl (by exact aup_s) ⟨Nat.le_of_ble_eq_true rfl, Nat.le_of_ble_eq_true rfl⟩ ⟨by show kc + 3 + 0 + 0 ≤ 600128; omega, by show ks + 18 + 0 + 0 ≤ 7301098; omega⟩ (Nat.le_of_ble_eq_true rfl) ?_
      refine s_X7_thrown hst (aup_s) ?_
      refine v_iload dL_law_533 rfl ?_
      refine v_icmp_eq 540 dL_law_535 (fun h9 => ?_) (fun h9 => ?_)
      rotate_left
      · (exfalso; omega)
      refine v_goto 1530 dL_law_540 ?_
      exact v_wid (kc' := kc + 8) (ks' := ks + 48) (by show kc + 3 + 0 + 0 ≤ kc + 8; omega) (by show ks + 18 + 0 + 0 ≤ ks + 48; omega) (v_lof [(0, .ref G.scr.1), (1, .ref (B 0)), (2, .ref (B 39)), (3, .ref (B 50)), (4, .ref (B 51)), (5, .int (iI i))] (List.forall_mem_cons.mpr ⟨rfl, (List.forall_mem_cons.mpr ⟨rfl, (List.forall_mem_cons.mpr ⟨rfl, (List.forall_mem_cons.mpr ⟨rfl, (List.forall_mem_cons.mpr ⟨rfl, (List.forall_mem_cons.mpr ⟨rfl, (fun _ h => nomatch h)⟩)⟩)⟩)⟩)⟩)⟩) (K _ (SS.of (hc.o hB ⟨by omega, by omega⟩) (m1.md hB) (ho.c hB (by omega)) hd)))
