set_option maxRecDepth 100000 in
set_option maxHeartbeats 8000000 in
theorem lw_julian {l : Launch} {G : GG} {Q : Option Value → AH → Prop} {X : String → AH → Prop} {B : Nat → Nat} {i : Int} {w : AH} {kc ks : Nat} (hst : l.stackTraces = false) (hB : iB B) (hi : 0 ≤ i ∧ i + 7 ≤ (G.scr.2.1 : Int)) (hL9 : G.scr.2.1 ≤ 448) (hk : kc ≤ 500000 ∧ ks ≤ 7000000) (h : SS G B w) (K : ∀ w' : AH, SS G B w' → V l G mL_law room_1 Q X 1530 (lof [(0, .ref G.scr.1), (1, .ref (B 0)), (2, .ref (B 39)), (3, .ref (B 50)), (4, .ref (B 51)), (5, .int (iI i))]) [] w' (kc + 8) (ks + 48)) : V l G mL_law room_1 Q X 1322 (lof [(0, .ref G.scr.1), (1, .ref (B 0)), (2, .ref (B 39)), (3, .ref (B 50)), (4, .ref (B 51)), (5, .int (iI i))]) [] w kc ks := by
  obtain ⟨th, gd, gn, L, gl, fz, cz, rz, gm, go, ru, vF, vC, vM, vO, vK, vR, hc, hm, ho, hd⟩ := h
  have hgd := hc.gdr
  have hgn := hc.gnr
  obtain ⟨a1, e1⟩ : ∃ a : Int, scI G (i + 1).toNat = a := ⟨_, rfl⟩
  have r1 : -2147483648 ≤ a1 ∧ a1 ≤ 2147483647 := e1 ▸ scI_r G _
  obtain ⟨y, m, d, hE1⟩ := hc.pick a1
  obtain ⟨⟨vo, o50⟩, vd, o51⟩ := id ho
  refine v_aload_n dL_law_1322 rfl ?_
  refine v_aload_n dL_law_1323 rfl ?_
  refine v_iload dL_law_1324 rfl ?_
  refine v_iconst dL_law_1326 ?_
  refine v_iadd dL_law_1327 ?_
  refine v_sldA (a := a1) dL_law_1328 e1 ?_
  refine v_aload dL_law_1329 rfl ?_
  refine v_SW3 (rm' := rL_julian) dL_law_1331 km_L_147 ks_L_julian kz_L mk_L_julian rfl ⟨Nat.le_of_ble_eq_true rfl, Nat.le_of_ble_eq_true rfl⟩ ⟨by show kc + 1 ≤ 600128; omega, by show ks + 6 ≤ 7301098; omega⟩ (Nat.le_of_ble_eq_true rfl) ?_
  refine s_L_julian (sa := fun k => B (2 + k)) hst o51 hc.1.1 hc.1.2.1 hc.sv r1 ?_ ?_
  · intro g1
    have m1 := hm
    obtain ⟨yq, mq, dq, ap, wr, sz, gp, n0, n1, n2, nMA, n8, n9⟩ := id m1
    refine v_istore dL_law_1334 (by decide) ?_
    refine v_aload_n dL_law_1336 rfl ?_
    refine v_aload_n dL_law_1337 rfl ?_
    refine v_iload dL_law_1338 rfl ?_
    refine v_iconst dL_law_1340 ?_
    refine v_iadd dL_law_1341 ?_
    refine v_sldA (a := a1) dL_law_1342 e1 ?_
    refine v_V1 (rm' := rX7_julian) (RX7, TX7, 18) dL_law_1343 km_L_150 kn_X7_julian kv_X7_julian kz_X7 mk_X7_julian rfl rfl (by exact n0) ⟨Nat.le_of_ble_eq_true rfl, Nat.le_of_ble_eq_true rfl⟩ ⟨by show kc + 1 + 0 ≤ 600128; omega, by show ks + 6 + 0 ≤ 7301098; omega⟩ (Nat.le_of_ble_eq_true rfl) ?_
    refine s_X7_julian hst n0 n1 n2 (hA_of hB 0 1 (by omega) (by omega) (by omega)) r1 ?_ ?_
    · intro v9 b1
      refine v_dstore dL_law_1346 (by decide) ?_
      refine v_aload_n dL_law_1348 rfl ?_
      refine v_V0 (rm' := rX7_thrown) (RX7, TX7, 18) dL_law_1349 km_L_85 kn_X7_thrown kv_X7_thrown kz_X7 mk_X7_thrown rfl rfl (by exact aup_s) ⟨Nat.le_of_ble_eq_true rfl, Nat.le_of_ble_eq_true rfl⟩ ⟨by show kc + 1 + 0 + 0 ≤ 600128; omega, by show ks + 6 + 0 + 0 ≤ 7301098; omega⟩ (Nat.le_of_ble_eq_true rfl) ?_
      refine s_X7_thrown hst (aup_s) ?_
      refine v_iload dL_law_1352 rfl ?_
      refine v_icmp_eq 1359 dL_law_1354 (fun h9 => ?_) (fun h9 => ?_)
      rotate_left
      · (exfalso; omega)
      refine v_iload dL_law_1359 rfl ?_
      refine v_if_ne 1396 dL_law_1361 (fun h9 => ?_) (fun h9 => ?_)
      rotate_left
      · (exfalso; omega)
      refine v_goto 1530 dL_law_1396 ?_
      exact v_wid (kc' := kc + 8) (ks' := ks + 48) (by show kc + 1 + 0 + 0 ≤ kc + 8; omega) (by show ks + 6 + 0 + 0 ≤ ks + 48; omega) (v_lof [(0, .ref G.scr.1), (1, .ref (B 0)), (2, .ref (B 39)), (3, .ref (B 50)), (4, .ref (B 51)), (5, .int (iI i))] (List.forall_mem_cons.mpr ⟨rfl, (List.forall_mem_cons.mpr ⟨rfl, (List.forall_mem_cons.mpr ⟨rfl, (List.forall_mem_cons.mpr ⟨rfl, (List.forall_mem_cons.mpr ⟨rfl, (List.forall_mem_cons.mpr ⟨rfl, (fun _ h => nomatch h)⟩)⟩)⟩)⟩)⟩)⟩) (K _ (SS.of (hc.o hB ⟨by omega, by omega⟩) (m1.md hB) (ho.c hB (by omega)) hd)))
    · intro b1
      exfalso; first | omega | contradiction
  · intro y9 m9 d9 n9 g1 g2 g3 g4 g5 g6
    obtain ⟨rfl, rfl, rfl, rfl⟩ := pkE_eq g1 hE1 g2 g3 g4 g5 g6
    have m1 := (hm.c hB (k := 51) (e := adA G 1 (fup vd 0 (jD (ed y m d) (gn a1.toNat)))) ⟨by omega, by omega⟩)
    obtain ⟨yq, mq, dq, ap, wr, sz, gp, n0, n1, n2, nMA, n8, n9⟩ := id m1
    refine v_istore dL_law_1334 (by decide) ?_
    refine v_aload_n dL_law_1336 rfl ?_
    refine v_aload_n dL_law_1337 rfl ?_
    refine v_iload dL_law_1338 rfl ?_
    refine v_iconst dL_law_1340 ?_
    refine v_iadd dL_law_1341 ?_
    refine v_sldA (a := a1) dL_law_1342 e1 ?_
    refine v_V1 (rm' := rX7_julian) (RX7, TX7, 18) dL_law_1343 km_L_150 kn_X7_julian kv_X7_julian kz_X7 mk_X7_julian rfl rfl (by exact n0) ⟨Nat.le_of_ble_eq_true rfl, Nat.le_of_ble_eq_true rfl⟩ ⟨by show kc + 1 + 0 ≤ 600128; omega, by show ks + 6 + 0 ≤ 7301098; omega⟩ (Nat.le_of_ble_eq_true rfl) ?_
    refine s_X7_julian hst n0 n1 n2 (hA_of hB 0 1 (by omega) (by omega) (by omega)) r1 ?_ ?_
    · intro v9 b1
      exfalso; first | omega | contradiction
    · intro b1
      have j9 : jD (ed y m d) (gn a1.toNat) = jD (gd a1.toNat) (gn a1.toNat) := by rw [(hE1 g1).2.1]
      refine v_dstore dL_law_1346 (by decide) ?_
      refine v_aload_n dL_law_1348 rfl ?_
      refine v_V0 (rm' := rX7_thrown) (RX7, TX7, 18) dL_law_1349 km_L_85 kn_X7_thrown kv_X7_thrown kz_X7 mk_X7_thrown rfl rfl (by exact aup_s) ⟨Nat.le_of_ble_eq_true rfl, Nat.le_of_ble_eq_true rfl⟩ ⟨by show kc + 1 + 0 + 0 ≤ 600128; omega, by show ks + 6 + 0 + 0 ≤ 7301098; omega⟩ (Nat.le_of_ble_eq_true rfl) ?_
      refine s_X7_thrown hst (aup_s) ?_
      refine v_iload dL_law_1352 rfl ?_
      refine v_icmp_eq 1359 dL_law_1354 (fun h9 => ?_) (fun h9 => ?_)
      rotate_left
      · (exfalso; omega)
      refine v_iload dL_law_1359 rfl ?_
      refine v_if_ne 1396 dL_law_1361 (fun h9 => ?_) (fun h9 => ?_)
      · (exfalso; omega)
      have hzj := zJ_r (jD (gd a1.toNat) (gn a1.toNat))
      refine v_aload dL_law_1364 rfl ?_
      refine v_iconst dL_law_1366 ?_
      refine v_daldX dL_law_1367 (by exact (kp hB (by omega) 51 (by omega) (by omega)).trans aup_s) (show _ = jD (gd a1.toNat) (gn a1.toNat) from fup_s.trans j9) ?_
      refine v_dload dL_law_1368 rfl ?_
      refine v_dcmpZ dL_law_1370 ?_
      refine v_if_eq 1396 dL_law_1371 (fun h8 => ?_) (fun h8 => ?_)
      · refine v_goto 1530 dL_law_1396 ?_
        exact v_wid (kc' := kc + 8) (ks' := ks + 48) (by show kc + 1 + 0 + 0 ≤ kc + 8; omega) (by show ks + 6 + 0 + 0 ≤ ks + 48; omega) (v_lof [(0, .ref G.scr.1), (1, .ref (B 0)), (2, .ref (B 39)), (3, .ref (B 50)), (4, .ref (B 51)), (5, .int (iI i))] (List.forall_mem_cons.mpr ⟨rfl, (List.forall_mem_cons.mpr ⟨rfl, (List.forall_mem_cons.mpr ⟨rfl, (List.forall_mem_cons.mpr ⟨rfl, (List.forall_mem_cons.mpr ⟨rfl, (List.forall_mem_cons.mpr ⟨rfl, (fun _ h => nomatch h)⟩)⟩)⟩)⟩)⟩)⟩) (K _ (SS.of ((hc.o hB ⟨by omega, by omega⟩).o hB ⟨by omega, by omega⟩) (m1.md hB) ((ho.d hB).c hB (by omega)) hd)))
      refine v_aload dL_law_1374 rfl ?_
      refine v_iconst dL_law_1376 ?_
      refine v_daldX dL_law_1377 (by exact (kp hB (by omega) 51 (by omega) (by omega)).trans aup_s) (show _ = jD (gd a1.toNat) (gn a1.toNat) from fup_s.trans j9) ?_
      refine v_aload dL_law_1378 rfl ?_
      refine v_iconst dL_law_1380 ?_
      refine v_daldX dL_law_1381 (by exact (kp hB (by omega) 51 (by omega) (by omega)).trans aup_s) (show _ = jD (gd a1.toNat) (gn a1.toNat) from fup_s.trans j9) ?_
      refine v_dcmpZ dL_law_1382 ?_
      refine v_if_eq 1394 dL_law_1383 (fun h7 => ?_) (fun h7 => ?_)
      · exact absurd h7 h8
      refine v_dload dL_law_1386 rfl ?_
      refine v_dload dL_law_1388 rfl ?_
      refine v_dcmpZ dL_law_1390 ?_
      refine v_if_ne 1396 dL_law_1391 (fun h7 => ?_) (fun h7 => ?_)
      rotate_left
      · exact absurd h7 h8
      refine v_goto 1530 dL_law_1396 ?_
      exact v_wid (kc' := kc + 8) (ks' := ks + 48) (by show kc + 1 + 0 + 0 ≤ kc + 8; omega) (by show ks + 6 + 0 + 0 ≤ ks + 48; omega) (v_lof [(0, .ref G.scr.1), (1, .ref (B 0)), (2, .ref (B 39)), (3, .ref (B 50)), (4, .ref (B 51)), (5, .int (iI i))] (List.forall_mem_cons.mpr ⟨rfl, (List.forall_mem_cons.mpr ⟨rfl, (List.forall_mem_cons.mpr ⟨rfl, (List.forall_mem_cons.mpr ⟨rfl, (List.forall_mem_cons.mpr ⟨rfl, (List.forall_mem_cons.mpr ⟨rfl, (fun _ h => nomatch h)⟩)⟩)⟩)⟩)⟩)⟩) (K _ (SS.of ((hc.o hB ⟨by omega, by omega⟩).o hB ⟨by omega, by omega⟩) (m1.md hB) ((ho.d hB).c hB (by omega)) hd)))
set_option maxRecDepth 100000 in
set_option maxHeartbeats 8000000 in
theorem lw_type {l : Launch} {G : GG} {Q : Option Value → AH → Prop} {X : String → AH → Prop} {B : Nat → Nat} {i : Int} {w : AH} {kc ks : Nat} (hst : l.stackTraces = false) (hB : iB B) (hi : 0 ≤ i ∧ i + 7 ≤ (G.scr.2.1 : Int)) (hL9 : G.scr.2.1 ≤ 448) (hk : kc ≤ 500000 ∧ ks ≤ 7000000) (h : SS G B w) (K : ∀ w' : AH, SS G B w' → V l G mL_law room_1 Q X 1530 (lof [(0, .ref G.scr.1), (1, .ref (B 0)), (2, .ref (B 39)), (3, .ref (B 50)), (4, .ref (B 51)), (5, .int (iI i))]) [] w' (kc + 8) (ks + 48)) : V l G mL_law room_1 Q X 1399 (lof [(0, .ref G.scr.1), (1, .ref (B 0)), (2, .ref (B 39)), (3, .ref (B 50)), (4, .ref (B 51)), (5, .int (iI i))]) [] w kc ks := by
  obtain ⟨th, gd, gn, L, gl, fz, cz, rz, gm, go, ru, vF, vC, vM, vO, vK, vR, hc, hm, ho, hd⟩ := h
  have hgd := hc.gdr
  have hgn := hc.gnr
  obtain ⟨a1, e1⟩ : ∃ a : Int, scI G (i + 1).toNat = a := ⟨_, rfl⟩
  have r1 : -2147483648 ≤ a1 ∧ a1 ≤ 2147483647 := e1 ▸ scI_r G _
  obtain ⟨c, ec⟩ : ∃ c : Int, cLg a1 = c := ⟨_, rfl⟩
  have rc : 0 ≤ c ∧ c ≤ 65535 := ec ▸ cLg_r _
  obtain ⟨⟨p9, l35⟩, l36⟩ := hc.2.1
  refine v_aload_n dL_law_1399 rfl ?_
  refine v_aload_n dL_law_1400 rfl ?_
  refine v_iload dL_law_1401 rfl ?_
  refine v_iconst dL_law_1403 ?_
  refine v_iadd dL_law_1404 ?_
  refine v_sldA (a := a1) dL_law_1405 e1 ?_
  refine v_i2cL (c := c) dL_law_1406 ec ?_
  refine v_V1 (rm' := rX6_type) (RX6, TX6, 4) dL_law_1407 km_L_151 kn_X6_type kv_X6_type kz_X6 mk_X6_type rfl rfl (by exact hc.1.1) ⟨Nat.le_of_ble_eq_true rfl, Nat.le_of_ble_eq_true rfl⟩ ⟨by show kc + 0 ≤ 600128; omega, by show ks + 0 ≤ 7301098; omega⟩ (Nat.le_of_ble_eq_true rfl) ?_
  refine s_X6_typeP hst hc.1.1 l35 l36 hd.1 hd.2.1 rc ?_ ?_
  · intro g1
    have m1 := ((hm.c hB (k := 36) (e := acA G 30 (gup gl L.toNat c)) ⟨by omega, by omega⟩).c hB (k := 35) (e := liC (B 36) (L + 1) p9) ⟨by omega, by omega⟩)
    obtain ⟨yq, mq, dq, ap, wr, sz, gp, n0, n1, n2, nMA, n8, n9⟩ := id m1
    refine v_aload_n dL_law_1410 rfl ?_
    refine v_aload_n dL_law_1411 rfl ?_
    refine v_iload dL_law_1412 rfl ?_
    refine v_iconst dL_law_1414 ?_
    refine v_iadd dL_law_1415 ?_
    refine v_sldA (a := a1) dL_law_1416 e1 ?_
    refine v_i2cL (c := c) dL_law_1417 ec ?_
    refine v_V1 (rm' := rX7_type) (RX7, TX7, 18) dL_law_1418 km_L_155 kn_X7_type kv_X7_type kz_X7 mk_X7_type rfl rfl (by exact n0) ⟨Nat.le_of_ble_eq_true rfl, Nat.le_of_ble_eq_true rfl⟩ ⟨by show kc + 0 + 0 ≤ 600128; omega, by show ks + 0 + 0 ≤ 7301098; omega⟩ (Nat.le_of_ble_eq_true rfl) ?_
    refine s_X7_type hst n0 n8 hd.1 rc ?_ ?_
    · intro b1
      exfalso; first | omega | contradiction
    · intro b1
      refine v_icmp_eq 1530 dL_law_1421 (fun h9 => ?_) (fun h9 => ?_)
      rotate_left
      · (exfalso; omega)
      exact v_wid (kc' := kc + 8) (ks' := ks + 48) (by show kc + 0 + 0 ≤ kc + 8; omega) (by show ks + 0 + 0 ≤ ks + 48; omega) (v_lof [(0, .ref G.scr.1), (1, .ref (B 0)), (2, .ref (B 39)), (3, .ref (B 50)), (4, .ref (B 51)), (5, .int (iI i))] (List.forall_mem_cons.mpr ⟨rfl, (List.forall_mem_cons.mpr ⟨rfl, (List.forall_mem_cons.mpr ⟨rfl, (List.forall_mem_cons.mpr ⟨rfl, (List.forall_mem_cons.mpr ⟨rfl, (List.forall_mem_cons.mpr ⟨rfl, (fun _ h => nomatch h)⟩)⟩)⟩)⟩)⟩)⟩) (K _ (SS.of (((((hc.ac hB).li hB).o hB ⟨by omega, by omega⟩).o hB ⟨by omega, by omega⟩).o hB ⟨by omega, by omega⟩) (((m1.md hB).ln hB).md hB) (((((ho.c hB (by omega)).c hB (by omega)).c hB (by omega)).c hB (by omega)).c hB (by omega)) (hd.ln (by have := hd.1; omega) (gup_r hd.2.1 rc)))))
  · intro g1
    have m1 := hm
    obtain ⟨yq, mq, dq, ap, wr, sz, gp, n0, n1, n2, nMA, n8, n9⟩ := id m1
    refine v_aload_n dL_law_1410 rfl ?_
    refine v_aload_n dL_law_1411 rfl ?_
    refine v_iload dL_law_1412 rfl ?_
    refine v_iconst dL_law_1414 ?_
    refine v_iadd dL_law_1415 ?_
    refine v_sldA (a := a1) dL_law_1416 e1 ?_
    refine v_i2cL (c := c) dL_law_1417 ec ?_
    refine v_V1 (rm' := rX7_type) (RX7, TX7, 18) dL_law_1418 km_L_155 kn_X7_type kv_X7_type kz_X7 mk_X7_type rfl rfl (by exact n0) ⟨Nat.le_of_ble_eq_true rfl, Nat.le_of_ble_eq_true rfl⟩ ⟨by show kc + 0 + 0 ≤ 600128; omega, by show ks + 0 + 0 ≤ 7301098; omega⟩ (Nat.le_of_ble_eq_true rfl) ?_
    refine s_X7_type hst n0 n8 hd.1 rc ?_ ?_
    · intro b1
      refine v_icmp_eq 1530 dL_law_1421 (fun h9 => ?_) (fun h9 => ?_)
      rotate_left
      · (exfalso; omega)
      exact v_wid (kc' := kc + 8) (ks' := ks + 48) (by show kc + 0 + 0 ≤ kc + 8; omega) (by show ks + 0 + 0 ≤ ks + 48; omega) (v_lof [(0, .ref G.scr.1), (1, .ref (B 0)), (2, .ref (B 39)), (3, .ref (B 50)), (4, .ref (B 51)), (5, .int (iI i))] (List.forall_mem_cons.mpr ⟨rfl, (List.forall_mem_cons.mpr ⟨rfl, (List.forall_mem_cons.mpr ⟨rfl, (List.forall_mem_cons.mpr ⟨rfl, (List.forall_mem_cons.mpr ⟨rfl, (List.forall_mem_cons.mpr ⟨rfl, (fun _ h => nomatch h)⟩)⟩)⟩)⟩)⟩)⟩) (K _ (SS.of (hc.o hB ⟨by omega, by omega⟩) (m1.md hB) (ho.c hB (by omega)) hd)))
    · intro b1
      exfalso; first | omega | contradiction
set_option maxRecDepth 100000 in
set_option maxHeartbeats 8000000 in
theorem lw_parse {l : Launch} {G : GG} {Q : Option Value → AH → Prop} {X : String → AH → Prop} {B : Nat → Nat} {i : Int} {w : AH} {kc ks : Nat} (hst : l.stackTraces = false) (hB : iB B) (hi : 0 ≤ i ∧ i + 7 ≤ (G.scr.2.1 : Int)) (hL9 : G.scr.2.1 ≤ 448) (hk : kc ≤ 500000 ∧ ks ≤ 7000000) (h : SS G B w) (K : ∀ w' : AH, SS G B w' → V l G mL_law room_1 Q X 1530 (lof [(0, .ref G.scr.1), (1, .ref (B 0)), (2, .ref (B 39)), (3, .ref (B 50)), (4, .ref (B 51)), (5, .int (iI i))]) [] w' (kc + 8) (ks + 48)) : V l G mL_law room_1 Q X 1426 (lof [(0, .ref G.scr.1), (1, .ref (B 0)), (2, .ref (B 39)), (3, .ref (B 50)), (4, .ref (B 51)), (5, .int (iI i))]) [] w kc ks := by
  obtain ⟨th, gd, gn, L, gl, fz, cz, rz, gm, go, ru, vF, vC, vM, vO, vK, vR, hc, hm, ho, hd⟩ := h
  have hgd := hc.gdr
  have hgn := hc.gnr
  obtain ⟨a1, e1⟩ : ∃ a : Int, scI G (i + 1).toNat = a := ⟨_, rfl⟩
  have r1 : -2147483648 ≤ a1 ∧ a1 ≤ 2147483647 := e1 ▸ scI_r G _
  obtain ⟨⟨p9, l35⟩, l36⟩ := hc.2.1
  obtain ⟨o, eo⟩ : ∃ o : Nat, o = 0 := ⟨0, rfl⟩
  refine v_aload_n dL_law_1426 rfl ?_
  refine v_aload_n dL_law_1427 rfl ?_
  refine v_iload dL_law_1428 rfl ?_
  refine v_iconst dL_law_1430 ?_
  refine v_iadd dL_law_1431 ?_
  refine v_sldA (a := a1) dL_law_1432 e1 ?_
  refine v_SW2 (rm' := rL_parse) dL_law_1433 km_L_156 ks_L_parse kz_L mk_L_parse rfl ⟨Nat.le_of_ble_eq_true rfl, Nat.le_of_ble_eq_true rfl⟩ ⟨by show kc + 2 ≤ 600128; omega, by show ks + 12 ≤ 7301098; omega⟩ (Nat.le_of_ble_eq_true rfl) ?_
  refine s_L_parseP (sa := fun k => B (2 + k)) hst hc.1.1 hc.1.2.1 hc.sv r1 ?_ l35 l36 hd.1 hd.2.1 eo ?_ ?_
  · intro g1
    have m1 := hm
    obtain ⟨yq, mq, dq, ap, wr, sz, gp, n0, n1, n2, nMA, n8, n9⟩ := id m1
    refine v_istore dL_law_1436 (by decide) ?_
    refine v_aload_n dL_law_1438 rfl ?_
    refine v_aload_n dL_law_1439 rfl ?_
    refine v_iload dL_law_1440 rfl ?_
    refine v_iconst dL_law_1442 ?_
    refine v_iadd dL_law_1443 ?_
    refine v_sldA (a := a1) dL_law_1444 e1 ?_
    refine v_V1 (rm' := rX7_parse) (RX7, TX7, 18) dL_law_1445 km_L_159 kn_X7_parse kv_X7_parse kz_X7 mk_X7_parse rfl rfl (by exact n0) ⟨Nat.le_of_ble_eq_true rfl, Nat.le_of_ble_eq_true rfl⟩ ⟨by show kc + 2 + 0 ≤ 600128; omega, by show ks + 12 + 0 ≤ 7301098; omega⟩ (Nat.le_of_ble_eq_true rfl) ?_
    refine s_X7_parse hst n0 n8 hd.1 hd.2.1 n1 n2 (hA_of hB 0 1 (by omega) (by omega) (by omega)) eo r1 ?_ ?_ ?_
    · intro b1
      refine v_aload_n dL_law_1448 rfl ?_
      refine v_V0 (rm' := rX7_thrown) (RX7, TX7, 18) dL_law_1449 km_L_85 kn_X7_thrown kv_X7_thrown kz_X7 mk_X7_thrown rfl rfl (by exact aup_s) ⟨Nat.le_of_ble_eq_true rfl, Nat.le_of_ble_eq_true rfl⟩ ⟨by show kc + 2 + 0 + 0 ≤ 600128; omega, by show ks + 12 + 0 + 0 ≤ 7301098; omega⟩ (Nat.le_of_ble_eq_true rfl) ?_
      refine s_X7_thrown hst (aup_s) ?_
      refine v_iload dL_law_1452 rfl ?_
      refine v_icmp_eq 1459 dL_law_1454 (fun h9 => ?_) (fun h9 => ?_)
      rotate_left
      · (exfalso; omega)
      refine v_goto 1530 dL_law_1459 ?_
      exact v_wid (kc' := kc + 8) (ks' := ks + 48) (by show kc + 2 + 0 + 0 ≤ kc + 8; omega) (by show ks + 12 + 0 + 0 ≤ ks + 48; omega) (v_lof [(0, .ref G.scr.1), (1, .ref (B 0)), (2, .ref (B 39)), (3, .ref (B 50)), (4, .ref (B 51)), (5, .int (iI i))] (List.forall_mem_cons.mpr ⟨rfl, (List.forall_mem_cons.mpr ⟨rfl, (List.forall_mem_cons.mpr ⟨rfl, (List.forall_mem_cons.mpr ⟨rfl, (List.forall_mem_cons.mpr ⟨rfl, (List.forall_mem_cons.mpr ⟨rfl, (fun _ h => nomatch h)⟩)⟩)⟩)⟩)⟩)⟩) (K _ (SS.of (hc.o hB ⟨by omega, by omega⟩) (m1.md hB) (ho.c hB (by omega)) hd)))
    · intro p8 b1 b2
      exfalso; first | omega | contradiction
    · intro p8 y8 m8 d8 T8 b1 b2
      exfalso; first | omega | contradiction
  · intro p7 x0 g1 x1
    have m1 := (hm.c hB (k := 35) (e := liC (B 36) 0 p7) ⟨by omega, by omega⟩)
    obtain ⟨yq, mq, dq, ap, wr, sz, gp, n0, n1, n2, nMA, n8, n9⟩ := id m1
    refine v_istore dL_law_1436 (by decide) ?_
    refine v_aload_n dL_law_1438 rfl ?_
    refine v_aload_n dL_law_1439 rfl ?_
    refine v_iload dL_law_1440 rfl ?_
    refine v_iconst dL_law_1442 ?_
    refine v_iadd dL_law_1443 ?_
    refine v_sldA (a := a1) dL_law_1444 e1 ?_
    refine v_V1 (rm' := rX7_parse) (RX7, TX7, 18) dL_law_1445 km_L_159 kn_X7_parse kv_X7_parse kz_X7 mk_X7_parse rfl rfl (by exact n0) ⟨Nat.le_of_ble_eq_true rfl, Nat.le_of_ble_eq_true rfl⟩ ⟨by show kc + 2 + 0 ≤ 600128; omega, by show ks + 12 + 0 ≤ 7301098; omega⟩ (Nat.le_of_ble_eq_true rfl) ?_
    refine s_X7_parse hst n0 n8 hd.1 hd.2.1 n1 n2 (hA_of hB 0 1 (by omega) (by omega) (by omega)) eo r1 ?_ ?_ ?_
    · intro b1
      exfalso; first | omega | contradiction
    · intro p8 b1 b2
      refine v_aload_n dL_law_1448 rfl ?_
      refine v_V0 (rm' := rX7_thrown) (RX7, TX7, 18) dL_law_1449 km_L_85 kn_X7_thrown kv_X7_thrown kz_X7 mk_X7_thrown rfl rfl (by exact aup_s) ⟨Nat.le_of_ble_eq_true rfl, Nat.le_of_ble_eq_true rfl⟩ ⟨by show kc + 2 + 0 + 0 ≤ 600128; omega, by show ks + 12 + 0 + 0 ≤ 7301098; omega⟩ (Nat.le_of_ble_eq_true rfl) ?_
      refine s_X7_thrown hst (aup_s) ?_
      refine v_iload dL_law_1452 rfl ?_
      refine v_icmp_eq 1459 dL_law_1454 (fun h9 => ?_) (fun h9 => ?_)
      rotate_left
      · (exfalso; omega)
      refine v_goto 1530 dL_law_1459 ?_
      exact v_wid (kc' := kc + 8) (ks' := ks + 48) (by show kc + 2 + 0 + 0 ≤ kc + 8; omega) (by show ks + 12 + 0 + 0 ≤ ks + 48; omega) (v_lof [(0, .ref G.scr.1), (1, .ref (B 0)), (2, .ref (B 39)), (3, .ref (B 50)), (4, .ref (B 51)), (5, .int (iI i))] (List.forall_mem_cons.mpr ⟨rfl, (List.forall_mem_cons.mpr ⟨rfl, (List.forall_mem_cons.mpr ⟨rfl, (List.forall_mem_cons.mpr ⟨rfl, (List.forall_mem_cons.mpr ⟨rfl, (List.forall_mem_cons.mpr ⟨rfl, (fun _ h => nomatch h)⟩)⟩)⟩)⟩)⟩)⟩) (K _ (SS.of ((hc.li hB).o hB ⟨by omega, by omega⟩) (m1.md hB) ((ho.c hB (by omega)).c hB (by omega)) (hd.ln (by omega) hd.2.1))))
    · intro p8 y8 m8 d8 T8 b1 b2
      exact absurd b2 (x1 _ _ _ _)
  · intro p7 y7 m7 d7 T9 g1 x1
    have m1 := ((hm.c hB (k := 35) (e := liC (B 36) 0 p7) ⟨by omega, by omega⟩).c hB (k := (2 + a1.toNat)) (e := stC y7 m7 d7 T9) ⟨by omega, by omega⟩)
    obtain ⟨yq, mq, dq, ap, wr, sz, gp, n0, n1, n2, nMA, n8, n9⟩ := id m1
    refine v_istore dL_law_1436 (by decide) ?_
    refine v_aload_n dL_law_1438 rfl ?_
    refine v_aload_n dL_law_1439 rfl ?_
    refine v_iload dL_law_1440 rfl ?_
    refine v_iconst dL_law_1442 ?_
    refine v_iadd dL_law_1443 ?_
    refine v_sldA (a := a1) dL_law_1444 e1 ?_
    refine v_V1 (rm' := rX7_parse) (RX7, TX7, 18) dL_law_1445 km_L_159 kn_X7_parse kv_X7_parse kz_X7 mk_X7_parse rfl rfl (by exact n0) ⟨Nat.le_of_ble_eq_true rfl, Nat.le_of_ble_eq_true rfl⟩ ⟨by show kc + 2 + 0 ≤ 600128; omega, by show ks + 12 + 0 ≤ 7301098; omega⟩ (Nat.le_of_ble_eq_true rfl) ?_
    refine s_X7_parse hst n0 n8 hd.1 hd.2.1 n1 n2 (hA_of hB 0 1 (by omega) (by omega) (by omega)) eo r1 ?_ ?_ ?_
    · intro b1
      exfalso; first | omega | contradiction
    · intro p8 b1 b2
      exact absurd x1 (b2 _ _ _ _)
    · intro p8 y8 m8 d8 T8 b1 b2
      obtain ⟨rfl, rfl, rfl, rfl⟩ := PO_fun x1 b2
      refine v_aload_n dL_law_1448 rfl ?_
      refine v_V0 (rm' := rX7_thrown) (RX7, TX7, 18) dL_law_1449 km_L_85 kn_X7_thrown kv_X7_thrown kz_X7 mk_X7_thrown rfl rfl (by exact (kp hB (by omega) 39 (by omega) (by omega)).trans ((kp hB (by omega) 39 (by omega) (by omega)).trans aup_s)) ⟨Nat.le_of_ble_eq_true rfl, Nat.le_of_ble_eq_true rfl⟩ ⟨by show kc + 2 + 0 + 0 ≤ 600128; omega, by show ks + 12 + 0 + 0 ≤ 7301098; omega⟩ (Nat.le_of_ble_eq_true rfl) ?_
      refine s_X7_thrown hst ((kp hB (by omega) 39 (by omega) (by omega)).trans ((kp hB (by omega) 39 (by omega) (by omega)).trans aup_s)) ?_
      refine v_iload dL_law_1452 rfl ?_
      refine v_icmp_eq 1459 dL_law_1454 (fun h9 => ?_) (fun h9 => ?_)
      rotate_left
      · (exfalso; omega)
      refine v_goto 1530 dL_law_1459 ?_
      exact v_wid (kc' := kc + 8) (ks' := ks + 48) (by show kc + 2 + 0 + 0 ≤ kc + 8; omega) (by show ks + 12 + 0 + 0 ≤ ks + 48; omega) (v_lof [(0, .ref G.scr.1), (1, .ref (B 0)), (2, .ref (B 39)), (3, .ref (B 50)), (4, .ref (B 51)), (5, .int (iI i))] (List.forall_mem_cons.mpr ⟨rfl, (List.forall_mem_cons.mpr ⟨rfl, (List.forall_mem_cons.mpr ⟨rfl, (List.forall_mem_cons.mpr ⟨rfl, (List.forall_mem_cons.mpr ⟨rfl, (List.forall_mem_cons.mpr ⟨rfl, (fun _ h => nomatch h)⟩)⟩)⟩)⟩)⟩)⟩) (K _ (SS.of (((((hc.li hB).sb hB (k := a1.toNat) (by omega) (PO_ok hd.1 x1).1 (PO_ok hd.1 x1).2 rfl rfl).o hB ⟨by omega, by omega⟩).o hB ⟨by omega, by omega⟩).o hB ⟨by omega, by omega⟩) (((m1.md hB).d hB).n hB) (((((ho.c hB (by omega)).c hB (by omega)).c hB (by omega)).c hB (by omega)).c hB (by omega)) (hd.ln (by omega) hd.2.1))))
