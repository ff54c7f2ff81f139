set_option maxRecDepth 100000 in
set_option maxHeartbeats 8000000 in
theorem lw_offset {l : Launch} {G : GG} {Q : Option Value → AH → Prop} {X : String → AH → Prop} {B : Nat → Nat} {i : Int} {w : AH} {kc ks : Nat} (hst : l.stackTraces = false) (hB : iB B) (hi : 0 ≤ i ∧ i + 7 ≤ (G.scr.2.1 : Int)) (hL9 : G.scr.2.1 ≤ 448) (hk : kc ≤ 500000 ∧ ks ≤ 7000000) (h : SS G B w) (K : ∀ w' : AH, SS G B w' → V l G mL_law room_1 Q X 1530 (lof [(0, .ref G.scr.1), (1, .ref (B 0)), (2, .ref (B 39)), (3, .ref (B 50)), (4, .ref (B 51)), (5, .int (iI i))]) [] w' (kc + 8) (ks + 48)) : V l G mL_law room_1 Q X 1035 (lof [(0, .ref G.scr.1), (1, .ref (B 0)), (2, .ref (B 39)), (3, .ref (B 50)), (4, .ref (B 51)), (5, .int (iI i))]) [] w kc ks := by
  obtain ⟨th, gd, gn, L, gl, fz, cz, rz, gm, go, ru, vF, vC, vM, vO, vK, vR, hc, hm, ho, hd⟩ := h
  have hgd := hc.gdr
  have hgn := hc.gnr
  obtain ⟨a1, e1⟩ : ∃ a : Int, scI G (i + 1).toNat = a := ⟨_, rfl⟩
  have r1 : -2147483648 ≤ a1 ∧ a1 ≤ 2147483647 := e1 ▸ scI_r G _
  obtain ⟨a2, e2⟩ : ∃ a : Int, scI G (i + 2).toNat = a := ⟨_, rfl⟩
  have r2 : -2147483648 ≤ a2 ∧ a2 ≤ 2147483647 := e2 ▸ scI_r G _
  obtain ⟨a3, e3⟩ : ∃ a : Int, scI G (i + 3).toNat = a := ⟨_, rfl⟩
  have r3 : -2147483648 ≤ a3 ∧ a3 ≤ 2147483647 := e3 ▸ scI_r G _
  obtain ⟨t, et⟩ : ∃ t : Int, mLg a2 a3 = t := ⟨_, rfl⟩
  have rt : -9223372036854775808 ≤ t ∧ t ≤ 9223372036854775807 := et ▸ mLg_r _ _
  obtain ⟨⟨vo, o50⟩, vd, o51⟩ := id ho
  refine v_aload_n dL_law_1035 rfl ?_
  refine v_aload_n dL_law_1036 rfl ?_
  refine v_iload dL_law_1037 rfl ?_
  refine v_iconst dL_law_1039 ?_
  refine v_iadd dL_law_1040 ?_
  refine v_sldA (a := a1) dL_law_1041 e1 ?_
  refine v_aload_n dL_law_1042 rfl ?_
  refine v_iload dL_law_1043 rfl ?_
  refine v_iconst dL_law_1045 ?_
  refine v_iadd dL_law_1046 ?_
  refine v_sldA (a := a2) dL_law_1047 e2 ?_
  refine v_i2l dL_law_1048 ?_
  refine v_bipush dL_law_1049 ?_
  refine v_lshl dL_law_1051 ?_
  refine v_aload_n dL_law_1052 rfl ?_
  refine v_iload dL_law_1053 rfl ?_
  refine v_iconst dL_law_1055 ?_
  refine v_iadd dL_law_1056 ?_
  refine v_sldA (a := a3) dL_law_1057 e3 ?_
  refine v_i2l dL_law_1058 ?_
  refine v_ldc2 4294967295 dL_law_1059 kl_L_97 ?_
  refine v_land dL_law_1062 ?_
  refine v_lorL (t := t) dL_law_1063 et ?_
  refine v_aload_n dL_law_1064 rfl ?_
  refine v_SW4 (rm' := rL_offset) dL_law_1065 km_L_136 ks_L_offset kz_L mk_L_offset rfl ⟨Nat.le_of_ble_eq_true rfl, Nat.le_of_ble_eq_true rfl⟩ ⟨by show kc + 1 ≤ 600128; omega, by show ks + 6 ≤ 7301098; omega⟩ (Nat.le_of_ble_eq_true rfl) ?_
  refine s_L_offset (za := fun k => B (11 + 6 * k)) (ra := fun q => B (15 + 6 * a1.toNat + q)) hst o50 hc.1.1 hc.1.2.2 r1 rt (fun g => ⟨(hc.2.2.2.2 a1.toNat (by omega)).1, (hc.2.2.2.2 a1.toNat (by omega)).2.1, (hc.2.2.2.2 a1.toNat (by omega)).2.2.1, (hc.2.2.2.2 a1.toNat (by omega)).2.2.2.1, (hc.2.2.2.2 a1.toNat (by omega)).2.2.2.2, (hd.2.2 a1.toNat (by omega)).1⟩) ?_ ?_
  · intro g1
    have m1 := hm
    obtain ⟨yq, mq, dq, ap, wr, sz, gp, n0, n1, n2, nMA, n8, n9⟩ := id m1
    refine v_istore dL_law_1068 (by decide) ?_
    refine v_aload_n dL_law_1070 rfl ?_
    refine v_aload_n dL_law_1071 rfl ?_
    refine v_iload dL_law_1072 rfl ?_
    refine v_iconst dL_law_1074 ?_
    refine v_iadd dL_law_1075 ?_
    refine v_sldA (a := a1) dL_law_1076 e1 ?_
    refine v_aload_n dL_law_1077 rfl ?_
    refine v_iload dL_law_1078 rfl ?_
    refine v_iconst dL_law_1080 ?_
    refine v_iadd dL_law_1081 ?_
    refine v_sldA (a := a2) dL_law_1082 e2 ?_
    refine v_i2l dL_law_1083 ?_
    refine v_bipush dL_law_1084 ?_
    refine v_lshl dL_law_1086 ?_
    refine v_aload_n dL_law_1087 rfl ?_
    refine v_iload dL_law_1088 rfl ?_
    refine v_iconst dL_law_1090 ?_
    refine v_iadd dL_law_1091 ?_
    refine v_sldA (a := a3) dL_law_1092 e3 ?_
    refine v_i2l dL_law_1093 ?_
    refine v_ldc2 4294967295 dL_law_1094 kl_L_97 ?_
    refine v_land dL_law_1097 ?_
    refine v_lorL (t := t) dL_law_1098 et ?_
    refine v_V2 (rm' := rX7_offset) (RX7, TX7, 18) dL_law_1099 km_L_139 kn_X7_offset kv_X7_offset kz_X7 mk_X7_offset rfl rfl (by exact n0) ⟨Nat.le_of_ble_eq_true rfl, Nat.le_of_ble_eq_true rfl⟩ ⟨by show kc + 1 + 0 ≤ 600128; omega, by show ks + 6 + 0 ≤ 7301098; omega⟩ (Nat.le_of_ble_eq_true rfl) ?_
    refine s_X7_offset hst n0 r1 rt (fun g => ⟨MZ_of nMA (hd.2.2 a1.toNat (by omega)).2, (hd.2.2 a1.toNat (by omega)).1⟩) ?_ ?_
    · intro b1 v9
      refine v_istore dL_law_1102 (by decide) ?_
      refine v_aload_n dL_law_1104 rfl ?_
      refine v_V0 (rm' := rX7_thrown) (RX7, TX7, 18) dL_law_1105 km_L_85 kn_X7_thrown kv_X7_thrown kz_X7 mk_X7_thrown rfl rfl (by exact aup_s) ⟨Nat.le_of_ble_eq_true rfl, Nat.le_of_ble_eq_true rfl⟩ ⟨by show kc + 1 + 0 + 0 ≤ 600128; omega, by show ks + 6 + 0 + 0 ≤ 7301098; omega⟩ (Nat.le_of_ble_eq_true rfl) ?_
      refine s_X7_thrown hst (aup_s) ?_
      refine v_iload dL_law_1108 rfl ?_
      refine v_icmp_eq 1115 dL_law_1110 (fun h9 => ?_) (fun h9 => ?_)
      rotate_left
      · (exfalso; omega)
      refine v_iload dL_law_1115 rfl ?_
      refine v_if_ne 1132 dL_law_1117 (fun h9 => ?_) (fun h9 => ?_)
      rotate_left
      · (exfalso; omega)
      refine v_goto 1530 dL_law_1132 ?_
      exact v_wid (kc' := kc + 8) (ks' := ks + 48) (by show kc + 1 + 0 + 0 ≤ kc + 8; omega) (by show ks + 6 + 0 + 0 ≤ ks + 48; omega) (v_lof [(0, .ref G.scr.1), (1, .ref (B 0)), (2, .ref (B 39)), (3, .ref (B 50)), (4, .ref (B 51)), (5, .int (iI i))] (List.forall_mem_cons.mpr ⟨rfl, (List.forall_mem_cons.mpr ⟨rfl, (List.forall_mem_cons.mpr ⟨rfl, (List.forall_mem_cons.mpr ⟨rfl, (List.forall_mem_cons.mpr ⟨rfl, (List.forall_mem_cons.mpr ⟨rfl, (fun _ h => nomatch h)⟩)⟩)⟩)⟩)⟩)⟩) (K _ (SS.of (hc.o hB ⟨by omega, by omega⟩) (m1.md hB) (ho.c hB (by omega)) hd)))
    · intro q1 q2 q3 b1 b2
      exfalso; first | omega | contradiction
  · intro g1 x1
    have o9 := oA_rng (t := t) (hd.2.2 a1.toNat (by omega)).1
    have m1 := (hm.c hB (k := 50) (e := alA G 1 (gup vo 0 (oA (fz a1.toNat) (cz a1.toNat) (rz a1.toNat) (gm a1.toNat) (go a1.toNat) (ru a1.toNat) t))) ⟨by omega, by omega⟩)
    obtain ⟨yq, mq, dq, ap, wr, sz, gp, n0, n1, n2, nMA, n8, n9⟩ := id m1
    refine v_istore dL_law_1068 (by decide) ?_
    refine v_aload_n dL_law_1070 rfl ?_
    refine v_aload_n dL_law_1071 rfl ?_
    refine v_iload dL_law_1072 rfl ?_
    refine v_iconst dL_law_1074 ?_
    refine v_iadd dL_law_1075 ?_
    refine v_sldA (a := a1) dL_law_1076 e1 ?_
    refine v_aload_n dL_law_1077 rfl ?_
    refine v_iload dL_law_1078 rfl ?_
    refine v_iconst dL_law_1080 ?_
    refine v_iadd dL_law_1081 ?_
    refine v_sldA (a := a2) dL_law_1082 e2 ?_
    refine v_i2l dL_law_1083 ?_
    refine v_bipush dL_law_1084 ?_
    refine v_lshl dL_law_1086 ?_
    refine v_aload_n dL_law_1087 rfl ?_
    refine v_iload dL_law_1088 rfl ?_
    refine v_iconst dL_law_1090 ?_
    refine v_iadd dL_law_1091 ?_
    refine v_sldA (a := a3) dL_law_1092 e3 ?_
    refine v_i2l dL_law_1093 ?_
    refine v_ldc2 4294967295 dL_law_1094 kl_L_97 ?_
    refine v_land dL_law_1097 ?_
    refine v_lorL (t := t) dL_law_1098 et ?_
    refine v_V2 (rm' := rX7_offset) (RX7, TX7, 18) dL_law_1099 km_L_139 kn_X7_offset kv_X7_offset kz_X7 mk_X7_offset rfl rfl (by exact n0) ⟨Nat.le_of_ble_eq_true rfl, Nat.le_of_ble_eq_true rfl⟩ ⟨by show kc + 1 + 0 ≤ 600128; omega, by show ks + 6 + 0 ≤ 7301098; omega⟩ (Nat.le_of_ble_eq_true rfl) ?_
    refine s_X7_offset hst n0 r1 rt (fun g => ⟨MZ_of nMA (hd.2.2 a1.toNat (by omega)).2, (hd.2.2 a1.toNat (by omega)).1⟩) ?_ ?_
    · intro b1 v9
      exfalso; first | omega | contradiction
    · intro q1 q2 q3 b1 b2
      refine v_istore dL_law_1102 (by decide) ?_
      refine v_aload_n dL_law_1104 rfl ?_
      refine v_V0 (rm' := rX7_thrown) (RX7, TX7, 18) dL_law_1105 km_L_85 kn_X7_thrown kv_X7_thrown kz_X7 mk_X7_thrown rfl rfl (by exact aup_s) ⟨Nat.le_of_ble_eq_true rfl, Nat.le_of_ble_eq_true rfl⟩ ⟨by show kc + 1 + 0 + 0 ≤ 600128; omega, by show ks + 6 + 0 + 0 ≤ 7301098; omega⟩ (Nat.le_of_ble_eq_true rfl) ?_
      refine s_X7_thrown hst (aup_s) ?_
      refine v_iload dL_law_1108 rfl ?_
      refine v_icmp_eq 1115 dL_law_1110 (fun h9 => ?_) (fun h9 => ?_)
      rotate_left
      · (exfalso; omega)
      refine v_iload dL_law_1115 rfl ?_
      refine v_if_ne 1132 dL_law_1117 (fun h9 => ?_) (fun h9 => ?_)
      · (exfalso; omega)
      refine v_aload_n dL_law_1120 rfl ?_
      refine v_iconst dL_law_1121 ?_
      refine v_laldX dL_law_1122 (by exact (kp hB (by omega) 50 (by omega) (by omega)).trans aup_s) (show _ = oA (fz a1.toNat) (cz a1.toNat) (rz a1.toNat) (gm a1.toNat) (go a1.toNat) (ru a1.toNat) t from gup_s) ?_
      refine v_iload dL_law_1123 rfl ?_
      refine v_i2l dL_law_1125 ?_
      refine v_lsame 1132 dL_law_1126 dL_law_1127 ?_
      refine v_goto 1530 dL_law_1132 ?_
      exact v_wid (kc' := kc + 8) (ks' := ks + 48) (by show kc + 1 + 0 + 0 ≤ kc + 8; omega) (by show ks + 6 + 0 + 0 ≤ ks + 48; omega) (v_lof [(0, .ref G.scr.1), (1, .ref (B 0)), (2, .ref (B 39)), (3, .ref (B 50)), (4, .ref (B 51)), (5, .int (iI i))] (List.forall_mem_cons.mpr ⟨rfl, (List.forall_mem_cons.mpr ⟨rfl, (List.forall_mem_cons.mpr ⟨rfl, (List.forall_mem_cons.mpr ⟨rfl, (List.forall_mem_cons.mpr ⟨rfl, (List.forall_mem_cons.mpr ⟨rfl, (fun _ h => nomatch h)⟩)⟩)⟩)⟩)⟩)⟩) (K _ (SS.of ((hc.o hB ⟨by omega, by omega⟩).o hB ⟨by omega, by omega⟩) (m1.md hB) ((ho.l hB).c hB (by omega)) hd)))
set_option maxRecDepth 100000 in
set_option maxHeartbeats 8000000 in
theorem lw_moment {l : Launch} {G : GG} {Q : Option Value → AH → Prop} {X : String → AH → Prop} {B : Nat → Nat} {i : Int} {w : AH} {kc ks : Nat} (hst : l.stackTraces = false) (hB : iB B) (hi : 0 ≤ i ∧ i + 7 ≤ (G.scr.2.1 : Int)) (hL9 : G.scr.2.1 ≤ 448) (hk : kc ≤ 500000 ∧ ks ≤ 7000000) (h : SS G B w) (K : ∀ w' : AH, SS G B w' → V l G mL_law room_1 Q X 1530 (lof [(0, .ref G.scr.1), (1, .ref (B 0)), (2, .ref (B 39)), (3, .ref (B 50)), (4, .ref (B 51)), (5, .int (iI i))]) [] w' (kc + 8) (ks + 48)) : V l G mL_law room_1 Q X 1135 (lof [(0, .ref G.scr.1), (1, .ref (B 0)), (2, .ref (B 39)), (3, .ref (B 50)), (4, .ref (B 51)), (5, .int (iI i))]) [] w kc ks := by
  obtain ⟨th, gd, gn, L, gl, fz, cz, rz, gm, go, ru, vF, vC, vM, vO, vK, vR, hc, hm, ho, hd⟩ := h
  have hgd := hc.gdr
  have hgn := hc.gnr
  obtain ⟨a1, e1⟩ : ∃ a : Int, scI G (i + 1).toNat = a := ⟨_, rfl⟩
  have r1 : -2147483648 ≤ a1 ∧ a1 ≤ 2147483647 := e1 ▸ scI_r G _
  obtain ⟨a2, e2⟩ : ∃ a : Int, scI G (i + 2).toNat = a := ⟨_, rfl⟩
  have r2 : -2147483648 ≤ a2 ∧ a2 ≤ 2147483647 := e2 ▸ scI_r G _
  obtain ⟨a3, e3⟩ : ∃ a : Int, scI G (i + 3).toNat = a := ⟨_, rfl⟩
  have r3 : -2147483648 ≤ a3 ∧ a3 ≤ 2147483647 := e3 ▸ scI_r G _
  obtain ⟨y, m, d, hE1⟩ := hc.pick a1
  obtain ⟨⟨vo, o50⟩, vd, o51⟩ := id ho
  by_cases hb3 : a3 = 0
  · refine v_aload_n dL_law_1135 rfl ?_
    refine v_aload_n dL_law_1136 rfl ?_
    refine v_iload dL_law_1137 rfl ?_
    refine v_iconst dL_law_1139 ?_
    refine v_iadd dL_law_1140 ?_
    refine v_sldA (a := a1) dL_law_1141 e1 ?_
    refine v_aload_n dL_law_1142 rfl ?_
    refine v_iload dL_law_1143 rfl ?_
    refine v_iconst dL_law_1145 ?_
    refine v_iadd dL_law_1146 ?_
    refine v_sldA (a := a2) dL_law_1147 e2 ?_
    refine v_aload_n dL_law_1148 rfl ?_
    refine v_iload dL_law_1149 rfl ?_
    refine v_iconst dL_law_1151 ?_
    refine v_iadd dL_law_1152 ?_
    refine v_sldA (a := a3) dL_law_1153 e3 ?_
    refine v_if_eq 1161 dL_law_1154 (fun h9 => ?_) (fun h9 => ?_)
    rotate_left
    · (exfalso; omega)
    refine v_iconst dL_law_1161 ?_
    refine v_aload_n dL_law_1162 rfl ?_
    refine v_SW5 (rm' := rL_moment) dL_law_1163 km_L_140 ks_L_moment kz_L mk_L_moment rfl ⟨Nat.le_of_ble_eq_true rfl, Nat.le_of_ble_eq_true rfl⟩ ⟨by show kc + 2 ≤ 600128; omega, by show ks + 12 ≤ 7301098; omega⟩ (Nat.le_of_ble_eq_true rfl) ?_
    refine s_L_moment (sa := fun k => B (2 + k)) (za := fun k => B (11 + 6 * k)) (la := 0) (ra := fun q => B (15 + 6 * a2.toNat + q)) hst o50 hc.1.1 hc.1.2.1 hc.sv r1 ?_ hc.1.2.2 r2 (fun g => ⟨(hc.2.2.2.2 a2.toNat (by omega)).1, (hc.2.2.2.2 a2.toNat (by omega)).2.1, (hc.2.2.2.2 a2.toNat (by omega)).2.2.1, (hc.2.2.2.2 a2.toNat (by omega)).2.2.2.1, (hc.2.2.2.2 a2.toNat (by omega)).2.2.2.2, (hd.2.2 a2.toNat (by omega)).1⟩) (by omega) ?_ ?_ ?_
    · intro g1
      have m1 := hm
      obtain ⟨yq, mq, dq, ap, wr, sz, gp, n0, n1, n2, nMA, n8, n9⟩ := id m1
      refine v_istore dL_law_1166 (by decide) ?_
      refine v_aload_n dL_law_1168 rfl ?_
      refine v_aload_n dL_law_1169 rfl ?_
      refine v_iload dL_law_1170 rfl ?_
      refine v_iconst dL_law_1172 ?_
      refine v_iadd dL_law_1173 ?_
      refine v_sldA (a := a1) dL_law_1174 e1 ?_
      refine v_aload_n dL_law_1175 rfl ?_
      refine v_iload dL_law_1176 rfl ?_
      refine v_iconst dL_law_1178 ?_
      refine v_iadd dL_law_1179 ?_
      refine v_sldA (a := a2) dL_law_1180 e2 ?_
      refine v_aload_n dL_law_1181 rfl ?_
      refine v_iload dL_law_1182 rfl ?_
      refine v_iconst dL_law_1184 ?_
      refine v_iadd dL_law_1185 ?_
      refine v_sldA (a := a3) dL_law_1186 e3 ?_
      refine v_if_eq 1194 dL_law_1187 (fun h9 => ?_) (fun h9 => ?_)
      rotate_left
      · (exfalso; omega)
      refine v_iconst dL_law_1194 ?_
      refine v_V3 (rm' := rX7_moment) (RX7, TX7, 18) dL_law_1195 km_L_143 kn_X7_moment kv_X7_moment kz_X7 mk_X7_moment rfl rfl (by exact n0) ⟨Nat.le_of_ble_eq_true rfl, Nat.le_of_ble_eq_true rfl⟩ ⟨by show kc + 2 + 0 ≤ 600128; omega, by show ks + 12 + 0 ≤ 7301098; omega⟩ (Nat.le_of_ble_eq_true rfl) ?_
      refine s_X7_moment (la := 0) (lo := (ed y m d * 86400 + gn a1.toNat / 1000000000)) hst n0 n1 n2 (hA_of hB 0 1 (by omega) (by omega) (by omega)) hgd hgn r1 r2 (by omega) (fun g => by rw [(hE1 g).2.1]; omega) (fun g => ⟨MZ_of nMA (hd.2.2 a2.toNat (by omega)).2, (hd.2.2 a2.toNat (by omega)).1⟩) ?_ ?_ ?_ ?_
      · intro v9 b1
        refine v_lstore dL_law_1198 (by decide) ?_
        refine v_aload_n dL_law_1200 rfl ?_
        refine v_V0 (rm' := rX7_thrown) (RX7, TX7, 18) dL_law_1201 km_L_85 kn_X7_thrown kv_X7_thrown kz_X7 mk_X7_thrown rfl rfl (by exact aup_s) ⟨Nat.le_of_ble_eq_true rfl, Nat.le_of_ble_eq_true rfl⟩ ⟨by show kc + 2 + 0 + 0 ≤ 600128; omega, by show ks + 12 + 0 + 0 ≤ 7301098; omega⟩ (Nat.le_of_ble_eq_true rfl) ?_
        refine s_X7_thrown hst (aup_s) ?_
        refine v_iload dL_law_1204 rfl ?_
        refine v_icmp_eq 1211 dL_law_1206 (fun h9 => ?_) (fun h9 => ?_)
        rotate_left
        · (exfalso; omega)
        refine v_iload dL_law_1211 rfl ?_
        refine v_if_ne 1227 dL_law_1213 (fun h9 => ?_) (fun h9 => ?_)
        rotate_left
        · (exfalso; omega)
        refine v_goto 1530 dL_law_1227 ?_
        exact v_wid (kc' := kc + 8) (ks' := ks + 48) (by show kc + 2 + 0 + 0 ≤ kc + 8; omega) (by show ks + 12 + 0 + 0 ≤ ks + 48; omega) (v_lof [(0, .ref G.scr.1), (1, .ref (B 0)), (2, .ref (B 39)), (3, .ref (B 50)), (4, .ref (B 51)), (5, .int (iI i))] (List.forall_mem_cons.mpr ⟨rfl, (List.forall_mem_cons.mpr ⟨rfl, (List.forall_mem_cons.mpr ⟨rfl, (List.forall_mem_cons.mpr ⟨rfl, (List.forall_mem_cons.mpr ⟨rfl, (List.forall_mem_cons.mpr ⟨rfl, (fun _ h => nomatch h)⟩)⟩)⟩)⟩)⟩)⟩) (K _ (SS.of (hc.o hB ⟨by omega, by omega⟩) (m1.md hB) (ho.c hB (by omega)) hd)))
      · intro v9 b1 b2
        exfalso; first | omega | contradiction
      · intro q1 q2 q3 b1 b2 b3
        exfalso; first | omega | contradiction
      · intro q1 q2 q3 E8 b1 b2 b3 b4
        exfalso; first | omega | contradiction
    · intro g1 x1
      have m1 := hm
      obtain ⟨yq, mq, dq, ap, wr, sz, gp, n0, n1, n2, nMA, n8, n9⟩ := id m1
      refine v_istore dL_law_1166 (by decide) ?_
      refine v_aload_n dL_law_1168 rfl ?_
      refine v_aload_n dL_law_1169 rfl ?_
      refine v_iload dL_law_1170 rfl ?_
      refine v_iconst dL_law_1172 ?_
      refine v_iadd dL_law_1173 ?_
      refine v_sldA (a := a1) dL_law_1174 e1 ?_
      refine v_aload_n dL_law_1175 rfl ?_
      refine v_iload dL_law_1176 rfl ?_
      refine v_iconst dL_law_1178 ?_
      refine v_iadd dL_law_1179 ?_
      refine v_sldA (a := a2) dL_law_1180 e2 ?_
      refine v_aload_n dL_law_1181 rfl ?_
      refine v_iload dL_law_1182 rfl ?_
      refine v_iconst dL_law_1184 ?_
      refine v_iadd dL_law_1185 ?_
      refine v_sldA (a := a3) dL_law_1186 e3 ?_
      refine v_if_eq 1194 dL_law_1187 (fun h9 => ?_) (fun h9 => ?_)
      rotate_left
      · (exfalso; omega)
      refine v_iconst dL_law_1194 ?_
      refine v_V3 (rm' := rX7_moment) (RX7, TX7, 18) dL_law_1195 km_L_143 kn_X7_moment kv_X7_moment kz_X7 mk_X7_moment rfl rfl (by exact n0) ⟨Nat.le_of_ble_eq_true rfl, Nat.le_of_ble_eq_true rfl⟩ ⟨by show kc + 2 + 0 ≤ 600128; omega, by show ks + 12 + 0 ≤ 7301098; omega⟩ (Nat.le_of_ble_eq_true rfl) ?_
      refine s_X7_moment (la := 0) (lo := (ed y m d * 86400 + gn a1.toNat / 1000000000)) hst n0 n1 n2 (hA_of hB 0 1 (by omega) (by omega) (by omega)) hgd hgn r1 r2 (by omega) (fun g => by rw [(hE1 g).2.1]; omega) (fun g => ⟨MZ_of nMA (hd.2.2 a2.toNat (by omega)).2, (hd.2.2 a2.toNat (by omega)).1⟩) ?_ ?_ ?_ ?_
      · intro v9 b1
        exfalso; first | omega | contradiction
      · intro v9 b1 b2
        refine v_lstore dL_law_1198 (by decide) ?_
        refine v_aload_n dL_law_1200 rfl ?_
        refine v_V0 (rm' := rX7_thrown) (RX7, TX7, 18) dL_law_1201 km_L_85 kn_X7_thrown kv_X7_thrown kz_X7 mk_X7_thrown rfl rfl (by exact aup_s) ⟨Nat.le_of_ble_eq_true rfl, Nat.le_of_ble_eq_true rfl⟩ ⟨by show kc + 2 + 0 + 0 ≤ 600128; omega, by show ks + 12 + 0 + 0 ≤ 7301098; omega⟩ (Nat.le_of_ble_eq_true rfl) ?_
        refine s_X7_thrown hst (aup_s) ?_
        refine v_iload dL_law_1204 rfl ?_
        refine v_icmp_eq 1211 dL_law_1206 (fun h9 => ?_) (fun h9 => ?_)
        rotate_left
        · (exfalso; omega)
        refine v_iload dL_law_1211 rfl ?_
        refine v_if_ne 1227 dL_law_1213 (fun h9 => ?_) (fun h9 => ?_)
        rotate_left
        · (exfalso; omega)
        refine v_goto 1530 dL_law_1227 ?_
        exact v_wid (kc' := kc + 8) (ks' := ks + 48) (by show kc + 2 + 0 + 0 ≤ kc + 8; omega) (by show ks + 12 + 0 + 0 ≤ ks + 48; omega) (v_lof [(0, .ref G.scr.1), (1, .ref (B 0)), (2, .ref (B 39)), (3, .ref (B 50)), (4, .ref (B 51)), (5, .int (iI i))] (List.forall_mem_cons.mpr ⟨rfl, (List.forall_mem_cons.mpr ⟨rfl, (List.forall_mem_cons.mpr ⟨rfl, (List.forall_mem_cons.mpr ⟨rfl, (List.forall_mem_cons.mpr ⟨rfl, (List.forall_mem_cons.mpr ⟨rfl, (fun _ h => nomatch h)⟩)⟩)⟩)⟩)⟩)⟩) (K _ (SS.of (hc.o hB ⟨by omega, by omega⟩) (m1.md hB) (ho.c hB (by omega)) hd)))
      · intro q1 q2 q3 b1 b2 b3
        exfalso; first | omega | contradiction
      · intro q1 q2 q3 E8 b1 b2 b3 b4
        exfalso; first | omega | contradiction
    · intro y9 m9 d9 n9 g1 g2 g3 g4 g5 g6 x1 x2
      obtain ⟨rfl, rfl, rfl, rfl⟩ := pkE_eq g1 hE1 g2 g3 g4 g5 g6
      have m1 := (hm.c hB (k := 50) (e := alA G 1 (gup vo 0 (mS (fz a2.toNat) (cz a2.toNat) (rz a2.toNat) (gm a2.toNat) (go a2.toNat) (ru a2.toNat) (ed y m d * 86400 + gn a1.toNat / 1000000000) 0 (1 + cz a2.toNat + rz a2.toNat).toNat))) ⟨by omega, by omega⟩)
      obtain ⟨yq, mq, dq, ap, wr, sz, gp, n0, n1, n2, nMA, n8, n9⟩ := id m1
      refine v_istore dL_law_1166 (by decide) ?_
      refine v_aload_n dL_law_1168 rfl ?_
      refine v_aload_n dL_law_1169 rfl ?_
      refine v_iload dL_law_1170 rfl ?_
      refine v_iconst dL_law_1172 ?_
      refine v_iadd dL_law_1173 ?_
      refine v_sldA (a := a1) dL_law_1174 e1 ?_
      refine v_aload_n dL_law_1175 rfl ?_
      refine v_iload dL_law_1176 rfl ?_
      refine v_iconst dL_law_1178 ?_
      refine v_iadd dL_law_1179 ?_
      refine v_sldA (a := a2) dL_law_1180 e2 ?_
      refine v_aload_n dL_law_1181 rfl ?_
      refine v_iload dL_law_1182 rfl ?_
      refine v_iconst dL_law_1184 ?_
      refine v_iadd dL_law_1185 ?_
      refine v_sldA (a := a3) dL_law_1186 e3 ?_
      refine v_if_eq 1194 dL_law_1187 (fun h9 => ?_) (fun h9 => ?_)
      rotate_left
      · (exfalso; omega)
      refine v_iconst dL_law_1194 ?_
      refine v_V3 (rm' := rX7_moment) (RX7, TX7, 18) dL_law_1195 km_L_143 kn_X7_moment kv_X7_moment kz_X7 mk_X7_moment rfl rfl (by exact n0) ⟨Nat.le_of_ble_eq_true rfl, Nat.le_of_ble_eq_true rfl⟩ ⟨by show kc + 2 + 0 ≤ 600128; omega, by show ks + 12 + 0 ≤ 7301098; omega⟩ (Nat.le_of_ble_eq_true rfl) ?_
      refine s_X7_moment (la := 0) (lo := (ed y m d * 86400 + gn a1.toNat / 1000000000)) hst n0 n1 n2 (hA_of hB 0 1 (by omega) (by omega) (by omega)) hgd hgn r1 r2 (by omega) (fun g => by rw [(hE1 g).2.1]; omega) (fun g => ⟨MZ_of nMA (hd.2.2 a2.toNat (by omega)).2, (hd.2.2 a2.toNat (by omega)).1⟩) ?_ ?_ ?_ ?_
      · intro v9 b1
        exfalso; first | omega | contradiction
      · intro v9 b1 b2
        exfalso; first | omega | contradiction
      · intro q1 q2 q3 b1 b2 b3
        refine v_lstore dL_law_1198 (by decide) ?_
        refine v_aload_n dL_law_1200 rfl ?_
        refine v_V0 (rm' := rX7_thrown) (RX7, TX7, 18) dL_law_1201 km_L_85 kn_X7_thrown kv_X7_thrown kz_X7 mk_X7_thrown rfl rfl (by exact aup_s) ⟨Nat.le_of_ble_eq_true rfl, Nat.le_of_ble_eq_true rfl⟩ ⟨by show kc + 2 + 0 + 0 ≤ 600128; omega, by show ks + 12 + 0 + 0 ≤ 7301098; omega⟩ (Nat.le_of_ble_eq_true rfl) ?_
        refine s_X7_thrown hst (aup_s) ?_
        refine v_iload dL_law_1204 rfl ?_
        refine v_icmp_eq 1211 dL_law_1206 (fun h9 => ?_) (fun h9 => ?_)
        rotate_left
        · (exfalso; omega)
        refine v_iload dL_law_1211 rfl ?_
        refine v_if_ne 1227 dL_law_1213 (fun h9 => ?_) (fun h9 => ?_)
        · (exfalso; omega)
        refine v_aload_n dL_law_1216 rfl ?_
        refine v_iconst dL_law_1217 ?_
        refine v_laldX dL_law_1218 (by exact (kp hB (by omega) 50 (by omega) (by omega)).trans aup_s) (show _ = mS (fz a2.toNat) (cz a2.toNat) (rz a2.toNat) (gm a2.toNat) (go a2.toNat) (ru a2.toNat) (ed y m d * 86400 + gn a1.toNat / 1000000000) 0 (1 + cz a2.toNat + rz a2.toNat).toNat from gup_s) ?_
        refine v_lload dL_law_1219 rfl ?_
        refine v_lsame 1227 dL_law_1221 dL_law_1222 ?_
        refine v_goto 1530 dL_law_1227 ?_
        exact v_wid (kc' := kc + 8) (ks' := ks + 48) (by show kc + 2 + 0 + 0 ≤ kc + 8; omega) (by show ks + 12 + 0 + 0 ≤ ks + 48; omega) (v_lof [(0, .ref G.scr.1), (1, .ref (B 0)), (2, .ref (B 39)), (3, .ref (B 50)), (4, .ref (B 51)), (5, .int (iI i))] (List.forall_mem_cons.mpr ⟨rfl, (List.forall_mem_cons.mpr ⟨rfl, (List.forall_mem_cons.mpr ⟨rfl, (List.forall_mem_cons.mpr ⟨rfl, (List.forall_mem_cons.mpr ⟨rfl, (List.forall_mem_cons.mpr ⟨rfl, (fun _ h => nomatch h)⟩)⟩)⟩)⟩)⟩)⟩) (K _ (SS.of ((hc.o hB ⟨by omega, by omega⟩).o hB ⟨by omega, by omega⟩) (m1.md hB) ((ho.l hB).c hB (by omega)) hd)))
      · intro q1 q2 q3 E8 b1 b2 b3 b4
        exfalso; first | omega | contradiction
    · intro y9 m9 d9 n9 g1 g2 g3 g4 g5 g6 x1 x2 E9 x3
      obtain ⟨rfl, rfl, rfl, rfl⟩ := pkE_eq g1 hE1 g2 g3 g4 g5 g6
      have m1 := (hm.c hB (k := 50) (e := alA G 1 (gup vo 0 ((ed y m d * 86400 + gn a1.toNat / 1000000000) - oA (fz a2.toNat) (cz a2.toNat) (rz a2.toNat) (gm a2.toNat) (go a2.toNat) (ru a2.toNat) (E9 - 1)))) ⟨by omega, by omega⟩)
      obtain ⟨yq, mq, dq, ap, wr, sz, gp, n0, n1, n2, nMA, n8, n9⟩ := id m1
      refine v_istore dL_law_1166 (by decide) ?_
      refine v_aload_n dL_law_1168 rfl ?_
      refine v_aload_n dL_law_1169 rfl ?_
      refine v_iload dL_law_1170 rfl ?_
      refine v_iconst dL_law_1172 ?_
      refine v_iadd dL_law_1173 ?_
      refine v_sldA (a := a1) dL_law_1174 e1 ?_
      refine v_aload_n dL_law_1175 rfl ?_
      refine v_iload dL_law_1176 rfl ?_
      refine v_iconst dL_law_1178 ?_
      refine v_iadd dL_law_1179 ?_
      refine v_sldA (a := a2) dL_law_1180 e2 ?_
      refine v_aload_n dL_law_1181 rfl ?_
      refine v_iload dL_law_1182 rfl ?_
      refine v_iconst dL_law_1184 ?_
      refine v_iadd dL_law_1185 ?_
      refine v_sldA (a := a3) dL_law_1186 e3 ?_
      refine v_if_eq 1194 dL_law_1187 (fun h9 => ?_) (fun h9 => ?_)
      rotate_left
      · (exfalso; omega)
      refine v_iconst dL_law_1194 ?_
      refine v_V3 (rm' := rX7_moment) (RX7, TX7, 18) dL_law_1195 km_L_143 kn_X7_moment kv_X7_moment kz_X7 mk_X7_moment rfl rfl (by exact n0) ⟨Nat.le_of_ble_eq_true rfl, Nat.le_of_ble_eq_true rfl⟩ ⟨by show kc + 2 + 0 ≤ 600128; omega, by show ks + 12 + 0 ≤ 7301098; omega⟩ (Nat.le_of_ble_eq_true rfl) ?_
      refine s_X7_moment (la := 0) (lo := (ed y m d * 86400 + gn a1.toNat / 1000000000)) hst n0 n1 n2 (hA_of hB 0 1 (by omega) (by omega) (by omega)) hgd hgn r1 r2 (by omega) (fun g => by rw [(hE1 g).2.1]; omega) (fun g => ⟨MZ_of nMA (hd.2.2 a2.toNat (by omega)).2, (hd.2.2 a2.toNat (by omega)).1⟩) ?_ ?_ ?_ ?_
      · intro v9 b1
        exfalso; first | omega | contradiction
      · intro v9 b1 b2
        exfalso; first | omega | contradiction
      · intro q1 q2 q3 b1 b2 b3
        exfalso; first | omega | contradiction
      · intro q1 q2 q3 E8 b1 b2 b3 b4
        have l9 : -377705116800 ≤ (ed y m d * 86400 + gn a1.toNat / 1000000000) ∧ (ed y m d * 86400 + gn a1.toNat / 1000000000) ≤ 253402300799 := by
          have e5 := ed_rng g3 g4 g5
          omega
        have e9 := gap_eq (hd.2.2 a2.toNat (by omega)).1 l9 (noneShows (hd.2.2 a2.toNat (by omega)).1 l9 x2) x3 b4
        subst e9
        refine v_lstore dL_law_1198 (by decide) ?_
        refine v_aload_n dL_law_1200 rfl ?_
        refine v_V0 (rm' := rX7_thrown) (RX7, TX7, 18) dL_law_1201 km_L_85 kn_X7_thrown kv_X7_thrown kz_X7 mk_X7_thrown rfl rfl (by exact aup_s) ⟨Nat.le_of_ble_eq_true rfl, Nat.le_of_ble_eq_true rfl⟩ ⟨by show kc + 2 + 0 + 0 ≤ 600128; omega, by show ks + 12 + 0 + 0 ≤ 7301098; omega⟩ (Nat.le_of_ble_eq_true rfl) ?_
        refine s_X7_thrown hst (aup_s) ?_
        refine v_iload dL_law_1204 rfl ?_
        refine v_icmp_eq 1211 dL_law_1206 (fun h9 => ?_) (fun h9 => ?_)
        rotate_left
        · (exfalso; omega)
        refine v_iload dL_law_1211 rfl ?_
        refine v_if_ne 1227 dL_law_1213 (fun h9 => ?_) (fun h9 => ?_)
        · (exfalso; omega)
        refine v_aload_n dL_law_1216 rfl ?_
        refine v_iconst dL_law_1217 ?_
        refine v_laldX dL_law_1218 (by exact (kp hB (by omega) 50 (by omega) (by omega)).trans aup_s) (show _ = (ed y m d * 86400 + gn a1.toNat / 1000000000) - oA (fz a2.toNat) (cz a2.toNat) (rz a2.toNat) (gm a2.toNat) (go a2.toNat) (ru a2.toNat) (E9 - 1) from gup_s) ?_
        refine v_lload dL_law_1219 rfl ?_
        refine v_lsame 1227 dL_law_1221 dL_law_1222 ?_
        refine v_goto 1530 dL_law_1227 ?_
        exact v_wid (kc' := kc + 8) (ks' := ks + 48) (by show kc + 2 + 0 + 0 ≤ kc + 8; omega) (by show ks + 12 + 0 + 0 ≤ ks + 48; omega) (v_lof [(0, .ref G.scr.1), (1, .ref (B 0)), (2, .ref (B 39)), (3, .ref (B 50)), (4, .ref (B 51)), (5, .int (iI i))] (List.forall_mem_cons.mpr ⟨rfl, (List.forall_mem_cons.mpr ⟨rfl, (List.forall_mem_cons.mpr ⟨rfl, (List.forall_mem_cons.mpr ⟨rfl, (List.forall_mem_cons.mpr ⟨rfl, (List.forall_mem_cons.mpr ⟨rfl, (fun _ h => nomatch h)⟩)⟩)⟩)⟩)⟩)⟩) (K _ (SS.of ((hc.o hB ⟨by omega, by omega⟩).o hB ⟨by omega, by omega⟩) (m1.md hB) ((ho.l hB).c hB (by omega)) hd)))
  · refine v_aload_n dL_law_1135 rfl ?_
    refine v_aload_n dL_law_1136 rfl ?_
    refine v_iload dL_law_1137 rfl ?_
    refine v_iconst dL_law_1139 ?_
    refine v_iadd dL_law_1140 ?_
    refine v_sldA (a := a1) dL_law_1141 e1 ?_
    refine v_aload_n dL_law_1142 rfl ?_
    refine v_iload dL_law_1143 rfl ?_
    refine v_iconst dL_law_1145 ?_
    refine v_iadd dL_law_1146 ?_
    refine v_sldA (a := a2) dL_law_1147 e2 ?_
    refine v_aload_n dL_law_1148 rfl ?_
    refine v_iload dL_law_1149 rfl ?_
    refine v_iconst dL_law_1151 ?_
    refine v_iadd dL_law_1152 ?_
    refine v_sldA (a := a3) dL_law_1153 e3 ?_
    refine v_if_eq 1161 dL_law_1154 (fun h9 => ?_) (fun h9 => ?_)
    · (exfalso; omega)
    refine v_iconst dL_law_1157 ?_
    refine v_goto 1162 dL_law_1158 ?_
    refine v_aload_n dL_law_1162 rfl ?_
    refine v_SW5 (rm' := rL_moment) dL_law_1163 km_L_140 ks_L_moment kz_L mk_L_moment rfl ⟨Nat.le_of_ble_eq_true rfl, Nat.le_of_ble_eq_true rfl⟩ ⟨by show kc + 2 ≤ 600128; omega, by show ks + 12 ≤ 7301098; omega⟩ (Nat.le_of_ble_eq_true rfl) ?_
    refine s_L_moment (sa := fun k => B (2 + k)) (za := fun k => B (11 + 6 * k)) (la := 1) (ra := fun q => B (15 + 6 * a2.toNat + q)) hst o50 hc.1.1 hc.1.2.1 hc.sv r1 ?_ hc.1.2.2 r2 (fun g => ⟨(hc.2.2.2.2 a2.toNat (by omega)).1, (hc.2.2.2.2 a2.toNat (by omega)).2.1, (hc.2.2.2.2 a2.toNat (by omega)).2.2.1, (hc.2.2.2.2 a2.toNat (by omega)).2.2.2.1, (hc.2.2.2.2 a2.toNat (by omega)).2.2.2.2, (hd.2.2 a2.toNat (by omega)).1⟩) (by omega) ?_ ?_ ?_
    · intro g1
      have m1 := hm
      obtain ⟨yq, mq, dq, ap, wr, sz, gp, n0, n1, n2, nMA, n8, n9⟩ := id m1
      refine v_istore dL_law_1166 (by decide) ?_
      refine v_aload_n dL_law_1168 rfl ?_
      refine v_aload_n dL_law_1169 rfl ?_
      refine v_iload dL_law_1170 rfl ?_
      refine v_iconst dL_law_1172 ?_
      refine v_iadd dL_law_1173 ?_
      refine v_sldA (a := a1) dL_law_1174 e1 ?_
      refine v_aload_n dL_law_1175 rfl ?_
      refine v_iload dL_law_1176 rfl ?_
      refine v_iconst dL_law_1178 ?_
      refine v_iadd dL_law_1179 ?_
      refine v_sldA (a := a2) dL_law_1180 e2 ?_
      refine v_aload_n dL_law_1181 rfl ?_
      refine v_iload dL_law_1182 rfl ?_
      refine v_iconst dL_law_1184 ?_
      refine v_iadd dL_law_1185 ?_
      refine v_sldA (a := a3) dL_law_1186 e3 ?_
      refine v_if_eq 1194 dL_law_1187 (fun h9 => ?_) (fun h9 => ?_)
      · (exfalso; omega)
      refine v_iconst dL_law_1190 ?_
      refine v_goto 1195 dL_law_1191 ?_
      refine v_V3 (rm' := rX7_moment) (RX7, TX7, 18) dL_law_1195 km_L_143 kn_X7_moment kv_X7_moment kz_X7 mk_X7_moment rfl rfl (by exact n0) ⟨Nat.le_of_ble_eq_true rfl, Nat.le_of_ble_eq_true rfl⟩ ⟨by show kc + 2 + 0 ≤ 600128; omega, by show ks + 12 + 0 ≤ 7301098; omega⟩ (Nat.le_of_ble_eq_true rfl) ?_
      refine s_X7_moment (la := 1) (lo := (ed y m d * 86400 + gn a1.toNat / 1000000000)) hst n0 n1 n2 (hA_of hB 0 1 (by omega) (by omega) (by omega)) hgd hgn r1 r2 (by omega) (fun g => by rw [(hE1 g).2.1]; omega) (fun g => ⟨MZ_of nMA (hd.2.2 a2.toNat (by omega)).2, (hd.2.2 a2.toNat (by omega)).1⟩) ?_ ?_ ?_ ?_
      · intro v9 b1
        refine v_lstore dL_law_1198 (by decide) ?_
        refine v_aload_n dL_law_1200 rfl ?_
        refine v_V0 (rm' := rX7_thrown) (RX7, TX7, 18) dL_law_1201 km_L_85 kn_X7_thrown kv_X7_thrown kz_X7 mk_X7_thrown rfl rfl (by exact aup_s) ⟨Nat.le_of_ble_eq_true rfl, Nat.le_of_ble_eq_true rfl⟩ ⟨by show kc + 2 + 0 + 0 ≤ 600128; omega, by show ks + 12 + 0 + 0 ≤ 7301098; omega⟩ (Nat.le_of_ble_eq_true rfl) ?_
        refine s_X7_thrown hst (aup_s) ?_
        refine v_iload dL_law_1204 rfl ?_
        refine v_icmp_eq 1211 dL_law_1206 (fun h9 => ?_) (fun h9 => ?_)
        rotate_left
        · (exfalso; omega)
        refine v_iload dL_law_1211 rfl ?_
        refine v_if_ne 1227 dL_law_1213 (fun h9 => ?_) (fun h9 => ?_)
        rotate_left
        · (exfalso; omega)
        refine v_goto 1530 dL_law_1227 ?_
        exact v_wid (kc' := kc + 8) (ks' := ks + 48) (by show kc + 2 + 0 + 0 ≤ kc + 8; omega) (by show ks + 12 + 0 + 0 ≤ ks + 48; omega) (v_lof [(0, .ref G.scr.1), (1, .ref (B 0)), (2, .ref (B 39)), (3, .ref (B 50)), (4, .ref (B 51)), (5, .int (iI i))] (List.forall_mem_cons.mpr ⟨rfl, (List.forall_mem_cons.mpr ⟨rfl, (List.forall_mem_cons.mpr ⟨rfl, (List.forall_mem_cons.mpr ⟨rfl, (List.forall_mem_cons.mpr ⟨rfl, (List.forall_mem_cons.mpr ⟨rfl, (fun _ h => nomatch h)⟩)⟩)⟩)⟩)⟩)⟩) (K _ (SS.of (hc.o hB ⟨by omega, by omega⟩) (m1.md hB) (ho.c hB (by omega)) hd)))
      · intro v9 b1 b2
        exfalso; first | omega | contradiction
      · intro q1 q2 q3 b1 b2 b3
        exfalso; first | omega | contradiction
      · intro q1 q2 q3 E8 b1 b2 b3 b4
        exfalso; first | omega | contradiction
    · intro g1 x1
      have m1 := hm
      obtain ⟨yq, mq, dq, ap, wr, sz, gp, n0, n1, n2, nMA, n8, n9⟩ := id m1
      refine v_istore dL_law_1166 (by decide) ?_
      refine v_aload_n dL_law_1168 rfl ?_
      refine v_aload_n dL_law_1169 rfl ?_
      refine v_iload dL_law_1170 rfl ?_
      refine v_iconst dL_law_1172 ?_
      refine v_iadd dL_law_1173 ?_
      refine v_sldA (a := a1) dL_law_1174 e1 ?_
      refine v_aload_n dL_law_1175 rfl ?_
      refine v_iload dL_law_1176 rfl ?_
      refine v_iconst dL_law_1178 ?_
      refine v_iadd dL_law_1179 ?_
      refine v_sldA (a := a2) dL_law_1180 e2 ?_
      refine v_aload_n dL_law_1181 rfl ?_
      refine v_iload dL_law_1182 rfl ?_
      refine v_iconst dL_law_1184 ?_
      refine v_iadd dL_law_1185 ?_
      refine v_sldA (a := a3) dL_law_1186 e3 ?_
      refine v_if_eq 1194 dL_law_1187 (fun h9 => ?_) (fun h9 => ?_)
      · (exfalso; omega)
      refine v_iconst dL_law_1190 ?_
      refine v_goto 1195 dL_law_1191 ?_
      refine v_V3 (rm' := rX7_moment) (RX7, TX7, 18) dL_law_1195 km_L_143 kn_X7_moment kv_X7_moment kz_X7 mk_X7_moment rfl rfl (by exact n0) ⟨Nat.le_of_ble_eq_true rfl, Nat.le_of_ble_eq_true rfl⟩ ⟨by show kc + 2 + 0 ≤ 600128; omega, by show ks + 12 + 0 ≤ 7301098; omega⟩ (Nat.le_of_ble_eq_true rfl) ?_
      refine s_X7_moment (la := 1) (lo := (ed y m d * 86400 + gn a1.toNat / 1000000000)) hst n0 n1 n2 (hA_of hB 0 1 (by omega) (by omega) (by omega)) hgd hgn r1 r2 (by omega) (fun g => by rw [(hE1 g).2.1]; omega) (fun g => ⟨MZ_of nMA (hd.2.2 a2.toNat (by omega)).2, (hd.2.2 a2.toNat (by omega)).1⟩) ?_ ?_ ?_ ?_
      · intro v9 b1
        exfalso; first | omega | contradiction
      · intro v9 b1 b2
        refine v_lstore dL_law_1198 (by decide) ?_
        refine v_aload_n dL_law_1200 rfl ?_
        refine v_V0 (rm' := rX7_thrown) (RX7, TX7, 18) dL_law_1201 km_L_85 kn_X7_thrown kv_X7_thrown kz_X7 mk_X7_thrown rfl rfl (by exact aup_s) ⟨Nat.le_of_ble_eq_true rfl, Nat.le_of_ble_eq_true rfl⟩ ⟨by show kc + 2 + 0 + 0 ≤ 600128; omega, by show ks + 12 + 0 + 0 ≤ 7301098; omega⟩ (Nat.le_of_ble_eq_true rfl) ?_
        refine s_X7_thrown hst (aup_s) ?_
        refine v_iload dL_law_1204 rfl ?_
        refine v_icmp_eq 1211 dL_law_1206 (fun h9 => ?_) (fun h9 => ?_)
        rotate_left
        · (exfalso; omega)
        refine v_iload dL_law_1211 rfl ?_
        refine v_if_ne 1227 dL_law_1213 (fun h9 => ?_) (fun h9 => ?_)
        rotate_left
        · (exfalso; omega)
        refine v_goto 1530 dL_law_1227 ?_
        exact v_wid (kc' := kc + 8) (ks' := ks + 48) (by show kc + 2 + 0 + 0 ≤ kc + 8; omega) (by show ks + 12 + 0 + 0 ≤ ks + 48; omega) (v_lof [(0, .ref G.scr.1), (1, .ref (B 0)), (2, .ref (B 39)), (3, .ref (B 50)), (4, .ref (B 51)), (5, .int (iI i))] (List.forall_mem_cons.mpr ⟨rfl, (List.forall_mem_cons.mpr ⟨rfl, (List.forall_mem_cons.mpr ⟨rfl, (List.forall_mem_cons.mpr ⟨rfl, (List.forall_mem_cons.mpr ⟨rfl, (List.forall_mem_cons.mpr ⟨rfl, (fun _ h => nomatch h)⟩)⟩)⟩)⟩)⟩)⟩) (K _ (SS.of (hc.o hB ⟨by omega, by omega⟩) (m1.md hB) (ho.c hB (by omega)) hd)))
      · intro q1 q2 q3 b1 b2 b3
        exfalso; first | omega | contradiction
      · intro q1 q2 q3 E8 b1 b2 b3 b4
        exfalso; first | omega | contradiction
    · intro y9 m9 d9 n9 g1 g2 g3 g4 g5 g6 x1 x2
      obtain ⟨rfl, rfl, rfl, rfl⟩ := pkE_eq g1 hE1 g2 g3 g4 g5 g6
      have m1 := (hm.c hB (k := 50) (e := alA G 1 (gup vo 0 (mS (fz a2.toNat) (cz a2.toNat) (rz a2.toNat) (gm a2.toNat) (go a2.toNat) (ru a2.toNat) (ed y m d * 86400 + gn a1.toNat / 1000000000) 1 (1 + cz a2.toNat + rz a2.toNat).toNat))) ⟨by omega, by omega⟩)
      obtain ⟨yq, mq, dq, ap, wr, sz, gp, n0, n1, n2, nMA, n8, n9⟩ := id m1
      refine v_istore dL_law_1166 (by decide) ?_
      refine v_aload_n dL_law_1168 rfl ?_
      refine v_aload_n dL_law_1169 rfl ?_
      refine v_iload dL_law_1170 rfl ?_
      refine v_iconst dL_law_1172 ?_
      refine v_iadd dL_law_1173 ?_
      refine v_sldA (a := a1) dL_law_1174 e1 ?_
      refine v_aload_n dL_law_1175 rfl ?_
      refine v_iload dL_law_1176 rfl ?_
      refine v_iconst dL_law_1178 ?_
      refine v_iadd dL_law_1179 ?_
      refine v_sldA (a := a2) dL_law_1180 e2 ?_
      refine v_aload_n dL_law_1181 rfl ?_
      refine v_iload dL_law_1182 rfl ?_
      refine v_iconst dL_law_1184 ?_
      refine v_iadd dL_law_1185 ?_
      refine v_sldA (a := a3) dL_law_1186 e3 ?_
      refine v_if_eq 1194 dL_law_1187 (fun h9 => ?_) (fun h9 => ?_)
      · (exfalso; omega)
      refine v_iconst dL_law_1190 ?_
      refine v_goto 1195 dL_law_1191 ?_
      refine v_V3 (rm' := rX7_moment) (RX7, TX7, 18) dL_law_1195 km_L_143 kn_X7_moment kv_X7_moment kz_X7 mk_X7_moment rfl rfl (by exact n0) ⟨Nat.le_of_ble_eq_true rfl, Nat.le_of_ble_eq_true rfl⟩ ⟨by show kc + 2 + 0 ≤ 600128; omega, by show ks + 12 + 0 ≤ 7301098; omega⟩ (Nat.le_of_ble_eq_true rfl) ?_
      refine s_X7_moment (la := 1) (lo := (ed y m d * 86400 + gn a1.toNat / 1000000000)) hst n0 n1 n2 (hA_of hB 0 1 (by omega) (by omega) (by omega)) hgd hgn r1 r2 (by omega) (fun g => by rw [(hE1 g).2.1]; omega) (fun g => ⟨MZ_of nMA (hd.2.2 a2.toNat (by omega)).2, (hd.2.2 a2.toNat (by omega)).1⟩) ?_ ?_ ?_ ?_
      · intro v9 b1
        exfalso; first | omega | contradiction
      · intro v9 b1 b2
        exfalso; first | omega | contradiction
      · intro q1 q2 q3 b1 b2 b3
        refine v_lstore dL_law_1198 (by decide) ?_
        refine v_aload_n dL_law_1200 rfl ?_
        refine v_V0 (rm' := rX7_thrown) (RX7, TX7, 18) dL_law_1201 km_L_85 kn_X7_thrown kv_X7_thrown kz_X7 mk_X7_thrown rfl rfl (by exact aup_s) ⟨Nat.le_of_ble_eq_true rfl, Nat.le_of_ble_eq_true rfl⟩ ⟨by show kc + 2 + 0 + 0 ≤ 600128; omega, by show ks + 12 + 0 + 0 ≤ 7301098; omega⟩ (Nat.le_of_ble_eq_true rfl) ?_
        refine s_X7_thrown hst (aup_s) ?_
        refine v_iload dL_law_1204 rfl ?_
        refine v_icmp_eq 1211 dL_law_1206 (fun h9 => ?_) (fun h9 => ?_)
        rotate_left
        · (exfalso; omega)
        refine v_iload dL_law_1211 rfl ?_
        refine v_if_ne 1227 dL_law_1213 (fun h9 => ?_) (fun h9 => ?_)
        · (exfalso; omega)
        refine v_aload_n dL_law_1216 rfl ?_
        refine v_iconst dL_law_1217 ?_
        refine v_laldX dL_law_1218 (by exact (kp hB (by omega) 50 (by omega) (by omega)).trans aup_s) (show _ = mS (fz a2.toNat) (cz a2.toNat) (rz a2.toNat) (gm a2.toNat) (go a2.toNat) (ru a2.toNat) (ed y m d * 86400 + gn a1.toNat / 1000000000) 1 (1 + cz a2.toNat + rz a2.toNat).toNat from gup_s) ?_
        refine v_lload dL_law_1219 rfl ?_
        refine v_lsame 1227 dL_law_1221 dL_law_1222 ?_
        refine v_goto 1530 dL_law_1227 ?_
        exact v_wid (kc' := kc + 8) (ks' := ks + 48) (by show kc + 2 + 0 + 0 ≤ kc + 8; omega) (by show ks + 12 + 0 + 0 ≤ ks + 48; omega) (v_lof [(0, .ref G.scr.1), (1, .ref (B 0)), (2, .ref (B 39)), (3, .ref (B 50)), (4, .ref (B 51)), (5, .int (iI i))] (List.forall_mem_cons.mpr ⟨rfl, (List.forall_mem_cons.mpr ⟨rfl, (List.forall_mem_cons.mpr ⟨rfl, (List.forall_mem_cons.mpr ⟨rfl, (List.forall_mem_cons.mpr ⟨rfl, (List.forall_mem_cons.mpr ⟨rfl, (fun _ h => nomatch h)⟩)⟩)⟩)⟩)⟩)⟩) (K _ (SS.of ((hc.o hB ⟨by omega, by omega⟩).o hB ⟨by omega, by omega⟩) (m1.md hB) ((ho.l hB).c hB (by omega)) hd)))
      · intro q1 q2 q3 E8 b1 b2 b3 b4
        exfalso; first | omega | contradiction
    · intro y9 m9 d9 n9 g1 g2 g3 g4 g5 g6 x1 x2 E9 x3
      obtain ⟨rfl, rfl, rfl, rfl⟩ := pkE_eq g1 hE1 g2 g3 g4 g5 g6
      have m1 := (hm.c hB (k := 50) (e := alA G 1 (gup vo 0 ((ed y m d * 86400 + gn a1.toNat / 1000000000) - oA (fz a2.toNat) (cz a2.toNat) (rz a2.toNat) (gm a2.toNat) (go a2.toNat) (ru a2.toNat) (E9 - 1)))) ⟨by omega, by omega⟩)
      obtain ⟨yq, mq, dq, ap, wr, sz, gp, n0, n1, n2, nMA, n8, n9⟩ := id m1
      refine v_istore dL_law_1166 (by decide) ?_
      refine v_aload_n dL_law_1168 rfl ?_
      refine v_aload_n dL_law_1169 rfl ?_
      refine v_iload dL_law_1170 rfl ?_
      refine v_iconst dL_law_1172 ?_
      refine v_iadd dL_law_1173 ?_
      refine v_sldA (a := a1) dL_law_1174 e1 ?_
      refine v_aload_n dL_law_1175 rfl ?_
      refine v_iload dL_law_1176 rfl ?_
      refine v_iconst dL_law_1178 ?_
      refine v_iadd dL_law_1179 ?_
      refine v_sldA (a := a2) dL_law_1180 e2 ?_
      refine v_aload_n dL_law_1181 rfl ?_
      refine v_iload dL_law_1182 rfl ?_
      refine v_iconst dL_law_1184 ?_
      refine v_iadd dL_law_1185 ?_
      refine v_sldA (a := a3) dL_law_1186 e3 ?_
      refine v_if_eq 1194 dL_law_1187 (fun h9 => ?_) (fun h9 => ?_)
      · (exfalso; omega)
      refine v_iconst dL_law_1190 ?_
      refine v_goto 1195 dL_law_1191 ?_
      refine v_V3 (rm' := rX7_moment) (RX7, TX7, 18) dL_law_1195 km_L_143 kn_X7_moment kv_X7_moment kz_X7 mk_X7_moment rfl rfl (by exact n0) ⟨Nat.le_of_ble_eq_true rfl, Nat.le_of_ble_eq_true rfl⟩ ⟨by show kc + 2 + 0 ≤ 600128; omega, by show ks + 12 + 0 ≤ 7301098; omega⟩ (Nat.le_of_ble_eq_true rfl) ?_
      refine s_X7_moment (la := 1) (lo := (ed y m d * 86400 + gn a1.toNat / 1000000000)) hst n0 n1 n2 (hA_of hB 0 1 (by omega) (by omega) (by omega)) hgd hgn r1 r2 (by omega) (fun g => by rw [(hE1 g).2.1]; omega) (fun g => ⟨MZ_of nMA (hd.2.2 a2.toNat (by omega)).2, (hd.2.2 a2.toNat (by omega)).1⟩) ?_ ?_ ?_ ?_
      · intro v9 b1
        exfalso; first | omega | contradiction
      · intro v9 b1 b2
        exfalso; first | omega | contradiction
      · intro q1 q2 q3 b1 b2 b3
        exfalso; first | omega | contradiction
      · intro q1 q2 q3 E8 b1 b2 b3 b4
        have l9 : -377705116800 ≤ (ed y m d * 86400 + gn a1.toNat / 1000000000) ∧ (ed y m d * 86400 + gn a1.toNat / 1000000000) ≤ 253402300799 := by
          have e5 := ed_rng g3 g4 g5
          omega
        have e9 := gap_eq (hd.2.2 a2.toNat (by omega)).1 l9 (noneShows (hd.2.2 a2.toNat (by omega)).1 l9 x2) x3 b4
        subst e9
        refine v_lstore dL_law_1198 (by decide) ?_
        refine v_aload_n dL_law_1200 rfl ?_
        refine v_V0 (rm' := rX7_thrown) (RX7, TX7, 18) dL_law_1201 km_L_85 kn_X7_thrown kv_X7_thrown kz_X7 mk_X7_thrown rfl rfl (by exact aup_s) ⟨Nat.le_of_ble_eq_true rfl, Nat.le_of_ble_eq_true rfl⟩ ⟨by show kc + 2 + 0 + 0 ≤ 600128; omega, by show ks + 12 + 0 + 0 ≤ 7301098; omega⟩ (Nat.le_of_ble_eq_true rfl) ?_
        refine s_X7_thrown hst (aup_s) ?_
        refine v_iload dL_law_1204 rfl ?_
        refine v_icmp_eq 1211 dL_law_1206 (fun h9 => ?_) (fun h9 => ?_)
        rotate_left
        · (exfalso; omega)
        refine v_iload dL_law_1211 rfl ?_
        refine v_if_ne 1227 dL_law_1213 (fun h9 => ?_) (fun h9 => ?_)
        · (exfalso; omega)
        refine v_aload_n dL_law_1216 rfl ?_
        refine v_iconst dL_law_1217 ?_
        refine v_laldX dL_law_1218 (by exact (kp hB (by omega) 50 (by omega) (by omega)).trans aup_s) (show _ = (ed y m d * 86400 + gn a1.toNat / 1000000000) - oA (fz a2.toNat) (cz a2.toNat) (rz a2.toNat) (gm a2.toNat) (go a2.toNat) (ru a2.toNat) (E9 - 1) from gup_s) ?_
        refine v_lload dL_law_1219 rfl ?_
        refine v_lsame 1227 dL_law_1221 dL_law_1222 ?_
        refine v_goto 1530 dL_law_1227 ?_
        exact v_wid (kc' := kc + 8) (ks' := ks + 48) (by show kc + 2 + 0 + 0 ≤ kc + 8; omega) (by show ks + 12 + 0 + 0 ≤ ks + 48; omega) (v_lof [(0, .ref G.scr.1), (1, .ref (B 0)), (2, .ref (B 39)), (3, .ref (B 50)), (4, .ref (B 51)), (5, .int (iI i))] (List.forall_mem_cons.mpr ⟨rfl, (List.forall_mem_cons.mpr ⟨rfl, (List.forall_mem_cons.mpr ⟨rfl, (List.forall_mem_cons.mpr ⟨rfl, (List.forall_mem_cons.mpr ⟨rfl, (List.forall_mem_cons.mpr ⟨rfl, (fun _ h => nomatch h)⟩)⟩)⟩)⟩)⟩)⟩) (K _ (SS.of ((hc.o hB ⟨by omega, by omega⟩).o hB ⟨by omega, by omega⟩) (m1.md hB) ((ho.l hB).c hB (by omega)) hd)))
set_option maxRecDepth 100000 in
set_option maxHeartbeats 8000000 in
theorem lw_show {l : Launch} {G : GG} {Q : Option Value → AH → Prop} {X : String → AH → Prop} {B : Nat → Nat} {i : Int} {w : AH} {kc ks : Nat} (hst : l.stackTraces = false) (hB : iB B) (hi : 0 ≤ i ∧ i + 7 ≤ (G.scr.2.1 : Int)) (hL9 : G.scr.2.1 ≤ 448) (hk : kc ≤ 500000 ∧ ks ≤ 7000000) (h : SS G B w) (K : ∀ w' : AH, SS G B w' → V l G mL_law room_1 Q X 1530 (lof [(0, .ref G.scr.1), (1, .ref (B 0)), (2, .ref (B 39)), (3, .ref (B 50)), (4, .ref (B 51)), (5, .int (iI i))]) [] w' (kc + 8) (ks + 48)) : V l G mL_law room_1 Q X 1230 (lof [(0, .ref G.scr.1), (1, .ref (B 0)), (2, .ref (B 39)), (3, .ref (B 50)), (4, .ref (B 51)), (5, .int (iI i))]) [] w kc ks := by
  obtain ⟨th, gd, gn, L, gl, fz, cz, rz, gm, go, ru, vF, vC, vM, vO, vK, vR, hc, hm, ho, hd⟩ := h
  have hgd := hc.gdr
  have hgn := hc.gnr
  obtain ⟨a1, e1⟩ : ∃ a : Int, scI G (i + 1).toNat = a := ⟨_, rfl⟩
  have r1 : -2147483648 ≤ a1 ∧ a1 ≤ 2147483647 := e1 ▸ scI_r G _
  obtain ⟨a2, e2⟩ : ∃ a : Int, scI G (i + 2).toNat = a := ⟨_, rfl⟩
  have r2 : -2147483648 ≤ a2 ∧ a2 ≤ 2147483647 := e2 ▸ scI_r G _
  obtain ⟨a3, e3⟩ : ∃ a : Int, scI G (i + 3).toNat = a := ⟨_, rfl⟩
  have r3 : -2147483648 ≤ a3 ∧ a3 ≤ 2147483647 := e3 ▸ scI_r G _
  obtain ⟨a4, e4⟩ : ∃ a : Int, scI G (i + 4).toNat = a := ⟨_, rfl⟩
  have r4 : -2147483648 ≤ a4 ∧ a4 ≤ 2147483647 := e4 ▸ scI_r G _
  obtain ⟨t, et⟩ : ∃ t : Int, mLg a3 a4 = t := ⟨_, rfl⟩
  have rt : -9223372036854775808 ≤ t ∧ t ≤ 9223372036854775807 := et ▸ mLg_r _ _
  obtain ⟨y, m, d, hE1⟩ := hc.pick a1
  refine v_aload_n dL_law_1230 rfl ?_
  refine v_aload_n dL_law_1231 rfl ?_
  refine v_iload dL_law_1232 rfl ?_
  refine v_iconst dL_law_1234 ?_
  refine v_iadd dL_law_1235 ?_
  refine v_sldA (a := a1) dL_law_1236 e1 ?_
  refine v_aload_n dL_law_1237 rfl ?_
  refine v_iload dL_law_1238 rfl ?_
  refine v_iconst dL_law_1240 ?_
  refine v_iadd dL_law_1241 ?_
  refine v_sldA (a := a2) dL_law_1242 e2 ?_
  refine v_aload_n dL_law_1243 rfl ?_
  refine v_iload dL_law_1244 rfl ?_
  refine v_iconst dL_law_1246 ?_
  refine v_iadd dL_law_1247 ?_
  refine v_sldA (a := a3) dL_law_1248 e3 ?_
  refine v_i2l dL_law_1249 ?_
  refine v_bipush dL_law_1250 ?_
  refine v_lshl dL_law_1252 ?_
  refine v_aload_n dL_law_1253 rfl ?_
  refine v_iload dL_law_1254 rfl ?_
  refine v_iconst dL_law_1256 ?_
  refine v_iadd dL_law_1257 ?_
  refine v_sldA (a := a4) dL_law_1258 e4 ?_
  refine v_i2l dL_law_1259 ?_
  refine v_ldc2 4294967295 dL_law_1260 kl_L_97 ?_
  refine v_land dL_law_1263 ?_
  refine v_lorL (t := t) dL_law_1264 et ?_
  refine v_SW4 (rm' := rL_show) dL_law_1265 km_L_144 ks_L_show kz_L mk_L_show rfl ⟨Nat.le_of_ble_eq_true rfl, Nat.le_of_ble_eq_true rfl⟩ ⟨by show kc + 4 ≤ 600128; omega, by show ks + 24 ≤ 7301098; omega⟩ (Nat.le_of_ble_eq_true rfl) ?_
  refine s_L_show (sa := fun k => B (2 + k)) (za := fun k => B (11 + 6 * k)) (ra := fun q => B (15 + 6 * a2.toNat + q)) hst hc.1.1 hc.1.2.1 hc.sv r1 ?_ hc.1.2.2 r2 (fun g => ⟨(hc.2.2.2.2 a2.toNat (by omega)).1, (hc.2.2.2.2 a2.toNat (by omega)).2.1, (hc.2.2.2.2 a2.toNat (by omega)).2.2.1, (hc.2.2.2.2 a2.toNat (by omega)).2.2.2.1, (hc.2.2.2.2 a2.toNat (by omega)).2.2.2.2, (hd.2.2 a2.toNat (by omega)).1⟩) rt ?_ ?_ ?_ ?_
  · intro g1
    have m1 := hm
    obtain ⟨yq, mq, dq, ap, wr, sz, gp, n0, n1, n2, nMA, n8, n9⟩ := id m1
    refine v_istore dL_law_1268 (by decide) ?_
    refine v_aload_n dL_law_1270 rfl ?_
    refine v_aload_n dL_law_1271 rfl ?_
    refine v_iload dL_law_1272 rfl ?_
    refine v_iconst dL_law_1274 ?_
    refine v_iadd dL_law_1275 ?_
    refine v_sldA (a := a1) dL_law_1276 e1 ?_
    refine v_aload_n dL_law_1277 rfl ?_
    refine v_iload dL_law_1278 rfl ?_
    refine v_iconst dL_law_1280 ?_
    refine v_iadd dL_law_1281 ?_
    refine v_sldA (a := a2) dL_law_1282 e2 ?_
    refine v_aload_n dL_law_1283 rfl ?_
    refine v_iload dL_law_1284 rfl ?_
    refine v_iconst dL_law_1286 ?_
    refine v_iadd dL_law_1287 ?_
    refine v_sldA (a := a3) dL_law_1288 e3 ?_
    refine v_i2l dL_law_1289 ?_
    refine v_bipush dL_law_1290 ?_
    refine v_lshl dL_law_1292 ?_
    refine v_aload_n dL_law_1293 rfl ?_
    refine v_iload dL_law_1294 rfl ?_
    refine v_iconst dL_law_1296 ?_
    refine v_iadd dL_law_1297 ?_
    refine v_sldA (a := a4) dL_law_1298 e4 ?_
    refine v_i2l dL_law_1299 ?_
    refine v_ldc2 4294967295 dL_law_1300 kl_L_97 ?_
    refine v_land dL_law_1303 ?_
    refine v_lorL (t := t) dL_law_1304 et ?_
    refine v_V3 (rm' := rX7_show) (RX7, TX7, 18) dL_law_1305 km_L_146 kn_X7_show kv_X7_show kz_X7 mk_X7_show rfl rfl (by exact n0) ⟨Nat.le_of_ble_eq_true rfl, Nat.le_of_ble_eq_true rfl⟩ ⟨by show kc + 4 + 0 ≤ 600128; omega, by show ks + 24 + 0 ≤ 7301098; omega⟩ (Nat.le_of_ble_eq_true rfl) ?_
    refine s_X7_show hst n0 n1 n2 (hA_of hB 0 1 (by omega) (by omega) (by omega)) hgd hgn r1 r2 rt (fun g => ⟨MZ_of nMA (hd.2.2 a2.toNat (by omega)).2, (hd.2.2 a2.toNat (by omega)).1⟩) ?_ ?_ ?_ ?_ ?_
    · intro b1
      refine v_aload_n dL_law_1308 rfl ?_
      refine v_V0 (rm' := rX7_thrown) (RX7, TX7, 18) dL_law_1309 km_L_85 kn_X7_thrown kv_X7_thrown kz_X7 mk_X7_thrown rfl rfl (by exact aup_s) ⟨Nat.le_of_ble_eq_true rfl, Nat.le_of_ble_eq_true rfl⟩ ⟨by show kc + 4 + 0 + 0 ≤ 600128; omega, by show ks + 24 + 0 + 0 ≤ 7301098; omega⟩ (Nat.le_of_ble_eq_true rfl) ?_
      refine s_X7_thrown hst (aup_s) ?_
      refine v_iload dL_law_1312 rfl ?_
      refine v_icmp_eq 1319 dL_law_1314 (fun h9 => ?_) (fun h9 => ?_)
      rotate_left
      · (exfalso; omega)
      refine v_goto 1530 dL_law_1319 ?_
      exact v_wid (kc' := kc + 8) (ks' := ks + 48) (by show kc + 4 + 0 + 0 ≤ kc + 8; omega) (by show ks + 24 + 0 + 0 ≤ ks + 48; omega) (v_lof [(0, .ref G.scr.1), (1, .ref (B 0)), (2, .ref (B 39)), (3, .ref (B 50)), (4, .ref (B 51)), (5, .int (iI i))] (List.forall_mem_cons.mpr ⟨rfl, (List.forall_mem_cons.mpr ⟨rfl, (List.forall_mem_cons.mpr ⟨rfl, (List.forall_mem_cons.mpr ⟨rfl, (List.forall_mem_cons.mpr ⟨rfl, (List.forall_mem_cons.mpr ⟨rfl, (fun _ h => nomatch h)⟩)⟩)⟩)⟩)⟩)⟩) (K _ (SS.of (hc.o hB ⟨by omega, by omega⟩) (m1.md hB) (ho.c hB (by omega)) hd)))
    · intro b1 b2
      exfalso; first | omega | contradiction
    · intro b1 b2 b3
      exfalso; first | omega | contradiction
    · intro q1 q2 q3 b1 b2 b3 b4
      exfalso; first | omega | contradiction
    · intro q1 q2 q3 b1 b2 b3 b4
      exfalso; first | omega | contradiction
  · intro g1 x1
    have m1 := hm
    obtain ⟨yq, mq, dq, ap, wr, sz, gp, n0, n1, n2, nMA, n8, n9⟩ := id m1
    refine v_istore dL_law_1268 (by decide) ?_
    refine v_aload_n dL_law_1270 rfl ?_
    refine v_aload_n dL_law_1271 rfl ?_
    refine v_iload dL_law_1272 rfl ?_
    refine v_iconst dL_law_1274 ?_
    refine v_iadd dL_law_1275 ?_
    refine v_sldA (a := a1) dL_law_1276 e1 ?_
    refine v_aload_n dL_law_1277 rfl ?_
    refine v_iload dL_law_1278 rfl ?_
    refine v_iconst dL_law_1280 ?_
    refine v_iadd dL_law_1281 ?_
    refine v_sldA (a := a2) dL_law_1282 e2 ?_
    refine v_aload_n dL_law_1283 rfl ?_
    refine v_iload dL_law_1284 rfl ?_
    refine v_iconst dL_law_1286 ?_
    refine v_iadd dL_law_1287 ?_
    refine v_sldA (a := a3) dL_law_1288 e3 ?_
    refine v_i2l dL_law_1289 ?_
    refine v_bipush dL_law_1290 ?_
    refine v_lshl dL_law_1292 ?_
    refine v_aload_n dL_law_1293 rfl ?_
    refine v_iload dL_law_1294 rfl ?_
    refine v_iconst dL_law_1296 ?_
    refine v_iadd dL_law_1297 ?_
    refine v_sldA (a := a4) dL_law_1298 e4 ?_
    refine v_i2l dL_law_1299 ?_
    refine v_ldc2 4294967295 dL_law_1300 kl_L_97 ?_
    refine v_land dL_law_1303 ?_
    refine v_lorL (t := t) dL_law_1304 et ?_
    refine v_V3 (rm' := rX7_show) (RX7, TX7, 18) dL_law_1305 km_L_146 kn_X7_show kv_X7_show kz_X7 mk_X7_show rfl rfl (by exact n0) ⟨Nat.le_of_ble_eq_true rfl, Nat.le_of_ble_eq_true rfl⟩ ⟨by show kc + 4 + 0 ≤ 600128; omega, by show ks + 24 + 0 ≤ 7301098; omega⟩ (Nat.le_of_ble_eq_true rfl) ?_
    refine s_X7_show hst n0 n1 n2 (hA_of hB 0 1 (by omega) (by omega) (by omega)) hgd hgn r1 r2 rt (fun g => ⟨MZ_of nMA (hd.2.2 a2.toNat (by omega)).2, (hd.2.2 a2.toNat (by omega)).1⟩) ?_ ?_ ?_ ?_ ?_
    · intro b1
      exfalso; first | omega | contradiction
    · intro b1 b2
      refine v_aload_n dL_law_1308 rfl ?_
      refine v_V0 (rm' := rX7_thrown) (RX7, TX7, 18) dL_law_1309 km_L_85 kn_X7_thrown kv_X7_thrown kz_X7 mk_X7_thrown rfl rfl (by exact aup_s) ⟨Nat.le_of_ble_eq_true rfl, Nat.le_of_ble_eq_true rfl⟩ ⟨by show kc + 4 + 0 + 0 ≤ 600128; omega, by show ks + 24 + 0 + 0 ≤ 7301098; omega⟩ (Nat.le_of_ble_eq_true rfl) ?_
      refine s_X7_thrown hst (aup_s) ?_
      refine v_iload dL_law_1312 rfl ?_
      refine v_icmp_eq 1319 dL_law_1314 (fun h9 => ?_) (fun h9 => ?_)
      rotate_left
      · (exfalso; omega)
      refine v_goto 1530 dL_law_1319 ?_
      exact v_wid (kc' := kc + 8) (ks' := ks + 48) (by show kc + 4 + 0 + 0 ≤ kc + 8; omega) (by show ks + 24 + 0 + 0 ≤ ks + 48; omega) (v_lof [(0, .ref G.scr.1), (1, .ref (B 0)), (2, .ref (B 39)), (3, .ref (B 50)), (4, .ref (B 51)), (5, .int (iI i))] (List.forall_mem_cons.mpr ⟨rfl, (List.forall_mem_cons.mpr ⟨rfl, (List.forall_mem_cons.mpr ⟨rfl, (List.forall_mem_cons.mpr ⟨rfl, (List.forall_mem_cons.mpr ⟨rfl, (List.forall_mem_cons.mpr ⟨rfl, (fun _ h => nomatch h)⟩)⟩)⟩)⟩)⟩)⟩) (K _ (SS.of (hc.o hB ⟨by omega, by omega⟩) (m1.md hB) (ho.c hB (by omega)) hd)))
    · intro b1 b2 b3
      exfalso; first | omega | contradiction
    · intro q1 q2 q3 b1 b2 b3 b4
      exfalso; first | omega | contradiction
    · intro q1 q2 q3 b1 b2 b3 b4
      exfalso; first | omega | contradiction
  · intro g1 x1 x2
    have m1 := hm
    obtain ⟨yq, mq, dq, ap, wr, sz, gp, n0, n1, n2, nMA, n8, n9⟩ := id m1
    refine v_istore dL_law_1268 (by decide) ?_
    refine v_aload_n dL_law_1270 rfl ?_
    refine v_aload_n dL_law_1271 rfl ?_
    refine v_iload dL_law_1272 rfl ?_
    refine v_iconst dL_law_1274 ?_
    refine v_iadd dL_law_1275 ?_
    refine v_sldA (a := a1) dL_law_1276 e1 ?_
    refine v_aload_n dL_law_1277 rfl ?_
    refine v_iload dL_law_1278 rfl ?_
    refine v_iconst dL_law_1280 ?_
    refine v_iadd dL_law_1281 ?_
    refine v_sldA (a := a2) dL_law_1282 e2 ?_
    refine v_aload_n dL_law_1283 rfl ?_
    refine v_iload dL_law_1284 rfl ?_
    refine v_iconst dL_law_1286 ?_
    refine v_iadd dL_law_1287 ?_
    refine v_sldA (a := a3) dL_law_1288 e3 ?_
    refine v_i2l dL_law_1289 ?_
    refine v_bipush dL_law_1290 ?_
    refine v_lshl dL_law_1292 ?_
    refine v_aload_n dL_law_1293 rfl ?_
    refine v_iload dL_law_1294 rfl ?_
    refine v_iconst dL_law_1296 ?_
    refine v_iadd dL_law_1297 ?_
    refine v_sldA (a := a4) dL_law_1298 e4 ?_
    refine v_i2l dL_law_1299 ?_
    refine v_ldc2 4294967295 dL_law_1300 kl_L_97 ?_
    refine v_land dL_law_1303 ?_
    refine v_lorL (t := t) dL_law_1304 et ?_
    refine v_V3 (rm' := rX7_show) (RX7, TX7, 18) dL_law_1305 km_L_146 kn_X7_show kv_X7_show kz_X7 mk_X7_show rfl rfl (by exact n0) ⟨Nat.le_of_ble_eq_true rfl, Nat.le_of_ble_eq_true rfl⟩ ⟨by show kc + 4 + 0 ≤ 600128; omega, by show ks + 24 + 0 ≤ 7301098; omega⟩ (Nat.le_of_ble_eq_true rfl) ?_
    refine s_X7_show hst n0 n1 n2 (hA_of hB 0 1 (by omega) (by omega) (by omega)) hgd hgn r1 r2 rt (fun g => ⟨MZ_of nMA (hd.2.2 a2.toNat (by omega)).2, (hd.2.2 a2.toNat (by omega)).1⟩) ?_ ?_ ?_ ?_ ?_
    · intro b1
      exfalso; first | omega | contradiction
    · intro b1 b2
      exfalso; first | omega | contradiction
    · intro b1 b2 b3
      refine v_aload_n dL_law_1308 rfl ?_
      refine v_V0 (rm' := rX7_thrown) (RX7, TX7, 18) dL_law_1309 km_L_85 kn_X7_thrown kv_X7_thrown kz_X7 mk_X7_thrown rfl rfl (by exact aup_s) ⟨Nat.le_of_ble_eq_true rfl, Nat.le_of_ble_eq_true rfl⟩ ⟨by show kc + 4 + 0 + 0 ≤ 600128; omega, by show ks + 24 + 0 + 0 ≤ 7301098; omega⟩ (Nat.le_of_ble_eq_true rfl) ?_
      refine s_X7_thrown hst (aup_s) ?_
      refine v_iload dL_law_1312 rfl ?_
      refine v_icmp_eq 1319 dL_law_1314 (fun h9 => ?_) (fun h9 => ?_)
      rotate_left
      · (exfalso; omega)
      refine v_goto 1530 dL_law_1319 ?_
      exact v_wid (kc' := kc + 8) (ks' := ks + 48) (by show kc + 4 + 0 + 0 ≤ kc + 8; omega) (by show ks + 24 + 0 + 0 ≤ ks + 48; omega) (v_lof [(0, .ref G.scr.1), (1, .ref (B 0)), (2, .ref (B 39)), (3, .ref (B 50)), (4, .ref (B 51)), (5, .int (iI i))] (List.forall_mem_cons.mpr ⟨rfl, (List.forall_mem_cons.mpr ⟨rfl, (List.forall_mem_cons.mpr ⟨rfl, (List.forall_mem_cons.mpr ⟨rfl, (List.forall_mem_cons.mpr ⟨rfl, (List.forall_mem_cons.mpr ⟨rfl, (fun _ h => nomatch h)⟩)⟩)⟩)⟩)⟩)⟩) (K _ (SS.of (hc.o hB ⟨by omega, by omega⟩) (m1.md hB) (ho.c hB (by omega)) hd)))
    · intro q1 q2 q3 b1 b2 b3 b4
      exfalso; first | omega | contradiction
    · intro q1 q2 q3 b1 b2 b3 b4
      exfalso; first | omega | contradiction
  · intro g1 x1 x2 x3
    have m1 := hm
    obtain ⟨yq, mq, dq, ap, wr, sz, gp, n0, n1, n2, nMA, n8, n9⟩ := id m1
    refine v_istore dL_law_1268 (by decide) ?_
    refine v_aload_n dL_law_1270 rfl ?_
    refine v_aload_n dL_law_1271 rfl ?_
    refine v_iload dL_law_1272 rfl ?_
    refine v_iconst dL_law_1274 ?_
    refine v_iadd dL_law_1275 ?_
    refine v_sldA (a := a1) dL_law_1276 e1 ?_
    refine v_aload_n dL_law_1277 rfl ?_
    refine v_iload dL_law_1278 rfl ?_
    refine v_iconst dL_law_1280 ?_
    refine v_iadd dL_law_1281 ?_
    refine v_sldA (a := a2) dL_law_1282 e2 ?_
    refine v_aload_n dL_law_1283 rfl ?_
    refine v_iload dL_law_1284 rfl ?_
    refine v_iconst dL_law_1286 ?_
    refine v_iadd dL_law_1287 ?_
    refine v_sldA (a := a3) dL_law_1288 e3 ?_
    refine v_i2l dL_law_1289 ?_
    refine v_bipush dL_law_1290 ?_
    refine v_lshl dL_law_1292 ?_
    refine v_aload_n dL_law_1293 rfl ?_
    refine v_iload dL_law_1294 rfl ?_
    refine v_iconst dL_law_1296 ?_
    refine v_iadd dL_law_1297 ?_
    refine v_sldA (a := a4) dL_law_1298 e4 ?_
    refine v_i2l dL_law_1299 ?_
    refine v_ldc2 4294967295 dL_law_1300 kl_L_97 ?_
    refine v_land dL_law_1303 ?_
    refine v_lorL (t := t) dL_law_1304 et ?_
    refine v_V3 (rm' := rX7_show) (RX7, TX7, 18) dL_law_1305 km_L_146 kn_X7_show kv_X7_show kz_X7 mk_X7_show rfl rfl (by exact n0) ⟨Nat.le_of_ble_eq_true rfl, Nat.le_of_ble_eq_true rfl⟩ ⟨by show kc + 4 + 0 ≤ 600128; omega, by show ks + 24 + 0 ≤ 7301098; omega⟩ (Nat.le_of_ble_eq_true rfl) ?_
    refine s_X7_show hst n0 n1 n2 (hA_of hB 0 1 (by omega) (by omega) (by omega)) hgd hgn r1 r2 rt (fun g => ⟨MZ_of nMA (hd.2.2 a2.toNat (by omega)).2, (hd.2.2 a2.toNat (by omega)).1⟩) ?_ ?_ ?_ ?_ ?_
    · intro b1
      exfalso; first | omega | contradiction
    · intro b1 b2
      exfalso; first | omega | contradiction
    · intro b1 b2 b3
      exfalso; first | omega | contradiction
    · intro q1 q2 q3 b1 b2 b3 b4
      refine v_aload_n dL_law_1308 rfl ?_
      refine v_V0 (rm' := rX7_thrown) (RX7, TX7, 18) dL_law_1309 km_L_85 kn_X7_thrown kv_X7_thrown kz_X7 mk_X7_thrown rfl rfl (by exact aup_s) ⟨Nat.le_of_ble_eq_true rfl, Nat.le_of_ble_eq_true rfl⟩ ⟨by show kc + 4 + 0 + 0 ≤ 600128; omega, by show ks + 24 + 0 + 0 ≤ 7301098; omega⟩ (Nat.le_of_ble_eq_true rfl) ?_
      refine s_X7_thrown hst (aup_s) ?_
      refine v_iload dL_law_1312 rfl ?_
      refine v_icmp_eq 1319 dL_law_1314 (fun h9 => ?_) (fun h9 => ?_)
      rotate_left
      · (exfalso; omega)
      refine v_goto 1530 dL_law_1319 ?_
      exact v_wid (kc' := kc + 8) (ks' := ks + 48) (by show kc + 4 + 0 + 0 ≤ kc + 8; omega) (by show ks + 24 + 0 + 0 ≤ ks + 48; omega) (v_lof [(0, .ref G.scr.1), (1, .ref (B 0)), (2, .ref (B 39)), (3, .ref (B 50)), (4, .ref (B 51)), (5, .int (iI i))] (List.forall_mem_cons.mpr ⟨rfl, (List.forall_mem_cons.mpr ⟨rfl, (List.forall_mem_cons.mpr ⟨rfl, (List.forall_mem_cons.mpr ⟨rfl, (List.forall_mem_cons.mpr ⟨rfl, (List.forall_mem_cons.mpr ⟨rfl, (fun _ h => nomatch h)⟩)⟩)⟩)⟩)⟩)⟩) (K _ (SS.of (hc.o hB ⟨by omega, by omega⟩) (m1.md hB) (ho.c hB (by omega)) hd)))
    · intro q1 q2 q3 b1 b2 b3 b4
      exfalso; first | omega | contradiction
  · intro y9 m9 d9 n9 g1 g2 g3 g4 g5 g6 x1 x2 y7 m7 d7 v1 v2 v3 x3
    obtain ⟨rfl, rfl, rfl, rfl⟩ := pkE_eq g1 hE1 g2 g3 g4 g5 g6
    have m1 := (hm.c hB (k := (2 + a1.toNat)) (e := stC y7 m7 d7 ((t + oA (fz a2.toNat) (cz a2.toNat) (rz a2.toNat) (gm a2.toNat) (go a2.toNat) (ru a2.toNat) t) % 86400 * 1000000000)) ⟨by omega, by omega⟩)
    obtain ⟨yq, mq, dq, ap, wr, sz, gp, n0, n1, n2, nMA, n8, n9⟩ := id m1
    refine v_istore dL_law_1268 (by decide) ?_
    refine v_aload_n dL_law_1270 rfl ?_
    refine v_aload_n dL_law_1271 rfl ?_
    refine v_iload dL_law_1272 rfl ?_
    refine v_iconst dL_law_1274 ?_
    refine v_iadd dL_law_1275 ?_
    refine v_sldA (a := a1) dL_law_1276 e1 ?_
    refine v_aload_n dL_law_1277 rfl ?_
    refine v_iload dL_law_1278 rfl ?_
    refine v_iconst dL_law_1280 ?_
    refine v_iadd dL_law_1281 ?_
    refine v_sldA (a := a2) dL_law_1282 e2 ?_
    refine v_aload_n dL_law_1283 rfl ?_
    refine v_iload dL_law_1284 rfl ?_
    refine v_iconst dL_law_1286 ?_
    refine v_iadd dL_law_1287 ?_
    refine v_sldA (a := a3) dL_law_1288 e3 ?_
    refine v_i2l dL_law_1289 ?_
    refine v_bipush dL_law_1290 ?_
    refine v_lshl dL_law_1292 ?_
    refine v_aload_n dL_law_1293 rfl ?_
    refine v_iload dL_law_1294 rfl ?_
    refine v_iconst dL_law_1296 ?_
    refine v_iadd dL_law_1297 ?_
    refine v_sldA (a := a4) dL_law_1298 e4 ?_
    refine v_i2l dL_law_1299 ?_
    refine v_ldc2 4294967295 dL_law_1300 kl_L_97 ?_
    refine v_land dL_law_1303 ?_
    refine v_lorL (t := t) dL_law_1304 et ?_
    refine v_V3 (rm' := rX7_show) (RX7, TX7, 18) dL_law_1305 km_L_146 kn_X7_show kv_X7_show kz_X7 mk_X7_show rfl rfl (by exact n0) ⟨Nat.le_of_ble_eq_true rfl, Nat.le_of_ble_eq_true rfl⟩ ⟨by show kc + 4 + 0 ≤ 600128; omega, by show ks + 24 + 0 ≤ 7301098; omega⟩ (Nat.le_of_ble_eq_true rfl) ?_
    refine s_X7_show hst n0 n1 n2 (hA_of hB 0 1 (by omega) (by omega) (by omega)) hgd hgn r1 r2 rt (fun g => ⟨MZ_of nMA (hd.2.2 a2.toNat (by omega)).2, (hd.2.2 a2.toNat (by omega)).1⟩) ?_ ?_ ?_ ?_ ?_
    · intro b1
      exfalso; first | omega | contradiction
    · intro b1 b2
      exfalso; first | omega | contradiction
    · intro b1 b2 b3
      exfalso; first | omega | contradiction
    · intro q1 q2 q3 b1 b2 b3 b4
      exfalso
      have e8 := ed_rng v1 v2 v3
      omega
    · intro q1 q2 q3 b1 b2 b3 b4
      refine v_aload_n dL_law_1308 rfl ?_
      refine v_V0 (rm' := rX7_thrown) (RX7, TX7, 18) dL_law_1309 km_L_85 kn_X7_thrown kv_X7_thrown kz_X7 mk_X7_thrown rfl rfl (by exact (kp hB (by omega) 39 (by omega) (by omega)).trans ((kp hB (by omega) 39 (by omega) (by omega)).trans aup_s)) ⟨Nat.le_of_ble_eq_true rfl, Nat.le_of_ble_eq_true rfl⟩ ⟨by show kc + 4 + 0 + 0 ≤ 600128; omega, by show ks + 24 + 0 + 0 ≤ 7301098; omega⟩ (Nat.le_of_ble_eq_true rfl) ?_
      refine s_X7_thrown hst ((kp hB (by omega) 39 (by omega) (by omega)).trans ((kp hB (by omega) 39 (by omega) (by omega)).trans aup_s)) ?_
      refine v_iload dL_law_1312 rfl ?_
      refine v_icmp_eq 1319 dL_law_1314 (fun h9 => ?_) (fun h9 => ?_)
      rotate_left
      · (exfalso; omega)
      refine v_goto 1530 dL_law_1319 ?_
      exact v_wid (kc' := kc + 8) (ks' := ks + 48) (by show kc + 4 + 0 + 0 ≤ kc + 8; omega) (by show ks + 24 + 0 + 0 ≤ ks + 48; omega) (v_lof [(0, .ref G.scr.1), (1, .ref (B 0)), (2, .ref (B 39)), (3, .ref (B 50)), (4, .ref (B 51)), (5, .int (iI i))] (List.forall_mem_cons.mpr ⟨rfl, (List.forall_mem_cons.mpr ⟨rfl, (List.forall_mem_cons.mpr ⟨rfl, (List.forall_mem_cons.mpr ⟨rfl, (List.forall_mem_cons.mpr ⟨rfl, (List.forall_mem_cons.mpr ⟨rfl, (fun _ h => nomatch h)⟩)⟩)⟩)⟩)⟩)⟩) (K _ (SS.of ((((hc.sb hB (k := a1.toNat) (by omega) ⟨v1, v2, v3⟩ (by omega) x3 (by omega)).o hB ⟨by omega, by omega⟩).o hB ⟨by omega, by omega⟩).o hB ⟨by omega, by omega⟩) (((m1.md hB).d hB).n hB) ((((ho.c hB (by omega)).c hB (by omega)).c hB (by omega)).c hB (by omega)) hd)))
