set_option maxRecDepth 100000 in
set_option maxHeartbeats 8000000 in
theorem lw_date {l : Launch} {G : GG} {Q : Option Value → AH → Prop} {X : String → AH → Prop} {B : Nat → Nat} {i : Int} {w : AH} {kc ks : Nat} (hst : l.stackTraces = false) (hB : iB B) (hi : 0 ≤ i ∧ i + 7 ≤ (G.scr.2.1 : Int)) (hL9 : G.scr.2.1 ≤ 448) (hk : kc ≤ 500000 ∧ ks ≤ 7000000) (h : SS G B w) (K : ∀ w' : AH, SS G B w' → V l G mL_law room_1 Q X 1530 (lof [(0, .ref G.scr.1), (1, .ref (B 0)), (2, .ref (B 39)), (3, .ref (B 50)), (4, .ref (B 51)), (5, .int (iI i))]) [] w' (kc + 8) (ks + 48)) : V l G mL_law room_1 Q X 136 (lof [(0, .ref G.scr.1), (1, .ref (B 0)), (2, .ref (B 39)), (3, .ref (B 50)), (4, .ref (B 51)), (5, .int (iI i))]) [] w kc ks := by
  obtain ⟨th, gd, gn, L, gl, fz, cz, rz, gm, go, ru, vF, vC, vM, vO, vK, vR, hc, hm, ho, hd⟩ := h
  have hgd := hc.gdr
  have hgn := hc.gnr
  obtain ⟨a1, e1⟩ : ∃ a : Int, scI G (i + 1).toNat = a := ⟨_, rfl⟩
  have r1 : -2147483648 ≤ a1 ∧ a1 ≤ 2147483647 := e1 ▸ scI_r G _
  obtain ⟨a2, e2⟩ : ∃ a : Int, scI G (i + 2).toNat = a := ⟨_, rfl⟩
  have r2 : -2147483648 ≤ a2 ∧ a2 ≤ 2147483647 := e2 ▸ scI_r G _
  obtain ⟨a3, e3⟩ : ∃ a : Int, scI G (i + 3).toNat = a := ⟨_, rfl⟩
  have r3 : -2147483648 ≤ a3 ∧ a3 ≤ 2147483647 := e3 ▸ scI_r G _
  obtain ⟨a4, e4⟩ : ∃ a : Int, scI G (i + 4).toNat = a := ⟨_, rfl⟩
  have r4 : -2147483648 ≤ a4 ∧ a4 ≤ 2147483647 := e4 ▸ scI_r G _
  obtain ⟨y, m, d, hE1⟩ := hc.pick a1
  refine v_aload_n dL_law_136 rfl ?_
  refine v_aload_n dL_law_137 rfl ?_
  refine v_iload dL_law_138 rfl ?_
  refine v_iconst dL_law_140 ?_
  refine v_iadd dL_law_141 ?_
  refine v_sldA (a := a1) dL_law_142 e1 ?_
  refine v_aload_n dL_law_143 rfl ?_
  refine v_iload dL_law_144 rfl ?_
  refine v_iconst dL_law_146 ?_
  refine v_iadd dL_law_147 ?_
  refine v_sldA (a := a2) dL_law_148 e2 ?_
  refine v_aload_n dL_law_149 rfl ?_
  refine v_iload dL_law_150 rfl ?_
  refine v_iconst dL_law_152 ?_
  refine v_iadd dL_law_153 ?_
  refine v_sldA (a := a3) dL_law_154 e3 ?_
  refine v_aload_n dL_law_155 rfl ?_
  refine v_iload dL_law_156 rfl ?_
  refine v_iconst dL_law_158 ?_
  refine v_iadd dL_law_159 ?_
  refine v_sldA (a := a4) dL_law_160 e4 ?_
  refine v_SW5 (rm' := rL_date) dL_law_161 km_L_79 ks_L_date kz_L mk_L_date rfl ⟨Nat.le_of_ble_eq_true rfl, Nat.le_of_ble_eq_true rfl⟩ ⟨by show kc + 2 ≤ 600128; omega, by show ks + 12 ≤ 7301098; omega⟩ (Nat.le_of_ble_eq_true rfl) ?_
  refine s_L_date (sa := fun k => B (2 + k)) hst hc.1.1 hc.1.2.1 hc.sv r1 ?_ r2 r3 r4 ?_ ?_
  · intro g1
    have m1 := hm
    obtain ⟨yq, mq, dq, ap, wr, sz, gp, n0, n1, n2, nMA, n8, n9⟩ := id m1
    refine v_istore dL_law_164 (by decide) ?_
    refine v_aload_n dL_law_166 rfl ?_
    refine v_aload_n dL_law_167 rfl ?_
    refine v_iload dL_law_168 rfl ?_
    refine v_iconst dL_law_170 ?_
    refine v_iadd dL_law_171 ?_
    refine v_sldA (a := a1) dL_law_172 e1 ?_
    refine v_aload_n dL_law_173 rfl ?_
    refine v_iload dL_law_174 rfl ?_
    refine v_iconst dL_law_176 ?_
    refine v_iadd dL_law_177 ?_
    refine v_sldA (a := a2) dL_law_178 e2 ?_
    refine v_aload_n dL_law_179 rfl ?_
    refine v_iload dL_law_180 rfl ?_
    refine v_iconst dL_law_182 ?_
    refine v_iadd dL_law_183 ?_
    refine v_sldA (a := a3) dL_law_184 e3 ?_
    refine v_aload_n dL_law_185 rfl ?_
    refine v_iload dL_law_186 rfl ?_
    refine v_iconst dL_law_188 ?_
    refine v_iadd dL_law_189 ?_
    refine v_sldA (a := a4) dL_law_190 e4 ?_
    refine v_V4 (rm' := rX7_date) (RX7, TX7, 18) dL_law_191 km_L_84 kn_X7_date kv_X7_date kz_X7 mk_X7_date rfl rfl (by exact n0) ⟨Nat.le_of_ble_eq_true rfl, Nat.le_of_ble_eq_true rfl⟩ ⟨by show kc + 2 + 0 ≤ 600128; omega, by show ks + 12 + 0 ≤ 7301098; omega⟩ (Nat.le_of_ble_eq_true rfl) ?_
    refine s_X7_date hst n0 n1 n2 (hA_of hB 0 1 (by omega) (by omega) (by omega)) r1 ?_ r2 r3 r4 ?_ ?_
    · intro b1
      refine v_aload_n dL_law_194 rfl ?_
      refine v_V0 (rm' := rX7_thrown) (RX7, TX7, 18) dL_law_195 km_L_85 kn_X7_thrown kv_X7_thrown kz_X7 mk_X7_thrown rfl rfl (by exact aup_s) ⟨Nat.le_of_ble_eq_true rfl, Nat.le_of_ble_eq_true rfl⟩ ⟨by show kc + 2 + 0 + 0 ≤ 600128; omega, by show ks + 12 + 0 + 0 ≤ 7301098; omega⟩ (Nat.le_of_ble_eq_true rfl) ?_
      refine s_X7_thrown hst (aup_s) ?_
      refine v_iload dL_law_198 rfl ?_
      refine v_icmp_eq 205 dL_law_200 (fun h9 => ?_) (fun h9 => ?_)
      rotate_left
      · (exfalso; omega)
      refine v_goto 1530 dL_law_205 ?_
      exact v_wid (kc' := kc + 8) (ks' := ks + 48) (by show kc + 2 + 0 + 0 ≤ kc + 8; omega) (by show ks + 12 + 0 + 0 ≤ ks + 48; omega) (v_lof [(0, .ref G.scr.1), (1, .ref (B 0)), (2, .ref (B 39)), (3, .ref (B 50)), (4, .ref (B 51)), (5, .int (iI i))] (List.forall_mem_cons.mpr ⟨rfl, (List.forall_mem_cons.mpr ⟨rfl, (List.forall_mem_cons.mpr ⟨rfl, (List.forall_mem_cons.mpr ⟨rfl, (List.forall_mem_cons.mpr ⟨rfl, (List.forall_mem_cons.mpr ⟨rfl, (fun _ h => nomatch h)⟩)⟩)⟩)⟩)⟩)⟩) (K _ (SS.of (hc.o hB ⟨by omega, by omega⟩) (m1.md hB) (ho.c hB (by omega)) hd)))
    · intro b1 b2
      exfalso; first | omega | contradiction
    · intro b1 b2
      exfalso; first | omega | contradiction
  · intro g1 x1
    have m1 := hm
    obtain ⟨yq, mq, dq, ap, wr, sz, gp, n0, n1, n2, nMA, n8, n9⟩ := id m1
    refine v_istore dL_law_164 (by decide) ?_
    refine v_aload_n dL_law_166 rfl ?_
    refine v_aload_n dL_law_167 rfl ?_
    refine v_iload dL_law_168 rfl ?_
    refine v_iconst dL_law_170 ?_
    refine v_iadd dL_law_171 ?_
    refine v_sldA (a := a1) dL_law_172 e1 ?_
    refine v_aload_n dL_law_173 rfl ?_
    refine v_iload dL_law_174 rfl ?_
    refine v_iconst dL_law_176 ?_
    refine v_iadd dL_law_177 ?_
    refine v_sldA (a := a2) dL_law_178 e2 ?_
    refine v_aload_n dL_law_179 rfl ?_
    refine v_iload dL_law_180 rfl ?_
    refine v_iconst dL_law_182 ?_
    refine v_iadd dL_law_183 ?_
    refine v_sldA (a := a3) dL_law_184 e3 ?_
    refine v_aload_n dL_law_185 rfl ?_
    refine v_iload dL_law_186 rfl ?_
    refine v_iconst dL_law_188 ?_
    refine v_iadd dL_law_189 ?_
    refine v_sldA (a := a4) dL_law_190 e4 ?_
    refine v_V4 (rm' := rX7_date) (RX7, TX7, 18) dL_law_191 km_L_84 kn_X7_date kv_X7_date kz_X7 mk_X7_date rfl rfl (by exact n0) ⟨Nat.le_of_ble_eq_true rfl, Nat.le_of_ble_eq_true rfl⟩ ⟨by show kc + 2 + 0 ≤ 600128; omega, by show ks + 12 + 0 ≤ 7301098; omega⟩ (Nat.le_of_ble_eq_true rfl) ?_
    refine s_X7_date hst n0 n1 n2 (hA_of hB 0 1 (by omega) (by omega) (by omega)) r1 ?_ r2 r3 r4 ?_ ?_
    · intro b1
      exfalso; first | omega | contradiction
    · intro b1 b2
      refine v_aload_n dL_law_194 rfl ?_
      refine v_V0 (rm' := rX7_thrown) (RX7, TX7, 18) dL_law_195 km_L_85 kn_X7_thrown kv_X7_thrown kz_X7 mk_X7_thrown rfl rfl (by exact aup_s) ⟨Nat.le_of_ble_eq_true rfl, Nat.le_of_ble_eq_true rfl⟩ ⟨by show kc + 2 + 0 + 0 ≤ 600128; omega, by show ks + 12 + 0 + 0 ≤ 7301098; omega⟩ (Nat.le_of_ble_eq_true rfl) ?_
      refine s_X7_thrown hst (aup_s) ?_
      refine v_iload dL_law_198 rfl ?_
      refine v_icmp_eq 205 dL_law_200 (fun h9 => ?_) (fun h9 => ?_)
      rotate_left
      · (exfalso; omega)
      refine v_goto 1530 dL_law_205 ?_
      exact v_wid (kc' := kc + 8) (ks' := ks + 48) (by show kc + 2 + 0 + 0 ≤ kc + 8; omega) (by show ks + 12 + 0 + 0 ≤ ks + 48; omega) (v_lof [(0, .ref G.scr.1), (1, .ref (B 0)), (2, .ref (B 39)), (3, .ref (B 50)), (4, .ref (B 51)), (5, .int (iI i))] (List.forall_mem_cons.mpr ⟨rfl, (List.forall_mem_cons.mpr ⟨rfl, (List.forall_mem_cons.mpr ⟨rfl, (List.forall_mem_cons.mpr ⟨rfl, (List.forall_mem_cons.mpr ⟨rfl, (List.forall_mem_cons.mpr ⟨rfl, (fun _ h => nomatch h)⟩)⟩)⟩)⟩)⟩)⟩) (K _ (SS.of (hc.o hB ⟨by omega, by omega⟩) (m1.md hB) (ho.c hB (by omega)) hd)))
    · intro b1 b2
      exfalso; first | omega | contradiction
  · intro y9 m9 d9 n9 g1 g2 g3 g4 g5 g6 x1
    obtain ⟨rfl, rfl, rfl, rfl⟩ := pkE_eq g1 hE1 g2 g3 g4 g5 g6
    have m1 := (hm.c hB (k := (2 + a1.toNat)) (e := stC a2 a3 a4 (gn a1.toNat)) ⟨by omega, by omega⟩)
    obtain ⟨yq, mq, dq, ap, wr, sz, gp, n0, n1, n2, nMA, n8, n9⟩ := id m1
    refine v_istore dL_law_164 (by decide) ?_
    refine v_aload_n dL_law_166 rfl ?_
    refine v_aload_n dL_law_167 rfl ?_
    refine v_iload dL_law_168 rfl ?_
    refine v_iconst dL_law_170 ?_
    refine v_iadd dL_law_171 ?_
    refine v_sldA (a := a1) dL_law_172 e1 ?_
    refine v_aload_n dL_law_173 rfl ?_
    refine v_iload dL_law_174 rfl ?_
    refine v_iconst dL_law_176 ?_
    refine v_iadd dL_law_177 ?_
    refine v_sldA (a := a2) dL_law_178 e2 ?_
    refine v_aload_n dL_law_179 rfl ?_
    refine v_iload dL_law_180 rfl ?_
    refine v_iconst dL_law_182 ?_
    refine v_iadd dL_law_183 ?_
    refine v_sldA (a := a3) dL_law_184 e3 ?_
    refine v_aload_n dL_law_185 rfl ?_
    refine v_iload dL_law_186 rfl ?_
    refine v_iconst dL_law_188 ?_
    refine v_iadd dL_law_189 ?_
    refine v_sldA (a := a4) dL_law_190 e4 ?_
    refine v_V4 (rm' := rX7_date) (RX7, TX7, 18) dL_law_191 km_L_84 kn_X7_date kv_X7_date kz_X7 mk_X7_date rfl rfl (by exact n0) ⟨Nat.le_of_ble_eq_true rfl, Nat.le_of_ble_eq_true rfl⟩ ⟨by show kc + 2 + 0 ≤ 600128; omega, by show ks + 12 + 0 ≤ 7301098; omega⟩ (Nat.le_of_ble_eq_true rfl) ?_
    refine s_X7_date hst n0 n1 n2 (hA_of hB 0 1 (by omega) (by omega) (by omega)) r1 ?_ r2 r3 r4 ?_ ?_
    · intro b1
      exfalso; first | omega | contradiction
    · intro b1 b2
      exfalso; first | omega | contradiction
    · intro b1 b2
      refine v_aload_n dL_law_194 rfl ?_
      refine v_V0 (rm' := rX7_thrown) (RX7, TX7, 18) dL_law_195 km_L_85 kn_X7_thrown kv_X7_thrown kz_X7 mk_X7_thrown rfl rfl (by exact (kp hB (by omega) 39 (by omega) (by omega)).trans aup_s) ⟨Nat.le_of_ble_eq_true rfl, Nat.le_of_ble_eq_true rfl⟩ ⟨by show kc + 2 + 0 + 0 ≤ 600128; omega, by show ks + 12 + 0 + 0 ≤ 7301098; omega⟩ (Nat.le_of_ble_eq_true rfl) ?_
      refine s_X7_thrown hst ((kp hB (by omega) 39 (by omega) (by omega)).trans aup_s) ?_
      refine v_iload dL_law_198 rfl ?_
      refine v_icmp_eq 205 dL_law_200 (fun h9 => ?_) (fun h9 => ?_)
      rotate_left
      · (exfalso; omega)
      refine v_goto 1530 dL_law_205 ?_
      exact v_wid (kc' := kc + 8) (ks' := ks + 48) (by show kc + 2 + 0 + 0 ≤ kc + 8; omega) (by show ks + 12 + 0 + 0 ≤ ks + 48; omega) (v_lof [(0, .ref G.scr.1), (1, .ref (B 0)), (2, .ref (B 39)), (3, .ref (B 50)), (4, .ref (B 51)), (5, .int (iI i))] (List.forall_mem_cons.mpr ⟨rfl, (List.forall_mem_cons.mpr ⟨rfl, (List.forall_mem_cons.mpr ⟨rfl, (List.forall_mem_cons.mpr ⟨rfl, (List.forall_mem_cons.mpr ⟨rfl, (List.forall_mem_cons.mpr ⟨rfl, (fun _ h => nomatch h)⟩)⟩)⟩)⟩)⟩)⟩) (K _ (SS.of (((hc.sd hB (k := a1.toNat) (by omega) (dt_v x1) rfl rfl).o hB ⟨by omega, by omega⟩).o hB ⟨by omega, by omega⟩) ((m1.md hB).d hB) (((ho.c hB (by omega)).c hB (by omega)).c hB (by omega)) hd)))
set_option maxRecDepth 100000 in
set_option maxHeartbeats 8000000 in
theorem lw_time {l : Launch} {G : GG} {Q : Option Value → AH → Prop} {X : String → AH → Prop} {B : Nat → Nat} {i : Int} {w : AH} {kc ks : Nat} (hst : l.stackTraces = false) (hB : iB B) (hi : 0 ≤ i ∧ i + 7 ≤ (G.scr.2.1 : Int)) (hL9 : G.scr.2.1 ≤ 448) (hk : kc ≤ 500000 ∧ ks ≤ 7000000) (h : SS G B w) (K : ∀ w' : AH, SS G B w' → V l G mL_law room_1 Q X 1530 (lof [(0, .ref G.scr.1), (1, .ref (B 0)), (2, .ref (B 39)), (3, .ref (B 50)), (4, .ref (B 51)), (5, .int (iI i))]) [] w' (kc + 8) (ks + 48)) : V l G mL_law room_1 Q X 208 (lof [(0, .ref G.scr.1), (1, .ref (B 0)), (2, .ref (B 39)), (3, .ref (B 50)), (4, .ref (B 51)), (5, .int (iI i))]) [] w kc ks := by
  obtain ⟨th, gd, gn, L, gl, fz, cz, rz, gm, go, ru, vF, vC, vM, vO, vK, vR, hc, hm, ho, hd⟩ := h
  have hgd := hc.gdr
  have hgn := hc.gnr
  obtain ⟨a1, e1⟩ : ∃ a : Int, scI G (i + 1).toNat = a := ⟨_, rfl⟩
  have r1 : -2147483648 ≤ a1 ∧ a1 ≤ 2147483647 := e1 ▸ scI_r G _
  obtain ⟨a2, e2⟩ : ∃ a : Int, scI G (i + 2).toNat = a := ⟨_, rfl⟩
  have r2 : -2147483648 ≤ a2 ∧ a2 ≤ 2147483647 := e2 ▸ scI_r G _
  obtain ⟨a3, e3⟩ : ∃ a : Int, scI G (i + 3).toNat = a := ⟨_, rfl⟩
  have r3 : -2147483648 ≤ a3 ∧ a3 ≤ 2147483647 := e3 ▸ scI_r G _
  obtain ⟨a4, e4⟩ : ∃ a : Int, scI G (i + 4).toNat = a := ⟨_, rfl⟩
  have r4 : -2147483648 ≤ a4 ∧ a4 ≤ 2147483647 := e4 ▸ scI_r G _
  obtain ⟨a5, e5⟩ : ∃ a : Int, scI G (i + 5).toNat = a := ⟨_, rfl⟩
  have r5 : -2147483648 ≤ a5 ∧ a5 ≤ 2147483647 := e5 ▸ scI_r G _
  obtain ⟨y, m, d, hE1⟩ := hc.pick a1
  refine v_aload_n dL_law_208 rfl ?_
  refine v_aload_n dL_law_209 rfl ?_
  refine v_iload dL_law_210 rfl ?_
  refine v_iconst dL_law_212 ?_
  refine v_iadd dL_law_213 ?_
  refine v_sldA (a := a1) dL_law_214 e1 ?_
  refine v_aload_n dL_law_215 rfl ?_
  refine v_iload dL_law_216 rfl ?_
  refine v_iconst dL_law_218 ?_
  refine v_iadd dL_law_219 ?_
  refine v_sldA (a := a2) dL_law_220 e2 ?_
  refine v_aload_n dL_law_221 rfl ?_
  refine v_iload dL_law_222 rfl ?_
  refine v_iconst dL_law_224 ?_
  refine v_iadd dL_law_225 ?_
  refine v_sldA (a := a3) dL_law_226 e3 ?_
  refine v_aload_n dL_law_227 rfl ?_
  refine v_iload dL_law_228 rfl ?_
  refine v_iconst dL_law_230 ?_
  refine v_iadd dL_law_231 ?_
  refine v_sldA (a := a4) dL_law_232 e4 ?_
  refine v_aload_n dL_law_233 rfl ?_
  refine v_iload dL_law_234 rfl ?_
  refine v_iconst dL_law_236 ?_
  refine v_iadd dL_law_237 ?_
  refine v_sldA (a := a5) dL_law_238 e5 ?_
  refine v_SW6 (rm' := rL_time) dL_law_239 km_L_89 ks_L_time kz_L mk_L_time rfl ⟨Nat.le_of_ble_eq_true rfl, Nat.le_of_ble_eq_true rfl⟩ ⟨by show kc + 2 ≤ 600128; omega, by show ks + 12 ≤ 7301098; omega⟩ (Nat.le_of_ble_eq_true rfl) ?_
  refine s_L_time (sa := fun k => B (2 + k)) hst hc.1.1 hc.1.2.1 hc.sv r1 ?_ r2 r3 r4 r5 ?_ ?_
  · intro g1
    have m1 := hm
    obtain ⟨yq, mq, dq, ap, wr, sz, gp, n0, n1, n2, nMA, n8, n9⟩ := id m1
    refine v_istore dL_law_242 (by decide) ?_
    refine v_aload_n dL_law_244 rfl ?_
    refine v_aload_n dL_law_245 rfl ?_
    refine v_iload dL_law_246 rfl ?_
    refine v_iconst dL_law_248 ?_
    refine v_iadd dL_law_249 ?_
    refine v_sldA (a := a1) dL_law_250 e1 ?_
    refine v_aload_n dL_law_251 rfl ?_
    refine v_iload dL_law_252 rfl ?_
    refine v_iconst dL_law_254 ?_
    refine v_iadd dL_law_255 ?_
    refine v_sldA (a := a2) dL_law_256 e2 ?_
    refine v_aload_n dL_law_257 rfl ?_
    refine v_iload dL_law_258 rfl ?_
    refine v_iconst dL_law_260 ?_
    refine v_iadd dL_law_261 ?_
    refine v_sldA (a := a3) dL_law_262 e3 ?_
    refine v_aload_n dL_law_263 rfl ?_
    refine v_iload dL_law_264 rfl ?_
    refine v_iconst dL_law_266 ?_
    refine v_iadd dL_law_267 ?_
    refine v_sldA (a := a4) dL_law_268 e4 ?_
    refine v_aload_n dL_law_269 rfl ?_
    refine v_iload dL_law_270 rfl ?_
    refine v_iconst dL_law_272 ?_
    refine v_iadd dL_law_273 ?_
    refine v_sldA (a := a5) dL_law_274 e5 ?_
    refine v_V5 (rm' := rX7_time) (RX7, TX7, 18) dL_law_275 km_L_92 kn_X7_time kv_X7_time kz_X7 mk_X7_time rfl rfl (by exact n0) ⟨Nat.le_of_ble_eq_true rfl, Nat.le_of_ble_eq_true rfl⟩ ⟨by show kc + 2 + 0 ≤ 600128; omega, by show ks + 12 + 0 ≤ 7301098; omega⟩ (Nat.le_of_ble_eq_true rfl) ?_
    refine s_X7_time hst n0 n1 n2 (hA_of hB 0 1 (by omega) (by omega) (by omega)) r1 ?_ r2 r3 r4 r5 ?_ ?_
    · intro b1
      refine v_aload_n dL_law_278 rfl ?_
      refine v_V0 (rm' := rX7_thrown) (RX7, TX7, 18) dL_law_279 km_L_85 kn_X7_thrown kv_X7_thrown kz_X7 mk_X7_thrown rfl rfl (by exact aup_s) ⟨Nat.le_of_ble_eq_true rfl, Nat.le_of_ble_eq_true rfl⟩ ⟨by show kc + 2 + 0 + 0 ≤ 600128; omega, by show ks + 12 + 0 + 0 ≤ 7301098; omega⟩ (Nat.le_of_ble_eq_true rfl) ?_
      refine s_X7_thrown hst (aup_s) ?_
      refine v_iload dL_law_282 rfl ?_
      refine v_icmp_eq 289 dL_law_284 (fun h9 => ?_) (fun h9 => ?_)
      rotate_left
      · (exfalso; omega)
      refine v_goto 1530 dL_law_289 ?_
      exact v_wid (kc' := kc + 8) (ks' := ks + 48) (by show kc + 2 + 0 + 0 ≤ kc + 8; omega) (by show ks + 12 + 0 + 0 ≤ ks + 48; omega) (v_lof [(0, .ref G.scr.1), (1, .ref (B 0)), (2, .ref (B 39)), (3, .ref (B 50)), (4, .ref (B 51)), (5, .int (iI i))] (List.forall_mem_cons.mpr ⟨rfl, (List.forall_mem_cons.mpr ⟨rfl, (List.forall_mem_cons.mpr ⟨rfl, (List.forall_mem_cons.mpr ⟨rfl, (List.forall_mem_cons.mpr ⟨rfl, (List.forall_mem_cons.mpr ⟨rfl, (fun _ h => nomatch h)⟩)⟩)⟩)⟩)⟩)⟩) (K _ (SS.of (hc.o hB ⟨by omega, by omega⟩) (m1.md hB) (ho.c hB (by omega)) hd)))
    · intro b1 b2
      exfalso; first | omega | contradiction
    · intro b1 b2
      exfalso; first | omega | contradiction
  · intro g1 x1
    have m1 := hm
    obtain ⟨yq, mq, dq, ap, wr, sz, gp, n0, n1, n2, nMA, n8, n9⟩ := id m1
    refine v_istore dL_law_242 (by decide) ?_
    refine v_aload_n dL_law_244 rfl ?_
    refine v_aload_n dL_law_245 rfl ?_
    refine v_iload dL_law_246 rfl ?_
    refine v_iconst dL_law_248 ?_
    refine v_iadd dL_law_249 ?_
    refine v_sldA (a := a1) dL_law_250 e1 ?_
    refine v_aload_n dL_law_251 rfl ?_
    refine v_iload dL_law_252 rfl ?_
    refine v_iconst dL_law_254 ?_
    refine v_iadd dL_law_255 ?_
    refine v_sldA (a := a2) dL_law_256 e2 ?_
    refine v_aload_n dL_law_257 rfl ?_
    refine v_iload dL_law_258 rfl ?_
    refine v_iconst dL_law_260 ?_
    refine v_iadd dL_law_261 ?_
    refine v_sldA (a := a3) dL_law_262 e3 ?_
    refine v_aload_n dL_law_263 rfl ?_
    refine v_iload dL_law_264 rfl ?_
    refine v_iconst dL_law_266 ?_
    refine v_iadd dL_law_267 ?_
    refine v_sldA (a := a4) dL_law_268 e4 ?_
    refine v_aload_n dL_law_269 rfl ?_
    refine v_iload dL_law_270 rfl ?_
    refine v_iconst dL_law_272 ?_
    refine v_iadd dL_law_273 ?_
    refine v_sldA (a := a5) dL_law_274 e5 ?_
    refine v_V5 (rm' := rX7_time) (RX7, TX7, 18) dL_law_275 km_L_92 kn_X7_time kv_X7_time kz_X7 mk_X7_time rfl rfl (by exact n0) ⟨Nat.le_of_ble_eq_true rfl, Nat.le_of_ble_eq_true rfl⟩ ⟨by show kc + 2 + 0 ≤ 600128; omega, by show ks + 12 + 0 ≤ 7301098; omega⟩ (Nat.le_of_ble_eq_true rfl) ?_
    refine s_X7_time hst n0 n1 n2 (hA_of hB 0 1 (by omega) (by omega) (by omega)) r1 ?_ r2 r3 r4 r5 ?_ ?_
    · intro b1
      exfalso; first | omega | contradiction
    · intro b1 b2
      refine v_aload_n dL_law_278 rfl ?_
      refine v_V0 (rm' := rX7_thrown) (RX7, TX7, 18) dL_law_279 km_L_85 kn_X7_thrown kv_X7_thrown kz_X7 mk_X7_thrown rfl rfl (by exact aup_s) ⟨Nat.le_of_ble_eq_true rfl, Nat.le_of_ble_eq_true rfl⟩ ⟨by show kc + 2 + 0 + 0 ≤ 600128; omega, by show ks + 12 + 0 + 0 ≤ 7301098; omega⟩ (Nat.le_of_ble_eq_true rfl) ?_
      refine s_X7_thrown hst (aup_s) ?_
      refine v_iload dL_law_282 rfl ?_
      refine v_icmp_eq 289 dL_law_284 (fun h9 => ?_) (fun h9 => ?_)
      rotate_left
      · (exfalso; omega)
      refine v_goto 1530 dL_law_289 ?_
      exact v_wid (kc' := kc + 8) (ks' := ks + 48) (by show kc + 2 + 0 + 0 ≤ kc + 8; omega) (by show ks + 12 + 0 + 0 ≤ ks + 48; omega) (v_lof [(0, .ref G.scr.1), (1, .ref (B 0)), (2, .ref (B 39)), (3, .ref (B 50)), (4, .ref (B 51)), (5, .int (iI i))] (List.forall_mem_cons.mpr ⟨rfl, (List.forall_mem_cons.mpr ⟨rfl, (List.forall_mem_cons.mpr ⟨rfl, (List.forall_mem_cons.mpr ⟨rfl, (List.forall_mem_cons.mpr ⟨rfl, (List.forall_mem_cons.mpr ⟨rfl, (fun _ h => nomatch h)⟩)⟩)⟩)⟩)⟩)⟩) (K _ (SS.of (hc.o hB ⟨by omega, by omega⟩) (m1.md hB) (ho.c hB (by omega)) hd)))
    · intro b1 b2
      exfalso; first | omega | contradiction
  · intro y9 m9 d9 n9 g1 g2 g3 g4 g5 g6 x1
    obtain ⟨rfl, rfl, rfl, rfl⟩ := pkE_eq g1 hE1 g2 g3 g4 g5 g6
    have m1 := (hm.c hB (k := (2 + a1.toNat)) (e := stC y m d (a2 * 3600000000000 + a3 * 60000000000 + a4 * 1000000000 + a5)) ⟨by omega, by omega⟩)
    obtain ⟨yq, mq, dq, ap, wr, sz, gp, n0, n1, n2, nMA, n8, n9⟩ := id m1
    refine v_istore dL_law_242 (by decide) ?_
    refine v_aload_n dL_law_244 rfl ?_
    refine v_aload_n dL_law_245 rfl ?_
    refine v_iload dL_law_246 rfl ?_
    refine v_iconst dL_law_248 ?_
    refine v_iadd dL_law_249 ?_
    refine v_sldA (a := a1) dL_law_250 e1 ?_
    refine v_aload_n dL_law_251 rfl ?_
    refine v_iload dL_law_252 rfl ?_
    refine v_iconst dL_law_254 ?_
    refine v_iadd dL_law_255 ?_
    refine v_sldA (a := a2) dL_law_256 e2 ?_
    refine v_aload_n dL_law_257 rfl ?_
    refine v_iload dL_law_258 rfl ?_
    refine v_iconst dL_law_260 ?_
    refine v_iadd dL_law_261 ?_
    refine v_sldA (a := a3) dL_law_262 e3 ?_
    refine v_aload_n dL_law_263 rfl ?_
    refine v_iload dL_law_264 rfl ?_
    refine v_iconst dL_law_266 ?_
    refine v_iadd dL_law_267 ?_
    refine v_sldA (a := a4) dL_law_268 e4 ?_
    refine v_aload_n dL_law_269 rfl ?_
    refine v_iload dL_law_270 rfl ?_
    refine v_iconst dL_law_272 ?_
    refine v_iadd dL_law_273 ?_
    refine v_sldA (a := a5) dL_law_274 e5 ?_
    refine v_V5 (rm' := rX7_time) (RX7, TX7, 18) dL_law_275 km_L_92 kn_X7_time kv_X7_time kz_X7 mk_X7_time rfl rfl (by exact n0) ⟨Nat.le_of_ble_eq_true rfl, Nat.le_of_ble_eq_true rfl⟩ ⟨by show kc + 2 + 0 ≤ 600128; omega, by show ks + 12 + 0 ≤ 7301098; omega⟩ (Nat.le_of_ble_eq_true rfl) ?_
    refine s_X7_time hst n0 n1 n2 (hA_of hB 0 1 (by omega) (by omega) (by omega)) r1 ?_ r2 r3 r4 r5 ?_ ?_
    · intro b1
      exfalso; first | omega | contradiction
    · intro b1 b2
      exfalso; first | omega | contradiction
    · intro b1 b2
      refine v_aload_n dL_law_278 rfl ?_
      refine v_V0 (rm' := rX7_thrown) (RX7, TX7, 18) dL_law_279 km_L_85 kn_X7_thrown kv_X7_thrown kz_X7 mk_X7_thrown rfl rfl (by exact (kp hB (by omega) 39 (by omega) (by omega)).trans aup_s) ⟨Nat.le_of_ble_eq_true rfl, Nat.le_of_ble_eq_true rfl⟩ ⟨by show kc + 2 + 0 + 0 ≤ 600128; omega, by show ks + 12 + 0 + 0 ≤ 7301098; omega⟩ (Nat.le_of_ble_eq_true rfl) ?_
      refine s_X7_thrown hst ((kp hB (by omega) 39 (by omega) (by omega)).trans aup_s) ?_
      refine v_iload dL_law_282 rfl ?_
      refine v_icmp_eq 289 dL_law_284 (fun h9 => ?_) (fun h9 => ?_)
      rotate_left
      · (exfalso; omega)
      refine v_goto 1530 dL_law_289 ?_
      exact v_wid (kc' := kc + 8) (ks' := ks + 48) (by show kc + 2 + 0 + 0 ≤ kc + 8; omega) (by show ks + 12 + 0 + 0 ≤ ks + 48; omega) (v_lof [(0, .ref G.scr.1), (1, .ref (B 0)), (2, .ref (B 39)), (3, .ref (B 50)), (4, .ref (B 51)), (5, .int (iI i))] (List.forall_mem_cons.mpr ⟨rfl, (List.forall_mem_cons.mpr ⟨rfl, (List.forall_mem_cons.mpr ⟨rfl, (List.forall_mem_cons.mpr ⟨rfl, (List.forall_mem_cons.mpr ⟨rfl, (List.forall_mem_cons.mpr ⟨rfl, (fun _ h => nomatch h)⟩)⟩)⟩)⟩)⟩)⟩) (K _ (SS.of (((hc.sn hB (k := a1.toNat) (by omega) (hE1 g1).2.2.1 (hE1 g1).2.1 (by unfold isTm at x1; omega) (by omega)).o hB ⟨by omega, by omega⟩).o hB ⟨by omega, by omega⟩) ((m1.md hB).n hB) (((ho.c hB (by omega)).c hB (by omega)).c hB (by omega)) hd)))
set_option maxRecDepth 100000 in
set_option maxHeartbeats 8000000 in
theorem lw_get {l : Launch} {G : GG} {Q : Option Value → AH → Prop} {X : String → AH → Prop} {B : Nat → Nat} {i : Int} {w : AH} {kc ks : Nat} (hst : l.stackTraces = false) (hB : iB B) (hi : 0 ≤ i ∧ i + 7 ≤ (G.scr.2.1 : Int)) (hL9 : G.scr.2.1 ≤ 448) (hk : kc ≤ 500000 ∧ ks ≤ 7000000) (h : SS G B w) (K : ∀ w' : AH, SS G B w' → V l G mL_law room_1 Q X 1530 (lof [(0, .ref G.scr.1), (1, .ref (B 0)), (2, .ref (B 39)), (3, .ref (B 50)), (4, .ref (B 51)), (5, .int (iI i))]) [] w' (kc + 8) (ks + 48)) : V l G mL_law room_1 Q X 292 (lof [(0, .ref G.scr.1), (1, .ref (B 0)), (2, .ref (B 39)), (3, .ref (B 50)), (4, .ref (B 51)), (5, .int (iI i))]) [] w kc ks := by
  obtain ⟨th, gd, gn, L, gl, fz, cz, rz, gm, go, ru, vF, vC, vM, vO, vK, vR, hc, hm, ho, hd⟩ := h
  have hgd := hc.gdr
  have hgn := hc.gnr
  obtain ⟨a1, e1⟩ : ∃ a : Int, scI G (i + 1).toNat = a := ⟨_, rfl⟩
  have r1 : -2147483648 ≤ a1 ∧ a1 ≤ 2147483647 := e1 ▸ scI_r G _
  obtain ⟨a2, e2⟩ : ∃ a : Int, scI G (i + 2).toNat = a := ⟨_, rfl⟩
  have r2 : -2147483648 ≤ a2 ∧ a2 ≤ 2147483647 := e2 ▸ scI_r G _
  obtain ⟨y, m, d, hE1⟩ := hc.pick a1
  obtain ⟨⟨vo, o50⟩, vd, o51⟩ := id ho
  refine v_aload_n dL_law_292 rfl ?_
  refine v_aload_n dL_law_293 rfl ?_
  refine v_iload dL_law_294 rfl ?_
  refine v_iconst dL_law_296 ?_
  refine v_iadd dL_law_297 ?_
  refine v_sldA (a := a1) dL_law_298 e1 ?_
  refine v_aload_n dL_law_299 rfl ?_
  refine v_iload dL_law_300 rfl ?_
  refine v_iconst dL_law_302 ?_
  refine v_iadd dL_law_303 ?_
  refine v_sldA (a := a2) dL_law_304 e2 ?_
  refine v_aload_n dL_law_305 rfl ?_
  refine v_SW4 (rm' := rL_get) dL_law_306 km_L_93 ks_L_get kz_L mk_L_get rfl ⟨Nat.le_of_ble_eq_true rfl, Nat.le_of_ble_eq_true rfl⟩ ⟨by show kc + 2 ≤ 600128; omega, by show ks + 12 ≤ 7301098; omega⟩ (Nat.le_of_ble_eq_true rfl) ?_
  refine s_L_get (sa := fun k => B (2 + k)) hst o50 hc.1.1 hc.1.2.1 hc.sv r1 ?_ r2 ?_ ?_
  · intro g1
    have m1 := hm
    obtain ⟨yq, mq, dq, ap, wr, sz, gp, n0, n1, n2, nMA, n8, n9⟩ := id m1
    refine v_istore dL_law_309 (by decide) ?_
    refine v_aload_n dL_law_311 rfl ?_
    refine v_aload_n dL_law_312 rfl ?_
    refine v_iload dL_law_313 rfl ?_
    refine v_iconst dL_law_315 ?_
    refine v_iadd dL_law_316 ?_
    refine v_sldA (a := a1) dL_law_317 e1 ?_
    refine v_aload_n dL_law_318 rfl ?_
    refine v_iload dL_law_319 rfl ?_
    refine v_iconst dL_law_321 ?_
    refine v_iadd dL_law_322 ?_
    refine v_sldA (a := a2) dL_law_323 e2 ?_
    refine v_V2 (rm' := rX7_get) (RX7, TX7, 18) dL_law_324 km_L_96 kn_X7_get kv_X7_get kz_X7 mk_X7_get rfl rfl (by exact n0) ⟨Nat.le_of_ble_eq_true rfl, Nat.le_of_ble_eq_true rfl⟩ ⟨by show kc + 2 + 0 ≤ 600128; omega, by show ks + 12 + 0 ≤ 7301098; omega⟩ (Nat.le_of_ble_eq_true rfl) ?_
    refine s_X7_get hst n0 n1 n2 (hA_of hB 0 1 (by omega) (by omega) (by omega)) hgd hgn r1 r2 (hV_of hE1) ?_ ?_ ?_
    · intro v9 b1
      refine v_lstore dL_law_327 (by decide) ?_
      refine v_aload_n dL_law_329 rfl ?_
      refine v_V0 (rm' := rX7_thrown) (RX7, TX7, 18) dL_law_330 km_L_85 kn_X7_thrown kv_X7_thrown kz_X7 mk_X7_thrown rfl rfl (by exact aup_s) ⟨Nat.le_of_ble_eq_true rfl, Nat.le_of_ble_eq_true rfl⟩ ⟨by show kc + 2 + 0 + 0 ≤ 600128; omega, by show ks + 12 + 0 + 0 ≤ 7301098; omega⟩ (Nat.le_of_ble_eq_true rfl) ?_
      refine s_X7_thrown hst (aup_s) ?_
      refine v_iload dL_law_333 rfl ?_
      refine v_icmp_eq 340 dL_law_335 (fun h9 => ?_) (fun h9 => ?_)
      rotate_left
      · (exfalso; omega)
      refine v_iload dL_law_340 rfl ?_
      refine v_if_ne 356 dL_law_342 (fun h9 => ?_) (fun h9 => ?_)
      rotate_left
      · (exfalso; omega)
      refine v_goto 1530 dL_law_356 ?_
      exact v_wid (kc' := kc + 8) (ks' := ks + 48) (by show kc + 2 + 0 + 0 ≤ kc + 8; omega) (by show ks + 12 + 0 + 0 ≤ ks + 48; omega) (v_lof [(0, .ref G.scr.1), (1, .ref (B 0)), (2, .ref (B 39)), (3, .ref (B 50)), (4, .ref (B 51)), (5, .int (iI i))] (List.forall_mem_cons.mpr ⟨rfl, (List.forall_mem_cons.mpr ⟨rfl, (List.forall_mem_cons.mpr ⟨rfl, (List.forall_mem_cons.mpr ⟨rfl, (List.forall_mem_cons.mpr ⟨rfl, (List.forall_mem_cons.mpr ⟨rfl, (fun _ h => nomatch h)⟩)⟩)⟩)⟩)⟩)⟩) (K _ (SS.of (hc.o hB ⟨by omega, by omega⟩) (m1.md hB) (ho.c hB (by omega)) hd)))
    · intro v9 q1 q2 q3 b1 b2
      exfalso; first | omega | contradiction
    · intro q1 q2 q3 b1 b2
      exfalso; first | omega | contradiction
  · intro g1 x1
    have m1 := hm
    obtain ⟨yq, mq, dq, ap, wr, sz, gp, n0, n1, n2, nMA, n8, n9⟩ := id m1
    refine v_istore dL_law_309 (by decide) ?_
    refine v_aload_n dL_law_311 rfl ?_
    refine v_aload_n dL_law_312 rfl ?_
    refine v_iload dL_law_313 rfl ?_
    refine v_iconst dL_law_315 ?_
    refine v_iadd dL_law_316 ?_
    refine v_sldA (a := a1) dL_law_317 e1 ?_
    refine v_aload_n dL_law_318 rfl ?_
    refine v_iload dL_law_319 rfl ?_
    refine v_iconst dL_law_321 ?_
    refine v_iadd dL_law_322 ?_
    refine v_sldA (a := a2) dL_law_323 e2 ?_
    refine v_V2 (rm' := rX7_get) (RX7, TX7, 18) dL_law_324 km_L_96 kn_X7_get kv_X7_get kz_X7 mk_X7_get rfl rfl (by exact n0) ⟨Nat.le_of_ble_eq_true rfl, Nat.le_of_ble_eq_true rfl⟩ ⟨by show kc + 2 + 0 ≤ 600128; omega, by show ks + 12 + 0 ≤ 7301098; omega⟩ (Nat.le_of_ble_eq_true rfl) ?_
    refine s_X7_get hst n0 n1 n2 (hA_of hB 0 1 (by omega) (by omega) (by omega)) hgd hgn r1 r2 (hV_of hE1) ?_ ?_ ?_
    · intro v9 b1
      exfalso; first | omega | contradiction
    · intro v9 q1 q2 q3 b1 b2
      refine v_lstore dL_law_327 (by decide) ?_
      refine v_aload_n dL_law_329 rfl ?_
      refine v_V0 (rm' := rX7_thrown) (RX7, TX7, 18) dL_law_330 km_L_85 kn_X7_thrown kv_X7_thrown kz_X7 mk_X7_thrown rfl rfl (by exact aup_s) ⟨Nat.le_of_ble_eq_true rfl, Nat.le_of_ble_eq_true rfl⟩ ⟨by show kc + 2 + 0 + 0 ≤ 600128; omega, by show ks + 12 + 0 + 0 ≤ 7301098; omega⟩ (Nat.le_of_ble_eq_true rfl) ?_
      refine s_X7_thrown hst (aup_s) ?_
      refine v_iload dL_law_333 rfl ?_
      refine v_icmp_eq 340 dL_law_335 (fun h9 => ?_) (fun h9 => ?_)
      rotate_left
      · (exfalso; omega)
      refine v_iload dL_law_340 rfl ?_
      refine v_if_ne 356 dL_law_342 (fun h9 => ?_) (fun h9 => ?_)
      rotate_left
      · (exfalso; omega)
      refine v_goto 1530 dL_law_356 ?_
      exact v_wid (kc' := kc + 8) (ks' := ks + 48) (by show kc + 2 + 0 + 0 ≤ kc + 8; omega) (by show ks + 12 + 0 + 0 ≤ ks + 48; omega) (v_lof [(0, .ref G.scr.1), (1, .ref (B 0)), (2, .ref (B 39)), (3, .ref (B 50)), (4, .ref (B 51)), (5, .int (iI i))] (List.forall_mem_cons.mpr ⟨rfl, (List.forall_mem_cons.mpr ⟨rfl, (List.forall_mem_cons.mpr ⟨rfl, (List.forall_mem_cons.mpr ⟨rfl, (List.forall_mem_cons.mpr ⟨rfl, (List.forall_mem_cons.mpr ⟨rfl, (fun _ h => nomatch h)⟩)⟩)⟩)⟩)⟩)⟩) (K _ (SS.of (hc.o hB ⟨by omega, by omega⟩) (m1.md hB) (ho.c hB (by omega)) hd)))
    · intro q1 q2 q3 b1 b2
      exfalso; first | omega | contradiction
  · intro y9 m9 d9 n9 g1 g2 g3 g4 g5 g6 x1
    obtain ⟨rfl, rfl, rfl, rfl⟩ := pkE_eq g1 hE1 g2 g3 g4 g5 g6
    have m1 := (hm.c hB (k := 50) (e := alA G 1 (gup vo 0 (gF y m d (gn a1.toNat) a2))) ⟨by omega, by omega⟩)
    obtain ⟨yq, mq, dq, ap, wr, sz, gp, n0, n1, n2, nMA, n8, n9⟩ := id m1
    refine v_istore dL_law_309 (by decide) ?_
    refine v_aload_n dL_law_311 rfl ?_
    refine v_aload_n dL_law_312 rfl ?_
    refine v_iload dL_law_313 rfl ?_
    refine v_iconst dL_law_315 ?_
    refine v_iadd dL_law_316 ?_
    refine v_sldA (a := a1) dL_law_317 e1 ?_
    refine v_aload_n dL_law_318 rfl ?_
    refine v_iload dL_law_319 rfl ?_
    refine v_iconst dL_law_321 ?_
    refine v_iadd dL_law_322 ?_
    refine v_sldA (a := a2) dL_law_323 e2 ?_
    refine v_V2 (rm' := rX7_get) (RX7, TX7, 18) dL_law_324 km_L_96 kn_X7_get kv_X7_get kz_X7 mk_X7_get rfl rfl (by exact n0) ⟨Nat.le_of_ble_eq_true rfl, Nat.le_of_ble_eq_true rfl⟩ ⟨by show kc + 2 + 0 ≤ 600128; omega, by show ks + 12 + 0 ≤ 7301098; omega⟩ (Nat.le_of_ble_eq_true rfl) ?_
    refine s_X7_get hst n0 n1 n2 (hA_of hB 0 1 (by omega) (by omega) (by omega)) hgd hgn r1 r2 (hV_of hE1) ?_ ?_ ?_
    · intro v9 b1
      exfalso; first | omega | contradiction
    · intro v9 q1 q2 q3 b1 b2
      exfalso; first | omega | contradiction
    · intro q1 q2 q3 b1 b2
      refine v_lstore dL_law_327 (by decide) ?_
      refine v_aload_n dL_law_329 rfl ?_
      refine v_V0 (rm' := rX7_thrown) (RX7, TX7, 18) dL_law_330 km_L_85 kn_X7_thrown kv_X7_thrown kz_X7 mk_X7_thrown rfl rfl (by exact aup_s) ⟨Nat.le_of_ble_eq_true rfl, Nat.le_of_ble_eq_true rfl⟩ ⟨by show kc + 2 + 0 + 0 ≤ 600128; omega, by show ks + 12 + 0 + 0 ≤ 7301098; omega⟩ (Nat.le_of_ble_eq_true rfl) ?_
      refine s_X7_thrown hst (aup_s) ?_
      refine v_iload dL_law_333 rfl ?_
      refine v_icmp_eq 340 dL_law_335 (fun h9 => ?_) (fun h9 => ?_)
      rotate_left
      · (exfalso; omega)
      refine v_iload dL_law_340 rfl ?_
      refine v_if_ne 356 dL_law_342 (fun h9 => ?_) (fun h9 => ?_)
      · (exfalso; omega)
      refine v_aload_n dL_law_345 rfl ?_
      refine v_iconst dL_law_346 ?_
      refine v_laldX dL_law_347 (by exact (kp hB (by omega) 50 (by omega) (by omega)).trans aup_s) (show _ = gF y m d (gn a1.toNat) a2 from gup_s) ?_
      refine v_lload dL_law_348 rfl ?_
      refine v_lsame 356 dL_law_350 dL_law_351 ?_
      refine v_goto 1530 dL_law_356 ?_
      exact v_wid (kc' := kc + 8) (ks' := ks + 48) (by show kc + 2 + 0 + 0 ≤ kc + 8; omega) (by show ks + 12 + 0 + 0 ≤ ks + 48; omega) (v_lof [(0, .ref G.scr.1), (1, .ref (B 0)), (2, .ref (B 39)), (3, .ref (B 50)), (4, .ref (B 51)), (5, .int (iI i))] (List.forall_mem_cons.mpr ⟨rfl, (List.forall_mem_cons.mpr ⟨rfl, (List.forall_mem_cons.mpr ⟨rfl, (List.forall_mem_cons.mpr ⟨rfl, (List.forall_mem_cons.mpr ⟨rfl, (List.forall_mem_cons.mpr ⟨rfl, (fun _ h => nomatch h)⟩)⟩)⟩)⟩)⟩)⟩) (K _ (SS.of ((hc.o hB ⟨by omega, by omega⟩).o hB ⟨by omega, by omega⟩) (m1.md hB) ((ho.l hB).c hB (by omega)) hd)))
set_option maxRecDepth 100000 in
set_option maxHeartbeats 8000000 in
theorem lw_with {l : Launch} {G : GG} {Q : Option Value → AH → Prop} {X : String → AH → Prop} {B : Nat → Nat} {i : Int} {w : AH} {kc ks : Nat} (hst : l.stackTraces = false) (hB : iB B) (hi : 0 ≤ i ∧ i + 7 ≤ (G.scr.2.1 : Int)) (hL9 : G.scr.2.1 ≤ 448) (hk : kc ≤ 500000 ∧ ks ≤ 7000000) (h : SS G B w) (K : ∀ w' : AH, SS G B w' → V l G mL_law room_1 Q X 1530 (lof [(0, .ref G.scr.1), (1, .ref (B 0)), (2, .ref (B 39)), (3, .ref (B 50)), (4, .ref (B 51)), (5, .int (iI i))]) [] w' (kc + 8) (ks + 48)) : V l G mL_law room_1 Q X 359 (lof [(0, .ref G.scr.1), (1, .ref (B 0)), (2, .ref (B 39)), (3, .ref (B 50)), (4, .ref (B 51)), (5, .int (iI i))]) [] w kc ks := by
  obtain ⟨th, gd, gn, L, gl, fz, cz, rz, gm, go, ru, vF, vC, vM, vO, vK, vR, hc, hm, ho, hd⟩ := h
  have hgd := hc.gdr
  have hgn := hc.gnr
  obtain ⟨a1, e1⟩ : ∃ a : Int, scI G (i + 1).toNat = a := ⟨_, rfl⟩
  have r1 : -2147483648 ≤ a1 ∧ a1 ≤ 2147483647 := e1 ▸ scI_r G _
  obtain ⟨a2, e2⟩ : ∃ a : Int, scI G (i + 2).toNat = a := ⟨_, rfl⟩
  have r2 : -2147483648 ≤ a2 ∧ a2 ≤ 2147483647 := e2 ▸ scI_r G _
  obtain ⟨a3, e3⟩ : ∃ a : Int, scI G (i + 3).toNat = a := ⟨_, rfl⟩
  have r3 : -2147483648 ≤ a3 ∧ a3 ≤ 2147483647 := e3 ▸ scI_r G _
  obtain ⟨a4, e4⟩ : ∃ a : Int, scI G (i + 4).toNat = a := ⟨_, rfl⟩
  have r4 : -2147483648 ≤ a4 ∧ a4 ≤ 2147483647 := e4 ▸ scI_r G _
  obtain ⟨t, et⟩ : ∃ t : Int, mLg a3 a4 = t := ⟨_, rfl⟩
  have rt : -9223372036854775808 ≤ t ∧ t ≤ 9223372036854775807 := et ▸ mLg_r _ _
  obtain ⟨y, m, d, hE1⟩ := hc.pick a1
  refine v_aload_n dL_law_359 rfl ?_
  refine v_aload_n dL_law_360 rfl ?_
  refine v_iload dL_law_361 rfl ?_
  refine v_iconst dL_law_363 ?_
  refine v_iadd dL_law_364 ?_
  refine v_sldA (a := a1) dL_law_365 e1 ?_
  refine v_aload_n dL_law_366 rfl ?_
  refine v_iload dL_law_367 rfl ?_
  refine v_iconst dL_law_369 ?_
  refine v_iadd dL_law_370 ?_
  refine v_sldA (a := a2) dL_law_371 e2 ?_
  refine v_aload_n dL_law_372 rfl ?_
  refine v_iload dL_law_373 rfl ?_
  refine v_iconst dL_law_375 ?_
  refine v_iadd dL_law_376 ?_
  refine v_sldA (a := a3) dL_law_377 e3 ?_
  refine v_i2l dL_law_378 ?_
  refine v_bipush dL_law_379 ?_
  refine v_lshl dL_law_381 ?_
  refine v_aload_n dL_law_382 rfl ?_
  refine v_iload dL_law_383 rfl ?_
  refine v_iconst dL_law_385 ?_
  refine v_iadd dL_law_386 ?_
  refine v_sldA (a := a4) dL_law_387 e4 ?_
  refine v_i2l dL_law_388 ?_
  refine v_ldc2 4294967295 dL_law_389 kl_L_97 ?_
  refine v_land dL_law_392 ?_
  refine v_lorL (t := t) dL_law_393 et ?_
  refine v_SW4 (rm' := rL_with) dL_law_394 km_L_99 ks_L_with kz_L mk_L_with rfl ⟨Nat.le_of_ble_eq_true rfl, Nat.le_of_ble_eq_true rfl⟩ ⟨by show kc + 3 ≤ 600128; omega, by show ks + 18 ≤ 7301098; omega⟩ (Nat.le_of_ble_eq_true rfl) ?_
  refine s_L_with (sa := fun k => B (2 + k)) hst hc.1.1 hc.1.2.1 hc.sv r1 ?_ r2 rt ?_ ?_ ?_ ?_ ?_
  · intro g1
    have m1 := hm
    obtain ⟨yq, mq, dq, ap, wr, sz, gp, n0, n1, n2, nMA, n8, n9⟩ := id m1
    refine v_istore dL_law_397 (by decide) ?_
    refine v_aload_n dL_law_399 rfl ?_
    refine v_aload_n dL_law_400 rfl ?_
    refine v_iload dL_law_401 rfl ?_
    refine v_iconst dL_law_403 ?_
    refine v_iadd dL_law_404 ?_
    refine v_sldA (a := a1) dL_law_405 e1 ?_
    refine v_aload_n dL_law_406 rfl ?_
    refine v_iload dL_law_407 rfl ?_
    refine v_iconst dL_law_409 ?_
    refine v_iadd dL_law_410 ?_
    refine v_sldA (a := a2) dL_law_411 e2 ?_
    refine v_aload_n dL_law_412 rfl ?_
    refine v_iload dL_law_413 rfl ?_
    refine v_iconst dL_law_415 ?_
    refine v_iadd dL_law_416 ?_
    refine v_sldA (a := a3) dL_law_417 e3 ?_
    refine v_i2l dL_law_418 ?_
    refine v_bipush dL_law_419 ?_
    refine v_lshl dL_law_421 ?_
    refine v_aload_n dL_law_422 rfl ?_
    refine v_iload dL_law_423 rfl ?_
    refine v_iconst dL_law_425 ?_
    refine v_iadd dL_law_426 ?_
    refine v_sldA (a := a4) dL_law_427 e4 ?_
    refine v_i2l dL_law_428 ?_
    refine v_ldc2 4294967295 dL_law_429 kl_L_97 ?_
    refine v_land dL_law_432 ?_
    refine v_lorL (t := t) dL_law_433 et ?_
    refine v_V3 (rm' := rX7_with) (RX7, TX7, 18) dL_law_434 km_L_102 kn_X7_with kv_X7_with kz_X7 mk_X7_with rfl rfl (by exact n0) ⟨Nat.le_of_ble_eq_true rfl, Nat.le_of_ble_eq_true rfl⟩ ⟨by show kc + 3 + 0 ≤ 600128; omega, by show ks + 18 + 0 ≤ 7301098; omega⟩ (Nat.le_of_ble_eq_true rfl) ?_
    refine s_X7_with hst n0 n1 n2 (hA_of hB 0 1 (by omega) (by omega) (by omega)) hgd hgn r1 r2 rt (hV_of hE1) ?_ ?_ ?_ ?_ ?_ ?_
    · intro b1
      refine v_aload_n dL_law_437 rfl ?_
      refine v_V0 (rm' := rX7_thrown) (RX7, TX7, 18) dL_law_438 km_L_85 kn_X7_thrown kv_X7_thrown kz_X7 mk_X7_thrown rfl rfl (by exact aup_s) ⟨Nat.le_of_ble_eq_true rfl, Nat.le_of_ble_eq_true rfl⟩ ⟨by show kc + 3 + 0 + 0 ≤ 600128; omega, by show ks + 18 + 0 + 0 ≤ 7301098; omega⟩ (Nat.le_of_ble_eq_true rfl) ?_
      refine s_X7_thrown hst (aup_s) ?_
      refine v_iload dL_law_441 rfl ?_
      refine v_icmp_eq 448 dL_law_443 (fun h9 => ?_) (fun h9 => ?_)
      rotate_left
      · (exfalso; omega)
      refine v_goto 1530 dL_law_448 ?_
      exact v_wid (kc' := kc + 8) (ks' := ks + 48) (by show kc + 3 + 0 + 0 ≤ kc + 8; omega) (by show ks + 18 + 0 + 0 ≤ ks + 48; omega) (v_lof [(0, .ref G.scr.1), (1, .ref (B 0)), (2, .ref (B 39)), (3, .ref (B 50)), (4, .ref (B 51)), (5, .int (iI i))] (List.forall_mem_cons.mpr ⟨rfl, (List.forall_mem_cons.mpr ⟨rfl, (List.forall_mem_cons.mpr ⟨rfl, (List.forall_mem_cons.mpr ⟨rfl, (List.forall_mem_cons.mpr ⟨rfl, (List.forall_mem_cons.mpr ⟨rfl, (fun _ h => nomatch h)⟩)⟩)⟩)⟩)⟩)⟩) (K _ (SS.of (hc.o hB ⟨by omega, by omega⟩) (m1.md hB) (ho.c hB (by omega)) hd)))
    · intro b1 b2
      exfalso; first | omega | contradiction
    · intro q1 q2 q3 b1 b2 b3
      exfalso; first | omega | contradiction
    · intro q1 q2 q3 b1 b2 b3
      exfalso; first | omega | contradiction
    · intro q1 q2 q3 b1 b2 b3
      exfalso; first | omega | contradiction
    · intro q1 q2 q3 b1 b2 b3
      exfalso; first | omega | contradiction
  · intro g1 x1
    have m1 := hm
    obtain ⟨yq, mq, dq, ap, wr, sz, gp, n0, n1, n2, nMA, n8, n9⟩ := id m1
    refine v_istore dL_law_397 (by decide) ?_
    refine v_aload_n dL_law_399 rfl ?_
    refine v_aload_n dL_law_400 rfl ?_
    refine v_iload dL_law_401 rfl ?_
    refine v_iconst dL_law_403 ?_
    refine v_iadd dL_law_404 ?_
    refine v_sldA (a := a1) dL_law_405 e1 ?_
    refine v_aload_n dL_law_406 rfl ?_
    refine v_iload dL_law_407 rfl ?_
    refine v_iconst dL_law_409 ?_
    refine v_iadd dL_law_410 ?_
    refine v_sldA (a := a2) dL_law_411 e2 ?_
    refine v_aload_n dL_law_412 rfl ?_
    refine v_iload dL_law_413 rfl ?_
    refine v_iconst dL_law_415 ?_
    refine v_iadd dL_law_416 ?_
    refine v_sldA (a := a3) dL_law_417 e3 ?_
    refine v_i2l dL_law_418 ?_
    refine v_bipush dL_law_419 ?_
    refine v_lshl dL_law_421 ?_
    refine v_aload_n dL_law_422 rfl ?_
    refine v_iload dL_law_423 rfl ?_
    refine v_iconst dL_law_425 ?_
    refine v_iadd dL_law_426 ?_
    refine v_sldA (a := a4) dL_law_427 e4 ?_
    refine v_i2l dL_law_428 ?_
    refine v_ldc2 4294967295 dL_law_429 kl_L_97 ?_
    refine v_land dL_law_432 ?_
    refine v_lorL (t := t) dL_law_433 et ?_
    refine v_V3 (rm' := rX7_with) (RX7, TX7, 18) dL_law_434 km_L_102 kn_X7_with kv_X7_with kz_X7 mk_X7_with rfl rfl (by exact n0) ⟨Nat.le_of_ble_eq_true rfl, Nat.le_of_ble_eq_true rfl⟩ ⟨by show kc + 3 + 0 ≤ 600128; omega, by show ks + 18 + 0 ≤ 7301098; omega⟩ (Nat.le_of_ble_eq_true rfl) ?_
    refine s_X7_with hst n0 n1 n2 (hA_of hB 0 1 (by omega) (by omega) (by omega)) hgd hgn r1 r2 rt (hV_of hE1) ?_ ?_ ?_ ?_ ?_ ?_
    · intro b1
      exfalso; first | omega | contradiction
    · intro b1 b2
      refine v_aload_n dL_law_437 rfl ?_
      refine v_V0 (rm' := rX7_thrown) (RX7, TX7, 18) dL_law_438 km_L_85 kn_X7_thrown kv_X7_thrown kz_X7 mk_X7_thrown rfl rfl (by exact aup_s) ⟨Nat.le_of_ble_eq_true rfl, Nat.le_of_ble_eq_true rfl⟩ ⟨by show kc + 3 + 0 + 0 ≤ 600128; omega, by show ks + 18 + 0 + 0 ≤ 7301098; omega⟩ (Nat.le_of_ble_eq_true rfl) ?_
      refine s_X7_thrown hst (aup_s) ?_
      refine v_iload dL_law_441 rfl ?_
      refine v_icmp_eq 448 dL_law_443 (fun h9 => ?_) (fun h9 => ?_)
      rotate_left
      · (exfalso; omega)
      refine v_goto 1530 dL_law_448 ?_
      exact v_wid (kc' := kc + 8) (ks' := ks + 48) (by show kc + 3 + 0 + 0 ≤ kc + 8; omega) (by show ks + 18 + 0 + 0 ≤ ks + 48; omega) (v_lof [(0, .ref G.scr.1), (1, .ref (B 0)), (2, .ref (B 39)), (3, .ref (B 50)), (4, .ref (B 51)), (5, .int (iI i))] (List.forall_mem_cons.mpr ⟨rfl, (List.forall_mem_cons.mpr ⟨rfl, (List.forall_mem_cons.mpr ⟨rfl, (List.forall_mem_cons.mpr ⟨rfl, (List.forall_mem_cons.mpr ⟨rfl, (List.forall_mem_cons.mpr ⟨rfl, (fun _ h => nomatch h)⟩)⟩)⟩)⟩)⟩)⟩) (K _ (SS.of (hc.o hB ⟨by omega, by omega⟩) (m1.md hB) (ho.c hB (by omega)) hd)))
    · intro q1 q2 q3 b1 b2 b3
      exfalso; first | omega | contradiction
    · intro q1 q2 q3 b1 b2 b3
      exfalso; first | omega | contradiction
    · intro q1 q2 q3 b1 b2 b3
      exfalso; first | omega | contradiction
    · intro q1 q2 q3 b1 b2 b3
      exfalso; first | omega | contradiction
  · intro g1 x1 x2
    have m1 := hm
    obtain ⟨yq, mq, dq, ap, wr, sz, gp, n0, n1, n2, nMA, n8, n9⟩ := id m1
    refine v_istore dL_law_397 (by decide) ?_
    refine v_aload_n dL_law_399 rfl ?_
    refine v_aload_n dL_law_400 rfl ?_
    refine v_iload dL_law_401 rfl ?_
    refine v_iconst dL_law_403 ?_
    refine v_iadd dL_law_404 ?_
    refine v_sldA (a := a1) dL_law_405 e1 ?_
    refine v_aload_n dL_law_406 rfl ?_
    refine v_iload dL_law_407 rfl ?_
    refine v_iconst dL_law_409 ?_
    refine v_iadd dL_law_410 ?_
    refine v_sldA (a := a2) dL_law_411 e2 ?_
    refine v_aload_n dL_law_412 rfl ?_
    refine v_iload dL_law_413 rfl ?_
    refine v_iconst dL_law_415 ?_
    refine v_iadd dL_law_416 ?_
    refine v_sldA (a := a3) dL_law_417 e3 ?_
    refine v_i2l dL_law_418 ?_
    refine v_bipush dL_law_419 ?_
    refine v_lshl dL_law_421 ?_
    refine v_aload_n dL_law_422 rfl ?_
    refine v_iload dL_law_423 rfl ?_
    refine v_iconst dL_law_425 ?_
    refine v_iadd dL_law_426 ?_
    refine v_sldA (a := a4) dL_law_427 e4 ?_
    refine v_i2l dL_law_428 ?_
    refine v_ldc2 4294967295 dL_law_429 kl_L_97 ?_
    refine v_land dL_law_432 ?_
    refine v_lorL (t := t) dL_law_433 et ?_
    refine v_V3 (rm' := rX7_with) (RX7, TX7, 18) dL_law_434 km_L_102 kn_X7_with kv_X7_with kz_X7 mk_X7_with rfl rfl (by exact n0) ⟨Nat.le_of_ble_eq_true rfl, Nat.le_of_ble_eq_true rfl⟩ ⟨by show kc + 3 + 0 ≤ 600128; omega, by show ks + 18 + 0 ≤ 7301098; omega⟩ (Nat.le_of_ble_eq_true rfl) ?_
    refine s_X7_with hst n0 n1 n2 (hA_of hB 0 1 (by omega) (by omega) (by omega)) hgd hgn r1 r2 rt (hV_of hE1) ?_ ?_ ?_ ?_ ?_ ?_
    · intro b1
      exfalso; first | omega | contradiction
    · intro b1 b2
      exfalso; first | omega | contradiction
    · intro q1 q2 q3 b1 b2 b3
      refine v_aload_n dL_law_437 rfl ?_
      refine v_V0 (rm' := rX7_thrown) (RX7, TX7, 18) dL_law_438 km_L_85 kn_X7_thrown kv_X7_thrown kz_X7 mk_X7_thrown rfl rfl (by exact aup_s) ⟨Nat.le_of_ble_eq_true rfl, Nat.le_of_ble_eq_true rfl⟩ ⟨by show kc + 3 + 0 + 0 ≤ 600128; omega, by show ks + 18 + 0 + 0 ≤ 7301098; omega⟩ (Nat.le_of_ble_eq_true rfl) ?_
      refine s_X7_thrown hst (aup_s) ?_
      refine v_iload dL_law_441 rfl ?_
      refine v_icmp_eq 448 dL_law_443 (fun h9 => ?_) (fun h9 => ?_)
      rotate_left
      · (exfalso; omega)
      refine v_goto 1530 dL_law_448 ?_
      exact v_wid (kc' := kc + 8) (ks' := ks + 48) (by show kc + 3 + 0 + 0 ≤ kc + 8; omega) (by show ks + 18 + 0 + 0 ≤ ks + 48; omega) (v_lof [(0, .ref G.scr.1), (1, .ref (B 0)), (2, .ref (B 39)), (3, .ref (B 50)), (4, .ref (B 51)), (5, .int (iI i))] (List.forall_mem_cons.mpr ⟨rfl, (List.forall_mem_cons.mpr ⟨rfl, (List.forall_mem_cons.mpr ⟨rfl, (List.forall_mem_cons.mpr ⟨rfl, (List.forall_mem_cons.mpr ⟨rfl, (List.forall_mem_cons.mpr ⟨rfl, (fun _ h => nomatch h)⟩)⟩)⟩)⟩)⟩)⟩) (K _ (SS.of (hc.o hB ⟨by omega, by omega⟩) (m1.md hB) (ho.c hB (by omega)) hd)))
    · intro q1 q2 q3 b1 b2 b3
      exfalso; first | omega | contradiction
    · intro q1 q2 q3 b1 b2 b3
      exfalso; first | omega | contradiction
    · intro q1 q2 q3 b1 b2 b3
      exfalso; first | omega | contradiction
  · intro y9 m9 d9 n9 g1 g2 g3 g4 g5 g6 x1 x2
    obtain ⟨rfl, rfl, rfl, rfl⟩ := pkE_eq g1 hE1 g2 g3 g4 g5 g6
    have m1 := (hm.c hB (k := (2 + a1.toNat)) (e := stC y m d (gn a1.toNat + (t - gn a1.toNat / tS a2 % tC a2) * tS a2)) ⟨by omega, by omega⟩)
    obtain ⟨yq, mq, dq, ap, wr, sz, gp, n0, n1, n2, nMA, n8, n9⟩ := id m1
    refine v_istore dL_law_397 (by decide) ?_
    refine v_aload_n dL_law_399 rfl ?_
    refine v_aload_n dL_law_400 rfl ?_
    refine v_iload dL_law_401 rfl ?_
    refine v_iconst dL_law_403 ?_
    refine v_iadd dL_law_404 ?_
    refine v_sldA (a := a1) dL_law_405 e1 ?_
    refine v_aload_n dL_law_406 rfl ?_
    refine v_iload dL_law_407 rfl ?_
    refine v_iconst dL_law_409 ?_
    refine v_iadd dL_law_410 ?_
    refine v_sldA (a := a2) dL_law_411 e2 ?_
    refine v_aload_n dL_law_412 rfl ?_
    refine v_iload dL_law_413 rfl ?_
    refine v_iconst dL_law_415 ?_
    refine v_iadd dL_law_416 ?_
    refine v_sldA (a := a3) dL_law_417 e3 ?_
    refine v_i2l dL_law_418 ?_
    refine v_bipush dL_law_419 ?_
    refine v_lshl dL_law_421 ?_
    refine v_aload_n dL_law_422 rfl ?_
    refine v_iload dL_law_423 rfl ?_
    refine v_iconst dL_law_425 ?_
    refine v_iadd dL_law_426 ?_
    refine v_sldA (a := a4) dL_law_427 e4 ?_
    refine v_i2l dL_law_428 ?_
    refine v_ldc2 4294967295 dL_law_429 kl_L_97 ?_
    refine v_land dL_law_432 ?_
    refine v_lorL (t := t) dL_law_433 et ?_
    refine v_V3 (rm' := rX7_with) (RX7, TX7, 18) dL_law_434 km_L_102 kn_X7_with kv_X7_with kz_X7 mk_X7_with rfl rfl (by exact n0) ⟨Nat.le_of_ble_eq_true rfl, Nat.le_of_ble_eq_true rfl⟩ ⟨by show kc + 3 + 0 ≤ 600128; omega, by show ks + 18 + 0 ≤ 7301098; omega⟩ (Nat.le_of_ble_eq_true rfl) ?_
    refine s_X7_with hst n0 n1 n2 (hA_of hB 0 1 (by omega) (by omega) (by omega)) hgd hgn r1 r2 rt (hV_of hE1) ?_ ?_ ?_ ?_ ?_ ?_
    · intro b1
      exfalso; first | omega | contradiction
    · intro b1 b2
      exfalso; first | omega | contradiction
    · intro q1 q2 q3 b1 b2 b3
      exfalso; first | omega | contradiction
    · intro q1 q2 q3 b1 b2 b3
      refine v_aload_n dL_law_437 rfl ?_
      refine v_V0 (rm' := rX7_thrown) (RX7, TX7, 18) dL_law_438 km_L_85 kn_X7_thrown kv_X7_thrown kz_X7 mk_X7_thrown rfl rfl (by exact (kp hB (by omega) 39 (by omega) (by omega)).trans aup_s) ⟨Nat.le_of_ble_eq_true rfl, Nat.le_of_ble_eq_true rfl⟩ ⟨by show kc + 3 + 0 + 0 ≤ 600128; omega, by show ks + 18 + 0 + 0 ≤ 7301098; omega⟩ (Nat.le_of_ble_eq_true rfl) ?_
      refine s_X7_thrown hst ((kp hB (by omega) 39 (by omega) (by omega)).trans aup_s) ?_
      refine v_iload dL_law_441 rfl ?_
      refine v_icmp_eq 448 dL_law_443 (fun h9 => ?_) (fun h9 => ?_)
      rotate_left
      · (exfalso; omega)
      refine v_goto 1530 dL_law_448 ?_
      exact v_wid (kc' := kc + 8) (ks' := ks + 48) (by show kc + 3 + 0 + 0 ≤ kc + 8; omega) (by show ks + 18 + 0 + 0 ≤ ks + 48; omega) (v_lof [(0, .ref G.scr.1), (1, .ref (B 0)), (2, .ref (B 39)), (3, .ref (B 50)), (4, .ref (B 51)), (5, .int (iI i))] (List.forall_mem_cons.mpr ⟨rfl, (List.forall_mem_cons.mpr ⟨rfl, (List.forall_mem_cons.mpr ⟨rfl, (List.forall_mem_cons.mpr ⟨rfl, (List.forall_mem_cons.mpr ⟨rfl, (List.forall_mem_cons.mpr ⟨rfl, (fun _ h => nomatch h)⟩)⟩)⟩)⟩)⟩)⟩) (K _ (SS.of (((hc.sn hB (k := a1.toNat) (by omega) (hE1 g1).2.2.1 (hE1 g1).2.1 (with_n x1 x2 (hE1 g1).2.2.2) rfl).o hB ⟨by omega, by omega⟩).o hB ⟨by omega, by omega⟩) ((m1.md hB).n hB) (((ho.c hB (by omega)).c hB (by omega)).c hB (by omega)) hd)))
    · intro q1 q2 q3 b1 b2 b3
      exfalso; first | omega | contradiction
    · intro q1 q2 q3 b1 b2 b3
      exfalso; first | omega | contradiction
  · intro y9 m9 d9 n9 g1 g2 g3 g4 g5 g6 x1 x2
    obtain ⟨rfl, rfl, rfl, rfl⟩ := pkE_eq g1 hE1 g2 g3 g4 g5 g6
    have m1 := hm
    obtain ⟨yq, mq, dq, ap, wr, sz, gp, n0, n1, n2, nMA, n8, n9⟩ := id m1
    refine v_istore dL_law_397 (by decide) ?_
    refine v_aload_n dL_law_399 rfl ?_
    refine v_aload_n dL_law_400 rfl ?_
    refine v_iload dL_law_401 rfl ?_
    refine v_iconst dL_law_403 ?_
    refine v_iadd dL_law_404 ?_
    refine v_sldA (a := a1) dL_law_405 e1 ?_
    refine v_aload_n dL_law_406 rfl ?_
    refine v_iload dL_law_407 rfl ?_
    refine v_iconst dL_law_409 ?_
    refine v_iadd dL_law_410 ?_
    refine v_sldA (a := a2) dL_law_411 e2 ?_
    refine v_aload_n dL_law_412 rfl ?_
    refine v_iload dL_law_413 rfl ?_
    refine v_iconst dL_law_415 ?_
    refine v_iadd dL_law_416 ?_
    refine v_sldA (a := a3) dL_law_417 e3 ?_
    refine v_i2l dL_law_418 ?_
    refine v_bipush dL_law_419 ?_
    refine v_lshl dL_law_421 ?_
    refine v_aload_n dL_law_422 rfl ?_
    refine v_iload dL_law_423 rfl ?_
    refine v_iconst dL_law_425 ?_
    refine v_iadd dL_law_426 ?_
    refine v_sldA (a := a4) dL_law_427 e4 ?_
    refine v_i2l dL_law_428 ?_
    refine v_ldc2 4294967295 dL_law_429 kl_L_97 ?_
    refine v_land dL_law_432 ?_
    refine v_lorL (t := t) dL_law_433 et ?_
    refine v_V3 (rm' := rX7_with) (RX7, TX7, 18) dL_law_434 km_L_102 kn_X7_with kv_X7_with kz_X7 mk_X7_with rfl rfl (by exact n0) ⟨Nat.le_of_ble_eq_true rfl, Nat.le_of_ble_eq_true rfl⟩ ⟨by show kc + 3 + 0 ≤ 600128; omega, by show ks + 18 + 0 ≤ 7301098; omega⟩ (Nat.le_of_ble_eq_true rfl) ?_
    refine s_X7_with hst n0 n1 n2 (hA_of hB 0 1 (by omega) (by omega) (by omega)) hgd hgn r1 r2 rt (hV_of hE1) ?_ ?_ ?_ ?_ ?_ ?_
    · intro b1
      exfalso; first | omega | contradiction
    · intro b1 b2
      exfalso; first | omega | contradiction
    · intro q1 q2 q3 b1 b2 b3
      exfalso; first | omega | contradiction
    · intro q1 q2 q3 b1 b2 b3
      exfalso; first | omega | contradiction
    · intro q1 q2 q3 b1 b2 b3
      refine v_aload_n dL_law_437 rfl ?_
      refine v_V0 (rm' := rX7_thrown) (RX7, TX7, 18) dL_law_438 km_L_85 kn_X7_thrown kv_X7_thrown kz_X7 mk_X7_thrown rfl rfl (by exact aup_s) ⟨Nat.le_of_ble_eq_true rfl, Nat.le_of_ble_eq_true rfl⟩ ⟨by show kc + 3 + 0 + 0 ≤ 600128; omega, by show ks + 18 + 0 + 0 ≤ 7301098; omega⟩ (Nat.le_of_ble_eq_true rfl) ?_
      refine s_X7_thrown hst (aup_s) ?_
      refine v_iload dL_law_441 rfl ?_
      refine v_icmp_eq 448 dL_law_443 (fun h9 => ?_) (fun h9 => ?_)
      rotate_left
      · (exfalso; omega)
      refine v_goto 1530 dL_law_448 ?_
      exact v_wid (kc' := kc + 8) (ks' := ks + 48) (by show kc + 3 + 0 + 0 ≤ kc + 8; omega) (by show ks + 18 + 0 + 0 ≤ ks + 48; omega) (v_lof [(0, .ref G.scr.1), (1, .ref (B 0)), (2, .ref (B 39)), (3, .ref (B 50)), (4, .ref (B 51)), (5, .int (iI i))] (List.forall_mem_cons.mpr ⟨rfl, (List.forall_mem_cons.mpr ⟨rfl, (List.forall_mem_cons.mpr ⟨rfl, (List.forall_mem_cons.mpr ⟨rfl, (List.forall_mem_cons.mpr ⟨rfl, (List.forall_mem_cons.mpr ⟨rfl, (fun _ h => nomatch h)⟩)⟩)⟩)⟩)⟩)⟩) (K _ (SS.of (hc.o hB ⟨by omega, by omega⟩) (m1.md hB) (ho.c hB (by omega)) hd)))
    · intro q1 q2 q3 b1 b2 b3
      exfalso; first | omega | contradiction
  · intro y9 m9 d9 n9 g1 g2 g3 g4 g5 g6 x1 y7 m7 d7 v1 v2 v3 x2 x3
    obtain ⟨rfl, rfl, rfl, rfl⟩ := pkE_eq g1 hE1 g2 g3 g4 g5 g6
    have m1 := (hm.c hB (k := (2 + a1.toNat)) (e := stC y7 m7 d7 (gn a1.toNat)) ⟨by omega, by omega⟩)
    obtain ⟨yq, mq, dq, ap, wr, sz, gp, n0, n1, n2, nMA, n8, n9⟩ := id m1
    refine v_istore dL_law_397 (by decide) ?_
    refine v_aload_n dL_law_399 rfl ?_
    refine v_aload_n dL_law_400 rfl ?_
    refine v_iload dL_law_401 rfl ?_
    refine v_iconst dL_law_403 ?_
    refine v_iadd dL_law_404 ?_
    refine v_sldA (a := a1) dL_law_405 e1 ?_
    refine v_aload_n dL_law_406 rfl ?_
    refine v_iload dL_law_407 rfl ?_
    refine v_iconst dL_law_409 ?_
    refine v_iadd dL_law_410 ?_
    refine v_sldA (a := a2) dL_law_411 e2 ?_
    refine v_aload_n dL_law_412 rfl ?_
    refine v_iload dL_law_413 rfl ?_
    refine v_iconst dL_law_415 ?_
    refine v_iadd dL_law_416 ?_
    refine v_sldA (a := a3) dL_law_417 e3 ?_
    refine v_i2l dL_law_418 ?_
    refine v_bipush dL_law_419 ?_
    refine v_lshl dL_law_421 ?_
    refine v_aload_n dL_law_422 rfl ?_
    refine v_iload dL_law_423 rfl ?_
    refine v_iconst dL_law_425 ?_
    refine v_iadd dL_law_426 ?_
    refine v_sldA (a := a4) dL_law_427 e4 ?_
    refine v_i2l dL_law_428 ?_
    refine v_ldc2 4294967295 dL_law_429 kl_L_97 ?_
    refine v_land dL_law_432 ?_
    refine v_lorL (t := t) dL_law_433 et ?_
    refine v_V3 (rm' := rX7_with) (RX7, TX7, 18) dL_law_434 km_L_102 kn_X7_with kv_X7_with kz_X7 mk_X7_with rfl rfl (by exact n0) ⟨Nat.le_of_ble_eq_true rfl, Nat.le_of_ble_eq_true rfl⟩ ⟨by show kc + 3 + 0 ≤ 600128; omega, by show ks + 18 + 0 ≤ 7301098; omega⟩ (Nat.le_of_ble_eq_true rfl) ?_
    refine s_X7_with hst n0 n1 n2 (hA_of hB 0 1 (by omega) (by omega) (by omega)) hgd hgn r1 r2 rt (hV_of hE1) ?_ ?_ ?_ ?_ ?_ ?_
    · intro b1
      exfalso; first | omega | contradiction
    · intro b1 b2
      exfalso; first | omega | contradiction
    · intro q1 q2 q3 b1 b2 b3
      exfalso; first | omega | contradiction
    · intro q1 q2 q3 b1 b2 b3
      exfalso; first | omega | contradiction
    · intro q1 q2 q3 b1 b2 b3
      exfalso; first | omega | contradiction
    · intro q1 q2 q3 b1 b2 b3
      refine v_aload_n dL_law_437 rfl ?_
      refine v_V0 (rm' := rX7_thrown) (RX7, TX7, 18) dL_law_438 km_L_85 kn_X7_thrown kv_X7_thrown kz_X7 mk_X7_thrown rfl rfl (by exact (kp hB (by omega) 39 (by omega) (by omega)).trans aup_s) ⟨Nat.le_of_ble_eq_true rfl, Nat.le_of_ble_eq_true rfl⟩ ⟨by show kc + 3 + 0 + 0 ≤ 600128; omega, by show ks + 18 + 0 + 0 ≤ 7301098; omega⟩ (Nat.le_of_ble_eq_true rfl) ?_
      refine s_X7_thrown hst ((kp hB (by omega) 39 (by omega) (by omega)).trans aup_s) ?_
      refine v_iload dL_law_441 rfl ?_
      refine v_icmp_eq 448 dL_law_443 (fun h9 => ?_) (fun h9 => ?_)
      rotate_left
      · (exfalso; omega)
      refine v_goto 1530 dL_law_448 ?_
      exact v_wid (kc' := kc + 8) (ks' := ks + 48) (by show kc + 3 + 0 + 0 ≤ kc + 8; omega) (by show ks + 18 + 0 + 0 ≤ ks + 48; omega) (v_lof [(0, .ref G.scr.1), (1, .ref (B 0)), (2, .ref (B 39)), (3, .ref (B 50)), (4, .ref (B 51)), (5, .int (iI i))] (List.forall_mem_cons.mpr ⟨rfl, (List.forall_mem_cons.mpr ⟨rfl, (List.forall_mem_cons.mpr ⟨rfl, (List.forall_mem_cons.mpr ⟨rfl, (List.forall_mem_cons.mpr ⟨rfl, (List.forall_mem_cons.mpr ⟨rfl, (fun _ h => nomatch h)⟩)⟩)⟩)⟩)⟩)⟩) (K _ (SS.of (((hc.sd hB (k := a1.toNat) (by omega) ⟨v1, v2, v3⟩ rfl x2).o hB ⟨by omega, by omega⟩).o hB ⟨by omega, by omega⟩) ((m1.md hB).d hB) (((ho.c hB (by omega)).c hB (by omega)).c hB (by omega)) hd)))
