set_option maxRecDepth 100000 in
set_option maxHeartbeats 1000000 in
theorem txt_290 {l : Launch} {G : GG} {w : AH} {Q : Option Value → AH → Prop} {X : String → AH → Prop} (hst : l.stackTraces = false) {z : Nat} {A : Nat → Nat} {th yq mq dq ty ap wr sz : Int} (h0 : w z = some (mdC A th yq mq dq ty ap wr sz)) {gd gn : Nat → Int} (h1 : w (A 0) = some (alA G 8 gd)) (h2 : w (A 1) = some (alA G 8 gn)) (hA01 : A 0 ≠ A 1) {gp : Nat → Int} (h9 : w (A 9) = some (aiA G 40 gp)) (n09 : A 0 ≠ A 9) (n19 : A 1 ≠ A 9) {i k y m d n : Int} (h7 : 0 ≤ i ∧ i ≤ 7) (hk : 0 ≤ k ∧ k ≤ 2147483647) (hy : -9999 ≤ y ∧ y ≤ 9999) (hm : 1 ≤ m ∧ m ≤ 12) (hd : 1 ≤ d ∧ d ≤ 31) (hn : 0 ≤ n ∧ n ≤ 86399999999999) (en : gn i.toNat = n) (hQ : Q (some (.int (iI (if k < (tTxt y m d n (0, gp)).1 then (tTxt y m d n (0, gp)).2 k.toNat else -1)))) (NH G w z A 0 y m d ty ap wr (tTxt y m d n (0, gp)))) : ∀ s : TS, tTxt y m d n (0, gp) = s → V l G mX7_text rX7_text Q X 290 (lof [(0, .ref z), (1, .int (iI i)), (2, .int (iI k))]) [] (NH G w z A 0 y m d ty ap wr (s)) 0 0 := by
  have nz0 : A 0 ≠ z := fun e => ne_of h0 h1 mdal e.symm
  have nz1 : A 1 ≠ z := fun e => ne_of h0 h2 mdal e.symm
  have n9 : A 9 ≠ z := fun e => ne_of h0 h9 mdai e.symm
  intro s hs
  have hsz := tTxt_le (y := y) (m := m) (d := d) (g := gp) hn
  rw [hs] at hsz hQ
  refine v_iload_n dX7_text_290 rfl ?_
  refine v_aload_n dX7_text_291 rfl ?_
  refine v_get dX7_text_292 f_X7_284 (by exact nh_z) rfl ?_
  refine v_icmp_ge 307 dX7_text_295 (fun h_295 => ?_) (fun h_295 => ?_)
  · refine v_iconst dX7_text_307 ?_
    exact v_iret dX7_text_308 rfl (by first | (have g9 : k < ((s.1 : Nat) : Int) := (by omega); exact qi hQ (by rw [if_pos g9])) | (have g9 : ¬ k < ((s.1 : Nat) : Int) := (by omega); exact qi hQ (by rw [if_neg g9])))
  · refine v_aload_n dX7_text_298 rfl ?_
    refine v_get dX7_text_299 f_X7_38 (by exact nh_z) rfl ?_
    refine v_iload_n dX7_text_302 rfl ?_
    refine v_iald dX7_text_303 (by exact nh_a n9) ?_
    refine v_goto 308 dX7_text_304 ?_
    exact v_iret dX7_text_308 rfl (by first | (have g9 : k < ((s.1 : Nat) : Int) := (by omega); exact qi hQ (by rw [if_pos g9])) | (have g9 : ¬ k < ((s.1 : Nat) : Int) := (by omega); exact qi hQ (by rw [if_neg g9])))
set_option maxRecDepth 100000 in
set_option maxHeartbeats 1000000 in
theorem txt_161 {l : Launch} {G : GG} {w : AH} {Q : Option Value → AH → Prop} {X : String → AH → Prop} (hst : l.stackTraces = false) {z : Nat} {A : Nat → Nat} {th yq mq dq ty ap wr sz : Int} (h0 : w z = some (mdC A th yq mq dq ty ap wr sz)) {gd gn : Nat → Int} (h1 : w (A 0) = some (alA G 8 gd)) (h2 : w (A 1) = some (alA G 8 gn)) (hA01 : A 0 ≠ A 1) {gp : Nat → Int} (h9 : w (A 9) = some (aiA G 40 gp)) (n09 : A 0 ≠ A 9) (n19 : A 1 ≠ A 9) {i k y m d n : Int} (h7 : 0 ≤ i ∧ i ≤ 7) (hk : 0 ≤ k ∧ k ≤ 2147483647) (hy : -9999 ≤ y ∧ y ≤ 9999) (hm : 1 ≤ m ∧ m ≤ 12) (hd : 1 ≤ d ∧ d ≤ 31) (hn : 0 ≤ n ∧ n ≤ 86399999999999) (en : gn i.toNat = n) (hQ : Q (some (.int (iI (if k < (tTxt y m d n (0, gp)).1 then (tTxt y m d n (0, gp)).2 k.toNat else -1)))) (NH G w z A 0 y m d ty ap wr (tTxt y m d n (0, gp)))) : ∀ s : TS, tSec n s = tTxt y m d n (0, gp) → s.1 ≤ 17 → V l G mX7_text rX7_text Q X 161 (lof [(0, .ref z), (1, .int (iI i)), (2, .int (iI k)), (3, .long (lI n))]) [] (NH G w z A 0 y m d ty ap wr (s)) 0 0 := by
  have nz0 : A 0 ≠ z := fun e => ne_of h0 h1 mdal e.symm
  have nz1 : A 1 ≠ z := fun e => ne_of h0 h2 mdal e.symm
  have n9 : A 9 ≠ z := fun e => ne_of h0 h9 mdai e.symm
  intro s hs hs1
  refine v_lload_n dX7_text_161 rfl ?_
  refine v_ldc2 (1000000000) dX7_text_162 kl_X7_134 ?_
  refine v_lremP dX7_text_165 ?_
  refine v_lstore dX7_text_166 (by decide) ?_
  refine v_lload_n dX7_text_168 rfl ?_
  refine v_bipush dX7_text_169 ?_
  refine v_S2 (rm' := rX7_timed) dX7_text_171 km_X7_142 ks_X7_timed kz_X7 mk_X7_timed rfl ⟨Nat.le_of_ble_eq_true rfl, Nat.le_of_ble_eq_true rfl⟩ ⟨Nat.le_of_ble_eq_true rfl, Nat.le_of_ble_eq_true rfl⟩ (Nat.le_of_ble_eq_true rfl) ?_
  refine s_X7_timed (y := y) (m := m) (d := d) hst (by omega) hn ?_
  rw [show gF y m d n 8 = n / 1000000000 % 60 from rfl]
  refine v_lconst0 dX7_text_174 ?_
  refine v_lif_gt 186 dX7_text_175 dX7_text_176 (fun h_175 => ?_) (fun h_175 => ?_)
  · refine v_aload_n dX7_text_186 rfl ?_
    refine v_bipush dX7_text_187 ?_
    refine v_V1 (rm' := rX7_put) (RX7, TX7, 18) dX7_text_189 km_X7_287 kn_X7_put kv_X7_put kz_X7 mk_X7_put rfl rfl (by exact nh_z) ⟨Nat.le_of_ble_eq_true rfl, Nat.le_of_ble_eq_true rfl⟩ ⟨Nat.le_of_ble_eq_true rfl, Nat.le_of_ble_eq_true rfl⟩ (Nat.le_of_ble_eq_true rfl) ?_
    refine s_X7_put hst n9 (by (try simp only [tDg_1, tCh_1]); omega) ?_
    refine v_aload_n dX7_text_192 rfl ?_
    refine v_lload_n dX7_text_193 rfl ?_
    refine v_bipush dX7_text_194 ?_
    refine v_S2 (rm' := rX7_timed) dX7_text_196 km_X7_142 ks_X7_timed kz_X7 mk_X7_timed rfl ⟨Nat.le_of_ble_eq_true rfl, Nat.le_of_ble_eq_true rfl⟩ ⟨Nat.le_of_ble_eq_true rfl, Nat.le_of_ble_eq_true rfl⟩ (Nat.le_of_ble_eq_true rfl) ?_
    refine s_X7_timed (y := y) (m := m) (d := d) hst (by omega) hn ?_
    rw [show gF y m d n 8 = n / 1000000000 % 60 from rfl]
    refine v_iconst dX7_text_199 ?_
    refine v_V2 (rm' := rX7_number) (RX7, TX7, 18) dX7_text_200 km_X7_290 kn_X7_number kv_X7_number kz_X7 mk_X7_number rfl rfl (by exact nh_z) ⟨Nat.le_of_ble_eq_true rfl, Nat.le_of_ble_eq_true rfl⟩ ⟨Nat.le_of_ble_eq_true rfl, Nat.le_of_ble_eq_true rfl⟩ (Nat.le_of_ble_eq_true rfl) ?_
    refine s_X7_number hst n9 (v := n / 1000000000 % 60) (by omega) (n := 2) (by omega) (by (try simp only [tDg_1, tCh_1]); omega) ?_
    refine v_lload dX7_text_203 rfl ?_
    refine v_lconst0 dX7_text_205 ?_
    refine v_lif_le 290 dX7_text_206 dX7_text_207 (fun h_206 => ?_) (fun h_206 => ?_)
    · first
      | (exfalso; omega)
      | (have g9 : n % 60000000000 = 0 := (by omega)
         exact v_lof [(0, .ref z), (1, .int (iI i)), (2, .int (iI k))] (List.forall_mem_cons.mpr ⟨rfl, (List.forall_mem_cons.mpr ⟨rfl, (List.forall_mem_cons.mpr ⟨rfl, (fun _ h => nomatch h)⟩)⟩)⟩) (txt_290 hst h0 h1 h2 hA01 h9 n09 n19 h7 hk hy hm hd hn en hQ _ (hs.symm.trans (by unfold tSec; rw [if_pos g9]))))
      | (have g9 : n % 60000000000 ≠ 0 ∧ n % 1000000000 = 0 := (by omega)
         exact v_lof [(0, .ref z), (1, .int (iI i)), (2, .int (iI k))] (List.forall_mem_cons.mpr ⟨rfl, (List.forall_mem_cons.mpr ⟨rfl, (List.forall_mem_cons.mpr ⟨rfl, (fun _ h => nomatch h)⟩)⟩)⟩) (txt_290 hst h0 h1 h2 hA01 h9 n09 n19 h7 hk hy hm hd hn en hQ _ (hs.symm.trans (by unfold tSec tFr; rw [show n / 1 % 1000000000 = n % 1000000000 by omega]; rw [if_neg g9.1, if_pos g9.2]))))
    · first
      | (exfalso; omega)
      | (have hsec : ¬ n % 60000000000 = 0 := (by omega)
         rcases (show n % 1000000000 % 1000000 = 0 ∨ (n % 1000000000 % 1000000 ≠ 0 ∧ n % 1000000000 % 1000 = 0) ∨ (n % 1000000000 % 1000000 ≠ 0 ∧ ¬ n % 1000000000 % 1000 = 0) by omega) with g9 | ⟨g8, g9⟩ | ⟨g8, g9⟩
         · refine v_aload_n dX7_text_210 rfl ?_
           refine v_bipush dX7_text_211 ?_
           refine v_V1 (rm' := rX7_put) (RX7, TX7, 18) dX7_text_213 km_X7_287 kn_X7_put kv_X7_put kz_X7 mk_X7_put rfl rfl (by exact nh_z) ⟨Nat.le_of_ble_eq_true rfl, Nat.le_of_ble_eq_true rfl⟩ ⟨Nat.le_of_ble_eq_true rfl, Nat.le_of_ble_eq_true rfl⟩ (Nat.le_of_ble_eq_true rfl) ?_
           refine s_X7_put hst n9 (by (try simp only [tDg_1, tCh_1]); omega) ?_
           refine v_lload dX7_text_216 rfl ?_
           refine v_ldc2 (1000000) dX7_text_218 kl_X7_156 ?_
           refine v_lremP dX7_text_221 ?_
           refine v_lconst0 dX7_text_222 ?_
           refine v_lif_ne 231 dX7_text_223 dX7_text_224 (fun h_223 => ?_) (fun h_223 => ?_)
           · (exfalso; omega)
           refine v_iconst dX7_text_227 ?_
           refine v_goto 249 dX7_text_228 ?_
           refine v_istore dX7_text_249 (by decide) ?_
           refine v_aload_n dX7_text_251 rfl ?_
           refine v_iload dX7_text_252 rfl ?_
           refine v_iconst dX7_text_254 ?_
           refine v_icmp_ne 267 dX7_text_255 (fun h_255 => ?_) (fun h_255 => ?_)
           · (exfalso; omega)
           refine v_lload dX7_text_258 rfl ?_
           refine v_ldc2 (1000000) dX7_text_260 kl_X7_156 ?_
           refine v_ldivP dX7_text_263 ?_
           refine v_goto 285 dX7_text_264 ?_
           refine v_iload dX7_text_285 rfl ?_
           refine v_V2 (rm' := rX7_number) (RX7, TX7, 18) dX7_text_287 km_X7_290 kn_X7_number kv_X7_number kz_X7 mk_X7_number rfl rfl (by exact nh_z) ⟨Nat.le_of_ble_eq_true rfl, Nat.le_of_ble_eq_true rfl⟩ ⟨Nat.le_of_ble_eq_true rfl, Nat.le_of_ble_eq_true rfl⟩ (Nat.le_of_ble_eq_true rfl) ?_
           refine s_X7_number hst n9 (v := n % 1000000000 / 1000000) (by omega) (n := 3) (by omega) (by (try simp only [tDg_1, tCh_1]); omega) ?_
           exact v_lof [(0, .ref z), (1, .int (iI i)), (2, .int (iI k))] (List.forall_mem_cons.mpr ⟨rfl, (List.forall_mem_cons.mpr ⟨rfl, (List.forall_mem_cons.mpr ⟨rfl, (fun _ h => nomatch h)⟩)⟩)⟩) (txt_290 hst h0 h1 h2 hA01 h9 n09 n19 h7 hk hy hm hd hn en hQ _ (hs.symm.trans (by unfold tSec tFr; rw [show n / 1 % 1000000000 = n % 1000000000 by omega]; rw [if_neg hsec, if_neg (by omega), if_pos g9])))
         · refine v_aload_n dX7_text_210 rfl ?_
           refine v_bipush dX7_text_211 ?_
           refine v_V1 (rm' := rX7_put) (RX7, TX7, 18) dX7_text_213 km_X7_287 kn_X7_put kv_X7_put kz_X7 mk_X7_put rfl rfl (by exact nh_z) ⟨Nat.le_of_ble_eq_true rfl, Nat.le_of_ble_eq_true rfl⟩ ⟨Nat.le_of_ble_eq_true rfl, Nat.le_of_ble_eq_true rfl⟩ (Nat.le_of_ble_eq_true rfl) ?_
           refine s_X7_put hst n9 (by (try simp only [tDg_1, tCh_1]); omega) ?_
           refine v_lload dX7_text_216 rfl ?_
           refine v_ldc2 (1000000) dX7_text_218 kl_X7_156 ?_
           refine v_lremP dX7_text_221 ?_
           refine v_lconst0 dX7_text_222 ?_
           refine v_lif_ne 231 dX7_text_223 dX7_text_224 (fun h_223 => ?_) (fun h_223 => ?_)
           rotate_left
           · (exfalso; omega)
           refine v_lload dX7_text_231 rfl ?_
           refine v_ldc2 (1000) dX7_text_233 kl_X7_175 ?_
           refine v_lremP dX7_text_236 ?_
           refine v_lconst0 dX7_text_237 ?_
           refine v_lif_ne 247 dX7_text_238 dX7_text_239 (fun h_238 => ?_) (fun h_238 => ?_)
           · (exfalso; omega)
           refine v_bipush dX7_text_242 ?_
           refine v_goto 249 dX7_text_244 ?_
           refine v_istore dX7_text_249 (by decide) ?_
           refine v_aload_n dX7_text_251 rfl ?_
           refine v_iload dX7_text_252 rfl ?_
           refine v_iconst dX7_text_254 ?_
           refine v_icmp_ne 267 dX7_text_255 (fun h_255 => ?_) (fun h_255 => ?_)
           rotate_left
           · (exfalso; omega)
           refine v_iload dX7_text_267 rfl ?_
           refine v_bipush dX7_text_269 ?_
           refine v_icmp_ne 283 dX7_text_271 (fun h_271 => ?_) (fun h_271 => ?_)
           · (exfalso; omega)
           refine v_lload dX7_text_274 rfl ?_
           refine v_ldc2 (1000) dX7_text_276 kl_X7_175 ?_
           refine v_ldivP dX7_text_279 ?_
           refine v_goto 285 dX7_text_280 ?_
           refine v_iload dX7_text_285 rfl ?_
           refine v_V2 (rm' := rX7_number) (RX7, TX7, 18) dX7_text_287 km_X7_290 kn_X7_number kv_X7_number kz_X7 mk_X7_number rfl rfl (by exact nh_z) ⟨Nat.le_of_ble_eq_true rfl, Nat.le_of_ble_eq_true rfl⟩ ⟨Nat.le_of_ble_eq_true rfl, Nat.le_of_ble_eq_true rfl⟩ (Nat.le_of_ble_eq_true rfl) ?_
           refine s_X7_number hst n9 (v := n % 1000000000 / 1000) (by omega) (n := 6) (by omega) (by (try simp only [tDg_1, tCh_1]); omega) ?_
           exact v_lof [(0, .ref z), (1, .int (iI i)), (2, .int (iI k))] (List.forall_mem_cons.mpr ⟨rfl, (List.forall_mem_cons.mpr ⟨rfl, (List.forall_mem_cons.mpr ⟨rfl, (fun _ h => nomatch h)⟩)⟩)⟩) (txt_290 hst h0 h1 h2 hA01 h9 n09 n19 h7 hk hy hm hd hn en hQ _ (hs.symm.trans (by unfold tSec tFr; rw [show n / 1 % 1000000000 = n % 1000000000 by omega]; rw [if_neg hsec, if_neg (by omega), if_neg (by omega), if_pos g9])))
         · refine v_aload_n dX7_text_210 rfl ?_
           refine v_bipush dX7_text_211 ?_
           refine v_V1 (rm' := rX7_put) (RX7, TX7, 18) dX7_text_213 km_X7_287 kn_X7_put kv_X7_put kz_X7 mk_X7_put rfl rfl (by exact nh_z) ⟨Nat.le_of_ble_eq_true rfl, Nat.le_of_ble_eq_true rfl⟩ ⟨Nat.le_of_ble_eq_true rfl, Nat.le_of_ble_eq_true rfl⟩ (Nat.le_of_ble_eq_true rfl) ?_
           refine s_X7_put hst n9 (by (try simp only [tDg_1, tCh_1]); omega) ?_
           refine v_lload dX7_text_216 rfl ?_
           refine v_ldc2 (1000000) dX7_text_218 kl_X7_156 ?_
           refine v_lremP dX7_text_221 ?_
           refine v_lconst0 dX7_text_222 ?_
           refine v_lif_ne 231 dX7_text_223 dX7_text_224 (fun h_223 => ?_) (fun h_223 => ?_)
           rotate_left
           · (exfalso; omega)
           refine v_lload dX7_text_231 rfl ?_
           refine v_ldc2 (1000) dX7_text_233 kl_X7_175 ?_
           refine v_lremP dX7_text_236 ?_
           refine v_lconst0 dX7_text_237 ?_
           refine v_lif_ne 247 dX7_text_238 dX7_text_239 (fun h_238 => ?_) (fun h_238 => ?_)
           rotate_left
           · (exfalso; omega)
           refine v_bipush dX7_text_247 ?_
           refine v_istore dX7_text_249 (by decide) ?_
           refine v_aload_n dX7_text_251 rfl ?_
           refine v_iload dX7_text_252 rfl ?_
           refine v_iconst dX7_text_254 ?_
           refine v_icmp_ne 267 dX7_text_255 (fun h_255 => ?_) (fun h_255 => ?_)
           rotate_left
           · (exfalso; omega)
           refine v_iload dX7_text_267 rfl ?_
           refine v_bipush dX7_text_269 ?_
           refine v_icmp_ne 283 dX7_text_271 (fun h_271 => ?_) (fun h_271 => ?_)
           rotate_left
           · (exfalso; omega)
           refine v_lload dX7_text_283 rfl ?_
           refine v_iload dX7_text_285 rfl ?_
           refine v_V2 (rm' := rX7_number) (RX7, TX7, 18) dX7_text_287 km_X7_290 kn_X7_number kv_X7_number kz_X7 mk_X7_number rfl rfl (by exact nh_z) ⟨Nat.le_of_ble_eq_true rfl, Nat.le_of_ble_eq_true rfl⟩ ⟨Nat.le_of_ble_eq_true rfl, Nat.le_of_ble_eq_true rfl⟩ (Nat.le_of_ble_eq_true rfl) ?_
           refine s_X7_number hst n9 (v := n % 1000000000) (by omega) (n := 9) (by omega) (by (try simp only [tDg_1, tCh_1]); omega) ?_
           exact v_lof [(0, .ref z), (1, .int (iI i)), (2, .int (iI k))] (List.forall_mem_cons.mpr ⟨rfl, (List.forall_mem_cons.mpr ⟨rfl, (List.forall_mem_cons.mpr ⟨rfl, (fun _ h => nomatch h)⟩)⟩)⟩) (txt_290 hst h0 h1 h2 hA01 h9 n09 n19 h7 hk hy hm hd hn en hQ _ (hs.symm.trans (by unfold tSec tFr; rw [show n / 1 % 1000000000 = n % 1000000000 by omega]; rw [if_neg hsec, if_neg (by omega), if_neg (by omega), if_neg g9]))))
  · refine v_lload dX7_text_179 rfl ?_
    refine v_lconst0 dX7_text_181 ?_
    refine v_lif_le 203 dX7_text_182 dX7_text_183 (fun h_182 => ?_) (fun h_182 => ?_)
    · refine v_lload dX7_text_203 rfl ?_
      refine v_lconst0 dX7_text_205 ?_
      refine v_lif_le 290 dX7_text_206 dX7_text_207 (fun h_206 => ?_) (fun h_206 => ?_)
      · first
        | (exfalso; omega)
        | (have g9 : n % 60000000000 = 0 := (by omega)
           exact v_lof [(0, .ref z), (1, .int (iI i)), (2, .int (iI k))] (List.forall_mem_cons.mpr ⟨rfl, (List.forall_mem_cons.mpr ⟨rfl, (List.forall_mem_cons.mpr ⟨rfl, (fun _ h => nomatch h)⟩)⟩)⟩) (txt_290 hst h0 h1 h2 hA01 h9 n09 n19 h7 hk hy hm hd hn en hQ _ (hs.symm.trans (by unfold tSec; rw [if_pos g9]))))
        | (have g9 : n % 60000000000 ≠ 0 ∧ n % 1000000000 = 0 := (by omega)
           exact v_lof [(0, .ref z), (1, .int (iI i)), (2, .int (iI k))] (List.forall_mem_cons.mpr ⟨rfl, (List.forall_mem_cons.mpr ⟨rfl, (List.forall_mem_cons.mpr ⟨rfl, (fun _ h => nomatch h)⟩)⟩)⟩) (txt_290 hst h0 h1 h2 hA01 h9 n09 n19 h7 hk hy hm hd hn en hQ _ (hs.symm.trans (by unfold tSec tFr; rw [show n / 1 % 1000000000 = n % 1000000000 by omega]; rw [if_neg g9.1, if_pos g9.2]))))
      · first
        | (exfalso; omega)
        | (have hsec : ¬ n % 60000000000 = 0 := (by omega)
           rcases (show n % 1000000000 % 1000000 = 0 ∨ (n % 1000000000 % 1000000 ≠ 0 ∧ n % 1000000000 % 1000 = 0) ∨ (n % 1000000000 % 1000000 ≠ 0 ∧ ¬ n % 1000000000 % 1000 = 0) by omega) with g9 | ⟨g8, g9⟩ | ⟨g8, g9⟩
           · refine v_aload_n dX7_text_210 rfl ?_
             refine v_bipush dX7_text_211 ?_
             refine v_V1 (rm' := rX7_put) (RX7, TX7, 18) dX7_text_213 km_X7_287 kn_X7_put kv_X7_put kz_X7 mk_X7_put rfl rfl (by exact nh_z) ⟨Nat.le_of_ble_eq_true rfl, Nat.le_of_ble_eq_true rfl⟩ ⟨Nat.le_of_ble_eq_true rfl, Nat.le_of_ble_eq_true rfl⟩ (Nat.le_of_ble_eq_true rfl) ?_
             refine s_X7_put hst n9 (by (try simp only [tDg_1, tCh_1]); omega) ?_
             refine v_lload dX7_text_216 rfl ?_
             refine v_ldc2 (1000000) dX7_text_218 kl_X7_156 ?_
             refine v_lremP dX7_text_221 ?_
             refine v_lconst0 dX7_text_222 ?_
             refine v_lif_ne 231 dX7_text_223 dX7_text_224 (fun h_223 => ?_) (fun h_223 => ?_)
             · (exfalso; omega)
             refine v_iconst dX7_text_227 ?_
             refine v_goto 249 dX7_text_228 ?_
             refine v_istore dX7_text_249 (by decide) ?_
             refine v_aload_n dX7_text_251 rfl ?_
             refine v_iload dX7_text_252 rfl ?_
             refine v_iconst dX7_text_254 ?_
             refine v_icmp_ne 267 dX7_text_255 (fun h_255 => ?_) (fun h_255 => ?_)
             · (exfalso; omega)
             refine v_lload dX7_text_258 rfl ?_
             refine v_ldc2 (1000000) dX7_text_260 kl_X7_156 ?_
             refine v_ldivP dX7_text_263 ?_
             refine v_goto 285 dX7_text_264 ?_
             refine v_iload dX7_text_285 rfl ?_
             refine v_V2 (rm' := rX7_number) (RX7, TX7, 18) dX7_text_287 km_X7_290 kn_X7_number kv_X7_number kz_X7 mk_X7_number rfl rfl (by exact nh_z) ⟨Nat.le_of_ble_eq_true rfl, Nat.le_of_ble_eq_true rfl⟩ ⟨Nat.le_of_ble_eq_true rfl, Nat.le_of_ble_eq_true rfl⟩ (Nat.le_of_ble_eq_true rfl) ?_
             refine s_X7_number hst n9 (v := n % 1000000000 / 1000000) (by omega) (n := 3) (by omega) (by (try simp only [tDg_1, tCh_1]); omega) ?_
             exact v_lof [(0, .ref z), (1, .int (iI i)), (2, .int (iI k))] (List.forall_mem_cons.mpr ⟨rfl, (List.forall_mem_cons.mpr ⟨rfl, (List.forall_mem_cons.mpr ⟨rfl, (fun _ h => nomatch h)⟩)⟩)⟩) (txt_290 hst h0 h1 h2 hA01 h9 n09 n19 h7 hk hy hm hd hn en hQ _ (hs.symm.trans (by unfold tSec tFr; rw [show n / 1 % 1000000000 = n % 1000000000 by omega]; rw [if_neg hsec, if_neg (by omega), if_pos g9])))
           · refine v_aload_n dX7_text_210 rfl ?_
             refine v_bipush dX7_text_211 ?_
             refine v_V1 (rm' := rX7_put) (RX7, TX7, 18) dX7_text_213 km_X7_287 kn_X7_put kv_X7_put kz_X7 mk_X7_put rfl rfl (by exact nh_z) ⟨Nat.le_of_ble_eq_true rfl, Nat.le_of_ble_eq_true rfl⟩ ⟨Nat.le_of_ble_eq_true rfl, Nat.le_of_ble_eq_true rfl⟩ (Nat.le_of_ble_eq_true rfl) ?_
             refine s_X7_put hst n9 (by (try simp only [tDg_1, tCh_1]); omega) ?_
             refine v_lload dX7_text_216 rfl ?_
             refine v_ldc2 (1000000) dX7_text_218 kl_X7_156 ?_
             refine v_lremP dX7_text_221 ?_
             refine v_lconst0 dX7_text_222 ?_
             refine v_lif_ne 231 dX7_text_223 dX7_text_224 (fun h_223 => ?_) (fun h_223 => ?_)
             rotate_left
             · (exfalso; omega)
             refine v_lload dX7_text_231 rfl ?_
             refine v_ldc2 (1000) dX7_text_233 kl_X7_175 ?_
             refine v_lremP dX7_text_236 ?_
             refine v_lconst0 dX7_text_237 ?_
             refine v_lif_ne 247 dX7_text_238 dX7_text_239 (fun h_238 => ?_) (fun h_238 => ?_)
             · (exfalso; omega)
             refine v_bipush dX7_text_242 ?_
             refine v_goto 249 dX7_text_244 ?_
             refine v_istore dX7_text_249 (by decide) ?_
             refine v_aload_n dX7_text_251 rfl ?_
             refine v_iload dX7_text_252 rfl ?_
             refine v_iconst dX7_text_254 ?_
             refine v_icmp_ne 267 dX7_text_255 (fun h_255 => ?_) (fun h_255 => ?_)
             rotate_left
             · (exfalso; omega)
             refine v_iload dX7_text_267 rfl ?_
             refine v_bipush dX7_text_269 ?_
             refine v_icmp_ne 283 dX7_text_271 (fun h_271 => ?_) (fun h_271 => ?_)
             · (exfalso; omega)
             refine v_lload dX7_text_274 rfl ?_
             refine v_ldc2 (1000) dX7_text_276 kl_X7_175 ?_
             refine v_ldivP dX7_text_279 ?_
             refine v_goto 285 dX7_text_280 ?_
             refine v_iload dX7_text_285 rfl ?_
             refine v_V2 (rm' := rX7_number) (RX7, TX7, 18) dX7_text_287 km_X7_290 kn_X7_number kv_X7_number kz_X7 mk_X7_number rfl rfl (by exact nh_z) ⟨Nat.le_of_ble_eq_true rfl, Nat.le_of_ble_eq_true rfl⟩ ⟨Nat.le_of_ble_eq_true rfl, Nat.le_of_ble_eq_true rfl⟩ (Nat.le_of_ble_eq_true rfl) ?_
             refine s_X7_number hst n9 (v := n % 1000000000 / 1000) (by omega) (n := 6) (by omega) (by (try simp only [tDg_1, tCh_1]); omega) ?_
             exact v_lof [(0, .ref z), (1, .int (iI i)), (2, .int (iI k))] (List.forall_mem_cons.mpr ⟨rfl, (List.forall_mem_cons.mpr ⟨rfl, (List.forall_mem_cons.mpr ⟨rfl, (fun _ h => nomatch h)⟩)⟩)⟩) (txt_290 hst h0 h1 h2 hA01 h9 n09 n19 h7 hk hy hm hd hn en hQ _ (hs.symm.trans (by unfold tSec tFr; rw [show n / 1 % 1000000000 = n % 1000000000 by omega]; rw [if_neg hsec, if_neg (by omega), if_neg (by omega), if_pos g9])))
           · refine v_aload_n dX7_text_210 rfl ?_
             refine v_bipush dX7_text_211 ?_
             refine v_V1 (rm' := rX7_put) (RX7, TX7, 18) dX7_text_213 km_X7_287 kn_X7_put kv_X7_put kz_X7 mk_X7_put rfl rfl (by exact nh_z) ⟨Nat.le_of_ble_eq_true rfl, Nat.le_of_ble_eq_true rfl⟩ ⟨Nat.le_of_ble_eq_true rfl, Nat.le_of_ble_eq_true rfl⟩ (Nat.le_of_ble_eq_true rfl) ?_
             refine s_X7_put hst n9 (by (try simp only [tDg_1, tCh_1]); omega) ?_
             refine v_lload dX7_text_216 rfl ?_
             refine v_ldc2 (1000000) dX7_text_218 kl_X7_156 ?_
             refine v_lremP dX7_text_221 ?_
             refine v_lconst0 dX7_text_222 ?_
             refine v_lif_ne 231 dX7_text_223 dX7_text_224 (fun h_223 => ?_) (fun h_223 => ?_)
             rotate_left
             · (exfalso; omega)
             refine v_lload dX7_text_231 rfl ?_
             refine v_ldc2 (1000) dX7_text_233 kl_X7_175 ?_
             refine v_lremP dX7_text_236 ?_
             refine v_lconst0 dX7_text_237 ?_
             refine v_lif_ne 247 dX7_text_238 dX7_text_239 (fun h_238 => ?_) (fun h_238 => ?_)
             rotate_left
             · (exfalso; omega)
             refine v_bipush dX7_text_247 ?_
             refine v_istore dX7_text_249 (by decide) ?_
             refine v_aload_n dX7_text_251 rfl ?_
             refine v_iload dX7_text_252 rfl ?_
             refine v_iconst dX7_text_254 ?_
             refine v_icmp_ne 267 dX7_text_255 (fun h_255 => ?_) (fun h_255 => ?_)
             rotate_left
             · (exfalso; omega)
             refine v_iload dX7_text_267 rfl ?_
             refine v_bipush dX7_text_269 ?_
             refine v_icmp_ne 283 dX7_text_271 (fun h_271 => ?_) (fun h_271 => ?_)
             rotate_left
             · (exfalso; omega)
             refine v_lload dX7_text_283 rfl ?_
             refine v_iload dX7_text_285 rfl ?_
             refine v_V2 (rm' := rX7_number) (RX7, TX7, 18) dX7_text_287 km_X7_290 kn_X7_number kv_X7_number kz_X7 mk_X7_number rfl rfl (by exact nh_z) ⟨Nat.le_of_ble_eq_true rfl, Nat.le_of_ble_eq_true rfl⟩ ⟨Nat.le_of_ble_eq_true rfl, Nat.le_of_ble_eq_true rfl⟩ (Nat.le_of_ble_eq_true rfl) ?_
             refine s_X7_number hst n9 (v := n % 1000000000) (by omega) (n := 9) (by omega) (by (try simp only [tDg_1, tCh_1]); omega) ?_
             exact v_lof [(0, .ref z), (1, .int (iI i)), (2, .int (iI k))] (List.forall_mem_cons.mpr ⟨rfl, (List.forall_mem_cons.mpr ⟨rfl, (List.forall_mem_cons.mpr ⟨rfl, (fun _ h => nomatch h)⟩)⟩)⟩) (txt_290 hst h0 h1 h2 hA01 h9 n09 n19 h7 hk hy hm hd hn en hQ _ (hs.symm.trans (by unfold tSec tFr; rw [show n / 1 % 1000000000 = n % 1000000000 by omega]; rw [if_neg hsec, if_neg (by omega), if_neg (by omega), if_neg g9]))))
    · refine v_aload_n dX7_text_186 rfl ?_
      refine v_bipush dX7_text_187 ?_
      refine v_V1 (rm' := rX7_put) (RX7, TX7, 18) dX7_text_189 km_X7_287 kn_X7_put kv_X7_put kz_X7 mk_X7_put rfl rfl (by exact nh_z) ⟨Nat.le_of_ble_eq_true rfl, Nat.le_of_ble_eq_true rfl⟩ ⟨Nat.le_of_ble_eq_true rfl, Nat.le_of_ble_eq_true rfl⟩ (Nat.le_of_ble_eq_true rfl) ?_
      refine s_X7_put hst n9 (by (try simp only [tDg_1, tCh_1]); omega) ?_
      refine v_aload_n dX7_text_192 rfl ?_
      refine v_lload_n dX7_text_193 rfl ?_
      refine v_bipush dX7_text_194 ?_
      refine v_S2 (rm' := rX7_timed) dX7_text_196 km_X7_142 ks_X7_timed kz_X7 mk_X7_timed rfl ⟨Nat.le_of_ble_eq_true rfl, Nat.le_of_ble_eq_true rfl⟩ ⟨Nat.le_of_ble_eq_true rfl, Nat.le_of_ble_eq_true rfl⟩ (Nat.le_of_ble_eq_true rfl) ?_
      refine s_X7_timed (y := y) (m := m) (d := d) hst (by omega) hn ?_
      rw [show gF y m d n 8 = n / 1000000000 % 60 from rfl]
      refine v_iconst dX7_text_199 ?_
      refine v_V2 (rm' := rX7_number) (RX7, TX7, 18) dX7_text_200 km_X7_290 kn_X7_number kv_X7_number kz_X7 mk_X7_number rfl rfl (by exact nh_z) ⟨Nat.le_of_ble_eq_true rfl, Nat.le_of_ble_eq_true rfl⟩ ⟨Nat.le_of_ble_eq_true rfl, Nat.le_of_ble_eq_true rfl⟩ (Nat.le_of_ble_eq_true rfl) ?_
      refine s_X7_number hst n9 (v := n / 1000000000 % 60) (by omega) (n := 2) (by omega) (by (try simp only [tDg_1, tCh_1]); omega) ?_
      refine v_lload dX7_text_203 rfl ?_
      refine v_lconst0 dX7_text_205 ?_
      refine v_lif_le 290 dX7_text_206 dX7_text_207 (fun h_206 => ?_) (fun h_206 => ?_)
      · first
        | (exfalso; omega)
        | (have g9 : n % 60000000000 = 0 := (by omega)
           exact v_lof [(0, .ref z), (1, .int (iI i)), (2, .int (iI k))] (List.forall_mem_cons.mpr ⟨rfl, (List.forall_mem_cons.mpr ⟨rfl, (List.forall_mem_cons.mpr ⟨rfl, (fun _ h => nomatch h)⟩)⟩)⟩) (txt_290 hst h0 h1 h2 hA01 h9 n09 n19 h7 hk hy hm hd hn en hQ _ (hs.symm.trans (by unfold tSec; rw [if_pos g9]))))
        | (have g9 : n % 60000000000 ≠ 0 ∧ n % 1000000000 = 0 := (by omega)
           exact v_lof [(0, .ref z), (1, .int (iI i)), (2, .int (iI k))] (List.forall_mem_cons.mpr ⟨rfl, (List.forall_mem_cons.mpr ⟨rfl, (List.forall_mem_cons.mpr ⟨rfl, (fun _ h => nomatch h)⟩)⟩)⟩) (txt_290 hst h0 h1 h2 hA01 h9 n09 n19 h7 hk hy hm hd hn en hQ _ (hs.symm.trans (by unfold tSec tFr; rw [show n / 1 % 1000000000 = n % 1000000000 by omega]; rw [if_neg g9.1, if_pos g9.2]))))
      · first
        | (exfalso; omega)
        | (have hsec : ¬ n % 60000000000 = 0 := (by omega)
           rcases (show n % 1000000000 % 1000000 = 0 ∨ (n % 1000000000 % 1000000 ≠ 0 ∧ n % 1000000000 % 1000 = 0) ∨ (n % 1000000000 % 1000000 ≠ 0 ∧ ¬ n % 1000000000 % 1000 = 0) by omega) with g9 | ⟨g8, g9⟩ | ⟨g8, g9⟩
           · refine v_aload_n dX7_text_210 rfl ?_
             refine v_bipush dX7_text_211 ?_
             refine v_V1 (rm' := rX7_put) (RX7, TX7, 18) dX7_text_213 km_X7_287 kn_X7_put kv_X7_put kz_X7 mk_X7_put rfl rfl (by exact nh_z) ⟨Nat.le_of_ble_eq_true rfl, Nat.le_of_ble_eq_true rfl⟩ ⟨Nat.le_of_ble_eq_true rfl, Nat.le_of_ble_eq_true rfl⟩ (Nat.le_of_ble_eq_true rfl) ?_
             refine s_X7_put hst n9 (by (try simp only [tDg_1, tCh_1]); omega) ?_
             refine v_lload dX7_text_216 rfl ?_
             refine v_ldc2 (1000000) dX7_text_218 kl_X7_156 ?_
             refine v_lremP dX7_text_221 ?_
             refine v_lconst0 dX7_text_222 ?_
             refine v_lif_ne 231 dX7_text_223 dX7_text_224 (fun h_223 => ?_) (fun h_223 => ?_)
             · (exfalso; omega)
             refine v_iconst dX7_text_227 ?_
             refine v_goto 249 dX7_text_228 ?_
             refine v_istore dX7_text_249 (by decide) ?_
             refine v_aload_n dX7_text_251 rfl ?_
             refine v_iload dX7_text_252 rfl ?_
             refine v_iconst dX7_text_254 ?_
             refine v_icmp_ne 267 dX7_text_255 (fun h_255 => ?_) (fun h_255 => ?_)
             · (exfalso; omega)
             refine v_lload dX7_text_258 rfl ?_
             refine v_ldc2 (1000000) dX7_text_260 kl_X7_156 ?_
             refine v_ldivP dX7_text_263 ?_
             refine v_goto 285 dX7_text_264 ?_
             refine v_iload dX7_text_285 rfl ?_
             refine v_V2 (rm' := rX7_number) (RX7, TX7, 18) dX7_text_287 km_X7_290 kn_X7_number kv_X7_number kz_X7 mk_X7_number rfl rfl (by exact nh_z) ⟨Nat.le_of_ble_eq_true rfl, Nat.le_of_ble_eq_true rfl⟩ ⟨Nat.le_of_ble_eq_true rfl, Nat.le_of_ble_eq_true rfl⟩ (Nat.le_of_ble_eq_true rfl) ?_
             refine s_X7_number hst n9 (v := n % 1000000000 / 1000000) (by omega) (n := 3) (by omega) (by (try simp only [tDg_1, tCh_1]); omega) ?_
             exact v_lof [(0, .ref z), (1, .int (iI i)), (2, .int (iI k))] (List.forall_mem_cons.mpr ⟨rfl, (List.forall_mem_cons.mpr ⟨rfl, (List.forall_mem_cons.mpr ⟨rfl, (fun _ h => nomatch h)⟩)⟩)⟩) (txt_290 hst h0 h1 h2 hA01 h9 n09 n19 h7 hk hy hm hd hn en hQ _ (hs.symm.trans (by unfold tSec tFr; rw [show n / 1 % 1000000000 = n % 1000000000 by omega]; rw [if_neg hsec, if_neg (by omega), if_pos g9])))
           · refine v_aload_n dX7_text_210 rfl ?_
             refine v_bipush dX7_text_211 ?_
             refine v_V1 (rm' := rX7_put) (RX7, TX7, 18) dX7_text_213 km_X7_287 kn_X7_put kv_X7_put kz_X7 mk_X7_put rfl rfl (by exact nh_z) ⟨Nat.le_of_ble_eq_true rfl, Nat.le_of_ble_eq_true rfl⟩ ⟨Nat.le_of_ble_eq_true rfl, Nat.le_of_ble_eq_true rfl⟩ (Nat.le_of_ble_eq_true rfl) ?_
             refine s_X7_put hst n9 (by (try simp only [tDg_1, tCh_1]); omega) ?_
             refine v_lload dX7_text_216 rfl ?_
             refine v_ldc2 (1000000) dX7_text_218 kl_X7_156 ?_
             refine v_lremP dX7_text_221 ?_
             refine v_lconst0 dX7_text_222 ?_
             refine v_lif_ne 231 dX7_text_223 dX7_text_224 (fun h_223 => ?_) (fun h_223 => ?_)
             rotate_left
             · (exfalso; omega)
             refine v_lload dX7_text_231 rfl ?_
             refine v_ldc2 (1000) dX7_text_233 kl_X7_175 ?_
             refine v_lremP dX7_text_236 ?_
             refine v_lconst0 dX7_text_237 ?_
             refine v_lif_ne 247 dX7_text_238 dX7_text_239 (fun h_238 => ?_) (fun h_238 => ?_)
             · (exfalso; omega)
             refine v_bipush dX7_text_242 ?_
             refine v_goto 249 dX7_text_244 ?_
             refine v_istore dX7_text_249 (by decide) ?_
             refine v_aload_n dX7_text_251 rfl ?_
             refine v_iload dX7_text_252 rfl ?_
             refine v_iconst dX7_text_254 ?_
             refine v_icmp_ne 267 dX7_text_255 (fun h_255 => ?_) (fun h_255 => ?_)
             rotate_left
             · (exfalso; omega)
             refine v_iload dX7_text_267 rfl ?_
             refine v_bipush dX7_text_269 ?_
             refine v_icmp_ne 283 dX7_text_271 (fun h_271 => ?_) (fun h_271 => ?_)
             · (exfalso; omega)
             refine v_lload dX7_text_274 rfl ?_
             refine v_ldc2 (1000) dX7_text_276 kl_X7_175 ?_
             refine v_ldivP dX7_text_279 ?_
             refine v_goto 285 dX7_text_280 ?_
             refine v_iload dX7_text_285 rfl ?_
             refine v_V2 (rm' := rX7_number) (RX7, TX7, 18) dX7_text_287 km_X7_290 kn_X7_number kv_X7_number kz_X7 mk_X7_number rfl rfl (by exact nh_z) ⟨Nat.le_of_ble_eq_true rfl, Nat.le_of_ble_eq_true rfl⟩ ⟨Nat.le_of_ble_eq_true rfl, Nat.le_of_ble_eq_true rfl⟩ (Nat.le_of_ble_eq_true rfl) ?_
             refine s_X7_number hst n9 (v := n % 1000000000 / 1000) (by omega) (n := 6) (by omega) (by (try simp only [tDg_1, tCh_1]); omega) ?_
             exact v_lof [(0, .ref z), (1, .int (iI i)), (2, .int (iI k))] (List.forall_mem_cons.mpr ⟨rfl, (List.forall_mem_cons.mpr ⟨rfl, (List.forall_mem_cons.mpr ⟨rfl, (fun _ h => nomatch h)⟩)⟩)⟩) (txt_290 hst h0 h1 h2 hA01 h9 n09 n19 h7 hk hy hm hd hn en hQ _ (hs.symm.trans (by unfold tSec tFr; rw [show n / 1 % 1000000000 = n % 1000000000 by omega]; rw [if_neg hsec, if_neg (by omega), if_neg (by omega), if_pos g9])))
           · refine v_aload_n dX7_text_210 rfl ?_
             refine v_bipush dX7_text_211 ?_
             refine v_V1 (rm' := rX7_put) (RX7, TX7, 18) dX7_text_213 km_X7_287 kn_X7_put kv_X7_put kz_X7 mk_X7_put rfl rfl (by exact nh_z) ⟨Nat.le_of_ble_eq_true rfl, Nat.le_of_ble_eq_true rfl⟩ ⟨Nat.le_of_ble_eq_true rfl, Nat.le_of_ble_eq_true rfl⟩ (Nat.le_of_ble_eq_true rfl) ?_
             refine s_X7_put hst n9 (by (try simp only [tDg_1, tCh_1]); omega) ?_
             refine v_lload dX7_text_216 rfl ?_
             refine v_ldc2 (1000000) dX7_text_218 kl_X7_156 ?_
             refine v_lremP dX7_text_221 ?_
             refine v_lconst0 dX7_text_222 ?_
             refine v_lif_ne 231 dX7_text_223 dX7_text_224 (fun h_223 => ?_) (fun h_223 => ?_)
             rotate_left
             · (exfalso; omega)
             refine v_lload dX7_text_231 rfl ?_
             refine v_ldc2 (1000) dX7_text_233 kl_X7_175 ?_
             refine v_lremP dX7_text_236 ?_
             refine v_lconst0 dX7_text_237 ?_
             refine v_lif_ne 247 dX7_text_238 dX7_text_239 (fun h_238 => ?_) (fun h_238 => ?_)
             rotate_left
             · (exfalso; omega)
             refine v_bipush dX7_text_247 ?_
             refine v_istore dX7_text_249 (by decide) ?_
             refine v_aload_n dX7_text_251 rfl ?_
             refine v_iload dX7_text_252 rfl ?_
             refine v_iconst dX7_text_254 ?_
             refine v_icmp_ne 267 dX7_text_255 (fun h_255 => ?_) (fun h_255 => ?_)
             rotate_left
             · (exfalso; omega)
             refine v_iload dX7_text_267 rfl ?_
             refine v_bipush dX7_text_269 ?_
             refine v_icmp_ne 283 dX7_text_271 (fun h_271 => ?_) (fun h_271 => ?_)
             rotate_left
             · (exfalso; omega)
             refine v_lload dX7_text_283 rfl ?_
             refine v_iload dX7_text_285 rfl ?_
             refine v_V2 (rm' := rX7_number) (RX7, TX7, 18) dX7_text_287 km_X7_290 kn_X7_number kv_X7_number kz_X7 mk_X7_number rfl rfl (by exact nh_z) ⟨Nat.le_of_ble_eq_true rfl, Nat.le_of_ble_eq_true rfl⟩ ⟨Nat.le_of_ble_eq_true rfl, Nat.le_of_ble_eq_true rfl⟩ (Nat.le_of_ble_eq_true rfl) ?_
             refine s_X7_number hst n9 (v := n % 1000000000) (by omega) (n := 9) (by omega) (by (try simp only [tDg_1, tCh_1]); omega) ?_
             exact v_lof [(0, .ref z), (1, .int (iI i)), (2, .int (iI k))] (List.forall_mem_cons.mpr ⟨rfl, (List.forall_mem_cons.mpr ⟨rfl, (List.forall_mem_cons.mpr ⟨rfl, (fun _ h => nomatch h)⟩)⟩)⟩) (txt_290 hst h0 h1 h2 hA01 h9 n09 n19 h7 hk hy hm hd hn en hQ _ (hs.symm.trans (by unfold tSec tFr; rw [show n / 1 % 1000000000 = n % 1000000000 by omega]; rw [if_neg hsec, if_neg (by omega), if_neg (by omega), if_neg g9]))))
set_option maxRecDepth 100000 in
set_option maxHeartbeats 1000000 in
theorem txt_88 {l : Launch} {G : GG} {w : AH} {Q : Option Value → AH → Prop} {X : String → AH → Prop} (hst : l.stackTraces = false) {z : Nat} {A : Nat → Nat} {th yq mq dq ty ap wr sz : Int} (h0 : w z = some (mdC A th yq mq dq ty ap wr sz)) {gd gn : Nat → Int} (h1 : w (A 0) = some (alA G 8 gd)) (h2 : w (A 1) = some (alA G 8 gn)) (hA01 : A 0 ≠ A 1) {gp : Nat → Int} (h9 : w (A 9) = some (aiA G 40 gp)) (n09 : A 0 ≠ A 9) (n19 : A 1 ≠ A 9) {i k y m d n : Int} (h7 : 0 ≤ i ∧ i ≤ 7) (hk : 0 ≤ k ∧ k ≤ 2147483647) (hy : -9999 ≤ y ∧ y ≤ 9999) (hm : 1 ≤ m ∧ m ≤ 12) (hd : 1 ≤ d ∧ d ≤ 31) (hn : 0 ≤ n ∧ n ≤ 86399999999999) (en : gn i.toNat = n) (hQ : Q (some (.int (iI (if k < (tTxt y m d n (0, gp)).1 then (tTxt y m d n (0, gp)).2 k.toNat else -1)))) (NH G w z A 0 y m d ty ap wr (tTxt y m d n (0, gp)))) : ∀ s : TS, tTim n (tDg d 2 (tCh 45 (tDg m 2 (tCh 45 s)))) = tTxt y m d n (0, gp) → s.1 ≤ 5 → V l G mX7_text rX7_text Q X 88 (lof [(0, .ref z), (1, .int (iI i)), (2, .int (iI k))]) [] (NH G w z A 0 y m d ty ap wr (s)) 0 0 := by
  have nz0 : A 0 ≠ z := fun e => ne_of h0 h1 mdal e.symm
  have nz1 : A 1 ≠ z := fun e => ne_of h0 h2 mdal e.symm
  have n9 : A 9 ≠ z := fun e => ne_of h0 h9 mdai e.symm
  intro s hs hs1
  refine v_aload_n dX7_text_88 rfl ?_
  refine v_bipush dX7_text_89 ?_
  refine v_V1 (rm' := rX7_put) (RX7, TX7, 18) dX7_text_91 km_X7_287 kn_X7_put kv_X7_put kz_X7 mk_X7_put rfl rfl (by exact nh_z) ⟨Nat.le_of_ble_eq_true rfl, Nat.le_of_ble_eq_true rfl⟩ ⟨Nat.le_of_ble_eq_true rfl, Nat.le_of_ble_eq_true rfl⟩ (Nat.le_of_ble_eq_true rfl) ?_
  refine s_X7_put hst n9 (by (try simp only [tDg_1, tCh_1]); omega) ?_
  refine v_aload_n dX7_text_94 rfl ?_
  refine v_aload_n dX7_text_95 rfl ?_
  refine v_get dX7_text_96 f_X7_83 (by exact nh_z) rfl ?_
  refine v_i2l dX7_text_99 ?_
  refine v_iconst dX7_text_100 ?_
  refine v_V2 (rm' := rX7_number) (RX7, TX7, 18) dX7_text_101 km_X7_290 kn_X7_number kv_X7_number kz_X7 mk_X7_number rfl rfl (by exact nh_z) ⟨Nat.le_of_ble_eq_true rfl, Nat.le_of_ble_eq_true rfl⟩ ⟨Nat.le_of_ble_eq_true rfl, Nat.le_of_ble_eq_true rfl⟩ (Nat.le_of_ble_eq_true rfl) ?_
  refine s_X7_number hst n9 (v := m) (by omega) (n := 2) (by omega) (by (try simp only [tDg_1, tCh_1]); omega) ?_
  refine v_aload_n dX7_text_104 rfl ?_
  refine v_bipush dX7_text_105 ?_
  refine v_V1 (rm' := rX7_put) (RX7, TX7, 18) dX7_text_107 km_X7_287 kn_X7_put kv_X7_put kz_X7 mk_X7_put rfl rfl (by exact nh_z) ⟨Nat.le_of_ble_eq_true rfl, Nat.le_of_ble_eq_true rfl⟩ ⟨Nat.le_of_ble_eq_true rfl, Nat.le_of_ble_eq_true rfl⟩ (Nat.le_of_ble_eq_true rfl) ?_
  refine s_X7_put hst n9 (by (try simp only [tDg_1, tCh_1]); omega) ?_
  refine v_aload_n dX7_text_110 rfl ?_
  refine v_aload_n dX7_text_111 rfl ?_
  refine v_get dX7_text_112 f_X7_80 (by exact nh_z) rfl ?_
  refine v_i2l dX7_text_115 ?_
  refine v_iconst dX7_text_116 ?_
  refine v_V2 (rm' := rX7_number) (RX7, TX7, 18) dX7_text_117 km_X7_290 kn_X7_number kv_X7_number kz_X7 mk_X7_number rfl rfl (by exact nh_z) ⟨Nat.le_of_ble_eq_true rfl, Nat.le_of_ble_eq_true rfl⟩ ⟨Nat.le_of_ble_eq_true rfl, Nat.le_of_ble_eq_true rfl⟩ (Nat.le_of_ble_eq_true rfl) ?_
  refine s_X7_number hst n9 (v := d) (by omega) (n := 2) (by omega) (by (try simp only [tDg_1, tCh_1]); omega) ?_
  refine v_aload_n dX7_text_120 rfl ?_
  refine v_bipush dX7_text_121 ?_
  refine v_V1 (rm' := rX7_put) (RX7, TX7, 18) dX7_text_123 km_X7_287 kn_X7_put kv_X7_put kz_X7 mk_X7_put rfl rfl (by exact nh_z) ⟨Nat.le_of_ble_eq_true rfl, Nat.le_of_ble_eq_true rfl⟩ ⟨Nat.le_of_ble_eq_true rfl, Nat.le_of_ble_eq_true rfl⟩ (Nat.le_of_ble_eq_true rfl) ?_
  refine s_X7_put hst n9 (by (try simp only [tDg_1, tCh_1]); omega) ?_
  refine v_aload_n dX7_text_126 rfl ?_
  refine v_get dX7_text_127 f_X7_13 (by exact nh_z) rfl ?_
  refine v_iload_n dX7_text_130 rfl ?_
  refine v_lald dX7_text_131 (by exact (nh_o nz1 n19).trans h2) ?_
  rw [en]
  refine v_lstore_n dX7_text_132 (by decide) ?_
  refine v_aload_n dX7_text_133 rfl ?_
  refine v_lload_n dX7_text_134 rfl ?_
  refine v_bipush dX7_text_135 ?_
  refine v_S2 (rm' := rX7_timed) dX7_text_137 km_X7_142 ks_X7_timed kz_X7 mk_X7_timed rfl ⟨Nat.le_of_ble_eq_true rfl, Nat.le_of_ble_eq_true rfl⟩ ⟨Nat.le_of_ble_eq_true rfl, Nat.le_of_ble_eq_true rfl⟩ (Nat.le_of_ble_eq_true rfl) ?_
  refine s_X7_timed (y := y) (m := m) (d := d) hst (by omega) hn ?_
  rw [show gF y m d n 6 = n / 3600000000000 % 24 from rfl]
  refine v_iconst dX7_text_140 ?_
  refine v_V2 (rm' := rX7_number) (RX7, TX7, 18) dX7_text_141 km_X7_290 kn_X7_number kv_X7_number kz_X7 mk_X7_number rfl rfl (by exact nh_z) ⟨Nat.le_of_ble_eq_true rfl, Nat.le_of_ble_eq_true rfl⟩ ⟨Nat.le_of_ble_eq_true rfl, Nat.le_of_ble_eq_true rfl⟩ (Nat.le_of_ble_eq_true rfl) ?_
  refine s_X7_number hst n9 (v := n / 3600000000000 % 24) (by omega) (n := 2) (by omega) (by (try simp only [tDg_1, tCh_1]); omega) ?_
  refine v_aload_n dX7_text_144 rfl ?_
  refine v_bipush dX7_text_145 ?_
  refine v_V1 (rm' := rX7_put) (RX7, TX7, 18) dX7_text_147 km_X7_287 kn_X7_put kv_X7_put kz_X7 mk_X7_put rfl rfl (by exact nh_z) ⟨Nat.le_of_ble_eq_true rfl, Nat.le_of_ble_eq_true rfl⟩ ⟨Nat.le_of_ble_eq_true rfl, Nat.le_of_ble_eq_true rfl⟩ (Nat.le_of_ble_eq_true rfl) ?_
  refine s_X7_put hst n9 (by (try simp only [tDg_1, tCh_1]); omega) ?_
  refine v_aload_n dX7_text_150 rfl ?_
  refine v_lload_n dX7_text_151 rfl ?_
  refine v_bipush dX7_text_152 ?_
  refine v_S2 (rm' := rX7_timed) dX7_text_154 km_X7_142 ks_X7_timed kz_X7 mk_X7_timed rfl ⟨Nat.le_of_ble_eq_true rfl, Nat.le_of_ble_eq_true rfl⟩ ⟨Nat.le_of_ble_eq_true rfl, Nat.le_of_ble_eq_true rfl⟩ (Nat.le_of_ble_eq_true rfl) ?_
  refine s_X7_timed (y := y) (m := m) (d := d) hst (by omega) hn ?_
  rw [show gF y m d n 7 = n / 60000000000 % 60 from rfl]
  refine v_iconst dX7_text_157 ?_
  refine v_V2 (rm' := rX7_number) (RX7, TX7, 18) dX7_text_158 km_X7_290 kn_X7_number kv_X7_number kz_X7 mk_X7_number rfl rfl (by exact nh_z) ⟨Nat.le_of_ble_eq_true rfl, Nat.le_of_ble_eq_true rfl⟩ ⟨Nat.le_of_ble_eq_true rfl, Nat.le_of_ble_eq_true rfl⟩ (Nat.le_of_ble_eq_true rfl) ?_
  refine s_X7_number hst n9 (v := n / 60000000000 % 60) (by omega) (n := 2) (by omega) (by (try simp only [tDg_1, tCh_1]); omega) ?_
  exact v_lof [(0, .ref z), (1, .int (iI i)), (2, .int (iI k)), (3, .long (lI n))] (List.forall_mem_cons.mpr ⟨rfl, (List.forall_mem_cons.mpr ⟨rfl, (List.forall_mem_cons.mpr ⟨rfl, (List.forall_mem_cons.mpr ⟨rfl, (fun _ h => nomatch h)⟩)⟩)⟩)⟩) (txt_161 hst h0 h1 h2 hA01 h9 n09 n19 h7 hk hy hm hd hn en hQ _ hs (by (try simp only [tDg_1, tCh_1]); omega))
set_option maxRecDepth 100000 in
set_option maxHeartbeats 1000000 in
theorem txt_62 {l : Launch} {G : GG} {w : AH} {Q : Option Value → AH → Prop} {X : String → AH → Prop} (hst : l.stackTraces = false) {z : Nat} {A : Nat → Nat} {th yq mq dq ty ap wr sz : Int} (h0 : w z = some (mdC A th yq mq dq ty ap wr sz)) {gd gn : Nat → Int} (h1 : w (A 0) = some (alA G 8 gd)) (h2 : w (A 1) = some (alA G 8 gn)) (hA01 : A 0 ≠ A 1) {gp : Nat → Int} (h9 : w (A 9) = some (aiA G 40 gp)) (n09 : A 0 ≠ A 9) (n19 : A 1 ≠ A 9) {i k y m d n : Int} (h7 : 0 ≤ i ∧ i ≤ 7) (hk : 0 ≤ k ∧ k ≤ 2147483647) (hy : -9999 ≤ y ∧ y ≤ 9999) (hm : 1 ≤ m ∧ m ≤ 12) (hd : 1 ≤ d ∧ d ≤ 31) (hn : 0 ≤ n ∧ n ≤ 86399999999999) (en : gn i.toNat = n) (hQ : Q (some (.int (iI (if k < (tTxt y m d n (0, gp)).1 then (tTxt y m d n (0, gp)).2 k.toNat else -1)))) (NH G w z A 0 y m d ty ap wr (tTxt y m d n (0, gp)))) : ∀ s : TS, (if y < 0 then tCh 45 ((0, gp) : TS) else (0, gp)) = s → s.1 ≤ 1 → V l G mX7_text rX7_text Q X 62 (lof [(0, .ref z), (1, .int (iI i)), (2, .int (iI k))]) [] (NH G w z A 0 y m d ty ap wr (s)) 0 0 := by
  have nz0 : A 0 ≠ z := fun e => ne_of h0 h1 mdal e.symm
  have nz1 : A 1 ≠ z := fun e => ne_of h0 h2 mdal e.symm
  have n9 : A 9 ≠ z := fun e => ne_of h0 h9 mdai e.symm
  intro s hs hs1
  refine v_aload_n dX7_text_62 rfl ?_
  refine v_aload_n dX7_text_63 rfl ?_
  refine v_get dX7_text_64 f_X7_86 (by exact nh_z) rfl ?_
  refine v_lconst0 dX7_text_67 ?_
  refine v_lif_ge 80 dX7_text_68 dX7_text_69 (fun h_68 => ?_) (fun h_68 => ?_)
  · refine v_aload_n dX7_text_80 rfl ?_
    refine v_get dX7_text_81 f_X7_86 (by exact nh_z) rfl ?_
    refine v_iconst dX7_text_84 ?_
    refine v_V2 (rm' := rX7_number) (RX7, TX7, 18) dX7_text_85 km_X7_290 kn_X7_number kv_X7_number kz_X7 mk_X7_number rfl rfl (by exact nh_z) ⟨Nat.le_of_ble_eq_true rfl, Nat.le_of_ble_eq_true rfl⟩ ⟨Nat.le_of_ble_eq_true rfl, Nat.le_of_ble_eq_true rfl⟩ (Nat.le_of_ble_eq_true rfl) ?_
    first | (have u9 : y < 0 := (by omega); refine s_X7_number hst n9 (v := -y) (by omega) (n := 4) (by omega) (by (try simp only [tDg_1, tCh_1]); omega) ?_) | (refine s_X7_number hst n9 (v := y) (by omega) (n := 4) (by omega) (by (try simp only [tDg_1, tCh_1]); omega) ?_)
    first
    | (have u9 : y < 0 := (by omega)
       exact v_lof [(0, .ref z), (1, .int (iI i)), (2, .int (iI k))] (List.forall_mem_cons.mpr ⟨rfl, (List.forall_mem_cons.mpr ⟨rfl, (List.forall_mem_cons.mpr ⟨rfl, (fun _ h => nomatch h)⟩)⟩)⟩) (txt_88 hst h0 h1 h2 hA01 h9 n09 n19 h7 hk hy hm hd hn en hQ _ (by rw [← hs]; show _ = tTim n (tDg d 2 (tCh 45 (tDg m 2 (tCh 45 (tDg (if y < 0 then -y else y) 4 (if y < 0 then tCh 45 (0, gp) else (0, gp))))))); simp only [if_pos u9]) (by (try simp only [tDg_1]); omega)))
    | (have u9 : ¬ y < 0 := (by omega)
       exact v_lof [(0, .ref z), (1, .int (iI i)), (2, .int (iI k))] (List.forall_mem_cons.mpr ⟨rfl, (List.forall_mem_cons.mpr ⟨rfl, (List.forall_mem_cons.mpr ⟨rfl, (fun _ h => nomatch h)⟩)⟩)⟩) (txt_88 hst h0 h1 h2 hA01 h9 n09 n19 h7 hk hy hm hd hn en hQ _ (by rw [← hs]; show _ = tTim n (tDg d 2 (tCh 45 (tDg m 2 (tCh 45 (tDg (if y < 0 then -y else y) 4 (if y < 0 then tCh 45 (0, gp) else (0, gp))))))); simp only [if_neg u9]) (by (try simp only [tDg_1]); omega)))
  · refine v_aload_n dX7_text_72 rfl ?_
    refine v_get dX7_text_73 f_X7_86 (by exact nh_z) rfl ?_
    refine v_lneg dX7_text_76 ?_
    refine v_goto 84 dX7_text_77 ?_
    refine v_iconst dX7_text_84 ?_
    refine v_V2 (rm' := rX7_number) (RX7, TX7, 18) dX7_text_85 km_X7_290 kn_X7_number kv_X7_number kz_X7 mk_X7_number rfl rfl (by exact nh_z) ⟨Nat.le_of_ble_eq_true rfl, Nat.le_of_ble_eq_true rfl⟩ ⟨Nat.le_of_ble_eq_true rfl, Nat.le_of_ble_eq_true rfl⟩ (Nat.le_of_ble_eq_true rfl) ?_
    first | (have u9 : y < 0 := (by omega); refine s_X7_number hst n9 (v := -y) (by omega) (n := 4) (by omega) (by (try simp only [tDg_1, tCh_1]); omega) ?_) | (refine s_X7_number hst n9 (v := y) (by omega) (n := 4) (by omega) (by (try simp only [tDg_1, tCh_1]); omega) ?_)
    first
    | (have u9 : y < 0 := (by omega)
       exact v_lof [(0, .ref z), (1, .int (iI i)), (2, .int (iI k))] (List.forall_mem_cons.mpr ⟨rfl, (List.forall_mem_cons.mpr ⟨rfl, (List.forall_mem_cons.mpr ⟨rfl, (fun _ h => nomatch h)⟩)⟩)⟩) (txt_88 hst h0 h1 h2 hA01 h9 n09 n19 h7 hk hy hm hd hn en hQ _ (by rw [← hs]; show _ = tTim n (tDg d 2 (tCh 45 (tDg m 2 (tCh 45 (tDg (if y < 0 then -y else y) 4 (if y < 0 then tCh 45 (0, gp) else (0, gp))))))); simp only [if_pos u9]) (by (try simp only [tDg_1]); omega)))
    | (have u9 : ¬ y < 0 := (by omega)
       exact v_lof [(0, .ref z), (1, .int (iI i)), (2, .int (iI k))] (List.forall_mem_cons.mpr ⟨rfl, (List.forall_mem_cons.mpr ⟨rfl, (List.forall_mem_cons.mpr ⟨rfl, (fun _ h => nomatch h)⟩)⟩)⟩) (txt_88 hst h0 h1 h2 hA01 h9 n09 n19 h7 hk hy hm hd hn en hQ _ (by rw [← hs]; show _ = tTim n (tDg d 2 (tCh 45 (tDg m 2 (tCh 45 (tDg (if y < 0 then -y else y) 4 (if y < 0 then tCh 45 (0, gp) else (0, gp))))))); simp only [if_neg u9]) (by (try simp only [tDg_1]); omega)))
set_option maxRecDepth 100000 in
set_option maxHeartbeats 4000000 in
theorem s_X7_text {l : Launch} {G : GG} {w : AH} {Q : Option Value → AH → Prop} {X : String → AH → Prop} (hst : l.stackTraces = false) {z : Nat} {A : Nat → Nat} {th yq mq dq ty ap wr sz : Int} (h0 : w z = some (mdC A th yq mq dq ty ap wr sz)) {gd gn : Nat → Int} (h1 : w (A 0) = some (alA G 8 gd)) (h2 : w (A 1) = some (alA G 8 gn)) (hA01 : A 0 ≠ A 1) (hgd : ∀ k, k < 8 → -4371587 ≤ gd k ∧ gd k ≤ 2932896) (hgn : ∀ k, k < 8 → 0 ≤ gn k ∧ gn k ≤ 86399999999999) {gp : Nat → Int} (h9 : w (A 9) = some (aiA G 40 gp)) (n09 : A 0 ≠ A 9) (n19 : A 1 ≠ A 9) {i k y m d : Int} (hi : -2147483648 ≤ i ∧ i ≤ 2147483647) (hk : -2147483648 ≤ k ∧ k ≤ 2147483647) (hV : (0 ≤ i ∧ i ≤ 7) → gd i.toNat = ed y m d ∧ (-9999 ≤ y ∧ y ≤ 9999) ∧ (1 ≤ m ∧ m ≤ 12) ∧ (1 ≤ d ∧ d ≤ lenM y m)) (hQI : ∀ v : Int, (i < 0 ∨ 7 < i) → Q (some (.int (iI v))) (aup w z (mdC A 1 yq mq dq ty ap wr sz))) (hQ2 : ∀ v : Int, (0 ≤ i ∧ i ≤ 7) →  k < 0 → Q (some (.int (iI v))) (aup w z (mdC A 2 yq mq dq ty ap wr sz))) (hQ : (0 ≤ i ∧ i ≤ 7) →  0 ≤ k → Q (some (.int (iI (if k < (tTxt y m d (gn i.toNat) (0, gp)).1 then (tTxt y m d (gn i.toNat) (0, gp)).2 k.toNat else -1)))) (NH G w z A 0 y m d ty ap wr (tTxt y m d (gn i.toNat) (0, gp)))) : Ct l G mX7_text rX7_text [(.ref z), .int (iI i), .int (iI k)] w Q X := by
  have nz0 : A 0 ≠ z := fun e => ne_of h0 h1 mdal e.symm
  have nz1 : A 1 ≠ z := fun e => ne_of h0 h2 mdal e.symm
  have n9 : A 9 ≠ z := fun e => ne_of h0 h9 mdai e.symm
  refine ct_of hst mk_X7_text (Nat.le_of_ble_eq_true rfl) ?_
  refine v_aload_n dX7_text_0 rfl ?_
  refine v_iload_n dX7_text_1 rfl ?_
  refine v_V1 (rm' := rX7_isSlot) (RX7, TX7, 18) dX7_text_2 km_X7_120 kn_X7_isSlot kv_X7_isSlot kz_X7 mk_X7_isSlot rfl rfl (by exact h0) ⟨Nat.le_of_ble_eq_true rfl, Nat.le_of_ble_eq_true rfl⟩ ⟨Nat.le_of_ble_eq_true rfl, Nat.le_of_ble_eq_true rfl⟩ (Nat.le_of_ble_eq_true rfl) ?_
  refine s_X7_isSlot hst h0 hi (fun h7 => ?_) (fun h7 => ?_)
  · obtain ⟨e0, hy, hm, hd⟩ := hV h7
    have hn := hgn i.toNat (by omega)
    have hgi := hgd i.toNat (by omega)
    have hlen := lenM_rng y m
    refine v_if_ne 10 dX7_text_5 (fun h_5 => ?_) (fun h_5 => ?_)
    rotate_left
    · (exfalso; omega)
    refine v_aload_n dX7_text_10 rfl ?_
    refine v_iload_n dX7_text_11 rfl ?_
    refine v_if_ge 19 dX7_text_12 (fun h_12 => ?_) (fun h_12 => ?_)
    · refine v_iconst dX7_text_19 ?_
      refine v_put dX7_text_20 f_X7_41 (by exact aup_s) rfl rfl (Nat.le_of_ble_eq_true rfl) ?_
      try rw [aup_up]
      refine v_aload_n dX7_text_23 rfl ?_
      refine v_get dX7_text_24 f_X7_41 (by exact aup_s) rfl ?_
      refine v_if_le 32 dX7_text_27 (fun h_27 => ?_) (fun h_27 => ?_)
      · first
        | (exfalso; omega)
        | (refine v_aload_n dX7_text_32 rfl ?_
           refine v_iconst dX7_text_33 ?_
           refine v_put dX7_text_34 f_X7_284 (by exact aup_s) rfl rfl (Nat.le_of_ble_eq_true rfl) ?_
           try rw [aup_up]
           refine v_aload_n dX7_text_37 rfl ?_
           refine v_aload_n dX7_text_38 rfl ?_
           refine v_get dX7_text_39 f_X7_7 (by exact aup_s) rfl ?_
           refine v_iload_n dX7_text_42 rfl ?_
           refine v_lald dX7_text_43 (by exact (aup_n nz0).trans h1) ?_
           refine v_V1 (rm' := rX7_tell) (RX7, TX7, 18) dX7_text_44 km_X7_106 kn_X7_tell kv_X7_tell kz_X7 mk_X7_tell rfl rfl (by exact aup_s) ⟨Nat.le_of_ble_eq_true rfl, Nat.le_of_ble_eq_true rfl⟩ ⟨Nat.le_of_ble_eq_true rfl, Nat.le_of_ble_eq_true rfl⟩ (Nat.le_of_ble_eq_true rfl) ?_
           refine s_X7_tell hst aup_s (by omega) (fun y' m' d' hy' hm' hd' he9 => ?_)
           obtain ⟨x1, x2, x3⟩ := ed_inj hm hd hm' hd' (e0.symm.trans he9.symm)
           subst x1 x2 x3
           rw [aup_up, show aup w z (mdC A 0 y m d ty ap wr 0) = NH G w z A 0 y m d ty ap wr (0, gp) by unfold NH; rw [aup_id h9]; rfl]
           refine v_aload_n dX7_text_47 rfl ?_
           refine v_get dX7_text_48 f_X7_86 (by exact nh_z) rfl ?_
           refine v_lconst0 dX7_text_51 ?_
           refine v_lif_ge 62 dX7_text_52 dX7_text_53 (fun h_52 => ?_) (fun h_52 => ?_)
           · first
             | (have g9 : y < 0 := (by omega)
                exact v_lof [(0, .ref z), (1, .int (iI i)), (2, .int (iI k))] (List.forall_mem_cons.mpr ⟨rfl, (List.forall_mem_cons.mpr ⟨rfl, (List.forall_mem_cons.mpr ⟨rfl, (fun _ h => nomatch h)⟩)⟩)⟩) (txt_62 hst h0 h1 h2 hA01 h9 n09 n19 h7 (by omega) hy hm (by omega) hn rfl (hQ h7 (by omega)) _ (if_pos g9) (by (try simp only [tCh_1]); omega)))
             | (have g9 : ¬ y < 0 := (by omega)
                exact v_lof [(0, .ref z), (1, .int (iI i)), (2, .int (iI k))] (List.forall_mem_cons.mpr ⟨rfl, (List.forall_mem_cons.mpr ⟨rfl, (List.forall_mem_cons.mpr ⟨rfl, (fun _ h => nomatch h)⟩)⟩)⟩) (txt_62 hst h0 h1 h2 hA01 h9 n09 n19 h7 (by omega) hy hm (by omega) hn rfl (hQ h7 (by omega)) _ (if_neg g9) (Nat.zero_le 1)))
           · refine v_aload_n dX7_text_56 rfl ?_
             refine v_bipush dX7_text_57 ?_
             refine v_V1 (rm' := rX7_put) (RX7, TX7, 18) dX7_text_59 km_X7_287 kn_X7_put kv_X7_put kz_X7 mk_X7_put rfl rfl (by exact nh_z) ⟨Nat.le_of_ble_eq_true rfl, Nat.le_of_ble_eq_true rfl⟩ ⟨Nat.le_of_ble_eq_true rfl, Nat.le_of_ble_eq_true rfl⟩ (Nat.le_of_ble_eq_true rfl) ?_
             refine s_X7_put hst n9 (by (try simp only [tDg_1, tCh_1]); omega) ?_
             first
             | (have g9 : y < 0 := (by omega)
                exact v_lof [(0, .ref z), (1, .int (iI i)), (2, .int (iI k))] (List.forall_mem_cons.mpr ⟨rfl, (List.forall_mem_cons.mpr ⟨rfl, (List.forall_mem_cons.mpr ⟨rfl, (fun _ h => nomatch h)⟩)⟩)⟩) (txt_62 hst h0 h1 h2 hA01 h9 n09 n19 h7 (by omega) hy hm (by omega) hn rfl (hQ h7 (by omega)) _ (if_pos g9) (by (try simp only [tCh_1]); omega)))
             | (have g9 : ¬ y < 0 := (by omega)
                exact v_lof [(0, .ref z), (1, .int (iI i)), (2, .int (iI k))] (List.forall_mem_cons.mpr ⟨rfl, (List.forall_mem_cons.mpr ⟨rfl, (List.forall_mem_cons.mpr ⟨rfl, (fun _ h => nomatch h)⟩)⟩)⟩) (txt_62 hst h0 h1 h2 hA01 h9 n09 n19 h7 (by omega) hy hm (by omega) hn rfl (hQ h7 (by omega)) _ (if_neg g9) (Nat.zero_le 1))))
      · refine v_iconst dX7_text_30 ?_
        exact v_iret dX7_text_31 rfl (by first | (exfalso; omega) | exact hQI _ (by omega) | exact hQ2 _ h7 (by omega))
    · refine v_iconst dX7_text_15 ?_
      refine v_goto 20 dX7_text_16 ?_
      refine v_put dX7_text_20 f_X7_41 (by exact aup_s) rfl rfl (Nat.le_of_ble_eq_true rfl) ?_
      try rw [aup_up]
      refine v_aload_n dX7_text_23 rfl ?_
      refine v_get dX7_text_24 f_X7_41 (by exact aup_s) rfl ?_
      refine v_if_le 32 dX7_text_27 (fun h_27 => ?_) (fun h_27 => ?_)
      · first
        | (exfalso; omega)
        | (refine v_aload_n dX7_text_32 rfl ?_
           refine v_iconst dX7_text_33 ?_
           refine v_put dX7_text_34 f_X7_284 (by exact aup_s) rfl rfl (Nat.le_of_ble_eq_true rfl) ?_
           try rw [aup_up]
           refine v_aload_n dX7_text_37 rfl ?_
           refine v_aload_n dX7_text_38 rfl ?_
           refine v_get dX7_text_39 f_X7_7 (by exact aup_s) rfl ?_
           refine v_iload_n dX7_text_42 rfl ?_
           refine v_lald dX7_text_43 (by exact (aup_n nz0).trans h1) ?_
           refine v_V1 (rm' := rX7_tell) (RX7, TX7, 18) dX7_text_44 km_X7_106 kn_X7_tell kv_X7_tell kz_X7 mk_X7_tell rfl rfl (by exact aup_s) ⟨Nat.le_of_ble_eq_true rfl, Nat.le_of_ble_eq_true rfl⟩ ⟨Nat.le_of_ble_eq_true rfl, Nat.le_of_ble_eq_true rfl⟩ (Nat.le_of_ble_eq_true rfl) ?_
           refine s_X7_tell hst aup_s (by omega) (fun y' m' d' hy' hm' hd' he9 => ?_)
           obtain ⟨x1, x2, x3⟩ := ed_inj hm hd hm' hd' (e0.symm.trans he9.symm)
           subst x1 x2 x3
           rw [aup_up, show aup w z (mdC A 0 y m d ty ap wr 0) = NH G w z A 0 y m d ty ap wr (0, gp) by unfold NH; rw [aup_id h9]; rfl]
           refine v_aload_n dX7_text_47 rfl ?_
           refine v_get dX7_text_48 f_X7_86 (by exact nh_z) rfl ?_
           refine v_lconst0 dX7_text_51 ?_
           refine v_lif_ge 62 dX7_text_52 dX7_text_53 (fun h_52 => ?_) (fun h_52 => ?_)
           · first
             | (have g9 : y < 0 := (by omega)
                exact v_lof [(0, .ref z), (1, .int (iI i)), (2, .int (iI k))] (List.forall_mem_cons.mpr ⟨rfl, (List.forall_mem_cons.mpr ⟨rfl, (List.forall_mem_cons.mpr ⟨rfl, (fun _ h => nomatch h)⟩)⟩)⟩) (txt_62 hst h0 h1 h2 hA01 h9 n09 n19 h7 (by omega) hy hm (by omega) hn rfl (hQ h7 (by omega)) _ (if_pos g9) (by (try simp only [tCh_1]); omega)))
             | (have g9 : ¬ y < 0 := (by omega)
                exact v_lof [(0, .ref z), (1, .int (iI i)), (2, .int (iI k))] (List.forall_mem_cons.mpr ⟨rfl, (List.forall_mem_cons.mpr ⟨rfl, (List.forall_mem_cons.mpr ⟨rfl, (fun _ h => nomatch h)⟩)⟩)⟩) (txt_62 hst h0 h1 h2 hA01 h9 n09 n19 h7 (by omega) hy hm (by omega) hn rfl (hQ h7 (by omega)) _ (if_neg g9) (Nat.zero_le 1)))
           · refine v_aload_n dX7_text_56 rfl ?_
             refine v_bipush dX7_text_57 ?_
             refine v_V1 (rm' := rX7_put) (RX7, TX7, 18) dX7_text_59 km_X7_287 kn_X7_put kv_X7_put kz_X7 mk_X7_put rfl rfl (by exact nh_z) ⟨Nat.le_of_ble_eq_true rfl, Nat.le_of_ble_eq_true rfl⟩ ⟨Nat.le_of_ble_eq_true rfl, Nat.le_of_ble_eq_true rfl⟩ (Nat.le_of_ble_eq_true rfl) ?_
             refine s_X7_put hst n9 (by (try simp only [tDg_1, tCh_1]); omega) ?_
             first
             | (have g9 : y < 0 := (by omega)
                exact v_lof [(0, .ref z), (1, .int (iI i)), (2, .int (iI k))] (List.forall_mem_cons.mpr ⟨rfl, (List.forall_mem_cons.mpr ⟨rfl, (List.forall_mem_cons.mpr ⟨rfl, (fun _ h => nomatch h)⟩)⟩)⟩) (txt_62 hst h0 h1 h2 hA01 h9 n09 n19 h7 (by omega) hy hm (by omega) hn rfl (hQ h7 (by omega)) _ (if_pos g9) (by (try simp only [tCh_1]); omega)))
             | (have g9 : ¬ y < 0 := (by omega)
                exact v_lof [(0, .ref z), (1, .int (iI i)), (2, .int (iI k))] (List.forall_mem_cons.mpr ⟨rfl, (List.forall_mem_cons.mpr ⟨rfl, (List.forall_mem_cons.mpr ⟨rfl, (fun _ h => nomatch h)⟩)⟩)⟩) (txt_62 hst h0 h1 h2 hA01 h9 n09 n19 h7 (by omega) hy hm (by omega) hn rfl (hQ h7 (by omega)) _ (if_neg g9) (Nat.zero_le 1))))
      · refine v_iconst dX7_text_30 ?_
        exact v_iret dX7_text_31 rfl (by first | (exfalso; omega) | exact hQI _ (by omega) | exact hQ2 _ h7 (by omega))
  · refine v_if_ne 10 dX7_text_5 (fun h_5 => ?_) (fun h_5 => ?_)
    · (exfalso; omega)
    refine v_iconst dX7_text_8 ?_
    exact v_iret dX7_text_9 rfl (by first | (exfalso; omega) | exact hQI _ (by omega) | exact hQ2 _ h7 (by omega))
