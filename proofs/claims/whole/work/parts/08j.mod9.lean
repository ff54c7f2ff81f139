set_option maxRecDepth 100000 in
set_option maxHeartbeats 1000000 in
theorem adj_181 {l : Launch} {G : GG} {w : AH} {Q : Option Value → AH → Prop} {X : String → AH → Prop} (hst : l.stackTraces = false) {z : Nat} {A : Nat → Nat} {th yq mq dq ty ap wr sz : Int} (h0 : w z = some (mdC A th yq mq dq ty ap wr sz)) {gd gn : Nat → Int} (h1 : w (A 0) = some (alA G 8 gd)) (h2 : w (A 1) = some (alA G 8 gn)) (hA01 : A 0 ≠ A 1) (hgd : ∀ k, k < 8 → -4371587 ≤ gd k ∧ gd k ≤ 2932896) (hgn : ∀ k, k < 8 → 0 ≤ gn k ∧ gn k ≤ 86399999999999) {i f k y m d : Int} (h7 : 0 ≤ i ∧ i ≤ 7) (hgf : (0 ≤ f ∧ f ≤ 5) ∧ 1 ≤ k ∧ k ≤ 7) (hQ3 : ∀ yr' mo' da' : Int,  (0 ≤ i ∧ i ≤ 7) →  ((0 ≤ f ∧ f ≤ 5) ∧ 1 ≤ k ∧ k ≤ 7) →  ∀ r : Int, adE y m d f k r → (r < -4371587 ∨ 2932896 < r) → Q none (aup w z (mdC A 3 yr' mo' da' ty ap wr sz))) (hQ : ∀ yr' mo' da' : Int,  (0 ≤ i ∧ i ≤ 7) →  ((0 ≤ f ∧ f ≤ 5) ∧ 1 ≤ k ∧ k ≤ 7) →  ∀ r : Int, adE y m d f k r → (-4371587 ≤ r ∧ r ≤ 2932896) → Q none (aup (aup w z (mdC A 0 yr' mo' da' ty ap wr sz)) (A 0) (alA G 8 (gup gd i.toNat r)))) {r : Int} (hr : adE y m d f k r) (hrr : -5000000 ≤ r ∧ r ≤ 5000000) : V l G mX7_adjust rX7_adjust Q X 181 (lof [(0, .ref z), (1, .int (iI i)), (2, .int (iI f)), (3, .int (iI k)), (4, .long (lI r))]) [] (aup w z (mdC A 0 y m d ty ap wr sz)) 0 0 := by
  have nz0 : A 0 ≠ z := fun e => ne_of h0 h1 mdal e.symm
  have nz1 : A 1 ≠ z := fun e => ne_of h0 h2 mdal e.symm
  refine v_aload_n dX7_adjust_181 rfl ?_
  refine v_lload dX7_adjust_182 rfl ?_
  refine v_S1 (rm' := rX7_within) dX7_adjust_184 km_X7_166 ks_X7_within kz_X7 mk_X7_within rfl ⟨Nat.le_of_ble_eq_true rfl, Nat.le_of_ble_eq_true rfl⟩ ⟨Nat.le_of_ble_eq_true rfl, Nat.le_of_ble_eq_true rfl⟩ (Nat.le_of_ble_eq_true rfl) ?_
  refine s_X7_within hst (fun rw9 ew9 => ?_)
  refine v_if_eq 194 dX7_adjust_187 (fun h_187 => ?_) (fun h_187 => ?_)
  · refine v_iconst dX7_adjust_194 ?_
    refine v_put dX7_adjust_195 f_X7_41 (by first | exact h0 | exact aup_s | exact (aup_n nz0).trans h1 | exact (aup_n nz1).trans h2 | exact (aup_n nz0.symm).trans aup_s | exact (aup_n nz0).trans ((aup_n nz0).trans h1) | exact (aup_n nz1).trans ((aup_n nz1).trans h2)) rfl rfl (Nat.le_of_ble_eq_true rfl) ?_
    try rw [aup_up]
    refine v_aload_n dX7_adjust_198 rfl ?_
    refine v_get dX7_adjust_199 f_X7_7 (by first | exact h0 | exact aup_s | exact (aup_n nz0).trans h1 | exact (aup_n nz1).trans h2 | exact (aup_n nz0.symm).trans aup_s | exact (aup_n nz0).trans ((aup_n nz0).trans h1) | exact (aup_n nz1).trans ((aup_n nz1).trans h2)) rfl ?_
    refine v_iload_n dX7_adjust_202 rfl ?_
    refine v_aload_n dX7_adjust_203 rfl ?_
    refine v_get dX7_adjust_204 f_X7_41 (by first | exact h0 | exact aup_s | exact (aup_n nz0).trans h1 | exact (aup_n nz1).trans h2 | exact (aup_n nz0.symm).trans aup_s | exact (aup_n nz0).trans ((aup_n nz0).trans h1) | exact (aup_n nz1).trans ((aup_n nz1).trans h2)) rfl ?_
    refine v_if_ne 215 dX7_adjust_207 (fun h_207 => ?_) (fun h_207 => ?_)
    · refine v_aload_n dX7_adjust_215 rfl ?_
      refine v_get dX7_adjust_216 f_X7_7 (by first | exact h0 | exact aup_s | exact (aup_n nz0).trans h1 | exact (aup_n nz1).trans h2 | exact (aup_n nz0.symm).trans aup_s | exact (aup_n nz0).trans ((aup_n nz0).trans h1) | exact (aup_n nz1).trans ((aup_n nz1).trans h2)) rfl ?_
      refine v_iload_n dX7_adjust_219 rfl ?_
      refine v_lald dX7_adjust_220 (by first | exact h0 | exact aup_s | exact (aup_n nz0).trans h1 | exact (aup_n nz1).trans h2 | exact (aup_n nz0.symm).trans aup_s | exact (aup_n nz0).trans ((aup_n nz0).trans h1) | exact (aup_n nz1).trans ((aup_n nz1).trans h2)) ?_
      refine v_last dX7_adjust_221 (by first | exact h0 | exact aup_s | exact (aup_n nz0).trans h1 | exact (aup_n nz1).trans h2 | exact (aup_n nz0.symm).trans aup_s | exact (aup_n nz0).trans ((aup_n nz0).trans h1) | exact (aup_n nz1).trans ((aup_n nz1).trans h2)) ?_
      exact v_vret dX7_adjust_222 rfl (by first | (exfalso; omega) | (have c9 : -4371587 ≤ r ∧ r ≤ 2932896 := (by omega); exact hQ _ _ _ h7 hgf r hr c9) | (have c9 : r < -4371587 ∨ 2932896 < r := (by omega); rw [gup_id, aup_id ((aup_n nz0).trans h1)]; exact hQ3 _ _ _ h7 hgf r hr c9))
    · refine v_lload dX7_adjust_210 rfl ?_
      refine v_goto 221 dX7_adjust_212 ?_
      refine v_last dX7_adjust_221 (by first | exact h0 | exact aup_s | exact (aup_n nz0).trans h1 | exact (aup_n nz1).trans h2 | exact (aup_n nz0.symm).trans aup_s | exact (aup_n nz0).trans ((aup_n nz0).trans h1) | exact (aup_n nz1).trans ((aup_n nz1).trans h2)) ?_
      exact v_vret dX7_adjust_222 rfl (by first | (exfalso; omega) | (have c9 : -4371587 ≤ r ∧ r ≤ 2932896 := (by omega); exact hQ _ _ _ h7 hgf r hr c9) | (have c9 : r < -4371587 ∨ 2932896 < r := (by omega); rw [gup_id, aup_id ((aup_n nz0).trans h1)]; exact hQ3 _ _ _ h7 hgf r hr c9))
  · refine v_iconst dX7_adjust_190 ?_
    refine v_goto 195 dX7_adjust_191 ?_
    refine v_put dX7_adjust_195 f_X7_41 (by first | exact h0 | exact aup_s | exact (aup_n nz0).trans h1 | exact (aup_n nz1).trans h2 | exact (aup_n nz0.symm).trans aup_s | exact (aup_n nz0).trans ((aup_n nz0).trans h1) | exact (aup_n nz1).trans ((aup_n nz1).trans h2)) rfl rfl (Nat.le_of_ble_eq_true rfl) ?_
    try rw [aup_up]
    refine v_aload_n dX7_adjust_198 rfl ?_
    refine v_get dX7_adjust_199 f_X7_7 (by first | exact h0 | exact aup_s | exact (aup_n nz0).trans h1 | exact (aup_n nz1).trans h2 | exact (aup_n nz0.symm).trans aup_s | exact (aup_n nz0).trans ((aup_n nz0).trans h1) | exact (aup_n nz1).trans ((aup_n nz1).trans h2)) rfl ?_
    refine v_iload_n dX7_adjust_202 rfl ?_
    refine v_aload_n dX7_adjust_203 rfl ?_
    refine v_get dX7_adjust_204 f_X7_41 (by first | exact h0 | exact aup_s | exact (aup_n nz0).trans h1 | exact (aup_n nz1).trans h2 | exact (aup_n nz0.symm).trans aup_s | exact (aup_n nz0).trans ((aup_n nz0).trans h1) | exact (aup_n nz1).trans ((aup_n nz1).trans h2)) rfl ?_
    refine v_if_ne 215 dX7_adjust_207 (fun h_207 => ?_) (fun h_207 => ?_)
    · refine v_aload_n dX7_adjust_215 rfl ?_
      refine v_get dX7_adjust_216 f_X7_7 (by first | exact h0 | exact aup_s | exact (aup_n nz0).trans h1 | exact (aup_n nz1).trans h2 | exact (aup_n nz0.symm).trans aup_s | exact (aup_n nz0).trans ((aup_n nz0).trans h1) | exact (aup_n nz1).trans ((aup_n nz1).trans h2)) rfl ?_
      refine v_iload_n dX7_adjust_219 rfl ?_
      refine v_lald dX7_adjust_220 (by first | exact h0 | exact aup_s | exact (aup_n nz0).trans h1 | exact (aup_n nz1).trans h2 | exact (aup_n nz0.symm).trans aup_s | exact (aup_n nz0).trans ((aup_n nz0).trans h1) | exact (aup_n nz1).trans ((aup_n nz1).trans h2)) ?_
      refine v_last dX7_adjust_221 (by first | exact h0 | exact aup_s | exact (aup_n nz0).trans h1 | exact (aup_n nz1).trans h2 | exact (aup_n nz0.symm).trans aup_s | exact (aup_n nz0).trans ((aup_n nz0).trans h1) | exact (aup_n nz1).trans ((aup_n nz1).trans h2)) ?_
      exact v_vret dX7_adjust_222 rfl (by first | (exfalso; omega) | (have c9 : -4371587 ≤ r ∧ r ≤ 2932896 := (by omega); exact hQ _ _ _ h7 hgf r hr c9) | (have c9 : r < -4371587 ∨ 2932896 < r := (by omega); rw [gup_id, aup_id ((aup_n nz0).trans h1)]; exact hQ3 _ _ _ h7 hgf r hr c9))
    · refine v_lload dX7_adjust_210 rfl ?_
      refine v_goto 221 dX7_adjust_212 ?_
      refine v_last dX7_adjust_221 (by first | exact h0 | exact aup_s | exact (aup_n nz0).trans h1 | exact (aup_n nz1).trans h2 | exact (aup_n nz0.symm).trans aup_s | exact (aup_n nz0).trans ((aup_n nz0).trans h1) | exact (aup_n nz1).trans ((aup_n nz1).trans h2)) ?_
      exact v_vret dX7_adjust_222 rfl (by first | (exfalso; omega) | (have c9 : -4371587 ≤ r ∧ r ≤ 2932896 := (by omega); exact hQ _ _ _ h7 hgf r hr c9) | (have c9 : r < -4371587 ∨ 2932896 < r := (by omega); rw [gup_id, aup_id ((aup_n nz0).trans h1)]; exact hQ3 _ _ _ h7 hgf r hr c9))
set_option maxRecDepth 100000 in
set_option maxHeartbeats 1000000 in
theorem adj_loop {l : Launch} {G : GG} {w : AH} {Q : Option Value → AH → Prop} {X : String → AH → Prop} (hst : l.stackTraces = false) {z : Nat} {A : Nat → Nat} {th yq mq dq ty ap wr sz : Int} (h0 : w z = some (mdC A th yq mq dq ty ap wr sz)) {gd gn : Nat → Int} (h1 : w (A 0) = some (alA G 8 gd)) (h2 : w (A 1) = some (alA G 8 gn)) (hA01 : A 0 ≠ A 1) (hgd : ∀ k, k < 8 → -4371587 ≤ gd k ∧ gd k ≤ 2932896) (hgn : ∀ k, k < 8 → 0 ≤ gn k ∧ gn k ≤ 86399999999999) {i f k y m d : Int} (h7 : 0 ≤ i ∧ i ≤ 7) (hgf : (0 ≤ f ∧ f ≤ 5) ∧ 1 ≤ k ∧ k ≤ 7) (hQ3 : ∀ yr' mo' da' : Int,  (0 ≤ i ∧ i ≤ 7) →  ((0 ≤ f ∧ f ≤ 5) ∧ 1 ≤ k ∧ k ≤ 7) →  ∀ r : Int, adE y m d f k r → (r < -4371587 ∨ 2932896 < r) → Q none (aup w z (mdC A 3 yr' mo' da' ty ap wr sz))) (hQ : ∀ yr' mo' da' : Int,  (0 ≤ i ∧ i ≤ 7) →  ((0 ≤ f ∧ f ≤ 5) ∧ 1 ≤ k ∧ k ≤ 7) →  ∀ r : Int, adE y m d f k r → (-4371587 ≤ r ∧ r ≤ 2932896) → Q none (aup (aup w z (mdC A 0 yr' mo' da' ty ap wr sz)) (A 0) (alA G 8 (gup gd i.toNat r)))) {bk r0 : Int} (ha : adE y m d f k r0) (har : -4900000 ≤ r0 ∧ r0 ≤ 4900000) : ∀ (N : Nat) (x : Int), ((bk = 0 ∧ (k - wd x) % 7 ≤ N) ∨ (bk = 1 ∧ (wd x - k) % 7 ≤ N)) → (-4950000 ≤ x ∧ x ≤ 4950000) → ((bk = 0 ∧ r0 = x + (k - wd x) % 7) ∨ (bk = 1 ∧ r0 = x - (wd x - k) % 7)) → V l G mX7_adjust rX7_adjust Q X 152 (lof [(0, .ref z), (1, .int (iI i)), (2, .int (iI f)), (3, .int (iI k)), (4, .long (lI (x))), (6, .int (iI bk))]) [] (aup w z (mdC A 0 y m d ty ap wr sz)) 0 0 := by
  have nz0 : A 0 ≠ z := fun e => ne_of h0 h1 mdal e.symm
  have nz1 : A 1 ≠ z := fun e => ne_of h0 h2 mdal e.symm
  intro N
  induction N with
  | zero =>
    intro x hN hx hr
    have w0 := wd_c x
    have w1 := wd_c (x + 1)
    have w2 := wd_c (x + -1)
    have hfin : wd x = k → adE y m d f k x := fun e2 => (by have e3 : x = r0 := (by omega); rw [e3]; exact ha)
    refine v_lload dX7_adjust_152 rfl ?_
    refine v_S1 (rm' := rX7_weekOf) dX7_adjust_154 km_X7_138 ks_X7_weekOf kz_X7 mk_X7_weekOf rfl ⟨Nat.le_of_ble_eq_true rfl, Nat.le_of_ble_eq_true rfl⟩ ⟨Nat.le_of_ble_eq_true rfl, Nat.le_of_ble_eq_true rfl⟩ (Nat.le_of_ble_eq_true rfl) ?_
    refine s_X7_weekOf hst ?_
    refine v_iload_n dX7_adjust_157 rfl ?_
    refine v_icmp_eq 181 dX7_adjust_158 (fun h_158 => ?_) (fun h_158 => ?_)
    · exact v_lof [(0, .ref z), (1, .int (iI i)), (2, .int (iI f)), (3, .int (iI k)), (4, .long (lI x))] (List.forall_mem_cons.mpr ⟨rfl, (List.forall_mem_cons.mpr ⟨rfl, (List.forall_mem_cons.mpr ⟨rfl, (List.forall_mem_cons.mpr ⟨rfl, (List.forall_mem_cons.mpr ⟨rfl, (fun _ h => nomatch h)⟩)⟩)⟩)⟩)⟩) (adj_181 hst h0 h1 h2 hA01 hgd hgn h7 hgf hQ3 hQ (hfin (by omega)) (by omega))
    · refine v_lload dX7_adjust_161 rfl ?_
      refine v_iload dX7_adjust_163 rfl ?_
      refine v_if_eq 174 dX7_adjust_165 (fun h_165 => ?_) (fun h_165 => ?_)
      · refine v_lconst1 dX7_adjust_174 ?_
        refine v_ladd dX7_adjust_175 ?_
        refine v_lstore dX7_adjust_176 (by decide) ?_
        refine v_goto 152 dX7_adjust_178 ?_
        (exfalso; omega)
      · refine v_ldc2 (-1) dX7_adjust_168 kl_X7_210 ?_
        refine v_goto 175 dX7_adjust_171 ?_
        refine v_ladd dX7_adjust_175 ?_
        refine v_lstore dX7_adjust_176 (by decide) ?_
        refine v_goto 152 dX7_adjust_178 ?_
        (exfalso; omega)
  | succ N ih =>
    intro x hN hx hr
    have w0 := wd_c x
    have w1 := wd_c (x + 1)
    have w2 := wd_c (x + -1)
    have hfin : wd x = k → adE y m d f k x := fun e2 => (by have e3 : x = r0 := (by omega); rw [e3]; exact ha)
    refine v_lload dX7_adjust_152 rfl ?_
    refine v_S1 (rm' := rX7_weekOf) dX7_adjust_154 km_X7_138 ks_X7_weekOf kz_X7 mk_X7_weekOf rfl ⟨Nat.le_of_ble_eq_true rfl, Nat.le_of_ble_eq_true rfl⟩ ⟨Nat.le_of_ble_eq_true rfl, Nat.le_of_ble_eq_true rfl⟩ (Nat.le_of_ble_eq_true rfl) ?_
    refine s_X7_weekOf hst ?_
    refine v_iload_n dX7_adjust_157 rfl ?_
    refine v_icmp_eq 181 dX7_adjust_158 (fun h_158 => ?_) (fun h_158 => ?_)
    · exact v_lof [(0, .ref z), (1, .int (iI i)), (2, .int (iI f)), (3, .int (iI k)), (4, .long (lI x))] (List.forall_mem_cons.mpr ⟨rfl, (List.forall_mem_cons.mpr ⟨rfl, (List.forall_mem_cons.mpr ⟨rfl, (List.forall_mem_cons.mpr ⟨rfl, (List.forall_mem_cons.mpr ⟨rfl, (fun _ h => nomatch h)⟩)⟩)⟩)⟩)⟩) (adj_181 hst h0 h1 h2 hA01 hgd hgn h7 hgf hQ3 hQ (hfin (by omega)) (by omega))
    · refine v_lload dX7_adjust_161 rfl ?_
      refine v_iload dX7_adjust_163 rfl ?_
      refine v_if_eq 174 dX7_adjust_165 (fun h_165 => ?_) (fun h_165 => ?_)
      · refine v_lconst1 dX7_adjust_174 ?_
        refine v_ladd dX7_adjust_175 ?_
        refine v_lstore dX7_adjust_176 (by decide) ?_
        refine v_goto 152 dX7_adjust_178 ?_
        first | (exfalso; omega) | (have g9 : bk = 1 := (by omega); exact v_lof [(0, .ref z), (1, .int (iI i)), (2, .int (iI f)), (3, .int (iI k)), (4, .long (lI (x + -1))), (6, .int (iI bk))] (List.forall_mem_cons.mpr ⟨rfl, (List.forall_mem_cons.mpr ⟨rfl, (List.forall_mem_cons.mpr ⟨rfl, (List.forall_mem_cons.mpr ⟨rfl, (List.forall_mem_cons.mpr ⟨rfl, (List.forall_mem_cons.mpr ⟨rfl, (fun _ h => nomatch h)⟩)⟩)⟩)⟩)⟩)⟩) (ih (x + -1) (by omega) (by omega) (by omega))) | (have g9 : bk = 0 := (by omega); exact v_lof [(0, .ref z), (1, .int (iI i)), (2, .int (iI f)), (3, .int (iI k)), (4, .long (lI (x + 1))), (6, .int (iI bk))] (List.forall_mem_cons.mpr ⟨rfl, (List.forall_mem_cons.mpr ⟨rfl, (List.forall_mem_cons.mpr ⟨rfl, (List.forall_mem_cons.mpr ⟨rfl, (List.forall_mem_cons.mpr ⟨rfl, (List.forall_mem_cons.mpr ⟨rfl, (fun _ h => nomatch h)⟩)⟩)⟩)⟩)⟩)⟩) (ih (x + 1) (by omega) (by omega) (by omega)))
      · refine v_ldc2 (-1) dX7_adjust_168 kl_X7_210 ?_
        refine v_goto 175 dX7_adjust_171 ?_
        refine v_ladd dX7_adjust_175 ?_
        refine v_lstore dX7_adjust_176 (by decide) ?_
        refine v_goto 152 dX7_adjust_178 ?_
        first | (exfalso; omega) | (have g9 : bk = 1 := (by omega); exact v_lof [(0, .ref z), (1, .int (iI i)), (2, .int (iI f)), (3, .int (iI k)), (4, .long (lI (x + -1))), (6, .int (iI bk))] (List.forall_mem_cons.mpr ⟨rfl, (List.forall_mem_cons.mpr ⟨rfl, (List.forall_mem_cons.mpr ⟨rfl, (List.forall_mem_cons.mpr ⟨rfl, (List.forall_mem_cons.mpr ⟨rfl, (List.forall_mem_cons.mpr ⟨rfl, (fun _ h => nomatch h)⟩)⟩)⟩)⟩)⟩)⟩) (ih (x + -1) (by omega) (by omega) (by omega))) | (have g9 : bk = 0 := (by omega); exact v_lof [(0, .ref z), (1, .int (iI i)), (2, .int (iI f)), (3, .int (iI k)), (4, .long (lI (x + 1))), (6, .int (iI bk))] (List.forall_mem_cons.mpr ⟨rfl, (List.forall_mem_cons.mpr ⟨rfl, (List.forall_mem_cons.mpr ⟨rfl, (List.forall_mem_cons.mpr ⟨rfl, (List.forall_mem_cons.mpr ⟨rfl, (List.forall_mem_cons.mpr ⟨rfl, (fun _ h => nomatch h)⟩)⟩)⟩)⟩)⟩)⟩) (ih (x + 1) (by omega) (by omega) (by omega)))
set_option maxRecDepth 100000 in
set_option maxHeartbeats 1000000 in
theorem s_X7_adjust {l : Launch} {G : GG} {w : AH} {Q : Option Value → AH → Prop} {X : String → AH → Prop} (hst : l.stackTraces = false) {z : Nat} {A : Nat → Nat} {th yq mq dq ty ap wr sz : Int} (h0 : w z = some (mdC A th yq mq dq ty ap wr sz)) {gd gn : Nat → Int} (h1 : w (A 0) = some (alA G 8 gd)) (h2 : w (A 1) = some (alA G 8 gn)) (hA01 : A 0 ≠ A 1) (hgd : ∀ k, k < 8 → -4371587 ≤ gd k ∧ gd k ≤ 2932896) (hgn : ∀ k, k < 8 → 0 ≤ gn k ∧ gn k ≤ 86399999999999) {i f k y m d : Int} (hi : -2147483648 ≤ i ∧ i ≤ 2147483647) (hf : -2147483648 ≤ f ∧ f ≤ 2147483647) (hk : -2147483648 ≤ k ∧ k ≤ 2147483647) (hV : (0 ≤ i ∧ i ≤ 7) → gd i.toNat = ed y m d ∧ (-9999 ≤ y ∧ y ≤ 9999) ∧ (1 ≤ m ∧ m ≤ 12) ∧ (1 ≤ d ∧ d ≤ lenM y m)) (hQI : (i < 0 ∨ 7 < i) → Q none (aup w z (mdC A 1 yq mq dq ty ap wr sz))) (hQ2 : (0 ≤ i ∧ i ≤ 7) →  ¬ ((0 ≤ f ∧ f ≤ 5) ∧ 1 ≤ k ∧ k ≤ 7) → Q none (aup w z (mdC A 2 yq mq dq ty ap wr sz))) (hQ3 : ∀ yr' mo' da' : Int,  (0 ≤ i ∧ i ≤ 7) →  ((0 ≤ f ∧ f ≤ 5) ∧ 1 ≤ k ∧ k ≤ 7) →  ∀ r : Int, adE y m d f k r → (r < -4371587 ∨ 2932896 < r) → Q none (aup w z (mdC A 3 yr' mo' da' ty ap wr sz))) (hQ : ∀ yr' mo' da' : Int,  (0 ≤ i ∧ i ≤ 7) →  ((0 ≤ f ∧ f ≤ 5) ∧ 1 ≤ k ∧ k ≤ 7) →  ∀ r : Int, adE y m d f k r → (-4371587 ≤ r ∧ r ≤ 2932896) → Q none (aup (aup w z (mdC A 0 yr' mo' da' ty ap wr sz)) (A 0) (alA G 8 (gup gd i.toNat r)))) : Ct l G mX7_adjust rX7_adjust [(.ref z), .int (iI i), .int (iI f), .int (iI k)] w Q X := by
  have nz0 : A 0 ≠ z := fun e => ne_of h0 h1 mdal e.symm
  have nz1 : A 1 ≠ z := fun e => ne_of h0 h2 mdal e.symm
  refine ct_of hst mk_X7_adjust (Nat.le_of_ble_eq_true rfl) ?_
  refine v_aload_n dX7_adjust_0 rfl ?_
  refine v_iload_n dX7_adjust_1 rfl ?_
  refine v_V1 (rm' := rX7_isSlot) (RX7, TX7, 18) dX7_adjust_2 km_X7_120 kn_X7_isSlot kv_X7_isSlot kz_X7 mk_X7_isSlot rfl rfl (by first | exact h0 | exact aup_s | exact (aup_n nz0).trans h1 | exact (aup_n nz1).trans h2 | exact (aup_n nz0.symm).trans aup_s | exact (aup_n nz0).trans ((aup_n nz0).trans h1) | exact (aup_n nz1).trans ((aup_n nz1).trans h2)) ⟨Nat.le_of_ble_eq_true rfl, Nat.le_of_ble_eq_true rfl⟩ ⟨Nat.le_of_ble_eq_true rfl, Nat.le_of_ble_eq_true rfl⟩ (Nat.le_of_ble_eq_true rfl) ?_
  refine s_X7_isSlot hst h0 hi (fun h7 => ?_) (fun h7 => ?_)
  · obtain ⟨e0, hy, hm, hd⟩ := hV h7
    have hn := hgn i.toNat (by omega)
    have hgi := hgd i.toNat (by omega)
    have hlen := lenM_rng y m
    have hwd := wd_c (gd i.toNat)
    have hwe := wd_c (ed y m d)
    refine v_if_ne 9 dX7_adjust_5 (fun h_5 => ?_) (fun h_5 => ?_)
    rotate_left
    · (exfalso; omega)
    refine v_iload_n dX7_adjust_9 rfl ?_
    refine v_i2l dX7_adjust_10 ?_
    refine v_lconst1 dX7_adjust_11 ?_
    refine v_ldc2 (7) dX7_adjust_12 kl_X7_92 ?_
    refine v_S3 (rm' := rX7_in) dX7_adjust_15 km_X7_102 ks_X7_in kz_X7 mk_X7_in rfl ⟨Nat.le_of_ble_eq_true rfl, Nat.le_of_ble_eq_true rfl⟩ ⟨Nat.le_of_ble_eq_true rfl, Nat.le_of_ble_eq_true rfl⟩ (Nat.le_of_ble_eq_true rfl) ?_
    refine s_X7_in hst (fun ri1 ei1 => ?_)
    refine v_if_eq 33 dX7_adjust_18 (fun h_18 => ?_) (fun h_18 => ?_)
    · refine v_aload_n dX7_adjust_33 rfl ?_
      refine v_iconst dX7_adjust_34 ?_
      refine v_put dX7_adjust_35 f_X7_41 (by first | exact h0 | exact aup_s | exact (aup_n nz0).trans h1 | exact (aup_n nz1).trans h2 | exact (aup_n nz0.symm).trans aup_s | exact (aup_n nz0).trans ((aup_n nz0).trans h1) | exact (aup_n nz1).trans ((aup_n nz1).trans h2)) rfl rfl (Nat.le_of_ble_eq_true rfl) ?_
      try rw [aup_up]
      exact v_vret dX7_adjust_38 rfl (by first | (exfalso; omega) | exact hQ2 h7 (by omega))
    · refine v_iload_n dX7_adjust_21 rfl ?_
      refine v_i2l dX7_adjust_22 ?_
      refine v_lconst0 dX7_adjust_23 ?_
      refine v_ldc2 (5) dX7_adjust_24 kl_X7_66 ?_
      refine v_S3 (rm' := rX7_in) dX7_adjust_27 km_X7_102 ks_X7_in kz_X7 mk_X7_in rfl ⟨Nat.le_of_ble_eq_true rfl, Nat.le_of_ble_eq_true rfl⟩ ⟨Nat.le_of_ble_eq_true rfl, Nat.le_of_ble_eq_true rfl⟩ (Nat.le_of_ble_eq_true rfl) ?_
      refine s_X7_in hst (fun ri2 ei2 => ?_)
      refine v_if_ne 39 dX7_adjust_30 (fun h_30 => ?_) (fun h_30 => ?_)
      · refine v_aload_n dX7_adjust_39 rfl ?_
        refine v_get dX7_adjust_40 f_X7_7 (by first | exact h0 | exact aup_s | exact (aup_n nz0).trans h1 | exact (aup_n nz1).trans h2 | exact (aup_n nz0.symm).trans aup_s | exact (aup_n nz0).trans ((aup_n nz0).trans h1) | exact (aup_n nz1).trans ((aup_n nz1).trans h2)) rfl ?_
        refine v_iload_n dX7_adjust_43 rfl ?_
        refine v_lald dX7_adjust_44 (by first | exact h0 | exact aup_s | exact (aup_n nz0).trans h1 | exact (aup_n nz1).trans h2 | exact (aup_n nz0.symm).trans aup_s | exact (aup_n nz0).trans ((aup_n nz0).trans h1) | exact (aup_n nz1).trans ((aup_n nz1).trans h2)) ?_
        rw [e0]
        refine v_lstore dX7_adjust_45 (by decide) ?_
        refine v_aload_n dX7_adjust_47 rfl ?_
        refine v_lload dX7_adjust_48 rfl ?_
        refine v_V1 (rm' := rX7_tell) (RX7, TX7, 18) dX7_adjust_50 km_X7_106 kn_X7_tell kv_X7_tell kz_X7 mk_X7_tell rfl rfl (by first | exact h0 | exact aup_s | exact (aup_n nz0).trans h1 | exact (aup_n nz1).trans h2 | exact (aup_n nz0.symm).trans aup_s | exact (aup_n nz0).trans ((aup_n nz0).trans h1) | exact (aup_n nz1).trans ((aup_n nz1).trans h2)) ⟨Nat.le_of_ble_eq_true rfl, Nat.le_of_ble_eq_true rfl⟩ ⟨Nat.le_of_ble_eq_true rfl, Nat.le_of_ble_eq_true rfl⟩ (Nat.le_of_ble_eq_true rfl) ?_
        refine s_X7_tell hst aup_s (by omega) (fun y' m' d' hy' hm' hd' he9 => ?_)
        obtain ⟨x1, x2, x3⟩ := ed_inj hm hd hm' hd' he9.symm
        subst x1 x2 x3
        rw [aup_up]
        have hed := ed_rng hy hm hd
        have d1 := ed_dd y m d 1
        have d2 := ed_dd y m d (lenM y m)
        have d1e : ed y m 1 = ed y m d - d + 1 := (by omega)
        have d2e : ed y m (lenM y m) = ed y m d - d + lenM y m := (by omega)
        have hgf : (0 ≤ f ∧ f ≤ 5) ∧ 1 ≤ k ∧ k ≤ 7 := (by omega)
        rcases (show f = 0 ∨ f = 1 ∨ f = 2 ∨ f = 3 ∨ f = 4 ∨ f = 5 by omega) with sf | sf | sf | sf | sf | sf
        · refine v_iload_n dX7_adjust_53 rfl ?_
          refine v_iconst dX7_adjust_54 ?_
          refine v_icmp_eq 68 dX7_adjust_55 (fun h_55 => ?_) (fun h_55 => ?_)
          · (exfalso; omega)
          refine v_iload_n dX7_adjust_58 rfl ?_
          refine v_iconst dX7_adjust_59 ?_
          refine v_icmp_eq 68 dX7_adjust_60 (fun h_60 => ?_) (fun h_60 => ?_)
          · (exfalso; omega)
          refine v_iload_n dX7_adjust_63 rfl ?_
          refine v_iconst dX7_adjust_64 ?_
          refine v_icmp_ne 72 dX7_adjust_65 (fun h_65 => ?_) (fun h_65 => ?_)
          rotate_left
          · (exfalso; omega)
          refine v_iconst dX7_adjust_72 ?_
          refine v_istore dX7_adjust_73 (by decide) ?_
          refine v_iload_n dX7_adjust_75 rfl ?_
          refine v_if_ne 86 dX7_adjust_76 (fun h_76 => ?_) (fun h_76 => ?_)
          · (exfalso; omega)
          refine v_lload dX7_adjust_79 rfl ?_
          refine v_lconst1 dX7_adjust_81 ?_
          refine v_ladd dX7_adjust_82 ?_
          refine v_goto 150 dX7_adjust_83 ?_
          refine v_lstore dX7_adjust_150 (by decide) ?_
          have q0 := wd_c (ed y m d + 1)
          exact v_lof [(0, .ref z), (1, .int (iI i)), (2, .int (iI f)), (3, .int (iI k)), (4, .long (lI (ed y m d + 1))), (6, .int (iI 0))] (List.forall_mem_cons.mpr ⟨rfl, (List.forall_mem_cons.mpr ⟨rfl, (List.forall_mem_cons.mpr ⟨rfl, (List.forall_mem_cons.mpr ⟨rfl, (List.forall_mem_cons.mpr ⟨rfl, (List.forall_mem_cons.mpr ⟨rfl, (fun _ h => nomatch h)⟩)⟩)⟩)⟩)⟩)⟩) (adj_loop hst h0 h1 h2 hA01 hgd hgn h7 hgf hQ3 hQ (bk := 0) (r0 := ed y m d + 1 + (k - wd (ed y m d + 1)) % 7) (by unfold adE; omega) (by omega) 6 _ (by omega) (by omega) (by omega))
        · refine v_iload_n dX7_adjust_53 rfl ?_
          refine v_iconst dX7_adjust_54 ?_
          refine v_icmp_eq 68 dX7_adjust_55 (fun h_55 => ?_) (fun h_55 => ?_)
          · (exfalso; omega)
          refine v_iload_n dX7_adjust_58 rfl ?_
          refine v_iconst dX7_adjust_59 ?_
          refine v_icmp_eq 68 dX7_adjust_60 (fun h_60 => ?_) (fun h_60 => ?_)
          · (exfalso; omega)
          refine v_iload_n dX7_adjust_63 rfl ?_
          refine v_iconst dX7_adjust_64 ?_
          refine v_icmp_ne 72 dX7_adjust_65 (fun h_65 => ?_) (fun h_65 => ?_)
          rotate_left
          · (exfalso; omega)
          refine v_iconst dX7_adjust_72 ?_
          refine v_istore dX7_adjust_73 (by decide) ?_
          refine v_iload_n dX7_adjust_75 rfl ?_
          refine v_if_ne 86 dX7_adjust_76 (fun h_76 => ?_) (fun h_76 => ?_)
          rotate_left
          · (exfalso; omega)
          refine v_iload_n dX7_adjust_86 rfl ?_
          refine v_iconst dX7_adjust_87 ?_
          refine v_icmp_ne 98 dX7_adjust_88 (fun h_88 => ?_) (fun h_88 => ?_)
          rotate_left
          · (exfalso; omega)
          refine v_iload_n dX7_adjust_98 rfl ?_
          refine v_iconst dX7_adjust_99 ?_
          refine v_icmp_ne 118 dX7_adjust_100 (fun h_100 => ?_) (fun h_100 => ?_)
          rotate_left
          · (exfalso; omega)
          refine v_iload_n dX7_adjust_118 rfl ?_
          refine v_iconst dX7_adjust_119 ?_
          refine v_icmp_ne 148 dX7_adjust_120 (fun h_120 => ?_) (fun h_120 => ?_)
          rotate_left
          · (exfalso; omega)
          refine v_lload dX7_adjust_148 rfl ?_
          refine v_lstore dX7_adjust_150 (by decide) ?_
          have q0 := wd_c (ed y m d)
          exact v_lof [(0, .ref z), (1, .int (iI i)), (2, .int (iI f)), (3, .int (iI k)), (4, .long (lI (ed y m d))), (6, .int (iI 0))] (List.forall_mem_cons.mpr ⟨rfl, (List.forall_mem_cons.mpr ⟨rfl, (List.forall_mem_cons.mpr ⟨rfl, (List.forall_mem_cons.mpr ⟨rfl, (List.forall_mem_cons.mpr ⟨rfl, (List.forall_mem_cons.mpr ⟨rfl, (fun _ h => nomatch h)⟩)⟩)⟩)⟩)⟩)⟩) (adj_loop hst h0 h1 h2 hA01 hgd hgn h7 hgf hQ3 hQ (bk := 0) (r0 := ed y m d + (k - wd (ed y m d)) % 7) (by unfold adE; omega) (by omega) 6 _ (by omega) (by omega) (by omega))
        · refine v_iload_n dX7_adjust_53 rfl ?_
          refine v_iconst dX7_adjust_54 ?_
          refine v_icmp_eq 68 dX7_adjust_55 (fun h_55 => ?_) (fun h_55 => ?_)
          rotate_left
          · (exfalso; omega)
          refine v_iconst dX7_adjust_68 ?_
          refine v_goto 73 dX7_adjust_69 ?_
          refine v_istore dX7_adjust_73 (by decide) ?_
          refine v_iload_n dX7_adjust_75 rfl ?_
          refine v_if_ne 86 dX7_adjust_76 (fun h_76 => ?_) (fun h_76 => ?_)
          rotate_left
          · (exfalso; omega)
          refine v_iload_n dX7_adjust_86 rfl ?_
          refine v_iconst dX7_adjust_87 ?_
          refine v_icmp_ne 98 dX7_adjust_88 (fun h_88 => ?_) (fun h_88 => ?_)
          · (exfalso; omega)
          refine v_lload dX7_adjust_91 rfl ?_
          refine v_lconst1 dX7_adjust_93 ?_
          refine v_lsub dX7_adjust_94 ?_
          refine v_goto 150 dX7_adjust_95 ?_
          refine v_lstore dX7_adjust_150 (by decide) ?_
          have q0 := wd_c (ed y m d - 1)
          exact v_lof [(0, .ref z), (1, .int (iI i)), (2, .int (iI f)), (3, .int (iI k)), (4, .long (lI (ed y m d - 1))), (6, .int (iI 1))] (List.forall_mem_cons.mpr ⟨rfl, (List.forall_mem_cons.mpr ⟨rfl, (List.forall_mem_cons.mpr ⟨rfl, (List.forall_mem_cons.mpr ⟨rfl, (List.forall_mem_cons.mpr ⟨rfl, (List.forall_mem_cons.mpr ⟨rfl, (fun _ h => nomatch h)⟩)⟩)⟩)⟩)⟩)⟩) (adj_loop hst h0 h1 h2 hA01 hgd hgn h7 hgf hQ3 hQ (bk := 1) (r0 := ed y m d - 1 - (wd (ed y m d - 1) - k) % 7) (by unfold adE; omega) (by omega) 6 _ (by omega) (by omega) (by omega))
        · refine v_iload_n dX7_adjust_53 rfl ?_
          refine v_iconst dX7_adjust_54 ?_
          refine v_icmp_eq 68 dX7_adjust_55 (fun h_55 => ?_) (fun h_55 => ?_)
          · (exfalso; omega)
          refine v_iload_n dX7_adjust_58 rfl ?_
          refine v_iconst dX7_adjust_59 ?_
          refine v_icmp_eq 68 dX7_adjust_60 (fun h_60 => ?_) (fun h_60 => ?_)
          rotate_left
          · (exfalso; omega)
          refine v_iconst dX7_adjust_68 ?_
          refine v_goto 73 dX7_adjust_69 ?_
          refine v_istore dX7_adjust_73 (by decide) ?_
          refine v_iload_n dX7_adjust_75 rfl ?_
          refine v_if_ne 86 dX7_adjust_76 (fun h_76 => ?_) (fun h_76 => ?_)
          rotate_left
          · (exfalso; omega)
          refine v_iload_n dX7_adjust_86 rfl ?_
          refine v_iconst dX7_adjust_87 ?_
          refine v_icmp_ne 98 dX7_adjust_88 (fun h_88 => ?_) (fun h_88 => ?_)
          rotate_left
          · (exfalso; omega)
          refine v_iload_n dX7_adjust_98 rfl ?_
          refine v_iconst dX7_adjust_99 ?_
          refine v_icmp_ne 118 dX7_adjust_100 (fun h_100 => ?_) (fun h_100 => ?_)
          rotate_left
          · (exfalso; omega)
          refine v_iload_n dX7_adjust_118 rfl ?_
          refine v_iconst dX7_adjust_119 ?_
          refine v_icmp_ne 148 dX7_adjust_120 (fun h_120 => ?_) (fun h_120 => ?_)
          rotate_left
          · (exfalso; omega)
          refine v_lload dX7_adjust_148 rfl ?_
          refine v_lstore dX7_adjust_150 (by decide) ?_
          have q0 := wd_c (ed y m d)
          exact v_lof [(0, .ref z), (1, .int (iI i)), (2, .int (iI f)), (3, .int (iI k)), (4, .long (lI (ed y m d))), (6, .int (iI 1))] (List.forall_mem_cons.mpr ⟨rfl, (List.forall_mem_cons.mpr ⟨rfl, (List.forall_mem_cons.mpr ⟨rfl, (List.forall_mem_cons.mpr ⟨rfl, (List.forall_mem_cons.mpr ⟨rfl, (List.forall_mem_cons.mpr ⟨rfl, (fun _ h => nomatch h)⟩)⟩)⟩)⟩)⟩)⟩) (adj_loop hst h0 h1 h2 hA01 hgd hgn h7 hgf hQ3 hQ (bk := 1) (r0 := ed y m d - (wd (ed y m d) - k) % 7) (by unfold adE; omega) (by omega) 6 _ (by omega) (by omega) (by omega))
        · refine v_iload_n dX7_adjust_53 rfl ?_
          refine v_iconst dX7_adjust_54 ?_
          refine v_icmp_eq 68 dX7_adjust_55 (fun h_55 => ?_) (fun h_55 => ?_)
          · (exfalso; omega)
          refine v_iload_n dX7_adjust_58 rfl ?_
          refine v_iconst dX7_adjust_59 ?_
          refine v_icmp_eq 68 dX7_adjust_60 (fun h_60 => ?_) (fun h_60 => ?_)
          · (exfalso; omega)
          refine v_iload_n dX7_adjust_63 rfl ?_
          refine v_iconst dX7_adjust_64 ?_
          refine v_icmp_ne 72 dX7_adjust_65 (fun h_65 => ?_) (fun h_65 => ?_)
          rotate_left
          · (exfalso; omega)
          refine v_iconst dX7_adjust_72 ?_
          refine v_istore dX7_adjust_73 (by decide) ?_
          refine v_iload_n dX7_adjust_75 rfl ?_
          refine v_if_ne 86 dX7_adjust_76 (fun h_76 => ?_) (fun h_76 => ?_)
          rotate_left
          · (exfalso; omega)
          refine v_iload_n dX7_adjust_86 rfl ?_
          refine v_iconst dX7_adjust_87 ?_
          refine v_icmp_ne 98 dX7_adjust_88 (fun h_88 => ?_) (fun h_88 => ?_)
          rotate_left
          · (exfalso; omega)
          refine v_iload_n dX7_adjust_98 rfl ?_
          refine v_iconst dX7_adjust_99 ?_
          refine v_icmp_ne 118 dX7_adjust_100 (fun h_100 => ?_) (fun h_100 => ?_)
          · (exfalso; omega)
          refine v_aload_n dX7_adjust_103 rfl ?_
          refine v_get dX7_adjust_104 f_X7_86 (by first | exact h0 | exact aup_s | exact (aup_n nz0).trans h1 | exact (aup_n nz1).trans h2 | exact (aup_n nz0.symm).trans aup_s | exact (aup_n nz0).trans ((aup_n nz0).trans h1) | exact (aup_n nz1).trans ((aup_n nz1).trans h2)) rfl ?_
          refine v_aload_n dX7_adjust_107 rfl ?_
          refine v_get dX7_adjust_108 f_X7_83 (by first | exact h0 | exact aup_s | exact (aup_n nz0).trans h1 | exact (aup_n nz1).trans h2 | exact (aup_n nz0.symm).trans aup_s | exact (aup_n nz0).trans ((aup_n nz0).trans h1) | exact (aup_n nz1).trans ((aup_n nz1).trans h2)) rfl ?_
          refine v_iconst dX7_adjust_111 ?_
          refine v_S3 (rm' := rX7_dayOf) dX7_adjust_112 km_X7_96 ks_X7_dayOf kz_X7 mk_X7_dayOf rfl ⟨Nat.le_of_ble_eq_true rfl, Nat.le_of_ble_eq_true rfl⟩ ⟨Nat.le_of_ble_eq_true rfl, Nat.le_of_ble_eq_true rfl⟩ (Nat.le_of_ble_eq_true rfl) ?_
          refine s_X7_dayOf hst ?_
          refine v_goto 150 dX7_adjust_115 ?_
          rw [d1e]
          refine v_lstore dX7_adjust_150 (by decide) ?_
          have q0 := wd_c (ed y m d - d + 1)
          exact v_lof [(0, .ref z), (1, .int (iI i)), (2, .int (iI f)), (3, .int (iI k)), (4, .long (lI (ed y m d - d + 1))), (6, .int (iI 0))] (List.forall_mem_cons.mpr ⟨rfl, (List.forall_mem_cons.mpr ⟨rfl, (List.forall_mem_cons.mpr ⟨rfl, (List.forall_mem_cons.mpr ⟨rfl, (List.forall_mem_cons.mpr ⟨rfl, (List.forall_mem_cons.mpr ⟨rfl, (fun _ h => nomatch h)⟩)⟩)⟩)⟩)⟩)⟩) (adj_loop hst h0 h1 h2 hA01 hgd hgn h7 hgf hQ3 hQ (bk := 0) (r0 := ed y m d - d + 1 + (k - wd (ed y m d - d + 1)) % 7) (by unfold adE; omega) (by omega) 6 _ (by omega) (by omega) (by omega))
        · refine v_iload_n dX7_adjust_53 rfl ?_
          refine v_iconst dX7_adjust_54 ?_
          refine v_icmp_eq 68 dX7_adjust_55 (fun h_55 => ?_) (fun h_55 => ?_)
          · (exfalso; omega)
          refine v_iload_n dX7_adjust_58 rfl ?_
          refine v_iconst dX7_adjust_59 ?_
          refine v_icmp_eq 68 dX7_adjust_60 (fun h_60 => ?_) (fun h_60 => ?_)
          · (exfalso; omega)
          refine v_iload_n dX7_adjust_63 rfl ?_
          refine v_iconst dX7_adjust_64 ?_
          refine v_icmp_ne 72 dX7_adjust_65 (fun h_65 => ?_) (fun h_65 => ?_)
          · (exfalso; omega)
          refine v_iconst dX7_adjust_68 ?_
          refine v_goto 73 dX7_adjust_69 ?_
          refine v_istore dX7_adjust_73 (by decide) ?_
          refine v_iload_n dX7_adjust_75 rfl ?_
          refine v_if_ne 86 dX7_adjust_76 (fun h_76 => ?_) (fun h_76 => ?_)
          rotate_left
          · (exfalso; omega)
          refine v_iload_n dX7_adjust_86 rfl ?_
          refine v_iconst dX7_adjust_87 ?_
          refine v_icmp_ne 98 dX7_adjust_88 (fun h_88 => ?_) (fun h_88 => ?_)
          rotate_left
          · (exfalso; omega)
          refine v_iload_n dX7_adjust_98 rfl ?_
          refine v_iconst dX7_adjust_99 ?_
          refine v_icmp_ne 118 dX7_adjust_100 (fun h_100 => ?_) (fun h_100 => ?_)
          rotate_left
          · (exfalso; omega)
          refine v_iload_n dX7_adjust_118 rfl ?_
          refine v_iconst dX7_adjust_119 ?_
          refine v_icmp_ne 148 dX7_adjust_120 (fun h_120 => ?_) (fun h_120 => ?_)
          · (exfalso; omega)
          refine v_aload_n dX7_adjust_123 rfl ?_
          refine v_get dX7_adjust_124 f_X7_86 (by first | exact h0 | exact aup_s | exact (aup_n nz0).trans h1 | exact (aup_n nz1).trans h2 | exact (aup_n nz0.symm).trans aup_s | exact (aup_n nz0).trans ((aup_n nz0).trans h1) | exact (aup_n nz1).trans ((aup_n nz1).trans h2)) rfl ?_
          refine v_aload_n dX7_adjust_127 rfl ?_
          refine v_get dX7_adjust_128 f_X7_83 (by first | exact h0 | exact aup_s | exact (aup_n nz0).trans h1 | exact (aup_n nz1).trans h2 | exact (aup_n nz0.symm).trans aup_s | exact (aup_n nz0).trans ((aup_n nz0).trans h1) | exact (aup_n nz1).trans ((aup_n nz1).trans h2)) rfl ?_
          refine v_aload_n dX7_adjust_131 rfl ?_
          refine v_get dX7_adjust_132 f_X7_86 (by first | exact h0 | exact aup_s | exact (aup_n nz0).trans h1 | exact (aup_n nz1).trans h2 | exact (aup_n nz0.symm).trans aup_s | exact (aup_n nz0).trans ((aup_n nz0).trans h1) | exact (aup_n nz1).trans ((aup_n nz1).trans h2)) rfl ?_
          refine v_aload_n dX7_adjust_135 rfl ?_
          refine v_get dX7_adjust_136 f_X7_83 (by first | exact h0 | exact aup_s | exact (aup_n nz0).trans h1 | exact (aup_n nz1).trans h2 | exact (aup_n nz0.symm).trans aup_s | exact (aup_n nz0).trans ((aup_n nz0).trans h1) | exact (aup_n nz1).trans ((aup_n nz1).trans h2)) rfl ?_
          refine v_S2 (rm' := rX7_length) dX7_adjust_139 km_X7_112 ks_X7_length kz_X7 mk_X7_length rfl ⟨Nat.le_of_ble_eq_true rfl, Nat.le_of_ble_eq_true rfl⟩ ⟨Nat.le_of_ble_eq_true rfl, Nat.le_of_ble_eq_true rfl⟩ (Nat.le_of_ble_eq_true rfl) ?_
          refine s_X7_length hst ?_
          refine v_S3 (rm' := rX7_dayOf) dX7_adjust_142 km_X7_96 ks_X7_dayOf kz_X7 mk_X7_dayOf rfl ⟨Nat.le_of_ble_eq_true rfl, Nat.le_of_ble_eq_true rfl⟩ ⟨Nat.le_of_ble_eq_true rfl, Nat.le_of_ble_eq_true rfl⟩ (Nat.le_of_ble_eq_true rfl) ?_
          refine s_X7_dayOf hst ?_
          refine v_goto 150 dX7_adjust_145 ?_
          rw [d2e]
          refine v_lstore dX7_adjust_150 (by decide) ?_
          have q0 := wd_c (ed y m d - d + lenM y m)
          exact v_lof [(0, .ref z), (1, .int (iI i)), (2, .int (iI f)), (3, .int (iI k)), (4, .long (lI (ed y m d - d + lenM y m))), (6, .int (iI 1))] (List.forall_mem_cons.mpr ⟨rfl, (List.forall_mem_cons.mpr ⟨rfl, (List.forall_mem_cons.mpr ⟨rfl, (List.forall_mem_cons.mpr ⟨rfl, (List.forall_mem_cons.mpr ⟨rfl, (List.forall_mem_cons.mpr ⟨rfl, (fun _ h => nomatch h)⟩)⟩)⟩)⟩)⟩)⟩) (adj_loop hst h0 h1 h2 hA01 hgd hgn h7 hgf hQ3 hQ (bk := 1) (r0 := ed y m d - d + lenM y m - (wd (ed y m d - d + lenM y m) - k) % 7) (by unfold adE; omega) (by omega) 6 _ (by omega) (by omega) (by omega))
      · refine v_aload_n dX7_adjust_33 rfl ?_
        refine v_iconst dX7_adjust_34 ?_
        refine v_put dX7_adjust_35 f_X7_41 (by first | exact h0 | exact aup_s | exact (aup_n nz0).trans h1 | exact (aup_n nz1).trans h2 | exact (aup_n nz0.symm).trans aup_s | exact (aup_n nz0).trans ((aup_n nz0).trans h1) | exact (aup_n nz1).trans ((aup_n nz1).trans h2)) rfl rfl (Nat.le_of_ble_eq_true rfl) ?_
        try rw [aup_up]
        exact v_vret dX7_adjust_38 rfl (by first | (exfalso; omega) | exact hQ2 h7 (by omega))
  · refine v_if_ne 9 dX7_adjust_5 (fun h_5 => ?_) (fun h_5 => ?_)
    · (exfalso; omega)
    exact v_vret dX7_adjust_8 rfl (by exact hQI (by omega))
