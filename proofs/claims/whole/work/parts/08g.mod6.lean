theorem uPD_8 : uPD 8 = 1 := by decide
theorem uPS {N u : Int} (h : 0 ≤ u ∧ u ≤ 7) : (0 < uPD u ∧ uPD u ≤ 86400000000000) ∧ (0 < uSZ u ∧ uSZ u ≤ 86400000000000) ∧ 86400000000000 / uSZ u = uPD u ∧ (0 ≤ N % uPD u * uSZ u ∧ N % uPD u * uSZ u ≤ 86399999999999) := by
  rcases uPD_c h with ⟨-, e1, e2⟩ | ⟨-, e1, e2⟩ | ⟨-, e1, e2⟩ | ⟨-, e1, e2⟩ | ⟨-, e1, e2⟩ | ⟨-, e1, e2⟩ | ⟨-, e1, e2⟩ | ⟨-, e1, e2⟩ <;> rw [e1, e2] <;> omega
theorem plE_of {n N u S D q0 : Int} (hu : 0 ≤ u ∧ u ≤ 8) (hn : 0 ≤ n ∧ n ≤ 86399999999999) (hq : (u = 8 ∧ q0 = 7 * N) ∨ (u ≠ 8 ∧ q0 = N / uPD u)) (hS : (u ≤ 6 ∧ S = n + N % uPD u * uSZ u) ∨ (6 < u ∧ S = n)) (hD : (86400000000000 ≤ S ∧ D = q0 + 1) ∨ (S < 86400000000000 ∧ D = q0 + 0)) : plE n N u (S % 86400000000000) D := by
  unfold plE
  rcases (show u = 8 ∨ u ≤ 7 by omega) with h | h
  · rw [if_pos h]
    omega
  · rw [if_neg (by omega)]
    unfold pE
    have h7 : u = 7 → N % uPD u * uSZ u = 0 := by
      intro e
      subst e
      rw [show uPD 7 = 1 by decide, show N % 1 = 0 by omega, Int.zero_mul]
    have hr := (uPS (N := N) (u := u) (by omega)).2.2.2
    generalize N % uPD u * uSZ u = K at *
    generalize N / uPD u = L at *
    omega
set_option maxRecDepth 100000 in
set_option maxHeartbeats 4000000 in
theorem s_X7_plus {l : Launch} {G : GG} {w : AH} {Q : Option Value → AH → Prop} {X : String → AH → Prop} (hst : l.stackTraces = false) {z : Nat} {A : Nat → Nat} {th yq mq dq ty ap wr sz : Int} (h0 : w z = some (mdC A th yq mq dq ty ap wr sz)) {gd gn : Nat → Int} (h1 : w (A 0) = some (alA G 8 gd)) (h2 : w (A 1) = some (alA G 8 gn)) (hA01 : A 0 ≠ A 1) (hgd : ∀ k, k < 8 → -4371587 ≤ gd k ∧ gd k ≤ 2932896) (hgn : ∀ k, k < 8 → 0 ≤ gn k ∧ gn k ≤ 86399999999999) {i u N y m d : Int} (hi : -2147483648 ≤ i ∧ i ≤ 2147483647) (hu : -2147483648 ≤ u ∧ u ≤ 2147483647) (hN : -9223372036854775808 ≤ N ∧ N ≤ 9223372036854775807) (hV : (0 ≤ i ∧ i ≤ 7) → gd i.toNat = ed y m d ∧ (-9999 ≤ y ∧ y ≤ 9999) ∧ (1 ≤ m ∧ m ≤ 12) ∧ (1 ≤ d ∧ d ≤ lenM y m)) (hQI : (i < 0 ∨ 7 < i) → Q none (aup w z (mdC A 1 yq mq dq ty ap wr sz))) (hQ2 : (0 ≤ i ∧ i ≤ 7) →  ¬ (0 ≤ u ∧ u ≤ 13) → Q none (aup w z (mdC A 2 yq mq dq ty ap wr sz))) (hQB : ∀ yr' mo' da' : Int,  (0 ≤ i ∧ i ≤ 7) →  (0 ≤ u ∧ u ≤ 13) → plB N u → Q none (aup w z (mdC A 3 yr' mo' da' ty ap wr sz))) (hQm : ∀ yr' mo' da' : Int,  (0 ≤ i ∧ i ≤ 7) →  ¬ plB N u → (9 ≤ u ∧ u ≤ 13) → ∀ t : Int, t = y * 12 + m - 1 + N * mOU u →  (-119988 ≤ t ∧ t ≤ 119999) → Q none (aup (aup w z (mdC A 0 yr' mo' da' ty ap wr sz)) (A 0) (alA G 8 (gup gd i.toNat (monT t d))))) (hQn : ∀ yr' mo' da' : Int,  (0 ≤ i ∧ i ≤ 7) →  ¬ plB N u → (9 ≤ u ∧ u ≤ 13) → ∀ t : Int, t = y * 12 + m - 1 + N * mOU u →  (t < -119988 ∨ 119999 < t) → Q none (aup w z (mdC A 3 yr' mo' da' ty ap wr sz))) (hQp : ∀ yr' mo' da' : Int,  (0 ≤ i ∧ i ≤ 7) →  ¬ plB N u → (0 ≤ u ∧ u ≤ 8) → ∀ T D : Int, plE (gn i.toNat) N u T D → (-4371587 ≤ ed y m d + D ∧ ed y m d + D ≤ 2932896) → Q none (aup (aup (aup w z (mdC A 0 yr' mo' da' ty ap wr sz)) (A 0) (alA G 8 (gup gd i.toNat (ed y m d + D)))) (A 1) (alA G 8 (gup gn i.toNat T)))) (hQq : ∀ yr' mo' da' : Int,  (0 ≤ i ∧ i ≤ 7) →  ¬ plB N u → (0 ≤ u ∧ u ≤ 8) → ∀ T D : Int, plE (gn i.toNat) N u T D → (ed y m d + D < -4371587 ∨ 2932896 < ed y m d + D) → Q none (aup w z (mdC A 3 yr' mo' da' ty ap wr sz))) : Ct l G mX7_plus rX7_plus [(.ref z), .int (iI i), .long (lI N), .int (iI u)] w Q X := by
  have nz0 : A 0 ≠ z := fun e => ne_of h0 h1 mdal e.symm
  have nz1 : A 1 ≠ z := fun e => ne_of h0 h2 mdal e.symm
  refine ct_of hst mk_X7_plus (Nat.le_of_ble_eq_true rfl) ?_
  refine v_aload_n dX7_plus_0 rfl ?_
  refine v_iload_n dX7_plus_1 rfl ?_
  refine v_V1 (rm' := rX7_isSlot) (RX7, TX7, 18) dX7_plus_2 km_X7_120 kn_X7_isSlot kv_X7_isSlot kz_X7 mk_X7_isSlot rfl rfl (by first | exact h0 | exact aup_s | exact (aup_n nz0).trans h1 | exact (aup_n nz1).trans h2 | exact (aup_n nz0.symm).trans aup_s | exact (aup_n nz0).trans ((aup_n nz0).trans h1) | exact (aup_n nz1).trans ((aup_n nz1).trans h2)) ⟨Nat.le_of_ble_eq_true rfl, Nat.le_of_ble_eq_true rfl⟩ ⟨Nat.le_of_ble_eq_true rfl, Nat.le_of_ble_eq_true rfl⟩ (Nat.le_of_ble_eq_true rfl) ?_
  refine s_X7_isSlot hst h0 hi (fun h7 => ?_) (fun h7 => ?_)
  · obtain ⟨e0, hy, hm, hd⟩ := hV h7
    have hn := hgn i.toNat (by omega)
    have hgi := hgd i.toNat (by omega)
    have hlen := lenM_rng y m
    have hwd := wd_c (gd i.toNat)
    have hwe := wd_c (ed y m d)
    have hed := ed_rng hy hm hd
    have K138 : ¬ plB N u → (0 ≤ u ∧ u ≤ 8) → (7 ≤ u → -10000000 ≤ N ∧ N ≤ 10000000) → V l G mX7_plus rX7_plus Q X 138 (lof [(0, .ref z), (1, .int (iI i)), (2, .long (lI N)), (4, .int (iI u)), (5, .long (lI (ed y m d)))]) [] (aup w z (mdC A 0 yq mq dq ty ap wr sz)) 0 0 := by
      intro nb hu8 hNb
      have hps := uPS (N := N) (u := if u = 8 then 7 else u) (by split <;> omega)
      have hps2 : u ≤ 7 → (0 < uPD u ∧ uPD u ≤ 86400000000000) ∧ (0 < uSZ u ∧ uSZ u ≤ 86400000000000) ∧ 86400000000000 / uSZ u = uPD u ∧ (0 ≤ N % uPD u * uSZ u ∧ N % uPD u * uSZ u ≤ 86399999999999) := fun h => uPS (N := N) (by omega)
      have hp0 : 0 < uPD u ∧ uPD u ≤ 86400000000000 := (by rcases (show u = 8 ∨ u ≤ 7 by omega) with g | g; (rw [g, uPD_8]; omega); exact (hps2 g).1)
      have hp1 : u ≤ 6 → (0 < uSZ u ∧ uSZ u ≤ 86400000000000) ∧ (0 ≤ N % uPD u * uSZ u ∧ N % uPD u * uSZ u ≤ 86399999999999) := fun h => ⟨(hps2 (by omega)).2.1, (hps2 (by omega)).2.2.2⟩
      have hp7 : 6 < u → uPD u = 1 := fun h => (by rcases (show u = 7 ∨ u = 8 by omega) with g | g <;> rw [g] <;> decide)
      obtain ⟨n, hnn⟩ : ∃ n, n = gn i.toNat := ⟨_, rfl⟩
      rw [← hnn] at hn hQp hQq
      have J239 : ∀ S q0 D : Int, ((u = 8 ∧ q0 = 7 * N) ∨ (u ≠ 8 ∧ q0 = N / uPD u)) → ((u ≤ 6 ∧ S = n + N % uPD u * uSZ u) ∨ (6 < u ∧ S = n)) → ((86400000000000 ≤ S ∧ D = q0 + 1) ∨ (S < 86400000000000 ∧ D = q0 + 0)) → V l G mX7_plus rX7_plus Q X 239 (lof [(0, .ref z), (1, .int (iI i)), (2, .long (lI N)), (4, .int (iI u)), (5, .long (lI (ed y m d))), (9, .long (lI D)), (11, .long (lI S))]) [] (aup w z (mdC A 0 yq mq dq ty ap wr sz)) 0 0 := by
        intro S q0 D hq hS hD
        have hSr : 0 ≤ S ∧ S ≤ 172799999999998 := (by omega)
        have hqr : -9223372036854775000 ≤ q0 ∧ q0 ≤ 9223372036854775000 := (by rcases hq with ⟨g1, g2⟩ | ⟨g1, g2⟩; omega; (rcases uPD_c (u := u) (by omega) with ⟨k1, k2, -⟩ | ⟨k1, k2, -⟩ | ⟨k1, k2, -⟩ | ⟨k1, k2, -⟩ | ⟨k1, k2, -⟩ | ⟨k1, k2, -⟩ | ⟨k1, k2, -⟩ | ⟨k1, k2, -⟩ <;> rw [k2] at g2 <;> omega))
        refine v_aload_n dX7_plus_239 rfl ?_
        refine v_lload dX7_plus_240 rfl ?_
        refine v_ldc2 (-10000000) dX7_plus_242 kl_X7_187 ?_
        refine v_ldc2 (10000000) dX7_plus_245 kl_X7_189 ?_
        refine v_S3 (rm' := rX7_in) dX7_plus_248 km_X7_102 ks_X7_in kz_X7 mk_X7_in rfl ⟨Nat.le_of_ble_eq_true rfl, Nat.le_of_ble_eq_true rfl⟩ ⟨Nat.le_of_ble_eq_true rfl, Nat.le_of_ble_eq_true rfl⟩ (Nat.le_of_ble_eq_true rfl) ?_
        refine s_X7_in hst (fun ri ei => ?_)
        refine v_if_eq 269 dX7_plus_251 (fun h_251 => ?_) (fun h_251 => ?_)
        · refine v_iconst dX7_plus_269 ?_
          refine v_put dX7_plus_270 f_X7_41 (by first | exact h0 | exact aup_s | exact (aup_n nz0).trans h1 | exact (aup_n nz1).trans h2 | exact (aup_n nz0.symm).trans aup_s | exact (aup_n nz0).trans ((aup_n nz0).trans h1) | exact (aup_n nz1).trans ((aup_n nz1).trans h2) | exact (aup_n hA01.symm).trans ((aup_n nz1).trans h2) | exact (aup_n nz1.symm).trans ((aup_n nz0.symm).trans aup_s) | exact (aup_n nz0.symm).trans aup_s) rfl rfl (Nat.le_of_ble_eq_true rfl) ?_
          try rw [aup_up]
          refine v_aload_n dX7_plus_273 rfl ?_
          refine v_get dX7_plus_274 f_X7_41 (by first | exact h0 | exact aup_s | exact (aup_n nz0).trans h1 | exact (aup_n nz1).trans h2 | exact (aup_n nz0.symm).trans aup_s | exact (aup_n nz0).trans ((aup_n nz0).trans h1) | exact (aup_n nz1).trans ((aup_n nz1).trans h2) | exact (aup_n hA01.symm).trans ((aup_n nz1).trans h2) | exact (aup_n nz1.symm).trans ((aup_n nz0.symm).trans aup_s) | exact (aup_n nz0.symm).trans aup_s) rfl ?_
          refine v_if_ne 303 dX7_plus_277 (fun h_277 => ?_) (fun h_277 => ?_)
          · exact v_vret dX7_plus_303 rfl (by first | (exfalso; omega) | (have c9 : ed y m d + D < -4371587 ∨ 2932896 < ed y m d + D := (by omega); exact hQq _ _ _ h7 nb hu8 _ D (plE_of hu8 hn hq hS hD) c9) | (have c9 : -4371587 ≤ ed y m d + D ∧ ed y m d + D ≤ 2932896 := (by omega); exact hQp _ _ _ h7 nb hu8 _ D (plE_of hu8 hn hq hS hD) c9))
          · refine v_aload_n dX7_plus_280 rfl ?_
            refine v_get dX7_plus_281 f_X7_7 (by first | exact h0 | exact aup_s | exact (aup_n nz0).trans h1 | exact (aup_n nz1).trans h2 | exact (aup_n nz0.symm).trans aup_s | exact (aup_n nz0).trans ((aup_n nz0).trans h1) | exact (aup_n nz1).trans ((aup_n nz1).trans h2) | exact (aup_n hA01.symm).trans ((aup_n nz1).trans h2) | exact (aup_n nz1.symm).trans ((aup_n nz0.symm).trans aup_s) | exact (aup_n nz0.symm).trans aup_s) rfl ?_
            refine v_iload_n dX7_plus_284 rfl ?_
            refine v_lload dX7_plus_285 rfl ?_
            refine v_lload dX7_plus_287 rfl ?_
            refine v_ladd dX7_plus_289 ?_
            refine v_last dX7_plus_290 (by first | exact h0 | exact aup_s | exact (aup_n nz0).trans h1 | exact (aup_n nz1).trans h2 | exact (aup_n nz0.symm).trans aup_s | exact (aup_n nz0).trans ((aup_n nz0).trans h1) | exact (aup_n nz1).trans ((aup_n nz1).trans h2) | exact (aup_n hA01.symm).trans ((aup_n nz1).trans h2) | exact (aup_n nz1.symm).trans ((aup_n nz0.symm).trans aup_s) | exact (aup_n nz0.symm).trans aup_s) ?_
            refine v_aload_n dX7_plus_291 rfl ?_
            refine v_get dX7_plus_292 f_X7_13 (by first | exact h0 | exact aup_s | exact (aup_n nz0).trans h1 | exact (aup_n nz1).trans h2 | exact (aup_n nz0.symm).trans aup_s | exact (aup_n nz0).trans ((aup_n nz0).trans h1) | exact (aup_n nz1).trans ((aup_n nz1).trans h2) | exact (aup_n hA01.symm).trans ((aup_n nz1).trans h2) | exact (aup_n nz1.symm).trans ((aup_n nz0.symm).trans aup_s) | exact (aup_n nz0.symm).trans aup_s) rfl ?_
            refine v_iload_n dX7_plus_295 rfl ?_
            refine v_lload dX7_plus_296 rfl ?_
            refine v_ldc2 (86400000000000) dX7_plus_298 kl_X7_173 ?_
            refine v_lremP dX7_plus_301 ?_
            refine v_last dX7_plus_302 (by first | exact h0 | exact aup_s | exact (aup_n nz0).trans h1 | exact (aup_n nz1).trans h2 | exact (aup_n nz0.symm).trans aup_s | exact (aup_n nz0).trans ((aup_n nz0).trans h1) | exact (aup_n nz1).trans ((aup_n nz1).trans h2) | exact (aup_n hA01.symm).trans ((aup_n nz1).trans h2) | exact (aup_n nz1.symm).trans ((aup_n nz0.symm).trans aup_s) | exact (aup_n nz0.symm).trans aup_s) ?_
            exact v_vret dX7_plus_303 rfl (by first | (exfalso; omega) | (have c9 : ed y m d + D < -4371587 ∨ 2932896 < ed y m d + D := (by omega); exact hQq _ _ _ h7 nb hu8 _ D (plE_of hu8 hn hq hS hD) c9) | (have c9 : -4371587 ≤ ed y m d + D ∧ ed y m d + D ≤ 2932896 := (by omega); exact hQp _ _ _ h7 nb hu8 _ D (plE_of hu8 hn hq hS hD) c9))
        · refine v_lload dX7_plus_254 rfl ?_
          refine v_lload dX7_plus_256 rfl ?_
          refine v_ladd dX7_plus_258 ?_
          refine v_S1 (rm' := rX7_within) dX7_plus_259 km_X7_166 ks_X7_within kz_X7 mk_X7_within rfl ⟨Nat.le_of_ble_eq_true rfl, Nat.le_of_ble_eq_true rfl⟩ ⟨Nat.le_of_ble_eq_true rfl, Nat.le_of_ble_eq_true rfl⟩ (Nat.le_of_ble_eq_true rfl) ?_
          refine s_X7_within hst (fun rw9 ew9 => ?_)
          refine v_if_eq 269 dX7_plus_262 (fun h_262 => ?_) (fun h_262 => ?_)
          · refine v_iconst dX7_plus_269 ?_
            refine v_put dX7_plus_270 f_X7_41 (by first | exact h0 | exact aup_s | exact (aup_n nz0).trans h1 | exact (aup_n nz1).trans h2 | exact (aup_n nz0.symm).trans aup_s | exact (aup_n nz0).trans ((aup_n nz0).trans h1) | exact (aup_n nz1).trans ((aup_n nz1).trans h2) | exact (aup_n hA01.symm).trans ((aup_n nz1).trans h2) | exact (aup_n nz1.symm).trans ((aup_n nz0.symm).trans aup_s) | exact (aup_n nz0.symm).trans aup_s) rfl rfl (Nat.le_of_ble_eq_true rfl) ?_
            try rw [aup_up]
            refine v_aload_n dX7_plus_273 rfl ?_
            refine v_get dX7_plus_274 f_X7_41 (by first | exact h0 | exact aup_s | exact (aup_n nz0).trans h1 | exact (aup_n nz1).trans h2 | exact (aup_n nz0.symm).trans aup_s | exact (aup_n nz0).trans ((aup_n nz0).trans h1) | exact (aup_n nz1).trans ((aup_n nz1).trans h2) | exact (aup_n hA01.symm).trans ((aup_n nz1).trans h2) | exact (aup_n nz1.symm).trans ((aup_n nz0.symm).trans aup_s) | exact (aup_n nz0.symm).trans aup_s) rfl ?_
            refine v_if_ne 303 dX7_plus_277 (fun h_277 => ?_) (fun h_277 => ?_)
            · exact v_vret dX7_plus_303 rfl (by first | (exfalso; omega) | (have c9 : ed y m d + D < -4371587 ∨ 2932896 < ed y m d + D := (by omega); exact hQq _ _ _ h7 nb hu8 _ D (plE_of hu8 hn hq hS hD) c9) | (have c9 : -4371587 ≤ ed y m d + D ∧ ed y m d + D ≤ 2932896 := (by omega); exact hQp _ _ _ h7 nb hu8 _ D (plE_of hu8 hn hq hS hD) c9))
            · refine v_aload_n dX7_plus_280 rfl ?_
              refine v_get dX7_plus_281 f_X7_7 (by first | exact h0 | exact aup_s | exact (aup_n nz0).trans h1 | exact (aup_n nz1).trans h2 | exact (aup_n nz0.symm).trans aup_s | exact (aup_n nz0).trans ((aup_n nz0).trans h1) | exact (aup_n nz1).trans ((aup_n nz1).trans h2) | exact (aup_n hA01.symm).trans ((aup_n nz1).trans h2) | exact (aup_n nz1.symm).trans ((aup_n nz0.symm).trans aup_s) | exact (aup_n nz0.symm).trans aup_s) rfl ?_
              refine v_iload_n dX7_plus_284 rfl ?_
              refine v_lload dX7_plus_285 rfl ?_
              refine v_lload dX7_plus_287 rfl ?_
              refine v_ladd dX7_plus_289 ?_
              refine v_last dX7_plus_290 (by first | exact h0 | exact aup_s | exact (aup_n nz0).trans h1 | exact (aup_n nz1).trans h2 | exact (aup_n nz0.symm).trans aup_s | exact (aup_n nz0).trans ((aup_n nz0).trans h1) | exact (aup_n nz1).trans ((aup_n nz1).trans h2) | exact (aup_n hA01.symm).trans ((aup_n nz1).trans h2) | exact (aup_n nz1.symm).trans ((aup_n nz0.symm).trans aup_s) | exact (aup_n nz0.symm).trans aup_s) ?_
              refine v_aload_n dX7_plus_291 rfl ?_
              refine v_get dX7_plus_292 f_X7_13 (by first | exact h0 | exact aup_s | exact (aup_n nz0).trans h1 | exact (aup_n nz1).trans h2 | exact (aup_n nz0.symm).trans aup_s | exact (aup_n nz0).trans ((aup_n nz0).trans h1) | exact (aup_n nz1).trans ((aup_n nz1).trans h2) | exact (aup_n hA01.symm).trans ((aup_n nz1).trans h2) | exact (aup_n nz1.symm).trans ((aup_n nz0.symm).trans aup_s) | exact (aup_n nz0.symm).trans aup_s) rfl ?_
              refine v_iload_n dX7_plus_295 rfl ?_
              refine v_lload dX7_plus_296 rfl ?_
              refine v_ldc2 (86400000000000) dX7_plus_298 kl_X7_173 ?_
              refine v_lremP dX7_plus_301 ?_
              refine v_last dX7_plus_302 (by first | exact h0 | exact aup_s | exact (aup_n nz0).trans h1 | exact (aup_n nz1).trans h2 | exact (aup_n nz0.symm).trans aup_s | exact (aup_n nz0).trans ((aup_n nz0).trans h1) | exact (aup_n nz1).trans ((aup_n nz1).trans h2) | exact (aup_n hA01.symm).trans ((aup_n nz1).trans h2) | exact (aup_n nz1.symm).trans ((aup_n nz0.symm).trans aup_s) | exact (aup_n nz0.symm).trans aup_s) ?_
              exact v_vret dX7_plus_303 rfl (by first | (exfalso; omega) | (have c9 : ed y m d + D < -4371587 ∨ 2932896 < ed y m d + D := (by omega); exact hQq _ _ _ h7 nb hu8 _ D (plE_of hu8 hn hq hS hD) c9) | (have c9 : -4371587 ≤ ed y m d + D ∧ ed y m d + D ≤ 2932896 := (by omega); exact hQp _ _ _ h7 nb hu8 _ D (plE_of hu8 hn hq hS hD) c9))
          · refine v_iconst dX7_plus_265 ?_
            refine v_goto 270 dX7_plus_266 ?_
            refine v_put dX7_plus_270 f_X7_41 (by first | exact h0 | exact aup_s | exact (aup_n nz0).trans h1 | exact (aup_n nz1).trans h2 | exact (aup_n nz0.symm).trans aup_s | exact (aup_n nz0).trans ((aup_n nz0).trans h1) | exact (aup_n nz1).trans ((aup_n nz1).trans h2) | exact (aup_n hA01.symm).trans ((aup_n nz1).trans h2) | exact (aup_n nz1.symm).trans ((aup_n nz0.symm).trans aup_s) | exact (aup_n nz0.symm).trans aup_s) rfl rfl (Nat.le_of_ble_eq_true rfl) ?_
            try rw [aup_up]
            refine v_aload_n dX7_plus_273 rfl ?_
            refine v_get dX7_plus_274 f_X7_41 (by first | exact h0 | exact aup_s | exact (aup_n nz0).trans h1 | exact (aup_n nz1).trans h2 | exact (aup_n nz0.symm).trans aup_s | exact (aup_n nz0).trans ((aup_n nz0).trans h1) | exact (aup_n nz1).trans ((aup_n nz1).trans h2) | exact (aup_n hA01.symm).trans ((aup_n nz1).trans h2) | exact (aup_n nz1.symm).trans ((aup_n nz0.symm).trans aup_s) | exact (aup_n nz0.symm).trans aup_s) rfl ?_
            refine v_if_ne 303 dX7_plus_277 (fun h_277 => ?_) (fun h_277 => ?_)
            · exact v_vret dX7_plus_303 rfl (by first | (exfalso; omega) | (have c9 : ed y m d + D < -4371587 ∨ 2932896 < ed y m d + D := (by omega); exact hQq _ _ _ h7 nb hu8 _ D (plE_of hu8 hn hq hS hD) c9) | (have c9 : -4371587 ≤ ed y m d + D ∧ ed y m d + D ≤ 2932896 := (by omega); exact hQp _ _ _ h7 nb hu8 _ D (plE_of hu8 hn hq hS hD) c9))
            · refine v_aload_n dX7_plus_280 rfl ?_
              refine v_get dX7_plus_281 f_X7_7 (by first | exact h0 | exact aup_s | exact (aup_n nz0).trans h1 | exact (aup_n nz1).trans h2 | exact (aup_n nz0.symm).trans aup_s | exact (aup_n nz0).trans ((aup_n nz0).trans h1) | exact (aup_n nz1).trans ((aup_n nz1).trans h2) | exact (aup_n hA01.symm).trans ((aup_n nz1).trans h2) | exact (aup_n nz1.symm).trans ((aup_n nz0.symm).trans aup_s) | exact (aup_n nz0.symm).trans aup_s) rfl ?_
              refine v_iload_n dX7_plus_284 rfl ?_
              refine v_lload dX7_plus_285 rfl ?_
              refine v_lload dX7_plus_287 rfl ?_
              refine v_ladd dX7_plus_289 ?_
              refine v_last dX7_plus_290 (by first | exact h0 | exact aup_s | exact (aup_n nz0).trans h1 | exact (aup_n nz1).trans h2 | exact (aup_n nz0.symm).trans aup_s | exact (aup_n nz0).trans ((aup_n nz0).trans h1) | exact (aup_n nz1).trans ((aup_n nz1).trans h2) | exact (aup_n hA01.symm).trans ((aup_n nz1).trans h2) | exact (aup_n nz1.symm).trans ((aup_n nz0.symm).trans aup_s) | exact (aup_n nz0.symm).trans aup_s) ?_
              refine v_aload_n dX7_plus_291 rfl ?_
              refine v_get dX7_plus_292 f_X7_13 (by first | exact h0 | exact aup_s | exact (aup_n nz0).trans h1 | exact (aup_n nz1).trans h2 | exact (aup_n nz0.symm).trans aup_s | exact (aup_n nz0).trans ((aup_n nz0).trans h1) | exact (aup_n nz1).trans ((aup_n nz1).trans h2) | exact (aup_n hA01.symm).trans ((aup_n nz1).trans h2) | exact (aup_n nz1.symm).trans ((aup_n nz0.symm).trans aup_s) | exact (aup_n nz0.symm).trans aup_s) rfl ?_
              refine v_iload_n dX7_plus_295 rfl ?_
              refine v_lload dX7_plus_296 rfl ?_
              refine v_ldc2 (86400000000000) dX7_plus_298 kl_X7_173 ?_
              refine v_lremP dX7_plus_301 ?_
              refine v_last dX7_plus_302 (by first | exact h0 | exact aup_s | exact (aup_n nz0).trans h1 | exact (aup_n nz1).trans h2 | exact (aup_n nz0.symm).trans aup_s | exact (aup_n nz0).trans ((aup_n nz0).trans h1) | exact (aup_n nz1).trans ((aup_n nz1).trans h2) | exact (aup_n hA01.symm).trans ((aup_n nz1).trans h2) | exact (aup_n nz1.symm).trans ((aup_n nz0.symm).trans aup_s) | exact (aup_n nz0.symm).trans aup_s) ?_
              exact v_vret dX7_plus_303 rfl (by first | (exfalso; omega) | (have c9 : ed y m d + D < -4371587 ∨ 2932896 < ed y m d + D := (by omega); exact hQq _ _ _ h7 nb hu8 _ D (plE_of hu8 hn hq hS hD) c9) | (have c9 : -4371587 ≤ ed y m d + D ∧ ed y m d + D ≤ 2932896 := (by omega); exact hQp _ _ _ h7 nb hu8 _ D (plE_of hu8 hn hq hS hD) c9))
      have J220 : ∀ S q0 : Int, ((u = 8 ∧ q0 = 7 * N) ∨ (u ≠ 8 ∧ q0 = N / uPD u)) → ((u ≤ 6 ∧ S = n + N % uPD u * uSZ u) ∨ (6 < u ∧ S = n)) → V l G mX7_plus rX7_plus Q X 220 (lof [(0, .ref z), (1, .int (iI i)), (2, .long (lI N)), (4, .int (iI u)), (5, .long (lI (ed y m d))), (9, .long (lI q0)), (11, .long (lI S))]) [] (aup w z (mdC A 0 yq mq dq ty ap wr sz)) 0 0 := by
        intro S q0 hq hS
        have hSr : 0 ≤ S ∧ S ≤ 172799999999998 := (by omega)
        refine v_lload dX7_plus_220 rfl ?_
        refine v_lload dX7_plus_222 rfl ?_
        refine v_ldc2 (86400000000000) dX7_plus_224 kl_X7_173 ?_
        refine v_lif_lt 235 dX7_plus_227 dX7_plus_228 (fun h_227 => ?_) (fun h_227 => ?_)
        · refine v_lconst0 dX7_plus_235 ?_
          refine v_ladd dX7_plus_236 ?_
          refine v_lstore dX7_plus_237 (by decide) ?_
          exact v_lof [(0, .ref z), (1, .int (iI i)), (2, .long (lI N)), (4, .int (iI u)), (5, .long (lI (ed y m d))), (9, .long (lI _)), (11, .long (lI S))] (List.forall_mem_cons.mpr ⟨rfl, (List.forall_mem_cons.mpr ⟨rfl, (List.forall_mem_cons.mpr ⟨rfl, (List.forall_mem_cons.mpr ⟨rfl, (List.forall_mem_cons.mpr ⟨rfl, (List.forall_mem_cons.mpr ⟨rfl, (List.forall_mem_cons.mpr ⟨rfl, (fun _ h => nomatch h)⟩)⟩)⟩)⟩)⟩)⟩)⟩) (J239 S q0 _ hq hS (by omega))
        · refine v_lconst1 dX7_plus_231 ?_
          refine v_goto 236 dX7_plus_232 ?_
          refine v_ladd dX7_plus_236 ?_
          refine v_lstore dX7_plus_237 (by decide) ?_
          exact v_lof [(0, .ref z), (1, .int (iI i)), (2, .long (lI N)), (4, .int (iI u)), (5, .long (lI (ed y m d))), (9, .long (lI _)), (11, .long (lI S))] (List.forall_mem_cons.mpr ⟨rfl, (List.forall_mem_cons.mpr ⟨rfl, (List.forall_mem_cons.mpr ⟨rfl, (List.forall_mem_cons.mpr ⟨rfl, (List.forall_mem_cons.mpr ⟨rfl, (List.forall_mem_cons.mpr ⟨rfl, (List.forall_mem_cons.mpr ⟨rfl, (fun _ h => nomatch h)⟩)⟩)⟩)⟩)⟩)⟩)⟩) (J239 S q0 _ hq hS (by omega))
      have J183 : ∀ q0 : Int, ((u = 8 ∧ q0 = 7 * N) ∨ (u ≠ 8 ∧ q0 = N / uPD u)) → V l G mX7_plus rX7_plus Q X 183 (lof [(0, .ref z), (1, .int (iI i)), (2, .long (lI N)), (4, .int (iI u)), (5, .long (lI (ed y m d))), (7, .long (lI (uPD u))), (9, .long (lI q0))]) [] (aup w z (mdC A 0 yq mq dq ty ap wr sz)) 0 0 := by
        intro q0 hq
        refine v_aload_n dX7_plus_183 rfl ?_
        refine v_get dX7_plus_184 f_X7_13 (by first | exact h0 | exact aup_s | exact (aup_n nz0).trans h1 | exact (aup_n nz1).trans h2 | exact (aup_n nz0.symm).trans aup_s | exact (aup_n nz0).trans ((aup_n nz0).trans h1) | exact (aup_n nz1).trans ((aup_n nz1).trans h2)) rfl ?_
        refine v_iload_n dX7_plus_187 rfl ?_
        refine v_lald dX7_plus_188 (by first | exact h0 | exact aup_s | exact (aup_n nz0).trans h1 | exact (aup_n nz1).trans h2 | exact (aup_n nz0.symm).trans aup_s | exact (aup_n nz0).trans ((aup_n nz0).trans h1) | exact (aup_n nz1).trans ((aup_n nz1).trans h2)) ?_
        refine v_iload dX7_plus_189 rfl ?_
        refine v_bipush dX7_plus_191 ?_
        refine v_icmp_le 200 dX7_plus_193 (fun h_193 => ?_) (fun h_193 => ?_)
        · refine v_lload_n dX7_plus_200 rfl ?_
          refine v_lload dX7_plus_201 rfl ?_
          refine v_lload_n dX7_plus_203 rfl ?_
          refine v_lload dX7_plus_204 rfl ?_
          refine v_S2 (rm' := rX7_floor) dX7_plus_206 km_X7_59 ks_X7_floor kz_X7 mk_X7_floor rfl ⟨Nat.le_of_ble_eq_true rfl, Nat.le_of_ble_eq_true rfl⟩ ⟨Nat.le_of_ble_eq_true rfl, Nat.le_of_ble_eq_true rfl⟩ (Nat.le_of_ble_eq_true rfl) ?_
          refine s_X7_floor hst ?_
          refine v_lmul dX7_plus_209 ?_
          refine v_lsub dX7_plus_210 ?_
          rw [show N - uPD u * (N / uPD u) = N % uPD u from (Int.emod_def N (uPD u)).symm]
          refine v_iload dX7_plus_211 rfl ?_
          refine v_S1 (rm' := rX7_nanosOf) dX7_plus_213 km_X7_199 ks_X7_nanosOf kz_X7 mk_X7_nanosOf rfl ⟨Nat.le_of_ble_eq_true rfl, Nat.le_of_ble_eq_true rfl⟩ ⟨Nat.le_of_ble_eq_true rfl, Nat.le_of_ble_eq_true rfl⟩ (Nat.le_of_ble_eq_true rfl) ?_
          refine s_X7_nanosOf hst (by omega) ?_
          refine v_lmul dX7_plus_216 ?_
          refine v_ladd dX7_plus_217 ?_
          refine v_lstore dX7_plus_218 (by decide) ?_
          exact v_lof [(0, .ref z), (1, .int (iI i)), (2, .long (lI N)), (4, .int (iI u)), (5, .long (lI (ed y m d))), (9, .long (lI q0)), (11, .long (lI _))] (List.forall_mem_cons.mpr ⟨rfl, (List.forall_mem_cons.mpr ⟨rfl, (List.forall_mem_cons.mpr ⟨rfl, (List.forall_mem_cons.mpr ⟨rfl, (List.forall_mem_cons.mpr ⟨rfl, (List.forall_mem_cons.mpr ⟨rfl, (List.forall_mem_cons.mpr ⟨rfl, (fun _ h => nomatch h)⟩)⟩)⟩)⟩)⟩)⟩)⟩) (J220 _ q0 hq (by omega))
        · refine v_lconst0 dX7_plus_196 ?_
          refine v_goto 217 dX7_plus_197 ?_
          refine v_ladd dX7_plus_217 ?_
          refine v_lstore dX7_plus_218 (by decide) ?_
          exact v_lof [(0, .ref z), (1, .int (iI i)), (2, .long (lI N)), (4, .int (iI u)), (5, .long (lI (ed y m d))), (9, .long (lI q0)), (11, .long (lI _))] (List.forall_mem_cons.mpr ⟨rfl, (List.forall_mem_cons.mpr ⟨rfl, (List.forall_mem_cons.mpr ⟨rfl, (List.forall_mem_cons.mpr ⟨rfl, (List.forall_mem_cons.mpr ⟨rfl, (List.forall_mem_cons.mpr ⟨rfl, (List.forall_mem_cons.mpr ⟨rfl, (fun _ h => nomatch h)⟩)⟩)⟩)⟩)⟩)⟩)⟩) (J220 _ q0 hq (by omega))
      have J160 : ∀ _u : Unit, True → V l G mX7_plus rX7_plus Q X 160 (lof [(0, .ref z), (1, .int (iI i)), (2, .long (lI N)), (4, .int (iI u)), (5, .long (lI (ed y m d))), (7, .long (lI (uPD u)))]) [] (aup w z (mdC A 0 yq mq dq ty ap wr sz)) 0 0 := by
        intro u9 hu9
        refine v_iload dX7_plus_160 rfl ?_
        refine v_bipush dX7_plus_162 ?_
        refine v_icmp_ne 175 dX7_plus_164 (fun h_164 => ?_) (fun h_164 => ?_)
        · refine v_lload_n dX7_plus_175 rfl ?_
          refine v_lload dX7_plus_176 rfl ?_
          refine v_S2 (rm' := rX7_floor) dX7_plus_178 km_X7_59 ks_X7_floor kz_X7 mk_X7_floor rfl ⟨Nat.le_of_ble_eq_true rfl, Nat.le_of_ble_eq_true rfl⟩ ⟨Nat.le_of_ble_eq_true rfl, Nat.le_of_ble_eq_true rfl⟩ (Nat.le_of_ble_eq_true rfl) ?_
          refine s_X7_floor hst ?_
          refine v_lstore dX7_plus_181 (by decide) ?_
          exact v_lof [(0, .ref z), (1, .int (iI i)), (2, .long (lI N)), (4, .int (iI u)), (5, .long (lI (ed y m d))), (7, .long (lI (uPD u))), (9, .long (lI _))] (List.forall_mem_cons.mpr ⟨rfl, (List.forall_mem_cons.mpr ⟨rfl, (List.forall_mem_cons.mpr ⟨rfl, (List.forall_mem_cons.mpr ⟨rfl, (List.forall_mem_cons.mpr ⟨rfl, (List.forall_mem_cons.mpr ⟨rfl, (List.forall_mem_cons.mpr ⟨rfl, (fun _ h => nomatch h)⟩)⟩)⟩)⟩)⟩)⟩)⟩) (J183 _ (by omega))
        · refine v_ldc2 (7) dX7_plus_167 kl_X7_92 ?_
          refine v_lload_n dX7_plus_170 rfl ?_
          refine v_lmul dX7_plus_171 ?_
          refine v_goto 181 dX7_plus_172 ?_
          refine v_lstore dX7_plus_181 (by decide) ?_
          exact v_lof [(0, .ref z), (1, .int (iI i)), (2, .long (lI N)), (4, .int (iI u)), (5, .long (lI (ed y m d))), (7, .long (lI (uPD u))), (9, .long (lI _))] (List.forall_mem_cons.mpr ⟨rfl, (List.forall_mem_cons.mpr ⟨rfl, (List.forall_mem_cons.mpr ⟨rfl, (List.forall_mem_cons.mpr ⟨rfl, (List.forall_mem_cons.mpr ⟨rfl, (List.forall_mem_cons.mpr ⟨rfl, (List.forall_mem_cons.mpr ⟨rfl, (fun _ h => nomatch h)⟩)⟩)⟩)⟩)⟩)⟩)⟩) (J183 _ (by omega))
      refine v_iload dX7_plus_138 rfl ?_
      refine v_bipush dX7_plus_140 ?_
      refine v_icmp_le 149 dX7_plus_142 (fun h_142 => ?_) (fun h_142 => ?_)
      · refine v_ldc2 (86400000000000) dX7_plus_149 kl_X7_173 ?_
        refine v_iload dX7_plus_152 rfl ?_
        refine v_S1 (rm' := rX7_nanosOf) dX7_plus_154 km_X7_199 ks_X7_nanosOf kz_X7 mk_X7_nanosOf rfl ⟨Nat.le_of_ble_eq_true rfl, Nat.le_of_ble_eq_true rfl⟩ ⟨Nat.le_of_ble_eq_true rfl, Nat.le_of_ble_eq_true rfl⟩ (Nat.le_of_ble_eq_true rfl) ?_
        refine s_X7_nanosOf hst (by omega) ?_
        have hps3 := (hps2 (by omega)).2.2.1
        refine v_ldivP dX7_plus_157 ?_
        rw [hps3]
        refine v_lstore dX7_plus_158 (by decide) ?_
        first | exact v_lof [(0, .ref z), (1, .int (iI i)), (2, .long (lI N)), (4, .int (iI u)), (5, .long (lI (ed y m d))), (7, .long (lI (uPD u)))] (List.forall_mem_cons.mpr ⟨rfl, (List.forall_mem_cons.mpr ⟨rfl, (List.forall_mem_cons.mpr ⟨rfl, (List.forall_mem_cons.mpr ⟨rfl, (List.forall_mem_cons.mpr ⟨rfl, (List.forall_mem_cons.mpr ⟨rfl, (fun _ h => nomatch h)⟩)⟩)⟩)⟩)⟩)⟩) (J160 () trivial) | (rw [show (1 : Int) = uPD u from (hp7 (by omega)).symm]; exact v_lof [(0, .ref z), (1, .int (iI i)), (2, .long (lI N)), (4, .int (iI u)), (5, .long (lI (ed y m d))), (7, .long (lI (uPD u)))] (List.forall_mem_cons.mpr ⟨rfl, (List.forall_mem_cons.mpr ⟨rfl, (List.forall_mem_cons.mpr ⟨rfl, (List.forall_mem_cons.mpr ⟨rfl, (List.forall_mem_cons.mpr ⟨rfl, (List.forall_mem_cons.mpr ⟨rfl, (fun _ h => nomatch h)⟩)⟩)⟩)⟩)⟩)⟩) (J160 () trivial))
      · refine v_lconst1 dX7_plus_145 ?_
        refine v_goto 158 dX7_plus_146 ?_
        refine v_lstore dX7_plus_158 (by decide) ?_
        first | exact v_lof [(0, .ref z), (1, .int (iI i)), (2, .long (lI N)), (4, .int (iI u)), (5, .long (lI (ed y m d))), (7, .long (lI (uPD u)))] (List.forall_mem_cons.mpr ⟨rfl, (List.forall_mem_cons.mpr ⟨rfl, (List.forall_mem_cons.mpr ⟨rfl, (List.forall_mem_cons.mpr ⟨rfl, (List.forall_mem_cons.mpr ⟨rfl, (List.forall_mem_cons.mpr ⟨rfl, (fun _ h => nomatch h)⟩)⟩)⟩)⟩)⟩)⟩) (J160 () trivial) | (rw [show (1 : Int) = uPD u from (hp7 (by omega)).symm]; exact v_lof [(0, .ref z), (1, .int (iI i)), (2, .long (lI N)), (4, .int (iI u)), (5, .long (lI (ed y m d))), (7, .long (lI (uPD u)))] (List.forall_mem_cons.mpr ⟨rfl, (List.forall_mem_cons.mpr ⟨rfl, (List.forall_mem_cons.mpr ⟨rfl, (List.forall_mem_cons.mpr ⟨rfl, (List.forall_mem_cons.mpr ⟨rfl, (List.forall_mem_cons.mpr ⟨rfl, (fun _ h => nomatch h)⟩)⟩)⟩)⟩)⟩)⟩) (J160 () trivial))
    have K138b : plB N u → (0 ≤ u ∧ u ≤ 8) → (7 ≤ u → -10000000 ≤ N ∧ N ≤ 10000000) → V l G mX7_plus rX7_plus Q X 138 (lof [(0, .ref z), (1, .int (iI i)), (2, .long (lI N)), (4, .int (iI u)), (5, .long (lI (ed y m d)))]) [] (aup w z (mdC A 0 yq mq dq ty ap wr sz)) 0 0 := by
      intro hb hu8 hNb
      have hps := uPS (N := N) (u := if u = 8 then 7 else u) (by split <;> omega)
      have hps2 : u ≤ 7 → (0 < uPD u ∧ uPD u ≤ 86400000000000) ∧ (0 < uSZ u ∧ uSZ u ≤ 86400000000000) ∧ 86400000000000 / uSZ u = uPD u ∧ (0 ≤ N % uPD u * uSZ u ∧ N % uPD u * uSZ u ≤ 86399999999999) := fun h => uPS (N := N) (by omega)
      have hp0 : 0 < uPD u ∧ uPD u ≤ 86400000000000 := (by rcases (show u = 8 ∨ u ≤ 7 by omega) with g | g; (rw [g, uPD_8]; omega); exact (hps2 g).1)
      have hp1 : u ≤ 6 → (0 < uSZ u ∧ uSZ u ≤ 86400000000000) ∧ (0 ≤ N % uPD u * uSZ u ∧ N % uPD u * uSZ u ≤ 86399999999999) := fun h => ⟨(hps2 (by omega)).2.1, (hps2 (by omega)).2.2.2⟩
      have hp7 : 6 < u → uPD u = 1 := fun h => (by rcases (show u = 7 ∨ u = 8 by omega) with g | g <;> rw [g] <;> decide)
      obtain ⟨n, hnn⟩ : ∃ n, n = gn i.toNat := ⟨_, rfl⟩
      rw [← hnn] at hn
      have J239 : ∀ S q0 D : Int, ((u = 8 ∧ q0 = 7 * N) ∨ (u ≠ 8 ∧ q0 = N / uPD u)) → ((u ≤ 6 ∧ S = n + N % uPD u * uSZ u) ∨ (6 < u ∧ S = n)) → ((86400000000000 ≤ S ∧ D = q0 + 1) ∨ (S < 86400000000000 ∧ D = q0 + 0)) → V l G mX7_plus rX7_plus Q X 239 (lof [(0, .ref z), (1, .int (iI i)), (2, .long (lI N)), (4, .int (iI u)), (5, .long (lI (ed y m d))), (9, .long (lI D)), (11, .long (lI S))]) [] (aup w z (mdC A 0 yq mq dq ty ap wr sz)) 0 0 := by
        intro S q0 D hq hS hD
        have hSr : 0 ≤ S ∧ S ≤ 172799999999998 := (by omega)
        have hqr : -9223372036854775000 ≤ q0 ∧ q0 ≤ 9223372036854775000 := (by rcases hq with ⟨g1, g2⟩ | ⟨g1, g2⟩; omega; (rcases uPD_c (u := u) (by omega) with ⟨k1, k2, -⟩ | ⟨k1, k2, -⟩ | ⟨k1, k2, -⟩ | ⟨k1, k2, -⟩ | ⟨k1, k2, -⟩ | ⟨k1, k2, -⟩ | ⟨k1, k2, -⟩ | ⟨k1, k2, -⟩ <;> rw [k2] at g2 <;> omega))
        refine v_aload_n dX7_plus_239 rfl ?_
        refine v_lload dX7_plus_240 rfl ?_
        refine v_ldc2 (-10000000) dX7_plus_242 kl_X7_187 ?_
        refine v_ldc2 (10000000) dX7_plus_245 kl_X7_189 ?_
        refine v_S3 (rm' := rX7_in) dX7_plus_248 km_X7_102 ks_X7_in kz_X7 mk_X7_in rfl ⟨Nat.le_of_ble_eq_true rfl, Nat.le_of_ble_eq_true rfl⟩ ⟨Nat.le_of_ble_eq_true rfl, Nat.le_of_ble_eq_true rfl⟩ (Nat.le_of_ble_eq_true rfl) ?_
        refine s_X7_in hst (fun ri ei => ?_)
        refine v_if_eq 269 dX7_plus_251 (fun h_251 => ?_) (fun h_251 => ?_)
        · refine v_iconst dX7_plus_269 ?_
          refine v_put dX7_plus_270 f_X7_41 (by first | exact h0 | exact aup_s | exact (aup_n nz0).trans h1 | exact (aup_n nz1).trans h2 | exact (aup_n nz0.symm).trans aup_s | exact (aup_n nz0).trans ((aup_n nz0).trans h1) | exact (aup_n nz1).trans ((aup_n nz1).trans h2) | exact (aup_n hA01.symm).trans ((aup_n nz1).trans h2) | exact (aup_n nz1.symm).trans ((aup_n nz0.symm).trans aup_s) | exact (aup_n nz0.symm).trans aup_s) rfl rfl (Nat.le_of_ble_eq_true rfl) ?_
          try rw [aup_up]
          refine v_aload_n dX7_plus_273 rfl ?_
          refine v_get dX7_plus_274 f_X7_41 (by first | exact h0 | exact aup_s | exact (aup_n nz0).trans h1 | exact (aup_n nz1).trans h2 | exact (aup_n nz0.symm).trans aup_s | exact (aup_n nz0).trans ((aup_n nz0).trans h1) | exact (aup_n nz1).trans ((aup_n nz1).trans h2) | exact (aup_n hA01.symm).trans ((aup_n nz1).trans h2) | exact (aup_n nz1.symm).trans ((aup_n nz0.symm).trans aup_s) | exact (aup_n nz0.symm).trans aup_s) rfl ?_
          refine v_if_ne 303 dX7_plus_277 (fun h_277 => ?_) (fun h_277 => ?_)
          · exact v_vret dX7_plus_303 rfl (by first | (exfalso; omega) | (have c9 : ed y m d + D < -4371587 ∨ 2932896 < ed y m d + D := (by omega); exact hQB _ _ _ h7 (by omega) hb) | (exfalso; have hb2 := hb; unfold plB at hb2; have q9 := hp7 (by omega); rcases hq with ⟨g1, g2⟩ | ⟨g1, g2⟩; omega; (rw [q9] at g2; omega)))
          · refine v_aload_n dX7_plus_280 rfl ?_
            refine v_get dX7_plus_281 f_X7_7 (by first | exact h0 | exact aup_s | exact (aup_n nz0).trans h1 | exact (aup_n nz1).trans h2 | exact (aup_n nz0.symm).trans aup_s | exact (aup_n nz0).trans ((aup_n nz0).trans h1) | exact (aup_n nz1).trans ((aup_n nz1).trans h2) | exact (aup_n hA01.symm).trans ((aup_n nz1).trans h2) | exact (aup_n nz1.symm).trans ((aup_n nz0.symm).trans aup_s) | exact (aup_n nz0.symm).trans aup_s) rfl ?_
            refine v_iload_n dX7_plus_284 rfl ?_
            refine v_lload dX7_plus_285 rfl ?_
            refine v_lload dX7_plus_287 rfl ?_
            refine v_ladd dX7_plus_289 ?_
            refine v_last dX7_plus_290 (by first | exact h0 | exact aup_s | exact (aup_n nz0).trans h1 | exact (aup_n nz1).trans h2 | exact (aup_n nz0.symm).trans aup_s | exact (aup_n nz0).trans ((aup_n nz0).trans h1) | exact (aup_n nz1).trans ((aup_n nz1).trans h2) | exact (aup_n hA01.symm).trans ((aup_n nz1).trans h2) | exact (aup_n nz1.symm).trans ((aup_n nz0.symm).trans aup_s) | exact (aup_n nz0.symm).trans aup_s) ?_
            refine v_aload_n dX7_plus_291 rfl ?_
            refine v_get dX7_plus_292 f_X7_13 (by first | exact h0 | exact aup_s | exact (aup_n nz0).trans h1 | exact (aup_n nz1).trans h2 | exact (aup_n nz0.symm).trans aup_s | exact (aup_n nz0).trans ((aup_n nz0).trans h1) | exact (aup_n nz1).trans ((aup_n nz1).trans h2) | exact (aup_n hA01.symm).trans ((aup_n nz1).trans h2) | exact (aup_n nz1.symm).trans ((aup_n nz0.symm).trans aup_s) | exact (aup_n nz0.symm).trans aup_s) rfl ?_
            refine v_iload_n dX7_plus_295 rfl ?_
            refine v_lload dX7_plus_296 rfl ?_
            refine v_ldc2 (86400000000000) dX7_plus_298 kl_X7_173 ?_
            refine v_lremP dX7_plus_301 ?_
            refine v_last dX7_plus_302 (by first | exact h0 | exact aup_s | exact (aup_n nz0).trans h1 | exact (aup_n nz1).trans h2 | exact (aup_n nz0.symm).trans aup_s | exact (aup_n nz0).trans ((aup_n nz0).trans h1) | exact (aup_n nz1).trans ((aup_n nz1).trans h2) | exact (aup_n hA01.symm).trans ((aup_n nz1).trans h2) | exact (aup_n nz1.symm).trans ((aup_n nz0.symm).trans aup_s) | exact (aup_n nz0.symm).trans aup_s) ?_
            exact v_vret dX7_plus_303 rfl (by first | (exfalso; omega) | (have c9 : ed y m d + D < -4371587 ∨ 2932896 < ed y m d + D := (by omega); exact hQB _ _ _ h7 (by omega) hb) | (exfalso; have hb2 := hb; unfold plB at hb2; have q9 := hp7 (by omega); rcases hq with ⟨g1, g2⟩ | ⟨g1, g2⟩; omega; (rw [q9] at g2; omega)))
        · refine v_lload dX7_plus_254 rfl ?_
          refine v_lload dX7_plus_256 rfl ?_
          refine v_ladd dX7_plus_258 ?_
          refine v_S1 (rm' := rX7_within) dX7_plus_259 km_X7_166 ks_X7_within kz_X7 mk_X7_within rfl ⟨Nat.le_of_ble_eq_true rfl, Nat.le_of_ble_eq_true rfl⟩ ⟨Nat.le_of_ble_eq_true rfl, Nat.le_of_ble_eq_true rfl⟩ (Nat.le_of_ble_eq_true rfl) ?_
          refine s_X7_within hst (fun rw9 ew9 => ?_)
          refine v_if_eq 269 dX7_plus_262 (fun h_262 => ?_) (fun h_262 => ?_)
          · refine v_iconst dX7_plus_269 ?_
            refine v_put dX7_plus_270 f_X7_41 (by first | exact h0 | exact aup_s | exact (aup_n nz0).trans h1 | exact (aup_n nz1).trans h2 | exact (aup_n nz0.symm).trans aup_s | exact (aup_n nz0).trans ((aup_n nz0).trans h1) | exact (aup_n nz1).trans ((aup_n nz1).trans h2) | exact (aup_n hA01.symm).trans ((aup_n nz1).trans h2) | exact (aup_n nz1.symm).trans ((aup_n nz0.symm).trans aup_s) | exact (aup_n nz0.symm).trans aup_s) rfl rfl (Nat.le_of_ble_eq_true rfl) ?_
            try rw [aup_up]
            refine v_aload_n dX7_plus_273 rfl ?_
            refine v_get dX7_plus_274 f_X7_41 (by first | exact h0 | exact aup_s | exact (aup_n nz0).trans h1 | exact (aup_n nz1).trans h2 | exact (aup_n nz0.symm).trans aup_s | exact (aup_n nz0).trans ((aup_n nz0).trans h1) | exact (aup_n nz1).trans ((aup_n nz1).trans h2) | exact (aup_n hA01.symm).trans ((aup_n nz1).trans h2) | exact (aup_n nz1.symm).trans ((aup_n nz0.symm).trans aup_s) | exact (aup_n nz0.symm).trans aup_s) rfl ?_
            refine v_if_ne 303 dX7_plus_277 (fun h_277 => ?_) (fun h_277 => ?_)
            · exact v_vret dX7_plus_303 rfl (by first | (exfalso; omega) | (have c9 : ed y m d + D < -4371587 ∨ 2932896 < ed y m d + D := (by omega); exact hQB _ _ _ h7 (by omega) hb) | (exfalso; have hb2 := hb; unfold plB at hb2; have q9 := hp7 (by omega); rcases hq with ⟨g1, g2⟩ | ⟨g1, g2⟩; omega; (rw [q9] at g2; omega)))
            · refine v_aload_n dX7_plus_280 rfl ?_
              refine v_get dX7_plus_281 f_X7_7 (by first | exact h0 | exact aup_s | exact (aup_n nz0).trans h1 | exact (aup_n nz1).trans h2 | exact (aup_n nz0.symm).trans aup_s | exact (aup_n nz0).trans ((aup_n nz0).trans h1) | exact (aup_n nz1).trans ((aup_n nz1).trans h2) | exact (aup_n hA01.symm).trans ((aup_n nz1).trans h2) | exact (aup_n nz1.symm).trans ((aup_n nz0.symm).trans aup_s) | exact (aup_n nz0.symm).trans aup_s) rfl ?_
              refine v_iload_n dX7_plus_284 rfl ?_
              refine v_lload dX7_plus_285 rfl ?_
              refine v_lload dX7_plus_287 rfl ?_
              refine v_ladd dX7_plus_289 ?_
              refine v_last dX7_plus_290 (by first | exact h0 | exact aup_s | exact (aup_n nz0).trans h1 | exact (aup_n nz1).trans h2 | exact (aup_n nz0.symm).trans aup_s | exact (aup_n nz0).trans ((aup_n nz0).trans h1) | exact (aup_n nz1).trans ((aup_n nz1).trans h2) | exact (aup_n hA01.symm).trans ((aup_n nz1).trans h2) | exact (aup_n nz1.symm).trans ((aup_n nz0.symm).trans aup_s) | exact (aup_n nz0.symm).trans aup_s) ?_
              refine v_aload_n dX7_plus_291 rfl ?_
              refine v_get dX7_plus_292 f_X7_13 (by first | exact h0 | exact aup_s | exact (aup_n nz0).trans h1 | exact (aup_n nz1).trans h2 | exact (aup_n nz0.symm).trans aup_s | exact (aup_n nz0).trans ((aup_n nz0).trans h1) | exact (aup_n nz1).trans ((aup_n nz1).trans h2) | exact (aup_n hA01.symm).trans ((aup_n nz1).trans h2) | exact (aup_n nz1.symm).trans ((aup_n nz0.symm).trans aup_s) | exact (aup_n nz0.symm).trans aup_s) rfl ?_
              refine v_iload_n dX7_plus_295 rfl ?_
              refine v_lload dX7_plus_296 rfl ?_
              refine v_ldc2 (86400000000000) dX7_plus_298 kl_X7_173 ?_
              refine v_lremP dX7_plus_301 ?_
              refine v_last dX7_plus_302 (by first | exact h0 | exact aup_s | exact (aup_n nz0).trans h1 | exact (aup_n nz1).trans h2 | exact (aup_n nz0.symm).trans aup_s | exact (aup_n nz0).trans ((aup_n nz0).trans h1) | exact (aup_n nz1).trans ((aup_n nz1).trans h2) | exact (aup_n hA01.symm).trans ((aup_n nz1).trans h2) | exact (aup_n nz1.symm).trans ((aup_n nz0.symm).trans aup_s) | exact (aup_n nz0.symm).trans aup_s) ?_
              exact v_vret dX7_plus_303 rfl (by first | (exfalso; omega) | (have c9 : ed y m d + D < -4371587 ∨ 2932896 < ed y m d + D := (by omega); exact hQB _ _ _ h7 (by omega) hb) | (exfalso; have hb2 := hb; unfold plB at hb2; have q9 := hp7 (by omega); rcases hq with ⟨g1, g2⟩ | ⟨g1, g2⟩; omega; (rw [q9] at g2; omega)))
          · refine v_iconst dX7_plus_265 ?_
            refine v_goto 270 dX7_plus_266 ?_
            refine v_put dX7_plus_270 f_X7_41 (by first | exact h0 | exact aup_s | exact (aup_n nz0).trans h1 | exact (aup_n nz1).trans h2 | exact (aup_n nz0.symm).trans aup_s | exact (aup_n nz0).trans ((aup_n nz0).trans h1) | exact (aup_n nz1).trans ((aup_n nz1).trans h2) | exact (aup_n hA01.symm).trans ((aup_n nz1).trans h2) | exact (aup_n nz1.symm).trans ((aup_n nz0.symm).trans aup_s) | exact (aup_n nz0.symm).trans aup_s) rfl rfl (Nat.le_of_ble_eq_true rfl) ?_
            try rw [aup_up]
            refine v_aload_n dX7_plus_273 rfl ?_
            refine v_get dX7_plus_274 f_X7_41 (by first | exact h0 | exact aup_s | exact (aup_n nz0).trans h1 | exact (aup_n nz1).trans h2 | exact (aup_n nz0.symm).trans aup_s | exact (aup_n nz0).trans ((aup_n nz0).trans h1) | exact (aup_n nz1).trans ((aup_n nz1).trans h2) | exact (aup_n hA01.symm).trans ((aup_n nz1).trans h2) | exact (aup_n nz1.symm).trans ((aup_n nz0.symm).trans aup_s) | exact (aup_n nz0.symm).trans aup_s) rfl ?_
            refine v_if_ne 303 dX7_plus_277 (fun h_277 => ?_) (fun h_277 => ?_)
            · exact v_vret dX7_plus_303 rfl (by first | (exfalso; omega) | (have c9 : ed y m d + D < -4371587 ∨ 2932896 < ed y m d + D := (by omega); exact hQB _ _ _ h7 (by omega) hb) | (exfalso; have hb2 := hb; unfold plB at hb2; have q9 := hp7 (by omega); rcases hq with ⟨g1, g2⟩ | ⟨g1, g2⟩; omega; (rw [q9] at g2; omega)))
            · refine v_aload_n dX7_plus_280 rfl ?_
              refine v_get dX7_plus_281 f_X7_7 (by first | exact h0 | exact aup_s | exact (aup_n nz0).trans h1 | exact (aup_n nz1).trans h2 | exact (aup_n nz0.symm).trans aup_s | exact (aup_n nz0).trans ((aup_n nz0).trans h1) | exact (aup_n nz1).trans ((aup_n nz1).trans h2) | exact (aup_n hA01.symm).trans ((aup_n nz1).trans h2) | exact (aup_n nz1.symm).trans ((aup_n nz0.symm).trans aup_s) | exact (aup_n nz0.symm).trans aup_s) rfl ?_
              refine v_iload_n dX7_plus_284 rfl ?_
              refine v_lload dX7_plus_285 rfl ?_
              refine v_lload dX7_plus_287 rfl ?_
              refine v_ladd dX7_plus_289 ?_
              refine v_last dX7_plus_290 (by first | exact h0 | exact aup_s | exact (aup_n nz0).trans h1 | exact (aup_n nz1).trans h2 | exact (aup_n nz0.symm).trans aup_s | exact (aup_n nz0).trans ((aup_n nz0).trans h1) | exact (aup_n nz1).trans ((aup_n nz1).trans h2) | exact (aup_n hA01.symm).trans ((aup_n nz1).trans h2) | exact (aup_n nz1.symm).trans ((aup_n nz0.symm).trans aup_s) | exact (aup_n nz0.symm).trans aup_s) ?_
              refine v_aload_n dX7_plus_291 rfl ?_
              refine v_get dX7_plus_292 f_X7_13 (by first | exact h0 | exact aup_s | exact (aup_n nz0).trans h1 | exact (aup_n nz1).trans h2 | exact (aup_n nz0.symm).trans aup_s | exact (aup_n nz0).trans ((aup_n nz0).trans h1) | exact (aup_n nz1).trans ((aup_n nz1).trans h2) | exact (aup_n hA01.symm).trans ((aup_n nz1).trans h2) | exact (aup_n nz1.symm).trans ((aup_n nz0.symm).trans aup_s) | exact (aup_n nz0.symm).trans aup_s) rfl ?_
              refine v_iload_n dX7_plus_295 rfl ?_
              refine v_lload dX7_plus_296 rfl ?_
              refine v_ldc2 (86400000000000) dX7_plus_298 kl_X7_173 ?_
              refine v_lremP dX7_plus_301 ?_
              refine v_last dX7_plus_302 (by first | exact h0 | exact aup_s | exact (aup_n nz0).trans h1 | exact (aup_n nz1).trans h2 | exact (aup_n nz0.symm).trans aup_s | exact (aup_n nz0).trans ((aup_n nz0).trans h1) | exact (aup_n nz1).trans ((aup_n nz1).trans h2) | exact (aup_n hA01.symm).trans ((aup_n nz1).trans h2) | exact (aup_n nz1.symm).trans ((aup_n nz0.symm).trans aup_s) | exact (aup_n nz0.symm).trans aup_s) ?_
              exact v_vret dX7_plus_303 rfl (by first | (exfalso; omega) | (have c9 : ed y m d + D < -4371587 ∨ 2932896 < ed y m d + D := (by omega); exact hQB _ _ _ h7 (by omega) hb) | (exfalso; have hb2 := hb; unfold plB at hb2; have q9 := hp7 (by omega); rcases hq with ⟨g1, g2⟩ | ⟨g1, g2⟩; omega; (rw [q9] at g2; omega)))
      have J220 : ∀ S q0 : Int, ((u = 8 ∧ q0 = 7 * N) ∨ (u ≠ 8 ∧ q0 = N / uPD u)) → ((u ≤ 6 ∧ S = n + N % uPD u * uSZ u) ∨ (6 < u ∧ S = n)) → V l G mX7_plus rX7_plus Q X 220 (lof [(0, .ref z), (1, .int (iI i)), (2, .long (lI N)), (4, .int (iI u)), (5, .long (lI (ed y m d))), (9, .long (lI q0)), (11, .long (lI S))]) [] (aup w z (mdC A 0 yq mq dq ty ap wr sz)) 0 0 := by
        intro S q0 hq hS
        have hSr : 0 ≤ S ∧ S ≤ 172799999999998 := (by omega)
        refine v_lload dX7_plus_220 rfl ?_
        refine v_lload dX7_plus_222 rfl ?_
        refine v_ldc2 (86400000000000) dX7_plus_224 kl_X7_173 ?_
        refine v_lif_lt 235 dX7_plus_227 dX7_plus_228 (fun h_227 => ?_) (fun h_227 => ?_)
        · refine v_lconst0 dX7_plus_235 ?_
          refine v_ladd dX7_plus_236 ?_
          refine v_lstore dX7_plus_237 (by decide) ?_
          exact v_lof [(0, .ref z), (1, .int (iI i)), (2, .long (lI N)), (4, .int (iI u)), (5, .long (lI (ed y m d))), (9, .long (lI _)), (11, .long (lI S))] (List.forall_mem_cons.mpr ⟨rfl, (List.forall_mem_cons.mpr ⟨rfl, (List.forall_mem_cons.mpr ⟨rfl, (List.forall_mem_cons.mpr ⟨rfl, (List.forall_mem_cons.mpr ⟨rfl, (List.forall_mem_cons.mpr ⟨rfl, (List.forall_mem_cons.mpr ⟨rfl, (fun _ h => nomatch h)⟩)⟩)⟩)⟩)⟩)⟩)⟩) (J239 S q0 _ hq hS (by omega))
        · refine v_lconst1 dX7_plus_231 ?_
          refine v_goto 236 dX7_plus_232 ?_
          refine v_ladd dX7_plus_236 ?_
          refine v_lstore dX7_plus_237 (by decide) ?_
          exact v_lof [(0, .ref z), (1, .int (iI i)), (2, .long (lI N)), (4, .int (iI u)), (5, .long (lI (ed y m d))), (9, .long (lI _)), (11, .long (lI S))] (List.forall_mem_cons.mpr ⟨rfl, (List.forall_mem_cons.mpr ⟨rfl, (List.forall_mem_cons.mpr ⟨rfl, (List.forall_mem_cons.mpr ⟨rfl, (List.forall_mem_cons.mpr ⟨rfl, (List.forall_mem_cons.mpr ⟨rfl, (List.forall_mem_cons.mpr ⟨rfl, (fun _ h => nomatch h)⟩)⟩)⟩)⟩)⟩)⟩)⟩) (J239 S q0 _ hq hS (by omega))
      have J183 : ∀ q0 : Int, ((u = 8 ∧ q0 = 7 * N) ∨ (u ≠ 8 ∧ q0 = N / uPD u)) → V l G mX7_plus rX7_plus Q X 183 (lof [(0, .ref z), (1, .int (iI i)), (2, .long (lI N)), (4, .int (iI u)), (5, .long (lI (ed y m d))), (7, .long (lI (uPD u))), (9, .long (lI q0))]) [] (aup w z (mdC A 0 yq mq dq ty ap wr sz)) 0 0 := by
        intro q0 hq
        refine v_aload_n dX7_plus_183 rfl ?_
        refine v_get dX7_plus_184 f_X7_13 (by first | exact h0 | exact aup_s | exact (aup_n nz0).trans h1 | exact (aup_n nz1).trans h2 | exact (aup_n nz0.symm).trans aup_s | exact (aup_n nz0).trans ((aup_n nz0).trans h1) | exact (aup_n nz1).trans ((aup_n nz1).trans h2)) rfl ?_
        refine v_iload_n dX7_plus_187 rfl ?_
        refine v_lald dX7_plus_188 (by first | exact h0 | exact aup_s | exact (aup_n nz0).trans h1 | exact (aup_n nz1).trans h2 | exact (aup_n nz0.symm).trans aup_s | exact (aup_n nz0).trans ((aup_n nz0).trans h1) | exact (aup_n nz1).trans ((aup_n nz1).trans h2)) ?_
        refine v_iload dX7_plus_189 rfl ?_
        refine v_bipush dX7_plus_191 ?_
        refine v_icmp_le 200 dX7_plus_193 (fun h_193 => ?_) (fun h_193 => ?_)
        · refine v_lload_n dX7_plus_200 rfl ?_
          refine v_lload dX7_plus_201 rfl ?_
          refine v_lload_n dX7_plus_203 rfl ?_
          refine v_lload dX7_plus_204 rfl ?_
          refine v_S2 (rm' := rX7_floor) dX7_plus_206 km_X7_59 ks_X7_floor kz_X7 mk_X7_floor rfl ⟨Nat.le_of_ble_eq_true rfl, Nat.le_of_ble_eq_true rfl⟩ ⟨Nat.le_of_ble_eq_true rfl, Nat.le_of_ble_eq_true rfl⟩ (Nat.le_of_ble_eq_true rfl) ?_
          refine s_X7_floor hst ?_
          refine v_lmul dX7_plus_209 ?_
          refine v_lsub dX7_plus_210 ?_
          rw [show N - uPD u * (N / uPD u) = N % uPD u from (Int.emod_def N (uPD u)).symm]
          refine v_iload dX7_plus_211 rfl ?_
          refine v_S1 (rm' := rX7_nanosOf) dX7_plus_213 km_X7_199 ks_X7_nanosOf kz_X7 mk_X7_nanosOf rfl ⟨Nat.le_of_ble_eq_true rfl, Nat.le_of_ble_eq_true rfl⟩ ⟨Nat.le_of_ble_eq_true rfl, Nat.le_of_ble_eq_true rfl⟩ (Nat.le_of_ble_eq_true rfl) ?_
          refine s_X7_nanosOf hst (by omega) ?_
          refine v_lmul dX7_plus_216 ?_
          refine v_ladd dX7_plus_217 ?_
          refine v_lstore dX7_plus_218 (by decide) ?_
          exact v_lof [(0, .ref z), (1, .int (iI i)), (2, .long (lI N)), (4, .int (iI u)), (5, .long (lI (ed y m d))), (9, .long (lI q0)), (11, .long (lI _))] (List.forall_mem_cons.mpr ⟨rfl, (List.forall_mem_cons.mpr ⟨rfl, (List.forall_mem_cons.mpr ⟨rfl, (List.forall_mem_cons.mpr ⟨rfl, (List.forall_mem_cons.mpr ⟨rfl, (List.forall_mem_cons.mpr ⟨rfl, (List.forall_mem_cons.mpr ⟨rfl, (fun _ h => nomatch h)⟩)⟩)⟩)⟩)⟩)⟩)⟩) (J220 _ q0 hq (by omega))
        · refine v_lconst0 dX7_plus_196 ?_
          refine v_goto 217 dX7_plus_197 ?_
          refine v_ladd dX7_plus_217 ?_
          refine v_lstore dX7_plus_218 (by decide) ?_
          exact v_lof [(0, .ref z), (1, .int (iI i)), (2, .long (lI N)), (4, .int (iI u)), (5, .long (lI (ed y m d))), (9, .long (lI q0)), (11, .long (lI _))] (List.forall_mem_cons.mpr ⟨rfl, (List.forall_mem_cons.mpr ⟨rfl, (List.forall_mem_cons.mpr ⟨rfl, (List.forall_mem_cons.mpr ⟨rfl, (List.forall_mem_cons.mpr ⟨rfl, (List.forall_mem_cons.mpr ⟨rfl, (List.forall_mem_cons.mpr ⟨rfl, (fun _ h => nomatch h)⟩)⟩)⟩)⟩)⟩)⟩)⟩) (J220 _ q0 hq (by omega))
      have J160 : ∀ _u : Unit, True → V l G mX7_plus rX7_plus Q X 160 (lof [(0, .ref z), (1, .int (iI i)), (2, .long (lI N)), (4, .int (iI u)), (5, .long (lI (ed y m d))), (7, .long (lI (uPD u)))]) [] (aup w z (mdC A 0 yq mq dq ty ap wr sz)) 0 0 := by
        intro u9 hu9
        refine v_iload dX7_plus_160 rfl ?_
        refine v_bipush dX7_plus_162 ?_
        refine v_icmp_ne 175 dX7_plus_164 (fun h_164 => ?_) (fun h_164 => ?_)
        · refine v_lload_n dX7_plus_175 rfl ?_
          refine v_lload dX7_plus_176 rfl ?_
          refine v_S2 (rm' := rX7_floor) dX7_plus_178 km_X7_59 ks_X7_floor kz_X7 mk_X7_floor rfl ⟨Nat.le_of_ble_eq_true rfl, Nat.le_of_ble_eq_true rfl⟩ ⟨Nat.le_of_ble_eq_true rfl, Nat.le_of_ble_eq_true rfl⟩ (Nat.le_of_ble_eq_true rfl) ?_
          refine s_X7_floor hst ?_
          refine v_lstore dX7_plus_181 (by decide) ?_
          exact v_lof [(0, .ref z), (1, .int (iI i)), (2, .long (lI N)), (4, .int (iI u)), (5, .long (lI (ed y m d))), (7, .long (lI (uPD u))), (9, .long (lI _))] (List.forall_mem_cons.mpr ⟨rfl, (List.forall_mem_cons.mpr ⟨rfl, (List.forall_mem_cons.mpr ⟨rfl, (List.forall_mem_cons.mpr ⟨rfl, (List.forall_mem_cons.mpr ⟨rfl, (List.forall_mem_cons.mpr ⟨rfl, (List.forall_mem_cons.mpr ⟨rfl, (fun _ h => nomatch h)⟩)⟩)⟩)⟩)⟩)⟩)⟩) (J183 _ (by omega))
        · refine v_ldc2 (7) dX7_plus_167 kl_X7_92 ?_
          refine v_lload_n dX7_plus_170 rfl ?_
          refine v_lmul dX7_plus_171 ?_
          refine v_goto 181 dX7_plus_172 ?_
          refine v_lstore dX7_plus_181 (by decide) ?_
          exact v_lof [(0, .ref z), (1, .int (iI i)), (2, .long (lI N)), (4, .int (iI u)), (5, .long (lI (ed y m d))), (7, .long (lI (uPD u))), (9, .long (lI _))] (List.forall_mem_cons.mpr ⟨rfl, (List.forall_mem_cons.mpr ⟨rfl, (List.forall_mem_cons.mpr ⟨rfl, (List.forall_mem_cons.mpr ⟨rfl, (List.forall_mem_cons.mpr ⟨rfl, (List.forall_mem_cons.mpr ⟨rfl, (List.forall_mem_cons.mpr ⟨rfl, (fun _ h => nomatch h)⟩)⟩)⟩)⟩)⟩)⟩)⟩) (J183 _ (by omega))
      refine v_iload dX7_plus_138 rfl ?_
      refine v_bipush dX7_plus_140 ?_
      refine v_icmp_le 149 dX7_plus_142 (fun h_142 => ?_) (fun h_142 => ?_)
      · refine v_ldc2 (86400000000000) dX7_plus_149 kl_X7_173 ?_
        refine v_iload dX7_plus_152 rfl ?_
        refine v_S1 (rm' := rX7_nanosOf) dX7_plus_154 km_X7_199 ks_X7_nanosOf kz_X7 mk_X7_nanosOf rfl ⟨Nat.le_of_ble_eq_true rfl, Nat.le_of_ble_eq_true rfl⟩ ⟨Nat.le_of_ble_eq_true rfl, Nat.le_of_ble_eq_true rfl⟩ (Nat.le_of_ble_eq_true rfl) ?_
        refine s_X7_nanosOf hst (by omega) ?_
        have hps3 := (hps2 (by omega)).2.2.1
        refine v_ldivP dX7_plus_157 ?_
        rw [hps3]
        refine v_lstore dX7_plus_158 (by decide) ?_
        first | exact v_lof [(0, .ref z), (1, .int (iI i)), (2, .long (lI N)), (4, .int (iI u)), (5, .long (lI (ed y m d))), (7, .long (lI (uPD u)))] (List.forall_mem_cons.mpr ⟨rfl, (List.forall_mem_cons.mpr ⟨rfl, (List.forall_mem_cons.mpr ⟨rfl, (List.forall_mem_cons.mpr ⟨rfl, (List.forall_mem_cons.mpr ⟨rfl, (List.forall_mem_cons.mpr ⟨rfl, (fun _ h => nomatch h)⟩)⟩)⟩)⟩)⟩)⟩) (J160 () trivial) | (rw [show (1 : Int) = uPD u from (hp7 (by omega)).symm]; exact v_lof [(0, .ref z), (1, .int (iI i)), (2, .long (lI N)), (4, .int (iI u)), (5, .long (lI (ed y m d))), (7, .long (lI (uPD u)))] (List.forall_mem_cons.mpr ⟨rfl, (List.forall_mem_cons.mpr ⟨rfl, (List.forall_mem_cons.mpr ⟨rfl, (List.forall_mem_cons.mpr ⟨rfl, (List.forall_mem_cons.mpr ⟨rfl, (List.forall_mem_cons.mpr ⟨rfl, (fun _ h => nomatch h)⟩)⟩)⟩)⟩)⟩)⟩) (J160 () trivial))
      · refine v_lconst1 dX7_plus_145 ?_
        refine v_goto 158 dX7_plus_146 ?_
        refine v_lstore dX7_plus_158 (by decide) ?_
        first | exact v_lof [(0, .ref z), (1, .int (iI i)), (2, .long (lI N)), (4, .int (iI u)), (5, .long (lI (ed y m d))), (7, .long (lI (uPD u)))] (List.forall_mem_cons.mpr ⟨rfl, (List.forall_mem_cons.mpr ⟨rfl, (List.forall_mem_cons.mpr ⟨rfl, (List.forall_mem_cons.mpr ⟨rfl, (List.forall_mem_cons.mpr ⟨rfl, (List.forall_mem_cons.mpr ⟨rfl, (fun _ h => nomatch h)⟩)⟩)⟩)⟩)⟩)⟩) (J160 () trivial) | (rw [show (1 : Int) = uPD u from (hp7 (by omega)).symm]; exact v_lof [(0, .ref z), (1, .int (iI i)), (2, .long (lI N)), (4, .int (iI u)), (5, .long (lI (ed y m d))), (7, .long (lI (uPD u)))] (List.forall_mem_cons.mpr ⟨rfl, (List.forall_mem_cons.mpr ⟨rfl, (List.forall_mem_cons.mpr ⟨rfl, (List.forall_mem_cons.mpr ⟨rfl, (List.forall_mem_cons.mpr ⟨rfl, (List.forall_mem_cons.mpr ⟨rfl, (fun _ h => nomatch h)⟩)⟩)⟩)⟩)⟩)⟩) (J160 () trivial))
    refine v_if_ne 9 dX7_plus_5 (fun h_5 => ?_) (fun h_5 => ?_)
    rotate_left
    · (exfalso; omega)
    refine v_aload_n dX7_plus_9 rfl ?_
    refine v_iload dX7_plus_10 rfl ?_
    refine v_i2l dX7_plus_12 ?_
    refine v_lconst0 dX7_plus_13 ?_
    refine v_ldc2 (13) dX7_plus_14 kl_X7_185 ?_
    refine v_S3 (rm' := rX7_in) dX7_plus_17 km_X7_102 ks_X7_in kz_X7 mk_X7_in rfl ⟨Nat.le_of_ble_eq_true rfl, Nat.le_of_ble_eq_true rfl⟩ ⟨Nat.le_of_ble_eq_true rfl, Nat.le_of_ble_eq_true rfl⟩ (Nat.le_of_ble_eq_true rfl) ?_
    refine s_X7_in hst (fun ri ei => ?_)
    refine v_if_ne 27 dX7_plus_20 (fun h_20 => ?_) (fun h_20 => ?_)
    · refine v_iload dX7_plus_27 rfl ?_
      refine v_bipush dX7_plus_29 ?_
      refine v_icmp_le 51 dX7_plus_31 (fun h_31 => ?_) (fun h_31 => ?_)
      · refine v_iconst dX7_plus_51 ?_
        refine v_put dX7_plus_52 f_X7_41 (by first | exact h0 | exact aup_s | exact (aup_n nz0).trans h1 | exact (aup_n nz1).trans h2 | exact (aup_n nz0.symm).trans aup_s | exact (aup_n nz0).trans ((aup_n nz0).trans h1) | exact (aup_n nz1).trans ((aup_n nz1).trans h2)) rfl rfl (Nat.le_of_ble_eq_true rfl) ?_
        try rw [aup_up]
        refine v_aload_n dX7_plus_55 rfl ?_
        refine v_get dX7_plus_56 f_X7_41 (by first | exact h0 | exact aup_s | exact (aup_n nz0).trans h1 | exact (aup_n nz1).trans h2 | exact (aup_n nz0.symm).trans aup_s | exact (aup_n nz0).trans ((aup_n nz0).trans h1) | exact (aup_n nz1).trans ((aup_n nz1).trans h2)) rfl ?_
        refine v_if_le 63 dX7_plus_59 (fun h_59 => ?_) (fun h_59 => ?_)
        · refine v_aload_n dX7_plus_63 rfl ?_
          refine v_get dX7_plus_64 f_X7_7 (by first | exact h0 | exact aup_s | exact (aup_n nz0).trans h1 | exact (aup_n nz1).trans h2 | exact (aup_n nz0.symm).trans aup_s | exact (aup_n nz0).trans ((aup_n nz0).trans h1) | exact (aup_n nz1).trans ((aup_n nz1).trans h2)) rfl ?_
          refine v_iload_n dX7_plus_67 rfl ?_
          refine v_lald dX7_plus_68 (by first | exact h0 | exact aup_s | exact (aup_n nz0).trans h1 | exact (aup_n nz1).trans h2 | exact (aup_n nz0.symm).trans aup_s | exact (aup_n nz0).trans ((aup_n nz0).trans h1) | exact (aup_n nz1).trans ((aup_n nz1).trans h2)) ?_
          rw [e0]
          refine v_lstore dX7_plus_69 (by decide) ?_
          refine v_iload dX7_plus_71 rfl ?_
          refine v_bipush dX7_plus_73 ?_
          refine v_icmp_le 138 dX7_plus_75 (fun h_75 => ?_) (fun h_75 => ?_)
          · first | (exfalso; omega) | (by_cases hb : plB N u; (have hb2 := hb; unfold plB at hb2; exact v_lof [(0, .ref z), (1, .int (iI i)), (2, .long (lI N)), (4, .int (iI u)), (5, .long (lI (ed y m d)))] (List.forall_mem_cons.mpr ⟨rfl, (List.forall_mem_cons.mpr ⟨rfl, (List.forall_mem_cons.mpr ⟨rfl, (List.forall_mem_cons.mpr ⟨rfl, (List.forall_mem_cons.mpr ⟨rfl, (fun _ h => nomatch h)⟩)⟩)⟩)⟩)⟩) (K138b hb (by omega) (by omega))); exact v_lof [(0, .ref z), (1, .int (iI i)), (2, .long (lI N)), (4, .int (iI u)), (5, .long (lI (ed y m d)))] (List.forall_mem_cons.mpr ⟨rfl, (List.forall_mem_cons.mpr ⟨rfl, (List.forall_mem_cons.mpr ⟨rfl, (List.forall_mem_cons.mpr ⟨rfl, (List.forall_mem_cons.mpr ⟨rfl, (fun _ h => nomatch h)⟩)⟩)⟩)⟩)⟩) (K138 hb (by omega) (by omega)))
          · refine v_aload_n dX7_plus_78 rfl ?_
            refine v_lload dX7_plus_79 rfl ?_
            refine v_V1 (rm' := rX7_monthsOf) (RX7, TX7, 18) dX7_plus_81 km_X7_191 kn_X7_monthsOf kv_X7_monthsOf kz_X7 mk_X7_monthsOf rfl rfl (by first | exact h0 | exact aup_s | exact (aup_n nz0).trans h1 | exact (aup_n nz1).trans h2 | exact (aup_n nz0.symm).trans aup_s | exact (aup_n nz0).trans ((aup_n nz0).trans h1) | exact (aup_n nz1).trans ((aup_n nz1).trans h2)) ⟨Nat.le_of_ble_eq_true rfl, Nat.le_of_ble_eq_true rfl⟩ ⟨Nat.le_of_ble_eq_true rfl, Nat.le_of_ble_eq_true rfl⟩ (Nat.le_of_ble_eq_true rfl) ?_
            refine s_X7_monthsOf hst aup_s (by omega) (fun y' m' d' hy' hm' hd' he9 => ?_)
            obtain ⟨x1, x2, x3⟩ := ed_inj hm hd hm' hd' he9.symm
            subst x1 x2 x3
            rw [aup_up]
            refine v_lload_n dX7_plus_84 rfl ?_
            refine v_iload dX7_plus_85 rfl ?_
            refine v_S1 (rm' := rX7_monthsOfUnit) dX7_plus_87 km_X7_195 ks_X7_monthsOfUnit kz_X7 mk_X7_monthsOfUnit rfl ⟨Nat.le_of_ble_eq_true rfl, Nat.le_of_ble_eq_true rfl⟩ ⟨Nat.le_of_ble_eq_true rfl, Nat.le_of_ble_eq_true rfl⟩ (Nat.le_of_ble_eq_true rfl) ?_
            refine s_X7_monthsOfUnit hst (by omega) ?_
            have hmu := mOU_c (u := u) (by omega)
            have hNm : -12000000000 ≤ N * mOU u ∧ N * mOU u ≤ 12000000000 := (by rcases hmu with ⟨-, e⟩ | ⟨-, e⟩ | ⟨-, e⟩ | ⟨-, e⟩ | ⟨-, e⟩ <;> rw [e] <;> omega)
            have hNb : plB N u → (N * mOU u < -7000000 ∨ 7000000 < N * mOU u) := (fun hb => by unfold plB at hb; rcases hmu with ⟨-, e⟩ | ⟨-, e⟩ | ⟨-, e⟩ | ⟨-, e⟩ | ⟨-, e⟩ <;> rw [e] <;> omega)
            refine v_lmul dX7_plus_90 ?_
            refine v_ladd dX7_plus_91 ?_
            refine v_lstore dX7_plus_92 (by decide) ?_
            refine v_aload_n dX7_plus_94 rfl ?_
            refine v_lload dX7_plus_95 rfl ?_
            refine v_S1 (rm' := rX7_monthWithin) dX7_plus_97 km_X7_158 ks_X7_monthWithin kz_X7 mk_X7_monthWithin rfl ⟨Nat.le_of_ble_eq_true rfl, Nat.le_of_ble_eq_true rfl⟩ ⟨Nat.le_of_ble_eq_true rfl, Nat.le_of_ble_eq_true rfl⟩ (Nat.le_of_ble_eq_true rfl) ?_
            refine s_X7_monthWithin hst (fun rm9 em9 => ?_)
            refine v_if_eq 107 dX7_plus_100 (fun h_100 => ?_) (fun h_100 => ?_)
            · refine v_iconst dX7_plus_107 ?_
              refine v_put dX7_plus_108 f_X7_41 (by first | exact h0 | exact aup_s | exact (aup_n nz0).trans h1 | exact (aup_n nz1).trans h2 | exact (aup_n nz0.symm).trans aup_s | exact (aup_n nz0).trans ((aup_n nz0).trans h1) | exact (aup_n nz1).trans ((aup_n nz1).trans h2)) rfl rfl (Nat.le_of_ble_eq_true rfl) ?_
              try rw [aup_up]
              refine v_aload_n dX7_plus_111 rfl ?_
              refine v_get dX7_plus_112 f_X7_7 (by first | exact h0 | exact aup_s | exact (aup_n nz0).trans h1 | exact (aup_n nz1).trans h2 | exact (aup_n nz0.symm).trans aup_s | exact (aup_n nz0).trans ((aup_n nz0).trans h1) | exact (aup_n nz1).trans ((aup_n nz1).trans h2)) rfl ?_
              refine v_iload_n dX7_plus_115 rfl ?_
              refine v_aload_n dX7_plus_116 rfl ?_
              refine v_get dX7_plus_117 f_X7_41 (by first | exact h0 | exact aup_s | exact (aup_n nz0).trans h1 | exact (aup_n nz1).trans h2 | exact (aup_n nz0.symm).trans aup_s | exact (aup_n nz0).trans ((aup_n nz0).trans h1) | exact (aup_n nz1).trans ((aup_n nz1).trans h2)) rfl ?_
              refine v_if_ne 134 dX7_plus_120 (fun h_120 => ?_) (fun h_120 => ?_)
              · refine v_lload dX7_plus_134 rfl ?_
                refine v_last dX7_plus_136 (by first | exact h0 | exact aup_s | exact (aup_n nz0).trans h1 | exact (aup_n nz1).trans h2 | exact (aup_n nz0.symm).trans aup_s | exact (aup_n nz0).trans ((aup_n nz0).trans h1) | exact (aup_n nz1).trans ((aup_n nz1).trans h2)) ?_
                exact v_vret dX7_plus_137 rfl (by first | (exfalso; omega) | (have c9 : rm9 = 1 := (by omega); exact hQm _ _ _ h7 (fun hb => by have := hNb hb; omega) (by omega) _ (by omega) (by omega)) | (have c9 : rm9 = 0 := (by omega); rw [← e0, gup_id, aup_id ((aup_n nz0).trans h1)]; by_cases hb : plB N u; exact hQB _ _ _ h7 (by omega) hb; exact hQn _ _ _ h7 hb (by omega) _ rfl (by omega)))
              · refine v_aload_n dX7_plus_123 rfl ?_
                refine v_lload dX7_plus_124 rfl ?_
                refine v_lload dX7_plus_126 rfl ?_
                refine v_V2 (rm' := rX7_monthly) (RX7, TX7, 18) dX7_plus_128 km_X7_161 kn_X7_monthly kv_X7_monthly kz_X7 mk_X7_monthly rfl rfl (by first | exact h0 | exact aup_s | exact (aup_n nz0).trans h1 | exact (aup_n nz1).trans h2 | exact (aup_n nz0.symm).trans aup_s | exact (aup_n nz0).trans ((aup_n nz0).trans h1) | exact (aup_n nz1).trans ((aup_n nz1).trans h2)) ⟨Nat.le_of_ble_eq_true rfl, Nat.le_of_ble_eq_true rfl⟩ ⟨Nat.le_of_ble_eq_true rfl, Nat.le_of_ble_eq_true rfl⟩ (Nat.le_of_ble_eq_true rfl) ?_
                refine s_X7_monthly hst aup_s (by omega) (by omega) (fun y' m' d' hy' hm' hd' he9 => ?_)
                obtain ⟨x1, x2, x3⟩ := ed_inj hm hd hm' hd' he9.symm
                subst x1 x2 x3
                rw [aup_up]
                refine v_goto 136 dX7_plus_131 ?_
                refine v_last dX7_plus_136 (by first | exact h0 | exact aup_s | exact (aup_n nz0).trans h1 | exact (aup_n nz1).trans h2 | exact (aup_n nz0.symm).trans aup_s | exact (aup_n nz0).trans ((aup_n nz0).trans h1) | exact (aup_n nz1).trans ((aup_n nz1).trans h2)) ?_
                exact v_vret dX7_plus_137 rfl (by first | (exfalso; omega) | (have c9 : rm9 = 1 := (by omega); exact hQm _ _ _ h7 (fun hb => by have := hNb hb; omega) (by omega) _ (by omega) (by omega)) | (have c9 : rm9 = 0 := (by omega); rw [← e0, gup_id, aup_id ((aup_n nz0).trans h1)]; by_cases hb : plB N u; exact hQB _ _ _ h7 (by omega) hb; exact hQn _ _ _ h7 hb (by omega) _ rfl (by omega)))
            · refine v_iconst dX7_plus_103 ?_
              refine v_goto 108 dX7_plus_104 ?_
              refine v_put dX7_plus_108 f_X7_41 (by first | exact h0 | exact aup_s | exact (aup_n nz0).trans h1 | exact (aup_n nz1).trans h2 | exact (aup_n nz0.symm).trans aup_s | exact (aup_n nz0).trans ((aup_n nz0).trans h1) | exact (aup_n nz1).trans ((aup_n nz1).trans h2)) rfl rfl (Nat.le_of_ble_eq_true rfl) ?_
              try rw [aup_up]
              refine v_aload_n dX7_plus_111 rfl ?_
              refine v_get dX7_plus_112 f_X7_7 (by first | exact h0 | exact aup_s | exact (aup_n nz0).trans h1 | exact (aup_n nz1).trans h2 | exact (aup_n nz0.symm).trans aup_s | exact (aup_n nz0).trans ((aup_n nz0).trans h1) | exact (aup_n nz1).trans ((aup_n nz1).trans h2)) rfl ?_
              refine v_iload_n dX7_plus_115 rfl ?_
              refine v_aload_n dX7_plus_116 rfl ?_
              refine v_get dX7_plus_117 f_X7_41 (by first | exact h0 | exact aup_s | exact (aup_n nz0).trans h1 | exact (aup_n nz1).trans h2 | exact (aup_n nz0.symm).trans aup_s | exact (aup_n nz0).trans ((aup_n nz0).trans h1) | exact (aup_n nz1).trans ((aup_n nz1).trans h2)) rfl ?_
              refine v_if_ne 134 dX7_plus_120 (fun h_120 => ?_) (fun h_120 => ?_)
              · refine v_lload dX7_plus_134 rfl ?_
                refine v_last dX7_plus_136 (by first | exact h0 | exact aup_s | exact (aup_n nz0).trans h1 | exact (aup_n nz1).trans h2 | exact (aup_n nz0.symm).trans aup_s | exact (aup_n nz0).trans ((aup_n nz0).trans h1) | exact (aup_n nz1).trans ((aup_n nz1).trans h2)) ?_
                exact v_vret dX7_plus_137 rfl (by first | (exfalso; omega) | (have c9 : rm9 = 1 := (by omega); exact hQm _ _ _ h7 (fun hb => by have := hNb hb; omega) (by omega) _ (by omega) (by omega)) | (have c9 : rm9 = 0 := (by omega); rw [← e0, gup_id, aup_id ((aup_n nz0).trans h1)]; by_cases hb : plB N u; exact hQB _ _ _ h7 (by omega) hb; exact hQn _ _ _ h7 hb (by omega) _ rfl (by omega)))
              · refine v_aload_n dX7_plus_123 rfl ?_
                refine v_lload dX7_plus_124 rfl ?_
                refine v_lload dX7_plus_126 rfl ?_
                refine v_V2 (rm' := rX7_monthly) (RX7, TX7, 18) dX7_plus_128 km_X7_161 kn_X7_monthly kv_X7_monthly kz_X7 mk_X7_monthly rfl rfl (by first | exact h0 | exact aup_s | exact (aup_n nz0).trans h1 | exact (aup_n nz1).trans h2 | exact (aup_n nz0.symm).trans aup_s | exact (aup_n nz0).trans ((aup_n nz0).trans h1) | exact (aup_n nz1).trans ((aup_n nz1).trans h2)) ⟨Nat.le_of_ble_eq_true rfl, Nat.le_of_ble_eq_true rfl⟩ ⟨Nat.le_of_ble_eq_true rfl, Nat.le_of_ble_eq_true rfl⟩ (Nat.le_of_ble_eq_true rfl) ?_
                refine s_X7_monthly hst aup_s (by omega) (by omega) (fun y' m' d' hy' hm' hd' he9 => ?_)
                obtain ⟨x1, x2, x3⟩ := ed_inj hm hd hm' hd' he9.symm
                subst x1 x2 x3
                rw [aup_up]
                refine v_goto 136 dX7_plus_131 ?_
                refine v_last dX7_plus_136 (by first | exact h0 | exact aup_s | exact (aup_n nz0).trans h1 | exact (aup_n nz1).trans h2 | exact (aup_n nz0.symm).trans aup_s | exact (aup_n nz0).trans ((aup_n nz0).trans h1) | exact (aup_n nz1).trans ((aup_n nz1).trans h2)) ?_
                exact v_vret dX7_plus_137 rfl (by first | (exfalso; omega) | (have c9 : rm9 = 1 := (by omega); exact hQm _ _ _ h7 (fun hb => by have := hNb hb; omega) (by omega) _ (by omega) (by omega)) | (have c9 : rm9 = 0 := (by omega); rw [← e0, gup_id, aup_id ((aup_n nz0).trans h1)]; by_cases hb : plB N u; exact hQB _ _ _ h7 (by omega) hb; exact hQn _ _ _ h7 hb (by omega) _ rfl (by omega)))
        · exact v_vret dX7_plus_62 rfl (by first | (exfalso; omega) | (have c9 : ¬ (0 ≤ u ∧ u ≤ 13) := (by omega); exact hQ2 h7 c9) | exact hQB _ _ _ h7 (by omega) (by unfold plB; omega))
      · refine v_lload_n dX7_plus_34 rfl ?_
        refine v_ldc2 (-10000000) dX7_plus_35 kl_X7_187 ?_
        refine v_ldc2 (10000000) dX7_plus_38 kl_X7_189 ?_
        refine v_S3 (rm' := rX7_in) dX7_plus_41 km_X7_102 ks_X7_in kz_X7 mk_X7_in rfl ⟨Nat.le_of_ble_eq_true rfl, Nat.le_of_ble_eq_true rfl⟩ ⟨Nat.le_of_ble_eq_true rfl, Nat.le_of_ble_eq_true rfl⟩ (Nat.le_of_ble_eq_true rfl) ?_
        refine s_X7_in hst (fun ri ei => ?_)
        refine v_if_ne 51 dX7_plus_44 (fun h_44 => ?_) (fun h_44 => ?_)
        · refine v_iconst dX7_plus_51 ?_
          refine v_put dX7_plus_52 f_X7_41 (by first | exact h0 | exact aup_s | exact (aup_n nz0).trans h1 | exact (aup_n nz1).trans h2 | exact (aup_n nz0.symm).trans aup_s | exact (aup_n nz0).trans ((aup_n nz0).trans h1) | exact (aup_n nz1).trans ((aup_n nz1).trans h2)) rfl rfl (Nat.le_of_ble_eq_true rfl) ?_
          try rw [aup_up]
          refine v_aload_n dX7_plus_55 rfl ?_
          refine v_get dX7_plus_56 f_X7_41 (by first | exact h0 | exact aup_s | exact (aup_n nz0).trans h1 | exact (aup_n nz1).trans h2 | exact (aup_n nz0.symm).trans aup_s | exact (aup_n nz0).trans ((aup_n nz0).trans h1) | exact (aup_n nz1).trans ((aup_n nz1).trans h2)) rfl ?_
          refine v_if_le 63 dX7_plus_59 (fun h_59 => ?_) (fun h_59 => ?_)
          · refine v_aload_n dX7_plus_63 rfl ?_
            refine v_get dX7_plus_64 f_X7_7 (by first | exact h0 | exact aup_s | exact (aup_n nz0).trans h1 | exact (aup_n nz1).trans h2 | exact (aup_n nz0.symm).trans aup_s | exact (aup_n nz0).trans ((aup_n nz0).trans h1) | exact (aup_n nz1).trans ((aup_n nz1).trans h2)) rfl ?_
            refine v_iload_n dX7_plus_67 rfl ?_
            refine v_lald dX7_plus_68 (by first | exact h0 | exact aup_s | exact (aup_n nz0).trans h1 | exact (aup_n nz1).trans h2 | exact (aup_n nz0.symm).trans aup_s | exact (aup_n nz0).trans ((aup_n nz0).trans h1) | exact (aup_n nz1).trans ((aup_n nz1).trans h2)) ?_
            rw [e0]
            refine v_lstore dX7_plus_69 (by decide) ?_
            refine v_iload dX7_plus_71 rfl ?_
            refine v_bipush dX7_plus_73 ?_
            refine v_icmp_le 138 dX7_plus_75 (fun h_75 => ?_) (fun h_75 => ?_)
            · first | (exfalso; omega) | (by_cases hb : plB N u; (have hb2 := hb; unfold plB at hb2; exact v_lof [(0, .ref z), (1, .int (iI i)), (2, .long (lI N)), (4, .int (iI u)), (5, .long (lI (ed y m d)))] (List.forall_mem_cons.mpr ⟨rfl, (List.forall_mem_cons.mpr ⟨rfl, (List.forall_mem_cons.mpr ⟨rfl, (List.forall_mem_cons.mpr ⟨rfl, (List.forall_mem_cons.mpr ⟨rfl, (fun _ h => nomatch h)⟩)⟩)⟩)⟩)⟩) (K138b hb (by omega) (by omega))); exact v_lof [(0, .ref z), (1, .int (iI i)), (2, .long (lI N)), (4, .int (iI u)), (5, .long (lI (ed y m d)))] (List.forall_mem_cons.mpr ⟨rfl, (List.forall_mem_cons.mpr ⟨rfl, (List.forall_mem_cons.mpr ⟨rfl, (List.forall_mem_cons.mpr ⟨rfl, (List.forall_mem_cons.mpr ⟨rfl, (fun _ h => nomatch h)⟩)⟩)⟩)⟩)⟩) (K138 hb (by omega) (by omega)))
            · refine v_aload_n dX7_plus_78 rfl ?_
              refine v_lload dX7_plus_79 rfl ?_
              refine v_V1 (rm' := rX7_monthsOf) (RX7, TX7, 18) dX7_plus_81 km_X7_191 kn_X7_monthsOf kv_X7_monthsOf kz_X7 mk_X7_monthsOf rfl rfl (by first | exact h0 | exact aup_s | exact (aup_n nz0).trans h1 | exact (aup_n nz1).trans h2 | exact (aup_n nz0.symm).trans aup_s | exact (aup_n nz0).trans ((aup_n nz0).trans h1) | exact (aup_n nz1).trans ((aup_n nz1).trans h2)) ⟨Nat.le_of_ble_eq_true rfl, Nat.le_of_ble_eq_true rfl⟩ ⟨Nat.le_of_ble_eq_true rfl, Nat.le_of_ble_eq_true rfl⟩ (Nat.le_of_ble_eq_true rfl) ?_
              refine s_X7_monthsOf hst aup_s (by omega) (fun y' m' d' hy' hm' hd' he9 => ?_)
              obtain ⟨x1, x2, x3⟩ := ed_inj hm hd hm' hd' he9.symm
              subst x1 x2 x3
              rw [aup_up]
              refine v_lload_n dX7_plus_84 rfl ?_
              refine v_iload dX7_plus_85 rfl ?_
              refine v_S1 (rm' := rX7_monthsOfUnit) dX7_plus_87 km_X7_195 ks_X7_monthsOfUnit kz_X7 mk_X7_monthsOfUnit rfl ⟨Nat.le_of_ble_eq_true rfl, Nat.le_of_ble_eq_true rfl⟩ ⟨Nat.le_of_ble_eq_true rfl, Nat.le_of_ble_eq_true rfl⟩ (Nat.le_of_ble_eq_true rfl) ?_
              refine s_X7_monthsOfUnit hst (by omega) ?_
              have hmu := mOU_c (u := u) (by omega)
              have hNm : -12000000000 ≤ N * mOU u ∧ N * mOU u ≤ 12000000000 := (by rcases hmu with ⟨-, e⟩ | ⟨-, e⟩ | ⟨-, e⟩ | ⟨-, e⟩ | ⟨-, e⟩ <;> rw [e] <;> omega)
              have hNb : plB N u → (N * mOU u < -7000000 ∨ 7000000 < N * mOU u) := (fun hb => by unfold plB at hb; rcases hmu with ⟨-, e⟩ | ⟨-, e⟩ | ⟨-, e⟩ | ⟨-, e⟩ | ⟨-, e⟩ <;> rw [e] <;> omega)
              refine v_lmul dX7_plus_90 ?_
              refine v_ladd dX7_plus_91 ?_
              refine v_lstore dX7_plus_92 (by decide) ?_
              refine v_aload_n dX7_plus_94 rfl ?_
              refine v_lload dX7_plus_95 rfl ?_
              refine v_S1 (rm' := rX7_monthWithin) dX7_plus_97 km_X7_158 ks_X7_monthWithin kz_X7 mk_X7_monthWithin rfl ⟨Nat.le_of_ble_eq_true rfl, Nat.le_of_ble_eq_true rfl⟩ ⟨Nat.le_of_ble_eq_true rfl, Nat.le_of_ble_eq_true rfl⟩ (Nat.le_of_ble_eq_true rfl) ?_
              refine s_X7_monthWithin hst (fun rm9 em9 => ?_)
              refine v_if_eq 107 dX7_plus_100 (fun h_100 => ?_) (fun h_100 => ?_)
              · refine v_iconst dX7_plus_107 ?_
                refine v_put dX7_plus_108 f_X7_41 (by first | exact h0 | exact aup_s | exact (aup_n nz0).trans h1 | exact (aup_n nz1).trans h2 | exact (aup_n nz0.symm).trans aup_s | exact (aup_n nz0).trans ((aup_n nz0).trans h1) | exact (aup_n nz1).trans ((aup_n nz1).trans h2)) rfl rfl (Nat.le_of_ble_eq_true rfl) ?_
                try rw [aup_up]
                refine v_aload_n dX7_plus_111 rfl ?_
                refine v_get dX7_plus_112 f_X7_7 (by first | exact h0 | exact aup_s | exact (aup_n nz0).trans h1 | exact (aup_n nz1).trans h2 | exact (aup_n nz0.symm).trans aup_s | exact (aup_n nz0).trans ((aup_n nz0).trans h1) | exact (aup_n nz1).trans ((aup_n nz1).trans h2)) rfl ?_
                refine v_iload_n dX7_plus_115 rfl ?_
                refine v_aload_n dX7_plus_116 rfl ?_
                refine v_get dX7_plus_117 f_X7_41 (by first | exact h0 | exact aup_s | exact (aup_n nz0).trans h1 | exact (aup_n nz1).trans h2 | exact (aup_n nz0.symm).trans aup_s | exact (aup_n nz0).trans ((aup_n nz0).trans h1) | exact (aup_n nz1).trans ((aup_n nz1).trans h2)) rfl ?_
                refine v_if_ne 134 dX7_plus_120 (fun h_120 => ?_) (fun h_120 => ?_)
                · refine v_lload dX7_plus_134 rfl ?_
                  refine v_last dX7_plus_136 (by first | exact h0 | exact aup_s | exact (aup_n nz0).trans h1 | exact (aup_n nz1).trans h2 | exact (aup_n nz0.symm).trans aup_s | exact (aup_n nz0).trans ((aup_n nz0).trans h1) | exact (aup_n nz1).trans ((aup_n nz1).trans h2)) ?_
                  exact v_vret dX7_plus_137 rfl (by first | (exfalso; omega) | (have c9 : rm9 = 1 := (by omega); exact hQm _ _ _ h7 (fun hb => by have := hNb hb; omega) (by omega) _ (by omega) (by omega)) | (have c9 : rm9 = 0 := (by omega); rw [← e0, gup_id, aup_id ((aup_n nz0).trans h1)]; by_cases hb : plB N u; exact hQB _ _ _ h7 (by omega) hb; exact hQn _ _ _ h7 hb (by omega) _ rfl (by omega)))
                · refine v_aload_n dX7_plus_123 rfl ?_
                  refine v_lload dX7_plus_124 rfl ?_
                  refine v_lload dX7_plus_126 rfl ?_
                  refine v_V2 (rm' := rX7_monthly) (RX7, TX7, 18) dX7_plus_128 km_X7_161 kn_X7_monthly kv_X7_monthly kz_X7 mk_X7_monthly rfl rfl (by first | exact h0 | exact aup_s | exact (aup_n nz0).trans h1 | exact (aup_n nz1).trans h2 | exact (aup_n nz0.symm).trans aup_s | exact (aup_n nz0).trans ((aup_n nz0).trans h1) | exact (aup_n nz1).trans ((aup_n nz1).trans h2)) ⟨Nat.le_of_ble_eq_true rfl, Nat.le_of_ble_eq_true rfl⟩ ⟨Nat.le_of_ble_eq_true rfl, Nat.le_of_ble_eq_true rfl⟩ (Nat.le_of_ble_eq_true rfl) ?_
                  refine s_X7_monthly hst aup_s (by omega) (by omega) (fun y' m' d' hy' hm' hd' he9 => ?_)
                  obtain ⟨x1, x2, x3⟩ := ed_inj hm hd hm' hd' he9.symm
                  subst x1 x2 x3
                  rw [aup_up]
                  refine v_goto 136 dX7_plus_131 ?_
                  refine v_last dX7_plus_136 (by first | exact h0 | exact aup_s | exact (aup_n nz0).trans h1 | exact (aup_n nz1).trans h2 | exact (aup_n nz0.symm).trans aup_s | exact (aup_n nz0).trans ((aup_n nz0).trans h1) | exact (aup_n nz1).trans ((aup_n nz1).trans h2)) ?_
                  exact v_vret dX7_plus_137 rfl (by first | (exfalso; omega) | (have c9 : rm9 = 1 := (by omega); exact hQm _ _ _ h7 (fun hb => by have := hNb hb; omega) (by omega) _ (by omega) (by omega)) | (have c9 : rm9 = 0 := (by omega); rw [← e0, gup_id, aup_id ((aup_n nz0).trans h1)]; by_cases hb : plB N u; exact hQB _ _ _ h7 (by omega) hb; exact hQn _ _ _ h7 hb (by omega) _ rfl (by omega)))
              · refine v_iconst dX7_plus_103 ?_
                refine v_goto 108 dX7_plus_104 ?_
                refine v_put dX7_plus_108 f_X7_41 (by first | exact h0 | exact aup_s | exact (aup_n nz0).trans h1 | exact (aup_n nz1).trans h2 | exact (aup_n nz0.symm).trans aup_s | exact (aup_n nz0).trans ((aup_n nz0).trans h1) | exact (aup_n nz1).trans ((aup_n nz1).trans h2)) rfl rfl (Nat.le_of_ble_eq_true rfl) ?_
                try rw [aup_up]
                refine v_aload_n dX7_plus_111 rfl ?_
                refine v_get dX7_plus_112 f_X7_7 (by first | exact h0 | exact aup_s | exact (aup_n nz0).trans h1 | exact (aup_n nz1).trans h2 | exact (aup_n nz0.symm).trans aup_s | exact (aup_n nz0).trans ((aup_n nz0).trans h1) | exact (aup_n nz1).trans ((aup_n nz1).trans h2)) rfl ?_
                refine v_iload_n dX7_plus_115 rfl ?_
                refine v_aload_n dX7_plus_116 rfl ?_
                refine v_get dX7_plus_117 f_X7_41 (by first | exact h0 | exact aup_s | exact (aup_n nz0).trans h1 | exact (aup_n nz1).trans h2 | exact (aup_n nz0.symm).trans aup_s | exact (aup_n nz0).trans ((aup_n nz0).trans h1) | exact (aup_n nz1).trans ((aup_n nz1).trans h2)) rfl ?_
                refine v_if_ne 134 dX7_plus_120 (fun h_120 => ?_) (fun h_120 => ?_)
                · refine v_lload dX7_plus_134 rfl ?_
                  refine v_last dX7_plus_136 (by first | exact h0 | exact aup_s | exact (aup_n nz0).trans h1 | exact (aup_n nz1).trans h2 | exact (aup_n nz0.symm).trans aup_s | exact (aup_n nz0).trans ((aup_n nz0).trans h1) | exact (aup_n nz1).trans ((aup_n nz1).trans h2)) ?_
                  exact v_vret dX7_plus_137 rfl (by first | (exfalso; omega) | (have c9 : rm9 = 1 := (by omega); exact hQm _ _ _ h7 (fun hb => by have := hNb hb; omega) (by omega) _ (by omega) (by omega)) | (have c9 : rm9 = 0 := (by omega); rw [← e0, gup_id, aup_id ((aup_n nz0).trans h1)]; by_cases hb : plB N u; exact hQB _ _ _ h7 (by omega) hb; exact hQn _ _ _ h7 hb (by omega) _ rfl (by omega)))
                · refine v_aload_n dX7_plus_123 rfl ?_
                  refine v_lload dX7_plus_124 rfl ?_
                  refine v_lload dX7_plus_126 rfl ?_
                  refine v_V2 (rm' := rX7_monthly) (RX7, TX7, 18) dX7_plus_128 km_X7_161 kn_X7_monthly kv_X7_monthly kz_X7 mk_X7_monthly rfl rfl (by first | exact h0 | exact aup_s | exact (aup_n nz0).trans h1 | exact (aup_n nz1).trans h2 | exact (aup_n nz0.symm).trans aup_s | exact (aup_n nz0).trans ((aup_n nz0).trans h1) | exact (aup_n nz1).trans ((aup_n nz1).trans h2)) ⟨Nat.le_of_ble_eq_true rfl, Nat.le_of_ble_eq_true rfl⟩ ⟨Nat.le_of_ble_eq_true rfl, Nat.le_of_ble_eq_true rfl⟩ (Nat.le_of_ble_eq_true rfl) ?_
                  refine s_X7_monthly hst aup_s (by omega) (by omega) (fun y' m' d' hy' hm' hd' he9 => ?_)
                  obtain ⟨x1, x2, x3⟩ := ed_inj hm hd hm' hd' he9.symm
                  subst x1 x2 x3
                  rw [aup_up]
                  refine v_goto 136 dX7_plus_131 ?_
                  refine v_last dX7_plus_136 (by first | exact h0 | exact aup_s | exact (aup_n nz0).trans h1 | exact (aup_n nz1).trans h2 | exact (aup_n nz0.symm).trans aup_s | exact (aup_n nz0).trans ((aup_n nz0).trans h1) | exact (aup_n nz1).trans ((aup_n nz1).trans h2)) ?_
                  exact v_vret dX7_plus_137 rfl (by first | (exfalso; omega) | (have c9 : rm9 = 1 := (by omega); exact hQm _ _ _ h7 (fun hb => by have := hNb hb; omega) (by omega) _ (by omega) (by omega)) | (have c9 : rm9 = 0 := (by omega); rw [← e0, gup_id, aup_id ((aup_n nz0).trans h1)]; by_cases hb : plB N u; exact hQB _ _ _ h7 (by omega) hb; exact hQn _ _ _ h7 hb (by omega) _ rfl (by omega)))
          · exact v_vret dX7_plus_62 rfl (by first | (exfalso; omega) | (have c9 : ¬ (0 ≤ u ∧ u ≤ 13) := (by omega); exact hQ2 h7 c9) | exact hQB _ _ _ h7 (by omega) (by unfold plB; omega))
        · refine v_iconst dX7_plus_47 ?_
          refine v_goto 52 dX7_plus_48 ?_
          refine v_put dX7_plus_52 f_X7_41 (by first | exact h0 | exact aup_s | exact (aup_n nz0).trans h1 | exact (aup_n nz1).trans h2 | exact (aup_n nz0.symm).trans aup_s | exact (aup_n nz0).trans ((aup_n nz0).trans h1) | exact (aup_n nz1).trans ((aup_n nz1).trans h2)) rfl rfl (Nat.le_of_ble_eq_true rfl) ?_
          try rw [aup_up]
          refine v_aload_n dX7_plus_55 rfl ?_
          refine v_get dX7_plus_56 f_X7_41 (by first | exact h0 | exact aup_s | exact (aup_n nz0).trans h1 | exact (aup_n nz1).trans h2 | exact (aup_n nz0.symm).trans aup_s | exact (aup_n nz0).trans ((aup_n nz0).trans h1) | exact (aup_n nz1).trans ((aup_n nz1).trans h2)) rfl ?_
          refine v_if_le 63 dX7_plus_59 (fun h_59 => ?_) (fun h_59 => ?_)
          · refine v_aload_n dX7_plus_63 rfl ?_
            refine v_get dX7_plus_64 f_X7_7 (by first | exact h0 | exact aup_s | exact (aup_n nz0).trans h1 | exact (aup_n nz1).trans h2 | exact (aup_n nz0.symm).trans aup_s | exact (aup_n nz0).trans ((aup_n nz0).trans h1) | exact (aup_n nz1).trans ((aup_n nz1).trans h2)) rfl ?_
            refine v_iload_n dX7_plus_67 rfl ?_
            refine v_lald dX7_plus_68 (by first | exact h0 | exact aup_s | exact (aup_n nz0).trans h1 | exact (aup_n nz1).trans h2 | exact (aup_n nz0.symm).trans aup_s | exact (aup_n nz0).trans ((aup_n nz0).trans h1) | exact (aup_n nz1).trans ((aup_n nz1).trans h2)) ?_
            rw [e0]
            refine v_lstore dX7_plus_69 (by decide) ?_
            refine v_iload dX7_plus_71 rfl ?_
            refine v_bipush dX7_plus_73 ?_
            refine v_icmp_le 138 dX7_plus_75 (fun h_75 => ?_) (fun h_75 => ?_)
            · first | (exfalso; omega) | (by_cases hb : plB N u; (have hb2 := hb; unfold plB at hb2; exact v_lof [(0, .ref z), (1, .int (iI i)), (2, .long (lI N)), (4, .int (iI u)), (5, .long (lI (ed y m d)))] (List.forall_mem_cons.mpr ⟨rfl, (List.forall_mem_cons.mpr ⟨rfl, (List.forall_mem_cons.mpr ⟨rfl, (List.forall_mem_cons.mpr ⟨rfl, (List.forall_mem_cons.mpr ⟨rfl, (fun _ h => nomatch h)⟩)⟩)⟩)⟩)⟩) (K138b hb (by omega) (by omega))); exact v_lof [(0, .ref z), (1, .int (iI i)), (2, .long (lI N)), (4, .int (iI u)), (5, .long (lI (ed y m d)))] (List.forall_mem_cons.mpr ⟨rfl, (List.forall_mem_cons.mpr ⟨rfl, (List.forall_mem_cons.mpr ⟨rfl, (List.forall_mem_cons.mpr ⟨rfl, (List.forall_mem_cons.mpr ⟨rfl, (fun _ h => nomatch h)⟩)⟩)⟩)⟩)⟩) (K138 hb (by omega) (by omega)))
            · refine v_aload_n dX7_plus_78 rfl ?_
              refine v_lload dX7_plus_79 rfl ?_
              refine v_V1 (rm' := rX7_monthsOf) (RX7, TX7, 18) dX7_plus_81 km_X7_191 kn_X7_monthsOf kv_X7_monthsOf kz_X7 mk_X7_monthsOf rfl rfl (by first | exact h0 | exact aup_s | exact (aup_n nz0).trans h1 | exact (aup_n nz1).trans h2 | exact (aup_n nz0.symm).trans aup_s | exact (aup_n nz0).trans ((aup_n nz0).trans h1) | exact (aup_n nz1).trans ((aup_n nz1).trans h2)) ⟨Nat.le_of_ble_eq_true rfl, Nat.le_of_ble_eq_true rfl⟩ ⟨Nat.le_of_ble_eq_true rfl, Nat.le_of_ble_eq_true rfl⟩ (Nat.le_of_ble_eq_true rfl) ?_
              refine s_X7_monthsOf hst aup_s (by omega) (fun y' m' d' hy' hm' hd' he9 => ?_)
              obtain ⟨x1, x2, x3⟩ := ed_inj hm hd hm' hd' he9.symm
              subst x1 x2 x3
              rw [aup_up]
              refine v_lload_n dX7_plus_84 rfl ?_
              refine v_iload dX7_plus_85 rfl ?_
              refine v_S1 (rm' := rX7_monthsOfUnit) dX7_plus_87 km_X7_195 ks_X7_monthsOfUnit kz_X7 mk_X7_monthsOfUnit rfl ⟨Nat.le_of_ble_eq_true rfl, Nat.le_of_ble_eq_true rfl⟩ ⟨Nat.le_of_ble_eq_true rfl, Nat.le_of_ble_eq_true rfl⟩ (Nat.le_of_ble_eq_true rfl) ?_
              refine s_X7_monthsOfUnit hst (by omega) ?_
              have hmu := mOU_c (u := u) (by omega)
              have hNm : -12000000000 ≤ N * mOU u ∧ N * mOU u ≤ 12000000000 := (by rcases hmu with ⟨-, e⟩ | ⟨-, e⟩ | ⟨-, e⟩ | ⟨-, e⟩ | ⟨-, e⟩ <;> rw [e] <;> omega)
              have hNb : plB N u → (N * mOU u < -7000000 ∨ 7000000 < N * mOU u) := (fun hb => by unfold plB at hb; rcases hmu with ⟨-, e⟩ | ⟨-, e⟩ | ⟨-, e⟩ | ⟨-, e⟩ | ⟨-, e⟩ <;> rw [e] <;> omega)
              refine v_lmul dX7_plus_90 ?_
              refine v_ladd dX7_plus_91 ?_
              refine v_lstore dX7_plus_92 (by decide) ?_
              refine v_aload_n dX7_plus_94 rfl ?_
              refine v_lload dX7_plus_95 rfl ?_
              refine v_S1 (rm' := rX7_monthWithin) dX7_plus_97 km_X7_158 ks_X7_monthWithin kz_X7 mk_X7_monthWithin rfl ⟨Nat.le_of_ble_eq_true rfl, Nat.le_of_ble_eq_true rfl⟩ ⟨Nat.le_of_ble_eq_true rfl, Nat.le_of_ble_eq_true rfl⟩ (Nat.le_of_ble_eq_true rfl) ?_
              refine s_X7_monthWithin hst (fun rm9 em9 => ?_)
              refine v_if_eq 107 dX7_plus_100 (fun h_100 => ?_) (fun h_100 => ?_)
              · refine v_iconst dX7_plus_107 ?_
                refine v_put dX7_plus_108 f_X7_41 (by first | exact h0 | exact aup_s | exact (aup_n nz0).trans h1 | exact (aup_n nz1).trans h2 | exact (aup_n nz0.symm).trans aup_s | exact (aup_n nz0).trans ((aup_n nz0).trans h1) | exact (aup_n nz1).trans ((aup_n nz1).trans h2)) rfl rfl (Nat.le_of_ble_eq_true rfl) ?_
                try rw [aup_up]
                refine v_aload_n dX7_plus_111 rfl ?_
                refine v_get dX7_plus_112 f_X7_7 (by first | exact h0 | exact aup_s | exact (aup_n nz0).trans h1 | exact (aup_n nz1).trans h2 | exact (aup_n nz0.symm).trans aup_s | exact (aup_n nz0).trans ((aup_n nz0).trans h1) | exact (aup_n nz1).trans ((aup_n nz1).trans h2)) rfl ?_
                refine v_iload_n dX7_plus_115 rfl ?_
                refine v_aload_n dX7_plus_116 rfl ?_
                refine v_get dX7_plus_117 f_X7_41 (by first | exact h0 | exact aup_s | exact (aup_n nz0).trans h1 | exact (aup_n nz1).trans h2 | exact (aup_n nz0.symm).trans aup_s | exact (aup_n nz0).trans ((aup_n nz0).trans h1) | exact (aup_n nz1).trans ((aup_n nz1).trans h2)) rfl ?_
                refine v_if_ne 134 dX7_plus_120 (fun h_120 => ?_) (fun h_120 => ?_)
                · refine v_lload dX7_plus_134 rfl ?_
                  refine v_last dX7_plus_136 (by first | exact h0 | exact aup_s | exact (aup_n nz0).trans h1 | exact (aup_n nz1).trans h2 | exact (aup_n nz0.symm).trans aup_s | exact (aup_n nz0).trans ((aup_n nz0).trans h1) | exact (aup_n nz1).trans ((aup_n nz1).trans h2)) ?_
                  exact v_vret dX7_plus_137 rfl (by first | (exfalso; omega) | (have c9 : rm9 = 1 := (by omega); exact hQm _ _ _ h7 (fun hb => by have := hNb hb; omega) (by omega) _ (by omega) (by omega)) | (have c9 : rm9 = 0 := (by omega); rw [← e0, gup_id, aup_id ((aup_n nz0).trans h1)]; by_cases hb : plB N u; exact hQB _ _ _ h7 (by omega) hb; exact hQn _ _ _ h7 hb (by omega) _ rfl (by omega)))
                · refine v_aload_n dX7_plus_123 rfl ?_
                  refine v_lload dX7_plus_124 rfl ?_
                  refine v_lload dX7_plus_126 rfl ?_
                  refine v_V2 (rm' := rX7_monthly) (RX7, TX7, 18) dX7_plus_128 km_X7_161 kn_X7_monthly kv_X7_monthly kz_X7 mk_X7_monthly rfl rfl (by first | exact h0 | exact aup_s | exact (aup_n nz0).trans h1 | exact (aup_n nz1).trans h2 | exact (aup_n nz0.symm).trans aup_s | exact (aup_n nz0).trans ((aup_n nz0).trans h1) | exact (aup_n nz1).trans ((aup_n nz1).trans h2)) ⟨Nat.le_of_ble_eq_true rfl, Nat.le_of_ble_eq_true rfl⟩ ⟨Nat.le_of_ble_eq_true rfl, Nat.le_of_ble_eq_true rfl⟩ (Nat.le_of_ble_eq_true rfl) ?_
                  refine s_X7_monthly hst aup_s (by omega) (by omega) (fun y' m' d' hy' hm' hd' he9 => ?_)
                  obtain ⟨x1, x2, x3⟩ := ed_inj hm hd hm' hd' he9.symm
                  subst x1 x2 x3
                  rw [aup_up]
                  refine v_goto 136 dX7_plus_131 ?_
                  refine v_last dX7_plus_136 (by first | exact h0 | exact aup_s | exact (aup_n nz0).trans h1 | exact (aup_n nz1).trans h2 | exact (aup_n nz0.symm).trans aup_s | exact (aup_n nz0).trans ((aup_n nz0).trans h1) | exact (aup_n nz1).trans ((aup_n nz1).trans h2)) ?_
                  exact v_vret dX7_plus_137 rfl (by first | (exfalso; omega) | (have c9 : rm9 = 1 := (by omega); exact hQm _ _ _ h7 (fun hb => by have := hNb hb; omega) (by omega) _ (by omega) (by omega)) | (have c9 : rm9 = 0 := (by omega); rw [← e0, gup_id, aup_id ((aup_n nz0).trans h1)]; by_cases hb : plB N u; exact hQB _ _ _ h7 (by omega) hb; exact hQn _ _ _ h7 hb (by omega) _ rfl (by omega)))
              · refine v_iconst dX7_plus_103 ?_
                refine v_goto 108 dX7_plus_104 ?_
                refine v_put dX7_plus_108 f_X7_41 (by first | exact h0 | exact aup_s | exact (aup_n nz0).trans h1 | exact (aup_n nz1).trans h2 | exact (aup_n nz0.symm).trans aup_s | exact (aup_n nz0).trans ((aup_n nz0).trans h1) | exact (aup_n nz1).trans ((aup_n nz1).trans h2)) rfl rfl (Nat.le_of_ble_eq_true rfl) ?_
                try rw [aup_up]
                refine v_aload_n dX7_plus_111 rfl ?_
                refine v_get dX7_plus_112 f_X7_7 (by first | exact h0 | exact aup_s | exact (aup_n nz0).trans h1 | exact (aup_n nz1).trans h2 | exact (aup_n nz0.symm).trans aup_s | exact (aup_n nz0).trans ((aup_n nz0).trans h1) | exact (aup_n nz1).trans ((aup_n nz1).trans h2)) rfl ?_
                refine v_iload_n dX7_plus_115 rfl ?_
                refine v_aload_n dX7_plus_116 rfl ?_
                refine v_get dX7_plus_117 f_X7_41 (by first | exact h0 | exact aup_s | exact (aup_n nz0).trans h1 | exact (aup_n nz1).trans h2 | exact (aup_n nz0.symm).trans aup_s | exact (aup_n nz0).trans ((aup_n nz0).trans h1) | exact (aup_n nz1).trans ((aup_n nz1).trans h2)) rfl ?_
                refine v_if_ne 134 dX7_plus_120 (fun h_120 => ?_) (fun h_120 => ?_)
                · refine v_lload dX7_plus_134 rfl ?_
                  refine v_last dX7_plus_136 (by first | exact h0 | exact aup_s | exact (aup_n nz0).trans h1 | exact (aup_n nz1).trans h2 | exact (aup_n nz0.symm).trans aup_s | exact (aup_n nz0).trans ((aup_n nz0).trans h1) | exact (aup_n nz1).trans ((aup_n nz1).trans h2)) ?_
                  exact v_vret dX7_plus_137 rfl (by first | (exfalso; omega) | (have c9 : rm9 = 1 := (by omega); exact hQm _ _ _ h7 (fun hb => by have := hNb hb; omega) (by omega) _ (by omega) (by omega)) | (have c9 : rm9 = 0 := (by omega); rw [← e0, gup_id, aup_id ((aup_n nz0).trans h1)]; by_cases hb : plB N u; exact hQB _ _ _ h7 (by omega) hb; exact hQn _ _ _ h7 hb (by omega) _ rfl (by omega)))
                · refine v_aload_n dX7_plus_123 rfl ?_
                  refine v_lload dX7_plus_124 rfl ?_
                  refine v_lload dX7_plus_126 rfl ?_
                  refine v_V2 (rm' := rX7_monthly) (RX7, TX7, 18) dX7_plus_128 km_X7_161 kn_X7_monthly kv_X7_monthly kz_X7 mk_X7_monthly rfl rfl (by first | exact h0 | exact aup_s | exact (aup_n nz0).trans h1 | exact (aup_n nz1).trans h2 | exact (aup_n nz0.symm).trans aup_s | exact (aup_n nz0).trans ((aup_n nz0).trans h1) | exact (aup_n nz1).trans ((aup_n nz1).trans h2)) ⟨Nat.le_of_ble_eq_true rfl, Nat.le_of_ble_eq_true rfl⟩ ⟨Nat.le_of_ble_eq_true rfl, Nat.le_of_ble_eq_true rfl⟩ (Nat.le_of_ble_eq_true rfl) ?_
                  refine s_X7_monthly hst aup_s (by omega) (by omega) (fun y' m' d' hy' hm' hd' he9 => ?_)
                  obtain ⟨x1, x2, x3⟩ := ed_inj hm hd hm' hd' he9.symm
                  subst x1 x2 x3
                  rw [aup_up]
                  refine v_goto 136 dX7_plus_131 ?_
                  refine v_last dX7_plus_136 (by first | exact h0 | exact aup_s | exact (aup_n nz0).trans h1 | exact (aup_n nz1).trans h2 | exact (aup_n nz0.symm).trans aup_s | exact (aup_n nz0).trans ((aup_n nz0).trans h1) | exact (aup_n nz1).trans ((aup_n nz1).trans h2)) ?_
                  exact v_vret dX7_plus_137 rfl (by first | (exfalso; omega) | (have c9 : rm9 = 1 := (by omega); exact hQm _ _ _ h7 (fun hb => by have := hNb hb; omega) (by omega) _ (by omega) (by omega)) | (have c9 : rm9 = 0 := (by omega); rw [← e0, gup_id, aup_id ((aup_n nz0).trans h1)]; by_cases hb : plB N u; exact hQB _ _ _ h7 (by omega) hb; exact hQn _ _ _ h7 hb (by omega) _ rfl (by omega)))
          · exact v_vret dX7_plus_62 rfl (by first | (exfalso; omega) | (have c9 : ¬ (0 ≤ u ∧ u ≤ 13) := (by omega); exact hQ2 h7 c9) | exact hQB _ _ _ h7 (by omega) (by unfold plB; omega))
    · refine v_iconst dX7_plus_23 ?_
      refine v_goto 52 dX7_plus_24 ?_
      refine v_put dX7_plus_52 f_X7_41 (by first | exact h0 | exact aup_s | exact (aup_n nz0).trans h1 | exact (aup_n nz1).trans h2 | exact (aup_n nz0.symm).trans aup_s | exact (aup_n nz0).trans ((aup_n nz0).trans h1) | exact (aup_n nz1).trans ((aup_n nz1).trans h2)) rfl rfl (Nat.le_of_ble_eq_true rfl) ?_
      try rw [aup_up]
      refine v_aload_n dX7_plus_55 rfl ?_
      refine v_get dX7_plus_56 f_X7_41 (by first | exact h0 | exact aup_s | exact (aup_n nz0).trans h1 | exact (aup_n nz1).trans h2 | exact (aup_n nz0.symm).trans aup_s | exact (aup_n nz0).trans ((aup_n nz0).trans h1) | exact (aup_n nz1).trans ((aup_n nz1).trans h2)) rfl ?_
      refine v_if_le 63 dX7_plus_59 (fun h_59 => ?_) (fun h_59 => ?_)
      · refine v_aload_n dX7_plus_63 rfl ?_
        refine v_get dX7_plus_64 f_X7_7 (by first | exact h0 | exact aup_s | exact (aup_n nz0).trans h1 | exact (aup_n nz1).trans h2 | exact (aup_n nz0.symm).trans aup_s | exact (aup_n nz0).trans ((aup_n nz0).trans h1) | exact (aup_n nz1).trans ((aup_n nz1).trans h2)) rfl ?_
        refine v_iload_n dX7_plus_67 rfl ?_
        refine v_lald dX7_plus_68 (by first | exact h0 | exact aup_s | exact (aup_n nz0).trans h1 | exact (aup_n nz1).trans h2 | exact (aup_n nz0.symm).trans aup_s | exact (aup_n nz0).trans ((aup_n nz0).trans h1) | exact (aup_n nz1).trans ((aup_n nz1).trans h2)) ?_
        rw [e0]
        refine v_lstore dX7_plus_69 (by decide) ?_
        refine v_iload dX7_plus_71 rfl ?_
        refine v_bipush dX7_plus_73 ?_
        refine v_icmp_le 138 dX7_plus_75 (fun h_75 => ?_) (fun h_75 => ?_)
        · first | (exfalso; omega) | (by_cases hb : plB N u; (have hb2 := hb; unfold plB at hb2; exact v_lof [(0, .ref z), (1, .int (iI i)), (2, .long (lI N)), (4, .int (iI u)), (5, .long (lI (ed y m d)))] (List.forall_mem_cons.mpr ⟨rfl, (List.forall_mem_cons.mpr ⟨rfl, (List.forall_mem_cons.mpr ⟨rfl, (List.forall_mem_cons.mpr ⟨rfl, (List.forall_mem_cons.mpr ⟨rfl, (fun _ h => nomatch h)⟩)⟩)⟩)⟩)⟩) (K138b hb (by omega) (by omega))); exact v_lof [(0, .ref z), (1, .int (iI i)), (2, .long (lI N)), (4, .int (iI u)), (5, .long (lI (ed y m d)))] (List.forall_mem_cons.mpr ⟨rfl, (List.forall_mem_cons.mpr ⟨rfl, (List.forall_mem_cons.mpr ⟨rfl, (List.forall_mem_cons.mpr ⟨rfl, (List.forall_mem_cons.mpr ⟨rfl, (fun _ h => nomatch h)⟩)⟩)⟩)⟩)⟩) (K138 hb (by omega) (by omega)))
        · refine v_aload_n dX7_plus_78 rfl ?_
          refine v_lload dX7_plus_79 rfl ?_
          refine v_V1 (rm' := rX7_monthsOf) (RX7, TX7, 18) dX7_plus_81 km_X7_191 kn_X7_monthsOf kv_X7_monthsOf kz_X7 mk_X7_monthsOf rfl rfl (by first | exact h0 | exact aup_s | exact (aup_n nz0).trans h1 | exact (aup_n nz1).trans h2 | exact (aup_n nz0.symm).trans aup_s | exact (aup_n nz0).trans ((aup_n nz0).trans h1) | exact (aup_n nz1).trans ((aup_n nz1).trans h2)) ⟨Nat.le_of_ble_eq_true rfl, Nat.le_of_ble_eq_true rfl⟩ ⟨Nat.le_of_ble_eq_true rfl, Nat.le_of_ble_eq_true rfl⟩ (Nat.le_of_ble_eq_true rfl) ?_
          refine s_X7_monthsOf hst aup_s (by omega) (fun y' m' d' hy' hm' hd' he9 => ?_)
          obtain ⟨x1, x2, x3⟩ := ed_inj hm hd hm' hd' he9.symm
          subst x1 x2 x3
          rw [aup_up]
          refine v_lload_n dX7_plus_84 rfl ?_
          refine v_iload dX7_plus_85 rfl ?_
          refine v_S1 (rm' := rX7_monthsOfUnit) dX7_plus_87 km_X7_195 ks_X7_monthsOfUnit kz_X7 mk_X7_monthsOfUnit rfl ⟨Nat.le_of_ble_eq_true rfl, Nat.le_of_ble_eq_true rfl⟩ ⟨Nat.le_of_ble_eq_true rfl, Nat.le_of_ble_eq_true rfl⟩ (Nat.le_of_ble_eq_true rfl) ?_
          refine s_X7_monthsOfUnit hst (by omega) ?_
          have hmu := mOU_c (u := u) (by omega)
          have hNm : -12000000000 ≤ N * mOU u ∧ N * mOU u ≤ 12000000000 := (by rcases hmu with ⟨-, e⟩ | ⟨-, e⟩ | ⟨-, e⟩ | ⟨-, e⟩ | ⟨-, e⟩ <;> rw [e] <;> omega)
          have hNb : plB N u → (N * mOU u < -7000000 ∨ 7000000 < N * mOU u) := (fun hb => by unfold plB at hb; rcases hmu with ⟨-, e⟩ | ⟨-, e⟩ | ⟨-, e⟩ | ⟨-, e⟩ | ⟨-, e⟩ <;> rw [e] <;> omega)
          refine v_lmul dX7_plus_90 ?_
          refine v_ladd dX7_plus_91 ?_
          refine v_lstore dX7_plus_92 (by decide) ?_
          refine v_aload_n dX7_plus_94 rfl ?_
          refine v_lload dX7_plus_95 rfl ?_
          refine v_S1 (rm' := rX7_monthWithin) dX7_plus_97 km_X7_158 ks_X7_monthWithin kz_X7 mk_X7_monthWithin rfl ⟨Nat.le_of_ble_eq_true rfl, Nat.le_of_ble_eq_true rfl⟩ ⟨Nat.le_of_ble_eq_true rfl, Nat.le_of_ble_eq_true rfl⟩ (Nat.le_of_ble_eq_true rfl) ?_
          refine s_X7_monthWithin hst (fun rm9 em9 => ?_)
          refine v_if_eq 107 dX7_plus_100 (fun h_100 => ?_) (fun h_100 => ?_)
          · refine v_iconst dX7_plus_107 ?_
            refine v_put dX7_plus_108 f_X7_41 (by first | exact h0 | exact aup_s | exact (aup_n nz0).trans h1 | exact (aup_n nz1).trans h2 | exact (aup_n nz0.symm).trans aup_s | exact (aup_n nz0).trans ((aup_n nz0).trans h1) | exact (aup_n nz1).trans ((aup_n nz1).trans h2)) rfl rfl (Nat.le_of_ble_eq_true rfl) ?_
            try rw [aup_up]
            refine v_aload_n dX7_plus_111 rfl ?_
            refine v_get dX7_plus_112 f_X7_7 (by first | exact h0 | exact aup_s | exact (aup_n nz0).trans h1 | exact (aup_n nz1).trans h2 | exact (aup_n nz0.symm).trans aup_s | exact (aup_n nz0).trans ((aup_n nz0).trans h1) | exact (aup_n nz1).trans ((aup_n nz1).trans h2)) rfl ?_
            refine v_iload_n dX7_plus_115 rfl ?_
            refine v_aload_n dX7_plus_116 rfl ?_
            refine v_get dX7_plus_117 f_X7_41 (by first | exact h0 | exact aup_s | exact (aup_n nz0).trans h1 | exact (aup_n nz1).trans h2 | exact (aup_n nz0.symm).trans aup_s | exact (aup_n nz0).trans ((aup_n nz0).trans h1) | exact (aup_n nz1).trans ((aup_n nz1).trans h2)) rfl ?_
            refine v_if_ne 134 dX7_plus_120 (fun h_120 => ?_) (fun h_120 => ?_)
            · refine v_lload dX7_plus_134 rfl ?_
              refine v_last dX7_plus_136 (by first | exact h0 | exact aup_s | exact (aup_n nz0).trans h1 | exact (aup_n nz1).trans h2 | exact (aup_n nz0.symm).trans aup_s | exact (aup_n nz0).trans ((aup_n nz0).trans h1) | exact (aup_n nz1).trans ((aup_n nz1).trans h2)) ?_
              exact v_vret dX7_plus_137 rfl (by first | (exfalso; omega) | (have c9 : rm9 = 1 := (by omega); exact hQm _ _ _ h7 (fun hb => by have := hNb hb; omega) (by omega) _ (by omega) (by omega)) | (have c9 : rm9 = 0 := (by omega); rw [← e0, gup_id, aup_id ((aup_n nz0).trans h1)]; by_cases hb : plB N u; exact hQB _ _ _ h7 (by omega) hb; exact hQn _ _ _ h7 hb (by omega) _ rfl (by omega)))
            · refine v_aload_n dX7_plus_123 rfl ?_
              refine v_lload dX7_plus_124 rfl ?_
              refine v_lload dX7_plus_126 rfl ?_
              refine v_V2 (rm' := rX7_monthly) (RX7, TX7, 18) dX7_plus_128 km_X7_161 kn_X7_monthly kv_X7_monthly kz_X7 mk_X7_monthly rfl rfl (by first | exact h0 | exact aup_s | exact (aup_n nz0).trans h1 | exact (aup_n nz1).trans h2 | exact (aup_n nz0.symm).trans aup_s | exact (aup_n nz0).trans ((aup_n nz0).trans h1) | exact (aup_n nz1).trans ((aup_n nz1).trans h2)) ⟨Nat.le_of_ble_eq_true rfl, Nat.le_of_ble_eq_true rfl⟩ ⟨Nat.le_of_ble_eq_true rfl, Nat.le_of_ble_eq_true rfl⟩ (Nat.le_of_ble_eq_true rfl) ?_
              refine s_X7_monthly hst aup_s (by omega) (by omega) (fun y' m' d' hy' hm' hd' he9 => ?_)
              obtain ⟨x1, x2, x3⟩ := ed_inj hm hd hm' hd' he9.symm
              subst x1 x2 x3
              rw [aup_up]
              refine v_goto 136 dX7_plus_131 ?_
              refine v_last dX7_plus_136 (by first | exact h0 | exact aup_s | exact (aup_n nz0).trans h1 | exact (aup_n nz1).trans h2 | exact (aup_n nz0.symm).trans aup_s | exact (aup_n nz0).trans ((aup_n nz0).trans h1) | exact (aup_n nz1).trans ((aup_n nz1).trans h2)) ?_
              exact v_vret dX7_plus_137 rfl (by first | (exfalso; omega) | (have c9 : rm9 = 1 := (by omega); exact hQm _ _ _ h7 (fun hb => by have := hNb hb; omega) (by omega) _ (by omega) (by omega)) | (have c9 : rm9 = 0 := (by omega); rw [← e0, gup_id, aup_id ((aup_n nz0).trans h1)]; by_cases hb : plB N u; exact hQB _ _ _ h7 (by omega) hb; exact hQn _ _ _ h7 hb (by omega) _ rfl (by omega)))
          · refine v_iconst dX7_plus_103 ?_
            refine v_goto 108 dX7_plus_104 ?_
            refine v_put dX7_plus_108 f_X7_41 (by first | exact h0 | exact aup_s | exact (aup_n nz0).trans h1 | exact (aup_n nz1).trans h2 | exact (aup_n nz0.symm).trans aup_s | exact (aup_n nz0).trans ((aup_n nz0).trans h1) | exact (aup_n nz1).trans ((aup_n nz1).trans h2)) rfl rfl (Nat.le_of_ble_eq_true rfl) ?_
            try rw [aup_up]
            refine v_aload_n dX7_plus_111 rfl ?_
            refine v_get dX7_plus_112 f_X7_7 (by first | exact h0 | exact aup_s | exact (aup_n nz0).trans h1 | exact (aup_n nz1).trans h2 | exact (aup_n nz0.symm).trans aup_s | exact (aup_n nz0).trans ((aup_n nz0).trans h1) | exact (aup_n nz1).trans ((aup_n nz1).trans h2)) rfl ?_
            refine v_iload_n dX7_plus_115 rfl ?_
            refine v_aload_n dX7_plus_116 rfl ?_
            refine v_get dX7_plus_117 f_X7_41 (by first | exact h0 | exact aup_s | exact (aup_n nz0).trans h1 | exact (aup_n nz1).trans h2 | exact (aup_n nz0.symm).trans aup_s | exact (aup_n nz0).trans ((aup_n nz0).trans h1) | exact (aup_n nz1).trans ((aup_n nz1).trans h2)) rfl ?_
            refine v_if_ne 134 dX7_plus_120 (fun h_120 => ?_) (fun h_120 => ?_)
            · refine v_lload dX7_plus_134 rfl ?_
              refine v_last dX7_plus_136 (by first | exact h0 | exact aup_s | exact (aup_n nz0).trans h1 | exact (aup_n nz1).trans h2 | exact (aup_n nz0.symm).trans aup_s | exact (aup_n nz0).trans ((aup_n nz0).trans h1) | exact (aup_n nz1).trans ((aup_n nz1).trans h2)) ?_
              exact v_vret dX7_plus_137 rfl (by first | (exfalso; omega) | (have c9 : rm9 = 1 := (by omega); exact hQm _ _ _ h7 (fun hb => by have := hNb hb; omega) (by omega) _ (by omega) (by omega)) | (have c9 : rm9 = 0 := (by omega); rw [← e0, gup_id, aup_id ((aup_n nz0).trans h1)]; by_cases hb : plB N u; exact hQB _ _ _ h7 (by omega) hb; exact hQn _ _ _ h7 hb (by omega) _ rfl (by omega)))
            · refine v_aload_n dX7_plus_123 rfl ?_
              refine v_lload dX7_plus_124 rfl ?_
              refine v_lload dX7_plus_126 rfl ?_
              refine v_V2 (rm' := rX7_monthly) (RX7, TX7, 18) dX7_plus_128 km_X7_161 kn_X7_monthly kv_X7_monthly kz_X7 mk_X7_monthly rfl rfl (by first | exact h0 | exact aup_s | exact (aup_n nz0).trans h1 | exact (aup_n nz1).trans h2 | exact (aup_n nz0.symm).trans aup_s | exact (aup_n nz0).trans ((aup_n nz0).trans h1) | exact (aup_n nz1).trans ((aup_n nz1).trans h2)) ⟨Nat.le_of_ble_eq_true rfl, Nat.le_of_ble_eq_true rfl⟩ ⟨Nat.le_of_ble_eq_true rfl, Nat.le_of_ble_eq_true rfl⟩ (Nat.le_of_ble_eq_true rfl) ?_
              refine s_X7_monthly hst aup_s (by omega) (by omega) (fun y' m' d' hy' hm' hd' he9 => ?_)
              obtain ⟨x1, x2, x3⟩ := ed_inj hm hd hm' hd' he9.symm
              subst x1 x2 x3
              rw [aup_up]
              refine v_goto 136 dX7_plus_131 ?_
              refine v_last dX7_plus_136 (by first | exact h0 | exact aup_s | exact (aup_n nz0).trans h1 | exact (aup_n nz1).trans h2 | exact (aup_n nz0.symm).trans aup_s | exact (aup_n nz0).trans ((aup_n nz0).trans h1) | exact (aup_n nz1).trans ((aup_n nz1).trans h2)) ?_
              exact v_vret dX7_plus_137 rfl (by first | (exfalso; omega) | (have c9 : rm9 = 1 := (by omega); exact hQm _ _ _ h7 (fun hb => by have := hNb hb; omega) (by omega) _ (by omega) (by omega)) | (have c9 : rm9 = 0 := (by omega); rw [← e0, gup_id, aup_id ((aup_n nz0).trans h1)]; by_cases hb : plB N u; exact hQB _ _ _ h7 (by omega) hb; exact hQn _ _ _ h7 hb (by omega) _ rfl (by omega)))
      · exact v_vret dX7_plus_62 rfl (by first | (exfalso; omega) | (have c9 : ¬ (0 ≤ u ∧ u ≤ 13) := (by omega); exact hQ2 h7 c9) | exact hQB _ _ _ h7 (by omega) (by unfold plB; omega))
  · refine v_if_ne 9 dX7_plus_5 (fun h_5 => ?_) (fun h_5 => ?_)
    · (exfalso; omega)
    exact v_vret dX7_plus_8 rfl (by exact hQI (by omega))
