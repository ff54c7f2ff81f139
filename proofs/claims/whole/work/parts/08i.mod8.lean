set_option maxRecDepth 100000 in
set_option maxHeartbeats 1000000 in
theorem s_X7_until {l : Launch} {G : GG} {w : AH} {Q : Option Value → AH → Prop} {X : String → AH → Prop} (hst : l.stackTraces = false) {z : Nat} {A : Nat → Nat} {th yq mq dq ty ap wr sz : Int} (h0 : w z = some (mdC A th yq mq dq ty ap wr sz)) {gd gn : Nat → Int} (h1 : w (A 0) = some (alA G 8 gd)) (h2 : w (A 1) = some (alA G 8 gn)) (hA01 : A 0 ≠ A 1) (hgd : ∀ k, k < 8 → -4371587 ≤ gd k ∧ gd k ≤ 2932896) (hgn : ∀ k, k < 8 → 0 ≤ gn k ∧ gn k ≤ 86399999999999) {i j u y m d y' m' d' : Int} (hi : -2147483648 ≤ i ∧ i ≤ 2147483647) (hj : -2147483648 ≤ j ∧ j ≤ 2147483647) (hu : -2147483648 ≤ u ∧ u ≤ 2147483647) (hV : (0 ≤ i ∧ i ≤ 7) → gd i.toNat = ed y m d ∧ (-9999 ≤ y ∧ y ≤ 9999) ∧ (1 ≤ m ∧ m ≤ 12) ∧ (1 ≤ d ∧ d ≤ lenM y m)) (hW : (0 ≤ j ∧ j ≤ 7) → gd j.toNat = ed y' m' d' ∧ (-9999 ≤ y' ∧ y' ≤ 9999) ∧ (1 ≤ m' ∧ m' ≤ 12) ∧ (1 ≤ d' ∧ d' ≤ lenM y' m')) (hQI : ∀ v : Int, ((i < 0 ∨ 7 < i) ∨ (j < 0 ∨ 7 < j)) → Q (some (.long (lI v))) (aup w z (mdC A 1 yq mq dq ty ap wr sz))) (hQ2 : ∀ v : Int, (0 ≤ i ∧ i ≤ 7) → (0 ≤ j ∧ j ≤ 7) →  ¬ (0 ≤ u ∧ u ≤ 13) → Q (some (.long (lI v))) (aup w z (mdC A 2 yq mq dq ty ap wr sz))) (hQm : ∀ yr' mo' da' : Int,  (0 ≤ i ∧ i ≤ 7) → (0 ≤ j ∧ j ≤ 7) →  (9 ≤ u ∧ u ≤ 13) → ∀ M r : Int, monE (y * 12 + m - 1) d (gn i.toNat) (y' * 12 + m' - 1) d' (gn j.toNat) M → tq M (mOU u) r → Q (some (.long (lI r))) (aup w z (mdC A 0 yr' mo' da' ty ap wr sz))) (hQw : (0 ≤ i ∧ i ≤ 7) → (0 ≤ j ∧ j ≤ 7) →  u = 8 → ∀ D r : Int, dayE (ed y m d) (gn i.toNat) (ed y' m' d') (gn j.toNat) D → tq D 7 r → Q (some (.long (lI r))) (aup w z (mdC A 0 yq mq dq ty ap wr sz))) (hQ7 : (0 ≤ i ∧ i ≤ 7) → (0 ≤ j ∧ j ≤ 7) →  u = 7 → ∀ D : Int, dayE (ed y m d) (gn i.toNat) (ed y' m' d') (gn j.toNat) D → Q (some (.long (lI D))) (aup w z (mdC A 0 yq mq dq ty ap wr sz))) (hQF : ∀ v : Int, (0 ≤ i ∧ i ≤ 7) → (0 ≤ j ∧ j ≤ 7) →  u = 0 → ∀ D R : Int, dayE (ed y m d) (gn i.toNat) (ed y' m' d') (gn j.toNat) D → rstE (ed y m d) (gn i.toNat) (ed y' m' d') (gn j.toNat) R → ¬ (-9223372036854775808 ≤ D * 86400000000000 + R ∧ D * 86400000000000 + R ≤ 9223372036854775807) → Q (some (.long (lI v))) (aup w z (mdC A 3 yq mq dq ty ap wr sz))) (hQp : (0 ≤ i ∧ i ≤ 7) → (0 ≤ j ∧ j ≤ 7) →  (0 ≤ u ∧ u ≤ 6) → ∀ D R r : Int, dayE (ed y m d) (gn i.toNat) (ed y' m' d') (gn j.toNat) D → rstE (ed y m d) (gn i.toNat) (ed y' m' d') (gn j.toNat) R → (u = 0 → (-9223372036854775808 ≤ D * 86400000000000 + R ∧ D * 86400000000000 + R ≤ 9223372036854775807)) → tq R (uSZ u) r → Q (some (.long (lI (D * uPD u + r)))) (aup w z (mdC A 0 yq mq dq ty ap wr sz))) : Ct l G mX7_until rX7_until [(.ref z), .int (iI i), .int (iI j), .int (iI u)] w Q X := by
  have nz0 : A 0 ≠ z := fun e => ne_of h0 h1 mdal e.symm
  have nz1 : A 1 ≠ z := fun e => ne_of h0 h2 mdal e.symm
  refine ct_of hst mk_X7_until (Nat.le_of_ble_eq_true rfl) ?_
  refine v_aload_n dX7_until_0 rfl ?_
  refine v_iload_n dX7_until_1 rfl ?_
  refine v_V1 (rm' := rX7_isSlot) (RX7, TX7, 18) dX7_until_2 km_X7_120 kn_X7_isSlot kv_X7_isSlot kz_X7 mk_X7_isSlot rfl rfl (by first | exact h0 | exact aup_s | exact (aup_n nz0).trans h1 | exact (aup_n nz1).trans h2 | exact (aup_n nz0.symm).trans aup_s | exact (aup_n nz0).trans ((aup_n nz0).trans h1) | exact (aup_n nz1).trans ((aup_n nz1).trans h2)) ⟨Nat.le_of_ble_eq_true rfl, Nat.le_of_ble_eq_true rfl⟩ ⟨Nat.le_of_ble_eq_true rfl, Nat.le_of_ble_eq_true rfl⟩ (Nat.le_of_ble_eq_true rfl) ?_
  refine s_X7_isSlot hst h0 hi (fun h7 => ?_) (fun h7 => ?_)
  · obtain ⟨e0, hy, hm, hd⟩ := hV h7
    have hn := hgn i.toNat (by omega)
    have hg1 := hgd i.toNat (by omega)
    have hl1 := lenM_rng y m
    refine v_if_eq 16 dX7_until_5 (fun h_5 => ?_) (fun h_5 => ?_)
    · (exfalso; omega)
    refine v_aload_n dX7_until_8 rfl ?_
    refine v_iload_n dX7_until_9 rfl ?_
    refine v_V1 (rm' := rX7_isSlot) (RX7, TX7, 18) dX7_until_10 km_X7_120 kn_X7_isSlot kv_X7_isSlot kz_X7 mk_X7_isSlot rfl rfl (by first | exact h0 | exact aup_s | exact (aup_n nz0).trans h1 | exact (aup_n nz1).trans h2 | exact (aup_n nz0.symm).trans aup_s | exact (aup_n nz0).trans ((aup_n nz0).trans h1) | exact (aup_n nz1).trans ((aup_n nz1).trans h2)) ⟨Nat.le_of_ble_eq_true rfl, Nat.le_of_ble_eq_true rfl⟩ ⟨Nat.le_of_ble_eq_true rfl, Nat.le_of_ble_eq_true rfl⟩ (Nat.le_of_ble_eq_true rfl) ?_
    refine s_X7_isSlot hst aup_s hj (fun h8 => ?_) (fun h8 => ?_)
    · rw [aup_up]
      obtain ⟨e1, hy', hm', hd'⟩ := hW h8
      have hn2 := hgn j.toNat (by omega)
      have hg2 := hgd j.toNat (by omega)
      have hl2 := lenM_rng y' m'
      have hr1 := ed_rng hy hm hd
      have hr2 := ed_rng hy' hm' hd'
      have K174 : (0 ≤ u ∧ u ≤ 8) → ∀ D R : Int, dayE (ed y m d) (gn i.toNat) (ed y' m' d') (gn j.toNat) D → rstE (ed y m d) (gn i.toNat) (ed y' m' d') (gn j.toNat) R → V l G mX7_until rX7_until Q X 174 (lof [(0, .ref z), (1, .int (iI i)), (2, .int (iI j)), (3, .int (iI u)), (4, .long (lI D)), (6, .long (lI R))]) [] (aup w z (mdC A 0 yq mq dq ty ap wr sz)) 0 0 := by
        intro hu8
        have J268 : ∀ D R r9 fa : Int, dayE (ed y m d) (gn i.toNat) (ed y' m' d') (gn j.toNat) D → rstE (ed y m d) (gn i.toNat) (ed y' m' d') (gn j.toNat) R → tq R (uSZ u) r9 → (0 ≤ u ∧ u ≤ 6) → ((fa = 1 → u = 0 ∧ ¬ (-9223372036854775808 ≤ D * 86400000000000 + R ∧ D * 86400000000000 + R ≤ 9223372036854775807)) ∧ (fa = 0 → u = 0 → (-9223372036854775808 ≤ D * 86400000000000 + R ∧ D * 86400000000000 + R ≤ 9223372036854775807))) → (fa = 0 ∨ fa = 1) → V l G mX7_until rX7_until Q X 268 (lof [(0, .ref z), (1, .int (iI i)), (2, .int (iI j)), (3, .int (iI u)), (4, .long (lI D)), (8, .long (lI (uPD u))), (10, .long (lI r9)), (12, .int (iI fa))]) [] (aup w z (mdC A 0 yq mq dq ty ap wr sz)) 0 0 := by
          intro D R r9 fa hD hR hr9 hu6 hfa hf01
          refine v_aload_n dX7_until_268 rfl ?_
          refine v_iload dX7_until_269 rfl ?_
          refine v_if_eq 278 dX7_until_271 (fun h_271 => ?_) (fun h_271 => ?_)
          · refine v_iconst dX7_until_278 ?_
            refine v_put dX7_until_279 f_X7_41 (by first | exact h0 | exact aup_s | exact (aup_n nz0).trans h1 | exact (aup_n nz1).trans h2 | exact (aup_n nz0.symm).trans aup_s | exact (aup_n nz0).trans ((aup_n nz0).trans h1) | exact (aup_n nz1).trans ((aup_n nz1).trans h2)) rfl rfl (Nat.le_of_ble_eq_true rfl) ?_
            try rw [aup_up]
            refine v_aload_n dX7_until_282 rfl ?_
            refine v_get dX7_until_283 f_X7_41 (by first | exact h0 | exact aup_s | exact (aup_n nz0).trans h1 | exact (aup_n nz1).trans h2 | exact (aup_n nz0.symm).trans aup_s | exact (aup_n nz0).trans ((aup_n nz0).trans h1) | exact (aup_n nz1).trans ((aup_n nz1).trans h2)) rfl ?_
            refine v_if_le 293 dX7_until_286 (fun h_286 => ?_) (fun h_286 => ?_)
            · refine v_lload dX7_until_293 rfl ?_
              refine v_lload dX7_until_295 rfl ?_
              refine v_lmul dX7_until_297 ?_
              refine v_lload dX7_until_298 rfl ?_
              refine v_ladd dX7_until_300 ?_
              exact v_lret dX7_until_301 rfl (by first | (exfalso; omega) | (have c9 : fa = 1 := (by omega); have c8 := hfa.1 c9; exact hQF _ h7 h8 c8.1 D R hD hR c8.2) | (have c9 : fa = 0 := (by omega); exact hQp h7 h8 hu6 D R r9 hD hR (hfa.2 c9) hr9))
            · refine v_lconst0 dX7_until_289 ?_
              refine v_goto 301 dX7_until_290 ?_
              exact v_lret dX7_until_301 rfl (by first | (exfalso; omega) | (have c9 : fa = 1 := (by omega); have c8 := hfa.1 c9; exact hQF _ h7 h8 c8.1 D R hD hR c8.2) | (have c9 : fa = 0 := (by omega); exact hQp h7 h8 hu6 D R r9 hD hR (hfa.2 c9) hr9))
          · refine v_iconst dX7_until_274 ?_
            refine v_goto 279 dX7_until_275 ?_
            refine v_put dX7_until_279 f_X7_41 (by first | exact h0 | exact aup_s | exact (aup_n nz0).trans h1 | exact (aup_n nz1).trans h2 | exact (aup_n nz0.symm).trans aup_s | exact (aup_n nz0).trans ((aup_n nz0).trans h1) | exact (aup_n nz1).trans ((aup_n nz1).trans h2)) rfl rfl (Nat.le_of_ble_eq_true rfl) ?_
            try rw [aup_up]
            refine v_aload_n dX7_until_282 rfl ?_
            refine v_get dX7_until_283 f_X7_41 (by first | exact h0 | exact aup_s | exact (aup_n nz0).trans h1 | exact (aup_n nz1).trans h2 | exact (aup_n nz0.symm).trans aup_s | exact (aup_n nz0).trans ((aup_n nz0).trans h1) | exact (aup_n nz1).trans ((aup_n nz1).trans h2)) rfl ?_
            refine v_if_le 293 dX7_until_286 (fun h_286 => ?_) (fun h_286 => ?_)
            · refine v_lload dX7_until_293 rfl ?_
              refine v_lload dX7_until_295 rfl ?_
              refine v_lmul dX7_until_297 ?_
              refine v_lload dX7_until_298 rfl ?_
              refine v_ladd dX7_until_300 ?_
              exact v_lret dX7_until_301 rfl (by first | (exfalso; omega) | (have c9 : fa = 1 := (by omega); have c8 := hfa.1 c9; exact hQF _ h7 h8 c8.1 D R hD hR c8.2) | (have c9 : fa = 0 := (by omega); exact hQp h7 h8 hu6 D R r9 hD hR (hfa.2 c9) hr9))
            · refine v_lconst0 dX7_until_289 ?_
              refine v_goto 301 dX7_until_290 ?_
              exact v_lret dX7_until_301 rfl (by first | (exfalso; omega) | (have c9 : fa = 1 := (by omega); have c8 := hfa.1 c9; exact hQF _ h7 h8 c8.1 D R hD hR c8.2) | (have c9 : fa = 0 := (by omega); exact hQp h7 h8 hu6 D R r9 hD hR (hfa.2 c9) hr9))
        have J217 : ∀ D R r9 : Int, dayE (ed y m d) (gn i.toNat) (ed y' m' d') (gn j.toNat) D → rstE (ed y m d) (gn i.toNat) (ed y' m' d') (gn j.toNat) R → tq R (uSZ u) r9 → (0 ≤ u ∧ u ≤ 6) → V l G mX7_until rX7_until Q X 217 (lof [(0, .ref z), (1, .int (iI i)), (2, .int (iI j)), (3, .int (iI u)), (4, .long (lI D)), (6, .long (lI R)), (8, .long (lI (uPD u))), (10, .long (lI r9))]) [] (aup w z (mdC A 0 yq mq dq ty ap wr sz)) 0 0 := by
          intro D R r9 hD hR hr9 hu6
          have hDr : -8000000 ≤ D ∧ D ≤ 8000000 := (by unfold dayE at hD; omega)
          have hRr : -86400000000000 ≤ R ∧ R ≤ 86400000000000 := (by unfold rstE at hR; omega)
          have hsg : (0 < D → 0 ≤ R) ∧ (D < 0 → R ≤ 0) := (by unfold rstE at hR; unfold dayE at hD; omega)
          have hup := uPD_c (u := u) (by omega)
          have hps := (uPS (N := 0) (u := u) (by omega)).1
          have hrr : -86400000000000 ≤ r9 ∧ r9 ≤ 86400000000000 := (by unfold tq at hr9; rcases hup with ⟨g1, g2, g3⟩ | ⟨g1, g2, g3⟩ | ⟨g1, g2, g3⟩ | ⟨g1, g2, g3⟩ | ⟨g1, g2, g3⟩ | ⟨g1, g2, g3⟩ | ⟨g1, g2, g3⟩ | ⟨g1, g2, g3⟩ <;> rw [g3] at hr9 <;> omega)
          have hr0 : (R ≤ 0 → r9 ≤ 0) ∧ (0 ≤ R → 0 ≤ r9) := (by unfold tq at hr9; rcases hup with ⟨g1, g2, g3⟩ | ⟨g1, g2, g3⟩ | ⟨g1, g2, g3⟩ | ⟨g1, g2, g3⟩ | ⟨g1, g2, g3⟩ | ⟨g1, g2, g3⟩ | ⟨g1, g2, g3⟩ | ⟨g1, g2, g3⟩ <;> rw [g3] at hr9 <;> omega)
          refine v_lload dX7_until_217 rfl ?_
          refine v_lconst0 dX7_until_219 ?_
          refine v_lif_ge 239 dX7_until_220 dX7_until_221 (fun h_220 => ?_) (fun h_220 => ?_)
          · refine v_lload dX7_until_239 rfl ?_
            refine v_lconst0 dX7_until_241 ?_
            refine v_lif_le 265 dX7_until_242 dX7_until_243 (fun h_242 => ?_) (fun h_242 => ?_)
            · refine v_iconst dX7_until_265 ?_
              refine v_istore dX7_until_266 (by decide) ?_
              first | (exfalso; omega) | exact v_lof [(0, .ref z), (1, .int (iI i)), (2, .int (iI j)), (3, .int (iI u)), (4, .long (lI D)), (8, .long (lI (uPD u))), (10, .long (lI r9)), (12, .int (iI _))] (List.forall_mem_cons.mpr ⟨rfl, (List.forall_mem_cons.mpr ⟨rfl, (List.forall_mem_cons.mpr ⟨rfl, (List.forall_mem_cons.mpr ⟨rfl, (List.forall_mem_cons.mpr ⟨rfl, (List.forall_mem_cons.mpr ⟨rfl, (List.forall_mem_cons.mpr ⟨rfl, (List.forall_mem_cons.mpr ⟨rfl, (fun _ h => nomatch h)⟩)⟩)⟩)⟩)⟩)⟩)⟩)⟩) (J268 D R r9 _ hD hR hr9 hu6 (by unfold tq at hr9; rcases hup with ⟨g1, g2, g3⟩ | ⟨g1, g2, g3⟩ | ⟨g1, g2, g3⟩ | ⟨g1, g2, g3⟩ | ⟨g1, g2, g3⟩ | ⟨g1, g2, g3⟩ | ⟨g1, g2, g3⟩ | ⟨g1, g2, g3⟩ <;> skip <;> rw [g3] at hr9 <;> omega) (by first | exact Or.inl rfl | exact Or.inr rfl))
            · refine v_lload dX7_until_246 rfl ?_
              refine v_ldc2 (9223372036854775807) dX7_until_248 kl_X7_208 ?_
              refine v_lload dX7_until_251 rfl ?_
              refine v_lsub dX7_until_253 ?_
              refine v_lload dX7_until_254 rfl ?_
              refine v_ldivK dX7_until_256 (fun r_256 e_256 => ?_)
              have f_256 : ((u = 0 ∧ ((0 ≤ 9223372036854775807 - r9 ∧ r_256 = (9223372036854775807 - r9) / 86400000000000) ∨ (9223372036854775807 - r9 < 0 ∧ r_256 = -((-(9223372036854775807 - r9)) / 86400000000000)))) ∨ (u ≠ 0 ∧ 100000000 < r_256 ∧ r_256 ≤ 9223372036854775807)) := (by unfold tq at hr9; rcases hup with ⟨g1, g2, g3⟩ | ⟨g1, g2, g3⟩ | ⟨g1, g2, g3⟩ | ⟨g1, g2, g3⟩ | ⟨g1, g2, g3⟩ | ⟨g1, g2, g3⟩ | ⟨g1, g2, g3⟩ | ⟨g1, g2, g3⟩ <;> rw [g2] at e_256 <;> rw [g3] at hr9 <;> omega)
              clear e_256
              refine v_lif_le 265 dX7_until_257 dX7_until_258 (fun h_257 => ?_) (fun h_257 => ?_)
              · refine v_iconst dX7_until_265 ?_
                refine v_istore dX7_until_266 (by decide) ?_
                first | (exfalso; omega) | exact v_lof [(0, .ref z), (1, .int (iI i)), (2, .int (iI j)), (3, .int (iI u)), (4, .long (lI D)), (8, .long (lI (uPD u))), (10, .long (lI r9)), (12, .int (iI _))] (List.forall_mem_cons.mpr ⟨rfl, (List.forall_mem_cons.mpr ⟨rfl, (List.forall_mem_cons.mpr ⟨rfl, (List.forall_mem_cons.mpr ⟨rfl, (List.forall_mem_cons.mpr ⟨rfl, (List.forall_mem_cons.mpr ⟨rfl, (List.forall_mem_cons.mpr ⟨rfl, (List.forall_mem_cons.mpr ⟨rfl, (fun _ h => nomatch h)⟩)⟩)⟩)⟩)⟩)⟩)⟩)⟩) (J268 D R r9 _ hD hR hr9 hu6 (by unfold tq at hr9; rcases hup with ⟨g1, g2, g3⟩ | ⟨g1, g2, g3⟩ | ⟨g1, g2, g3⟩ | ⟨g1, g2, g3⟩ | ⟨g1, g2, g3⟩ | ⟨g1, g2, g3⟩ | ⟨g1, g2, g3⟩ | ⟨g1, g2, g3⟩ <;> skip <;> rw [g3] at hr9 <;> omega) (by first | exact Or.inl rfl | exact Or.inr rfl))
              · refine v_iconst dX7_until_261 ?_
                refine v_goto 266 dX7_until_262 ?_
                refine v_istore dX7_until_266 (by decide) ?_
                first | (exfalso; omega) | exact v_lof [(0, .ref z), (1, .int (iI i)), (2, .int (iI j)), (3, .int (iI u)), (4, .long (lI D)), (8, .long (lI (uPD u))), (10, .long (lI r9)), (12, .int (iI _))] (List.forall_mem_cons.mpr ⟨rfl, (List.forall_mem_cons.mpr ⟨rfl, (List.forall_mem_cons.mpr ⟨rfl, (List.forall_mem_cons.mpr ⟨rfl, (List.forall_mem_cons.mpr ⟨rfl, (List.forall_mem_cons.mpr ⟨rfl, (List.forall_mem_cons.mpr ⟨rfl, (List.forall_mem_cons.mpr ⟨rfl, (fun _ h => nomatch h)⟩)⟩)⟩)⟩)⟩)⟩)⟩)⟩) (J268 D R r9 _ hD hR hr9 hu6 (by unfold tq at hr9; rcases hup with ⟨g1, g2, g3⟩ | ⟨g1, g2, g3⟩ | ⟨g1, g2, g3⟩ | ⟨g1, g2, g3⟩ | ⟨g1, g2, g3⟩ | ⟨g1, g2, g3⟩ | ⟨g1, g2, g3⟩ | ⟨g1, g2, g3⟩ <;> skip <;> rw [g3] at hr9 <;> omega) (by first | exact Or.inl rfl | exact Or.inr rfl))
          · refine v_lload dX7_until_224 rfl ?_
            refine v_ldc2 (-9223372036854775808) dX7_until_226 kl_X7_206 ?_
            refine v_lload dX7_until_229 rfl ?_
            refine v_lsub dX7_until_231 ?_
            refine v_lload dX7_until_232 rfl ?_
            refine v_ldivK dX7_until_234 (fun r_234 e_234 => ?_)
            have f_234 : ((u = 0 ∧ ((0 ≤ -9223372036854775808 - r9 ∧ r_234 = (-9223372036854775808 - r9) / 86400000000000) ∨ (-9223372036854775808 - r9 < 0 ∧ r_234 = -((-(-9223372036854775808 - r9)) / 86400000000000)))) ∨ (u ≠ 0 ∧ -9223372036854775808 ≤ r_234 ∧ r_234 < -100000000)) := (by unfold tq at hr9; rcases hup with ⟨g1, g2, g3⟩ | ⟨g1, g2, g3⟩ | ⟨g1, g2, g3⟩ | ⟨g1, g2, g3⟩ | ⟨g1, g2, g3⟩ | ⟨g1, g2, g3⟩ | ⟨g1, g2, g3⟩ | ⟨g1, g2, g3⟩ <;> rw [g2] at e_234 <;> rw [g3] at hr9 <;> omega)
            clear e_234
            refine v_lif_lt 261 dX7_until_235 dX7_until_236 (fun h_235 => ?_) (fun h_235 => ?_)
            · refine v_iconst dX7_until_261 ?_
              refine v_goto 266 dX7_until_262 ?_
              refine v_istore dX7_until_266 (by decide) ?_
              first | (exfalso; omega) | exact v_lof [(0, .ref z), (1, .int (iI i)), (2, .int (iI j)), (3, .int (iI u)), (4, .long (lI D)), (8, .long (lI (uPD u))), (10, .long (lI r9)), (12, .int (iI _))] (List.forall_mem_cons.mpr ⟨rfl, (List.forall_mem_cons.mpr ⟨rfl, (List.forall_mem_cons.mpr ⟨rfl, (List.forall_mem_cons.mpr ⟨rfl, (List.forall_mem_cons.mpr ⟨rfl, (List.forall_mem_cons.mpr ⟨rfl, (List.forall_mem_cons.mpr ⟨rfl, (List.forall_mem_cons.mpr ⟨rfl, (fun _ h => nomatch h)⟩)⟩)⟩)⟩)⟩)⟩)⟩)⟩) (J268 D R r9 _ hD hR hr9 hu6 (by unfold tq at hr9; rcases hup with ⟨g1, g2, g3⟩ | ⟨g1, g2, g3⟩ | ⟨g1, g2, g3⟩ | ⟨g1, g2, g3⟩ | ⟨g1, g2, g3⟩ | ⟨g1, g2, g3⟩ | ⟨g1, g2, g3⟩ | ⟨g1, g2, g3⟩ <;> skip <;> rw [g3] at hr9 <;> omega) (by first | exact Or.inl rfl | exact Or.inr rfl))
            · refine v_lload dX7_until_239 rfl ?_
              refine v_lconst0 dX7_until_241 ?_
              refine v_lif_le 265 dX7_until_242 dX7_until_243 (fun h_242 => ?_) (fun h_242 => ?_)
              · refine v_iconst dX7_until_265 ?_
                refine v_istore dX7_until_266 (by decide) ?_
                first | (exfalso; omega) | exact v_lof [(0, .ref z), (1, .int (iI i)), (2, .int (iI j)), (3, .int (iI u)), (4, .long (lI D)), (8, .long (lI (uPD u))), (10, .long (lI r9)), (12, .int (iI _))] (List.forall_mem_cons.mpr ⟨rfl, (List.forall_mem_cons.mpr ⟨rfl, (List.forall_mem_cons.mpr ⟨rfl, (List.forall_mem_cons.mpr ⟨rfl, (List.forall_mem_cons.mpr ⟨rfl, (List.forall_mem_cons.mpr ⟨rfl, (List.forall_mem_cons.mpr ⟨rfl, (List.forall_mem_cons.mpr ⟨rfl, (fun _ h => nomatch h)⟩)⟩)⟩)⟩)⟩)⟩)⟩)⟩) (J268 D R r9 _ hD hR hr9 hu6 (by unfold tq at hr9; rcases hup with ⟨g1, g2, g3⟩ | ⟨g1, g2, g3⟩ | ⟨g1, g2, g3⟩ | ⟨g1, g2, g3⟩ | ⟨g1, g2, g3⟩ | ⟨g1, g2, g3⟩ | ⟨g1, g2, g3⟩ | ⟨g1, g2, g3⟩ <;> skip <;> rw [g3] at hr9 <;> omega) (by first | exact Or.inl rfl | exact Or.inr rfl))
              · refine v_lload dX7_until_246 rfl ?_
                refine v_ldc2 (9223372036854775807) dX7_until_248 kl_X7_208 ?_
                refine v_lload dX7_until_251 rfl ?_
                refine v_lsub dX7_until_253 ?_
                refine v_lload dX7_until_254 rfl ?_
                refine v_ldivK dX7_until_256 (fun r_256 e_256 => ?_)
                have f_256 : ((u = 0 ∧ ((0 ≤ 9223372036854775807 - r9 ∧ r_256 = (9223372036854775807 - r9) / 86400000000000) ∨ (9223372036854775807 - r9 < 0 ∧ r_256 = -((-(9223372036854775807 - r9)) / 86400000000000)))) ∨ (u ≠ 0 ∧ 100000000 < r_256 ∧ r_256 ≤ 9223372036854775807)) := (by unfold tq at hr9; rcases hup with ⟨g1, g2, g3⟩ | ⟨g1, g2, g3⟩ | ⟨g1, g2, g3⟩ | ⟨g1, g2, g3⟩ | ⟨g1, g2, g3⟩ | ⟨g1, g2, g3⟩ | ⟨g1, g2, g3⟩ | ⟨g1, g2, g3⟩ <;> rw [g2] at e_256 <;> rw [g3] at hr9 <;> omega)
                clear e_256
                refine v_lif_le 265 dX7_until_257 dX7_until_258 (fun h_257 => ?_) (fun h_257 => ?_)
                · refine v_iconst dX7_until_265 ?_
                  refine v_istore dX7_until_266 (by decide) ?_
                  first | (exfalso; omega) | exact v_lof [(0, .ref z), (1, .int (iI i)), (2, .int (iI j)), (3, .int (iI u)), (4, .long (lI D)), (8, .long (lI (uPD u))), (10, .long (lI r9)), (12, .int (iI _))] (List.forall_mem_cons.mpr ⟨rfl, (List.forall_mem_cons.mpr ⟨rfl, (List.forall_mem_cons.mpr ⟨rfl, (List.forall_mem_cons.mpr ⟨rfl, (List.forall_mem_cons.mpr ⟨rfl, (List.forall_mem_cons.mpr ⟨rfl, (List.forall_mem_cons.mpr ⟨rfl, (List.forall_mem_cons.mpr ⟨rfl, (fun _ h => nomatch h)⟩)⟩)⟩)⟩)⟩)⟩)⟩)⟩) (J268 D R r9 _ hD hR hr9 hu6 (by unfold tq at hr9; rcases hup with ⟨g1, g2, g3⟩ | ⟨g1, g2, g3⟩ | ⟨g1, g2, g3⟩ | ⟨g1, g2, g3⟩ | ⟨g1, g2, g3⟩ | ⟨g1, g2, g3⟩ | ⟨g1, g2, g3⟩ | ⟨g1, g2, g3⟩ <;> skip <;> rw [g3] at hr9 <;> omega) (by first | exact Or.inl rfl | exact Or.inr rfl))
                · refine v_iconst dX7_until_261 ?_
                  refine v_goto 266 dX7_until_262 ?_
                  refine v_istore dX7_until_266 (by decide) ?_
                  first | (exfalso; omega) | exact v_lof [(0, .ref z), (1, .int (iI i)), (2, .int (iI j)), (3, .int (iI u)), (4, .long (lI D)), (8, .long (lI (uPD u))), (10, .long (lI r9)), (12, .int (iI _))] (List.forall_mem_cons.mpr ⟨rfl, (List.forall_mem_cons.mpr ⟨rfl, (List.forall_mem_cons.mpr ⟨rfl, (List.forall_mem_cons.mpr ⟨rfl, (List.forall_mem_cons.mpr ⟨rfl, (List.forall_mem_cons.mpr ⟨rfl, (List.forall_mem_cons.mpr ⟨rfl, (List.forall_mem_cons.mpr ⟨rfl, (fun _ h => nomatch h)⟩)⟩)⟩)⟩)⟩)⟩)⟩)⟩) (J268 D R r9 _ hD hR hr9 hu6 (by unfold tq at hr9; rcases hup with ⟨g1, g2, g3⟩ | ⟨g1, g2, g3⟩ | ⟨g1, g2, g3⟩ | ⟨g1, g2, g3⟩ | ⟨g1, g2, g3⟩ | ⟨g1, g2, g3⟩ | ⟨g1, g2, g3⟩ | ⟨g1, g2, g3⟩ <;> skip <;> rw [g3] at hr9 <;> omega) (by first | exact Or.inl rfl | exact Or.inr rfl))
        have J174 : ∀ D R : Int, dayE (ed y m d) (gn i.toNat) (ed y' m' d') (gn j.toNat) D → rstE (ed y m d) (gn i.toNat) (ed y' m' d') (gn j.toNat) R → V l G mX7_until rX7_until Q X 174 (lof [(0, .ref z), (1, .int (iI i)), (2, .int (iI j)), (3, .int (iI u)), (4, .long (lI D)), (6, .long (lI R))]) [] (aup w z (mdC A 0 yq mq dq ty ap wr sz)) 0 0 := by
          intro D R hD hR
          have hDr : -8000000 ≤ D ∧ D ≤ 8000000 := (by unfold dayE at hD; omega)
          have hRr : -86400000000000 ≤ R ∧ R ≤ 86400000000000 := (by unfold rstE at hR; omega)
          refine v_iload_n dX7_until_174 rfl ?_
          refine v_bipush dX7_until_175 ?_
          refine v_icmp_le 198 dX7_until_177 (fun h_177 => ?_) (fun h_177 => ?_)
          · refine v_ldc2 (86400000000000) dX7_until_198 kl_X7_173 ?_
            refine v_iload_n dX7_until_201 rfl ?_
            refine v_S1 (rm' := rX7_nanosOf) dX7_until_202 km_X7_199 ks_X7_nanosOf kz_X7 mk_X7_nanosOf rfl ⟨Nat.le_of_ble_eq_true rfl, Nat.le_of_ble_eq_true rfl⟩ ⟨Nat.le_of_ble_eq_true rfl, Nat.le_of_ble_eq_true rfl⟩ (Nat.le_of_ble_eq_true rfl) ?_
            refine s_X7_nanosOf hst (by omega) ?_
            have hps := uPS (N := 0) (u := u) (by omega)
            refine v_ldivP dX7_until_205 ?_
            rw [hps.2.2.1]
            refine v_lstore dX7_until_206 (by decide) ?_
            refine v_lload dX7_until_208 rfl ?_
            refine v_iload_n dX7_until_210 rfl ?_
            refine v_S1 (rm' := rX7_nanosOf) dX7_until_211 km_X7_199 ks_X7_nanosOf kz_X7 mk_X7_nanosOf rfl ⟨Nat.le_of_ble_eq_true rfl, Nat.le_of_ble_eq_true rfl⟩ ⟨Nat.le_of_ble_eq_true rfl, Nat.le_of_ble_eq_true rfl⟩ (Nat.le_of_ble_eq_true rfl) ?_
            refine s_X7_nanosOf hst (by omega) ?_
            refine v_ldivK dX7_until_214 (fun r_214 e_214 => ?_)
            refine v_lstore dX7_until_215 (by decide) ?_
            exact v_lof [(0, .ref z), (1, .int (iI i)), (2, .int (iI j)), (3, .int (iI u)), (4, .long (lI D)), (6, .long (lI R)), (8, .long (lI (uPD u))), (10, .long (lI _))] (List.forall_mem_cons.mpr ⟨rfl, (List.forall_mem_cons.mpr ⟨rfl, (List.forall_mem_cons.mpr ⟨rfl, (List.forall_mem_cons.mpr ⟨rfl, (List.forall_mem_cons.mpr ⟨rfl, (List.forall_mem_cons.mpr ⟨rfl, (List.forall_mem_cons.mpr ⟨rfl, (List.forall_mem_cons.mpr ⟨rfl, (fun _ h => nomatch h)⟩)⟩)⟩)⟩)⟩)⟩)⟩)⟩) (J217 D R _ hD hR e_214 (by omega))
          · refine v_iload_n dX7_until_180 rfl ?_
            refine v_bipush dX7_until_181 ?_
            refine v_icmp_ne 191 dX7_until_183 (fun h_183 => ?_) (fun h_183 => ?_)
            · refine v_lload dX7_until_191 rfl ?_
              refine v_ldc2 (7) dX7_until_193 kl_X7_92 ?_
              refine v_ldivK dX7_until_196 (fun r_196 e_196 => ?_)
              exact v_lret dX7_until_197 rfl (by first | exact hQ7 h7 h8 (by omega) D hD | exact hQw h7 h8 (by omega) D _ hD e_196 | (exfalso; omega))
            · refine v_lload dX7_until_186 rfl ?_
              refine v_goto 197 dX7_until_188 ?_
              exact v_lret dX7_until_197 rfl (by first | exact hQ7 h7 h8 (by omega) D hD | exact hQw h7 h8 (by omega) D _ hD e_196 | (exfalso; omega))
        exact J174
      refine v_if_ne 18 dX7_until_13 (fun h_13 => ?_) (fun h_13 => ?_)
      rotate_left
      · (exfalso; omega)
      refine v_aload_n dX7_until_18 rfl ?_
      refine v_iload_n dX7_until_19 rfl ?_
      refine v_i2l dX7_until_20 ?_
      refine v_lconst0 dX7_until_21 ?_
      refine v_ldc2 (13) dX7_until_22 kl_X7_185 ?_
      refine v_S3 (rm' := rX7_in) dX7_until_25 km_X7_102 ks_X7_in kz_X7 mk_X7_in rfl ⟨Nat.le_of_ble_eq_true rfl, Nat.le_of_ble_eq_true rfl⟩ ⟨Nat.le_of_ble_eq_true rfl, Nat.le_of_ble_eq_true rfl⟩ (Nat.le_of_ble_eq_true rfl) ?_
      refine s_X7_in hst (fun ri ei => ?_)
      refine v_if_eq 35 dX7_until_28 (fun h_28 => ?_) (fun h_28 => ?_)
      · refine v_iconst dX7_until_35 ?_
        refine v_put dX7_until_36 f_X7_41 (by first | exact h0 | exact aup_s | exact (aup_n nz0).trans h1 | exact (aup_n nz1).trans h2 | exact (aup_n nz0.symm).trans aup_s | exact (aup_n nz0).trans ((aup_n nz0).trans h1) | exact (aup_n nz1).trans ((aup_n nz1).trans h2)) rfl rfl (Nat.le_of_ble_eq_true rfl) ?_
        try rw [aup_up]
        refine v_aload_n dX7_until_39 rfl ?_
        refine v_get dX7_until_40 f_X7_41 (by first | exact h0 | exact aup_s | exact (aup_n nz0).trans h1 | exact (aup_n nz1).trans h2 | exact (aup_n nz0.symm).trans aup_s | exact (aup_n nz0).trans ((aup_n nz0).trans h1) | exact (aup_n nz1).trans ((aup_n nz1).trans h2)) rfl ?_
        refine v_if_le 48 dX7_until_43 (fun h_43 => ?_) (fun h_43 => ?_)
        · refine v_iload_n dX7_until_48 rfl ?_
          refine v_bipush dX7_until_49 ?_
          refine v_icmp_le 88 dX7_until_51 (fun h_51 => ?_) (fun h_51 => ?_)
          · refine v_aload_n dX7_until_88 rfl ?_
            refine v_get dX7_until_89 f_X7_7 (by first | exact h0 | exact aup_s | exact (aup_n nz0).trans h1 | exact (aup_n nz1).trans h2 | exact (aup_n nz0.symm).trans aup_s | exact (aup_n nz0).trans ((aup_n nz0).trans h1) | exact (aup_n nz1).trans ((aup_n nz1).trans h2)) rfl ?_
            refine v_iload_n dX7_until_92 rfl ?_
            refine v_lald dX7_until_93 (by first | exact h0 | exact aup_s | exact (aup_n nz0).trans h1 | exact (aup_n nz1).trans h2 | exact (aup_n nz0.symm).trans aup_s | exact (aup_n nz0).trans ((aup_n nz0).trans h1) | exact (aup_n nz1).trans ((aup_n nz1).trans h2)) ?_
            refine v_aload_n dX7_until_94 rfl ?_
            refine v_get dX7_until_95 f_X7_7 (by first | exact h0 | exact aup_s | exact (aup_n nz0).trans h1 | exact (aup_n nz1).trans h2 | exact (aup_n nz0.symm).trans aup_s | exact (aup_n nz0).trans ((aup_n nz0).trans h1) | exact (aup_n nz1).trans ((aup_n nz1).trans h2)) rfl ?_
            refine v_iload_n dX7_until_98 rfl ?_
            refine v_lald dX7_until_99 (by first | exact h0 | exact aup_s | exact (aup_n nz0).trans h1 | exact (aup_n nz1).trans h2 | exact (aup_n nz0.symm).trans aup_s | exact (aup_n nz0).trans ((aup_n nz0).trans h1) | exact (aup_n nz1).trans ((aup_n nz1).trans h2)) ?_
            refine v_lsub dX7_until_100 ?_
            rw [e0, e1]
            refine v_lstore dX7_until_101 (by decide) ?_
            refine v_aload_n dX7_until_103 rfl ?_
            refine v_get dX7_until_104 f_X7_13 (by first | exact h0 | exact aup_s | exact (aup_n nz0).trans h1 | exact (aup_n nz1).trans h2 | exact (aup_n nz0.symm).trans aup_s | exact (aup_n nz0).trans ((aup_n nz0).trans h1) | exact (aup_n nz1).trans ((aup_n nz1).trans h2)) rfl ?_
            refine v_iload_n dX7_until_107 rfl ?_
            refine v_lald dX7_until_108 (by first | exact h0 | exact aup_s | exact (aup_n nz0).trans h1 | exact (aup_n nz1).trans h2 | exact (aup_n nz0.symm).trans aup_s | exact (aup_n nz0).trans ((aup_n nz0).trans h1) | exact (aup_n nz1).trans ((aup_n nz1).trans h2)) ?_
            refine v_aload_n dX7_until_109 rfl ?_
            refine v_get dX7_until_110 f_X7_13 (by first | exact h0 | exact aup_s | exact (aup_n nz0).trans h1 | exact (aup_n nz1).trans h2 | exact (aup_n nz0.symm).trans aup_s | exact (aup_n nz0).trans ((aup_n nz0).trans h1) | exact (aup_n nz1).trans ((aup_n nz1).trans h2)) rfl ?_
            refine v_iload_n dX7_until_113 rfl ?_
            refine v_lald dX7_until_114 (by first | exact h0 | exact aup_s | exact (aup_n nz0).trans h1 | exact (aup_n nz1).trans h2 | exact (aup_n nz0.symm).trans aup_s | exact (aup_n nz0).trans ((aup_n nz0).trans h1) | exact (aup_n nz1).trans ((aup_n nz1).trans h2)) ?_
            refine v_lsub dX7_until_115 ?_
            refine v_lstore dX7_until_116 (by decide) ?_
            refine v_lload dX7_until_118 rfl ?_
            refine v_lconst0 dX7_until_120 ?_
            refine v_lif_ge 146 dX7_until_121 dX7_until_122 (fun h_121 => ?_) (fun h_121 => ?_)
            · refine v_lload dX7_until_146 rfl ?_
              refine v_lconst0 dX7_until_148 ?_
              refine v_lif_le 174 dX7_until_149 dX7_until_150 (fun h_149 => ?_) (fun h_149 => ?_)
              · first | (exfalso; omega) | exact v_lof [(0, .ref z), (1, .int (iI i)), (2, .int (iI j)), (3, .int (iI u)), (4, .long (lI _)), (6, .long (lI _))] (List.forall_mem_cons.mpr ⟨rfl, (List.forall_mem_cons.mpr ⟨rfl, (List.forall_mem_cons.mpr ⟨rfl, (List.forall_mem_cons.mpr ⟨rfl, (List.forall_mem_cons.mpr ⟨rfl, (List.forall_mem_cons.mpr ⟨rfl, (fun _ h => nomatch h)⟩)⟩)⟩)⟩)⟩)⟩) (K174 (by omega) _ _ (by unfold dayE; omega) (by unfold rstE; omega))
              · refine v_lload dX7_until_153 rfl ?_
                refine v_lconst0 dX7_until_155 ?_
                refine v_lif_ge 174 dX7_until_156 dX7_until_157 (fun h_156 => ?_) (fun h_156 => ?_)
                · first | (exfalso; omega) | exact v_lof [(0, .ref z), (1, .int (iI i)), (2, .int (iI j)), (3, .int (iI u)), (4, .long (lI _)), (6, .long (lI _))] (List.forall_mem_cons.mpr ⟨rfl, (List.forall_mem_cons.mpr ⟨rfl, (List.forall_mem_cons.mpr ⟨rfl, (List.forall_mem_cons.mpr ⟨rfl, (List.forall_mem_cons.mpr ⟨rfl, (List.forall_mem_cons.mpr ⟨rfl, (fun _ h => nomatch h)⟩)⟩)⟩)⟩)⟩)⟩) (K174 (by omega) _ _ (by unfold dayE; omega) (by unfold rstE; omega))
                · refine v_lload dX7_until_160 rfl ?_
                  refine v_lconst1 dX7_until_162 ?_
                  refine v_lsub dX7_until_163 ?_
                  refine v_lstore dX7_until_164 (by decide) ?_
                  refine v_lload dX7_until_166 rfl ?_
                  refine v_ldc2 (86400000000000) dX7_until_168 kl_X7_173 ?_
                  refine v_ladd dX7_until_171 ?_
                  refine v_lstore dX7_until_172 (by decide) ?_
                  first | (exfalso; omega) | exact v_lof [(0, .ref z), (1, .int (iI i)), (2, .int (iI j)), (3, .int (iI u)), (4, .long (lI _)), (6, .long (lI _))] (List.forall_mem_cons.mpr ⟨rfl, (List.forall_mem_cons.mpr ⟨rfl, (List.forall_mem_cons.mpr ⟨rfl, (List.forall_mem_cons.mpr ⟨rfl, (List.forall_mem_cons.mpr ⟨rfl, (List.forall_mem_cons.mpr ⟨rfl, (fun _ h => nomatch h)⟩)⟩)⟩)⟩)⟩)⟩) (K174 (by omega) _ _ (by unfold dayE; omega) (by unfold rstE; omega))
            · refine v_lload dX7_until_125 rfl ?_
              refine v_lconst0 dX7_until_127 ?_
              refine v_lif_le 146 dX7_until_128 dX7_until_129 (fun h_128 => ?_) (fun h_128 => ?_)
              · refine v_lload dX7_until_146 rfl ?_
                refine v_lconst0 dX7_until_148 ?_
                refine v_lif_le 174 dX7_until_149 dX7_until_150 (fun h_149 => ?_) (fun h_149 => ?_)
                · first | (exfalso; omega) | exact v_lof [(0, .ref z), (1, .int (iI i)), (2, .int (iI j)), (3, .int (iI u)), (4, .long (lI _)), (6, .long (lI _))] (List.forall_mem_cons.mpr ⟨rfl, (List.forall_mem_cons.mpr ⟨rfl, (List.forall_mem_cons.mpr ⟨rfl, (List.forall_mem_cons.mpr ⟨rfl, (List.forall_mem_cons.mpr ⟨rfl, (List.forall_mem_cons.mpr ⟨rfl, (fun _ h => nomatch h)⟩)⟩)⟩)⟩)⟩)⟩) (K174 (by omega) _ _ (by unfold dayE; omega) (by unfold rstE; omega))
                · refine v_lload dX7_until_153 rfl ?_
                  refine v_lconst0 dX7_until_155 ?_
                  refine v_lif_ge 174 dX7_until_156 dX7_until_157 (fun h_156 => ?_) (fun h_156 => ?_)
                  · first | (exfalso; omega) | exact v_lof [(0, .ref z), (1, .int (iI i)), (2, .int (iI j)), (3, .int (iI u)), (4, .long (lI _)), (6, .long (lI _))] (List.forall_mem_cons.mpr ⟨rfl, (List.forall_mem_cons.mpr ⟨rfl, (List.forall_mem_cons.mpr ⟨rfl, (List.forall_mem_cons.mpr ⟨rfl, (List.forall_mem_cons.mpr ⟨rfl, (List.forall_mem_cons.mpr ⟨rfl, (fun _ h => nomatch h)⟩)⟩)⟩)⟩)⟩)⟩) (K174 (by omega) _ _ (by unfold dayE; omega) (by unfold rstE; omega))
                  · refine v_lload dX7_until_160 rfl ?_
                    refine v_lconst1 dX7_until_162 ?_
                    refine v_lsub dX7_until_163 ?_
                    refine v_lstore dX7_until_164 (by decide) ?_
                    refine v_lload dX7_until_166 rfl ?_
                    refine v_ldc2 (86400000000000) dX7_until_168 kl_X7_173 ?_
                    refine v_ladd dX7_until_171 ?_
                    refine v_lstore dX7_until_172 (by decide) ?_
                    first | (exfalso; omega) | exact v_lof [(0, .ref z), (1, .int (iI i)), (2, .int (iI j)), (3, .int (iI u)), (4, .long (lI _)), (6, .long (lI _))] (List.forall_mem_cons.mpr ⟨rfl, (List.forall_mem_cons.mpr ⟨rfl, (List.forall_mem_cons.mpr ⟨rfl, (List.forall_mem_cons.mpr ⟨rfl, (List.forall_mem_cons.mpr ⟨rfl, (List.forall_mem_cons.mpr ⟨rfl, (fun _ h => nomatch h)⟩)⟩)⟩)⟩)⟩)⟩) (K174 (by omega) _ _ (by unfold dayE; omega) (by unfold rstE; omega))
              · refine v_lload dX7_until_132 rfl ?_
                refine v_lconst1 dX7_until_134 ?_
                refine v_ladd dX7_until_135 ?_
                refine v_lstore dX7_until_136 (by decide) ?_
                refine v_lload dX7_until_138 rfl ?_
                refine v_ldc2 (86400000000000) dX7_until_140 kl_X7_173 ?_
                refine v_lsub dX7_until_143 ?_
                refine v_lstore dX7_until_144 (by decide) ?_
                refine v_lload dX7_until_146 rfl ?_
                refine v_lconst0 dX7_until_148 ?_
                refine v_lif_le 174 dX7_until_149 dX7_until_150 (fun h_149 => ?_) (fun h_149 => ?_)
                · first | (exfalso; omega) | exact v_lof [(0, .ref z), (1, .int (iI i)), (2, .int (iI j)), (3, .int (iI u)), (4, .long (lI _)), (6, .long (lI _))] (List.forall_mem_cons.mpr ⟨rfl, (List.forall_mem_cons.mpr ⟨rfl, (List.forall_mem_cons.mpr ⟨rfl, (List.forall_mem_cons.mpr ⟨rfl, (List.forall_mem_cons.mpr ⟨rfl, (List.forall_mem_cons.mpr ⟨rfl, (fun _ h => nomatch h)⟩)⟩)⟩)⟩)⟩)⟩) (K174 (by omega) _ _ (by unfold dayE; omega) (by unfold rstE; omega))
                · refine v_lload dX7_until_153 rfl ?_
                  refine v_lconst0 dX7_until_155 ?_
                  refine v_lif_ge 174 dX7_until_156 dX7_until_157 (fun h_156 => ?_) (fun h_156 => ?_)
                  · first | (exfalso; omega) | exact v_lof [(0, .ref z), (1, .int (iI i)), (2, .int (iI j)), (3, .int (iI u)), (4, .long (lI _)), (6, .long (lI _))] (List.forall_mem_cons.mpr ⟨rfl, (List.forall_mem_cons.mpr ⟨rfl, (List.forall_mem_cons.mpr ⟨rfl, (List.forall_mem_cons.mpr ⟨rfl, (List.forall_mem_cons.mpr ⟨rfl, (List.forall_mem_cons.mpr ⟨rfl, (fun _ h => nomatch h)⟩)⟩)⟩)⟩)⟩)⟩) (K174 (by omega) _ _ (by unfold dayE; omega) (by unfold rstE; omega))
                  · refine v_lload dX7_until_160 rfl ?_
                    refine v_lconst1 dX7_until_162 ?_
                    refine v_lsub dX7_until_163 ?_
                    refine v_lstore dX7_until_164 (by decide) ?_
                    refine v_lload dX7_until_166 rfl ?_
                    refine v_ldc2 (86400000000000) dX7_until_168 kl_X7_173 ?_
                    refine v_ladd dX7_until_171 ?_
                    refine v_lstore dX7_until_172 (by decide) ?_
                    first | (exfalso; omega) | exact v_lof [(0, .ref z), (1, .int (iI i)), (2, .int (iI j)), (3, .int (iI u)), (4, .long (lI _)), (6, .long (lI _))] (List.forall_mem_cons.mpr ⟨rfl, (List.forall_mem_cons.mpr ⟨rfl, (List.forall_mem_cons.mpr ⟨rfl, (List.forall_mem_cons.mpr ⟨rfl, (List.forall_mem_cons.mpr ⟨rfl, (List.forall_mem_cons.mpr ⟨rfl, (fun _ h => nomatch h)⟩)⟩)⟩)⟩)⟩)⟩) (K174 (by omega) _ _ (by unfold dayE; omega) (by unfold rstE; omega))
          · refine v_aload_n dX7_until_54 rfl ?_
            refine v_aload_n dX7_until_55 rfl ?_
            refine v_get dX7_until_56 f_X7_7 (by first | exact h0 | exact aup_s | exact (aup_n nz0).trans h1 | exact (aup_n nz1).trans h2 | exact (aup_n nz0.symm).trans aup_s | exact (aup_n nz0).trans ((aup_n nz0).trans h1) | exact (aup_n nz1).trans ((aup_n nz1).trans h2)) rfl ?_
            refine v_iload_n dX7_until_59 rfl ?_
            refine v_lald dX7_until_60 (by first | exact h0 | exact aup_s | exact (aup_n nz0).trans h1 | exact (aup_n nz1).trans h2 | exact (aup_n nz0.symm).trans aup_s | exact (aup_n nz0).trans ((aup_n nz0).trans h1) | exact (aup_n nz1).trans ((aup_n nz1).trans h2)) ?_
            refine v_aload_n dX7_until_61 rfl ?_
            refine v_get dX7_until_62 f_X7_13 (by first | exact h0 | exact aup_s | exact (aup_n nz0).trans h1 | exact (aup_n nz1).trans h2 | exact (aup_n nz0.symm).trans aup_s | exact (aup_n nz0).trans ((aup_n nz0).trans h1) | exact (aup_n nz1).trans ((aup_n nz1).trans h2)) rfl ?_
            refine v_iload_n dX7_until_65 rfl ?_
            refine v_lald dX7_until_66 (by first | exact h0 | exact aup_s | exact (aup_n nz0).trans h1 | exact (aup_n nz1).trans h2 | exact (aup_n nz0.symm).trans aup_s | exact (aup_n nz0).trans ((aup_n nz0).trans h1) | exact (aup_n nz1).trans ((aup_n nz1).trans h2)) ?_
            refine v_aload_n dX7_until_67 rfl ?_
            refine v_get dX7_until_68 f_X7_7 (by first | exact h0 | exact aup_s | exact (aup_n nz0).trans h1 | exact (aup_n nz1).trans h2 | exact (aup_n nz0.symm).trans aup_s | exact (aup_n nz0).trans ((aup_n nz0).trans h1) | exact (aup_n nz1).trans ((aup_n nz1).trans h2)) rfl ?_
            refine v_iload_n dX7_until_71 rfl ?_
            refine v_lald dX7_until_72 (by first | exact h0 | exact aup_s | exact (aup_n nz0).trans h1 | exact (aup_n nz1).trans h2 | exact (aup_n nz0.symm).trans aup_s | exact (aup_n nz0).trans ((aup_n nz0).trans h1) | exact (aup_n nz1).trans ((aup_n nz1).trans h2)) ?_
            refine v_aload_n dX7_until_73 rfl ?_
            refine v_get dX7_until_74 f_X7_13 (by first | exact h0 | exact aup_s | exact (aup_n nz0).trans h1 | exact (aup_n nz1).trans h2 | exact (aup_n nz0.symm).trans aup_s | exact (aup_n nz0).trans ((aup_n nz0).trans h1) | exact (aup_n nz1).trans ((aup_n nz1).trans h2)) rfl ?_
            refine v_iload_n dX7_until_77 rfl ?_
            refine v_lald dX7_until_78 (by first | exact h0 | exact aup_s | exact (aup_n nz0).trans h1 | exact (aup_n nz1).trans h2 | exact (aup_n nz0.symm).trans aup_s | exact (aup_n nz0).trans ((aup_n nz0).trans h1) | exact (aup_n nz1).trans ((aup_n nz1).trans h2)) ?_
            refine v_V4 (rm' := rX7_monthsTo) (RX7, TX7, 18) dX7_until_79 km_X7_202 kn_X7_monthsTo kv_X7_monthsTo kz_X7 mk_X7_monthsTo rfl rfl (by first | exact h0 | exact aup_s | exact (aup_n nz0).trans h1 | exact (aup_n nz1).trans h2 | exact (aup_n nz0.symm).trans aup_s | exact (aup_n nz0).trans ((aup_n nz0).trans h1) | exact (aup_n nz1).trans ((aup_n nz1).trans h2)) ⟨Nat.le_of_ble_eq_true rfl, Nat.le_of_ble_eq_true rfl⟩ ⟨Nat.le_of_ble_eq_true rfl, Nat.le_of_ble_eq_true rfl⟩ (Nat.le_of_ble_eq_true rfl) ?_
            refine s_X7_monthsTo hst aup_s (by omega) (by omega) hy hm hd e0.symm hy' hm' hd' e1.symm (fun rM eM => ?_)
            rw [aup_up]
            have hMr : -400000 ≤ rM ∧ rM ≤ 400000 := (by unfold monE at eM; omega)
            refine v_iload_n dX7_until_82 rfl ?_
            refine v_S1 (rm' := rX7_monthsOfUnit) dX7_until_83 km_X7_195 ks_X7_monthsOfUnit kz_X7 mk_X7_monthsOfUnit rfl ⟨Nat.le_of_ble_eq_true rfl, Nat.le_of_ble_eq_true rfl⟩ ⟨Nat.le_of_ble_eq_true rfl, Nat.le_of_ble_eq_true rfl⟩ (Nat.le_of_ble_eq_true rfl) ?_
            refine s_X7_monthsOfUnit hst (by omega) ?_
            have hmu := mOU_c (u := u) (by omega)
            refine v_ldivK dX7_until_86 (fun r_86 e_86 => ?_)
            exact v_lret dX7_until_87 rfl (by first | (exfalso; omega) | exact hQm _ _ _ h7 h8 (by omega) rM _ eM e_86)
        · refine v_lconst0 dX7_until_46 ?_
          exact v_lret dX7_until_47 rfl (by first | (exfalso; omega) | exact hQ2 _ h7 h8 (by omega))
      · refine v_iconst dX7_until_31 ?_
        refine v_goto 36 dX7_until_32 ?_
        refine v_put dX7_until_36 f_X7_41 (by first | exact h0 | exact aup_s | exact (aup_n nz0).trans h1 | exact (aup_n nz1).trans h2 | exact (aup_n nz0.symm).trans aup_s | exact (aup_n nz0).trans ((aup_n nz0).trans h1) | exact (aup_n nz1).trans ((aup_n nz1).trans h2)) rfl rfl (Nat.le_of_ble_eq_true rfl) ?_
        try rw [aup_up]
        refine v_aload_n dX7_until_39 rfl ?_
        refine v_get dX7_until_40 f_X7_41 (by first | exact h0 | exact aup_s | exact (aup_n nz0).trans h1 | exact (aup_n nz1).trans h2 | exact (aup_n nz0.symm).trans aup_s | exact (aup_n nz0).trans ((aup_n nz0).trans h1) | exact (aup_n nz1).trans ((aup_n nz1).trans h2)) rfl ?_
        refine v_if_le 48 dX7_until_43 (fun h_43 => ?_) (fun h_43 => ?_)
        · refine v_iload_n dX7_until_48 rfl ?_
          refine v_bipush dX7_until_49 ?_
          refine v_icmp_le 88 dX7_until_51 (fun h_51 => ?_) (fun h_51 => ?_)
          · refine v_aload_n dX7_until_88 rfl ?_
            refine v_get dX7_until_89 f_X7_7 (by first | exact h0 | exact aup_s | exact (aup_n nz0).trans h1 | exact (aup_n nz1).trans h2 | exact (aup_n nz0.symm).trans aup_s | exact (aup_n nz0).trans ((aup_n nz0).trans h1) | exact (aup_n nz1).trans ((aup_n nz1).trans h2)) rfl ?_
            refine v_iload_n dX7_until_92 rfl ?_
            refine v_lald dX7_until_93 (by first | exact h0 | exact aup_s | exact (aup_n nz0).trans h1 | exact (aup_n nz1).trans h2 | exact (aup_n nz0.symm).trans aup_s | exact (aup_n nz0).trans ((aup_n nz0).trans h1) | exact (aup_n nz1).trans ((aup_n nz1).trans h2)) ?_
            refine v_aload_n dX7_until_94 rfl ?_
            refine v_get dX7_until_95 f_X7_7 (by first | exact h0 | exact aup_s | exact (aup_n nz0).trans h1 | exact (aup_n nz1).trans h2 | exact (aup_n nz0.symm).trans aup_s | exact (aup_n nz0).trans ((aup_n nz0).trans h1) | exact (aup_n nz1).trans ((aup_n nz1).trans h2)) rfl ?_
            refine v_iload_n dX7_until_98 rfl ?_
            refine v_lald dX7_until_99 (by first | exact h0 | exact aup_s | exact (aup_n nz0).trans h1 | exact (aup_n nz1).trans h2 | exact (aup_n nz0.symm).trans aup_s | exact (aup_n nz0).trans ((aup_n nz0).trans h1) | exact (aup_n nz1).trans ((aup_n nz1).trans h2)) ?_
            refine v_lsub dX7_until_100 ?_
            rw [e0, e1]
            refine v_lstore dX7_until_101 (by decide) ?_
            refine v_aload_n dX7_until_103 rfl ?_
            refine v_get dX7_until_104 f_X7_13 (by first | exact h0 | exact aup_s | exact (aup_n nz0).trans h1 | exact (aup_n nz1).trans h2 | exact (aup_n nz0.symm).trans aup_s | exact (aup_n nz0).trans ((aup_n nz0).trans h1) | exact (aup_n nz1).trans ((aup_n nz1).trans h2)) rfl ?_
            refine v_iload_n dX7_until_107 rfl ?_
            refine v_lald dX7_until_108 (by first | exact h0 | exact aup_s | exact (aup_n nz0).trans h1 | exact (aup_n nz1).trans h2 | exact (aup_n nz0.symm).trans aup_s | exact (aup_n nz0).trans ((aup_n nz0).trans h1) | exact (aup_n nz1).trans ((aup_n nz1).trans h2)) ?_
            refine v_aload_n dX7_until_109 rfl ?_
            refine v_get dX7_until_110 f_X7_13 (by first | exact h0 | exact aup_s | exact (aup_n nz0).trans h1 | exact (aup_n nz1).trans h2 | exact (aup_n nz0.symm).trans aup_s | exact (aup_n nz0).trans ((aup_n nz0).trans h1) | exact (aup_n nz1).trans ((aup_n nz1).trans h2)) rfl ?_
            refine v_iload_n dX7_until_113 rfl ?_
            refine v_lald dX7_until_114 (by first | exact h0 | exact aup_s | exact (aup_n nz0).trans h1 | exact (aup_n nz1).trans h2 | exact (aup_n nz0.symm).trans aup_s | exact (aup_n nz0).trans ((aup_n nz0).trans h1) | exact (aup_n nz1).trans ((aup_n nz1).trans h2)) ?_
            refine v_lsub dX7_until_115 ?_
            refine v_lstore dX7_until_116 (by decide) ?_
            refine v_lload dX7_until_118 rfl ?_
            refine v_lconst0 dX7_until_120 ?_
            refine v_lif_ge 146 dX7_until_121 dX7_until_122 (fun h_121 => ?_) (fun h_121 => ?_)
            · refine v_lload dX7_until_146 rfl ?_
              refine v_lconst0 dX7_until_148 ?_
              refine v_lif_le 174 dX7_until_149 dX7_until_150 (fun h_149 => ?_) (fun h_149 => ?_)
              · first | (exfalso; omega) | exact v_lof [(0, .ref z), (1, .int (iI i)), (2, .int (iI j)), (3, .int (iI u)), (4, .long (lI _)), (6, .long (lI _))] (List.forall_mem_cons.mpr ⟨rfl, (List.forall_mem_cons.mpr ⟨rfl, (List.forall_mem_cons.mpr ⟨rfl, (List.forall_mem_cons.mpr ⟨rfl, (List.forall_mem_cons.mpr ⟨rfl, (List.forall_mem_cons.mpr ⟨rfl, (fun _ h => nomatch h)⟩)⟩)⟩)⟩)⟩)⟩) (K174 (by omega) _ _ (by unfold dayE; omega) (by unfold rstE; omega))
              · refine v_lload dX7_until_153 rfl ?_
                refine v_lconst0 dX7_until_155 ?_
                refine v_lif_ge 174 dX7_until_156 dX7_until_157 (fun h_156 => ?_) (fun h_156 => ?_)
                · first | (exfalso; omega) | exact v_lof [(0, .ref z), (1, .int (iI i)), (2, .int (iI j)), (3, .int (iI u)), (4, .long (lI _)), (6, .long (lI _))] (List.forall_mem_cons.mpr ⟨rfl, (List.forall_mem_cons.mpr ⟨rfl, (List.forall_mem_cons.mpr ⟨rfl, (List.forall_mem_cons.mpr ⟨rfl, (List.forall_mem_cons.mpr ⟨rfl, (List.forall_mem_cons.mpr ⟨rfl, (fun _ h => nomatch h)⟩)⟩)⟩)⟩)⟩)⟩) (K174 (by omega) _ _ (by unfold dayE; omega) (by unfold rstE; omega))
                · refine v_lload dX7_until_160 rfl ?_
                  refine v_lconst1 dX7_until_162 ?_
                  refine v_lsub dX7_until_163 ?_
                  refine v_lstore dX7_until_164 (by decide) ?_
                  refine v_lload dX7_until_166 rfl ?_
                  refine v_ldc2 (86400000000000) dX7_until_168 kl_X7_173 ?_
                  refine v_ladd dX7_until_171 ?_
                  refine v_lstore dX7_until_172 (by decide) ?_
                  first | (exfalso; omega) | exact v_lof [(0, .ref z), (1, .int (iI i)), (2, .int (iI j)), (3, .int (iI u)), (4, .long (lI _)), (6, .long (lI _))] (List.forall_mem_cons.mpr ⟨rfl, (List.forall_mem_cons.mpr ⟨rfl, (List.forall_mem_cons.mpr ⟨rfl, (List.forall_mem_cons.mpr ⟨rfl, (List.forall_mem_cons.mpr ⟨rfl, (List.forall_mem_cons.mpr ⟨rfl, (fun _ h => nomatch h)⟩)⟩)⟩)⟩)⟩)⟩) (K174 (by omega) _ _ (by unfold dayE; omega) (by unfold rstE; omega))
            · refine v_lload dX7_until_125 rfl ?_
              refine v_lconst0 dX7_until_127 ?_
              refine v_lif_le 146 dX7_until_128 dX7_until_129 (fun h_128 => ?_) (fun h_128 => ?_)
              · refine v_lload dX7_until_146 rfl ?_
                refine v_lconst0 dX7_until_148 ?_
                refine v_lif_le 174 dX7_until_149 dX7_until_150 (fun h_149 => ?_) (fun h_149 => ?_)
                · first | (exfalso; omega) | exact v_lof [(0, .ref z), (1, .int (iI i)), (2, .int (iI j)), (3, .int (iI u)), (4, .long (lI _)), (6, .long (lI _))] (List.forall_mem_cons.mpr ⟨rfl, (List.forall_mem_cons.mpr ⟨rfl, (List.forall_mem_cons.mpr ⟨rfl, (List.forall_mem_cons.mpr ⟨rfl, (List.forall_mem_cons.mpr ⟨rfl, (List.forall_mem_cons.mpr ⟨rfl, (fun _ h => nomatch h)⟩)⟩)⟩)⟩)⟩)⟩) (K174 (by omega) _ _ (by unfold dayE; omega) (by unfold rstE; omega))
                · refine v_lload dX7_until_153 rfl ?_
                  refine v_lconst0 dX7_until_155 ?_
                  refine v_lif_ge 174 dX7_until_156 dX7_until_157 (fun h_156 => ?_) (fun h_156 => ?_)
                  · first | (exfalso; omega) | exact v_lof [(0, .ref z), (1, .int (iI i)), (2, .int (iI j)), (3, .int (iI u)), (4, .long (lI _)), (6, .long (lI _))] (List.forall_mem_cons.mpr ⟨rfl, (List.forall_mem_cons.mpr ⟨rfl, (List.forall_mem_cons.mpr ⟨rfl, (List.forall_mem_cons.mpr ⟨rfl, (List.forall_mem_cons.mpr ⟨rfl, (List.forall_mem_cons.mpr ⟨rfl, (fun _ h => nomatch h)⟩)⟩)⟩)⟩)⟩)⟩) (K174 (by omega) _ _ (by unfold dayE; omega) (by unfold rstE; omega))
                  · refine v_lload dX7_until_160 rfl ?_
                    refine v_lconst1 dX7_until_162 ?_
                    refine v_lsub dX7_until_163 ?_
                    refine v_lstore dX7_until_164 (by decide) ?_
                    refine v_lload dX7_until_166 rfl ?_
                    refine v_ldc2 (86400000000000) dX7_until_168 kl_X7_173 ?_
                    refine v_ladd dX7_until_171 ?_
                    refine v_lstore dX7_until_172 (by decide) ?_
                    first | (exfalso; omega) | exact v_lof [(0, .ref z), (1, .int (iI i)), (2, .int (iI j)), (3, .int (iI u)), (4, .long (lI _)), (6, .long (lI _))] (List.forall_mem_cons.mpr ⟨rfl, (List.forall_mem_cons.mpr ⟨rfl, (List.forall_mem_cons.mpr ⟨rfl, (List.forall_mem_cons.mpr ⟨rfl, (List.forall_mem_cons.mpr ⟨rfl, (List.forall_mem_cons.mpr ⟨rfl, (fun _ h => nomatch h)⟩)⟩)⟩)⟩)⟩)⟩) (K174 (by omega) _ _ (by unfold dayE; omega) (by unfold rstE; omega))
              · refine v_lload dX7_until_132 rfl ?_
                refine v_lconst1 dX7_until_134 ?_
                refine v_ladd dX7_until_135 ?_
                refine v_lstore dX7_until_136 (by decide) ?_
                refine v_lload dX7_until_138 rfl ?_
                refine v_ldc2 (86400000000000) dX7_until_140 kl_X7_173 ?_
                refine v_lsub dX7_until_143 ?_
                refine v_lstore dX7_until_144 (by decide) ?_
                refine v_lload dX7_until_146 rfl ?_
                refine v_lconst0 dX7_until_148 ?_
                refine v_lif_le 174 dX7_until_149 dX7_until_150 (fun h_149 => ?_) (fun h_149 => ?_)
                · first | (exfalso; omega) | exact v_lof [(0, .ref z), (1, .int (iI i)), (2, .int (iI j)), (3, .int (iI u)), (4, .long (lI _)), (6, .long (lI _))] (List.forall_mem_cons.mpr ⟨rfl, (List.forall_mem_cons.mpr ⟨rfl, (List.forall_mem_cons.mpr ⟨rfl, (List.forall_mem_cons.mpr ⟨rfl, (List.forall_mem_cons.mpr ⟨rfl, (List.forall_mem_cons.mpr ⟨rfl, (fun _ h => nomatch h)⟩)⟩)⟩)⟩)⟩)⟩) (K174 (by omega) _ _ (by unfold dayE; omega) (by unfold rstE; omega))
                · refine v_lload dX7_until_153 rfl ?_
                  refine v_lconst0 dX7_until_155 ?_
                  refine v_lif_ge 174 dX7_until_156 dX7_until_157 (fun h_156 => ?_) (fun h_156 => ?_)
                  · first | (exfalso; omega) | exact v_lof [(0, .ref z), (1, .int (iI i)), (2, .int (iI j)), (3, .int (iI u)), (4, .long (lI _)), (6, .long (lI _))] (List.forall_mem_cons.mpr ⟨rfl, (List.forall_mem_cons.mpr ⟨rfl, (List.forall_mem_cons.mpr ⟨rfl, (List.forall_mem_cons.mpr ⟨rfl, (List.forall_mem_cons.mpr ⟨rfl, (List.forall_mem_cons.mpr ⟨rfl, (fun _ h => nomatch h)⟩)⟩)⟩)⟩)⟩)⟩) (K174 (by omega) _ _ (by unfold dayE; omega) (by unfold rstE; omega))
                  · refine v_lload dX7_until_160 rfl ?_
                    refine v_lconst1 dX7_until_162 ?_
                    refine v_lsub dX7_until_163 ?_
                    refine v_lstore dX7_until_164 (by decide) ?_
                    refine v_lload dX7_until_166 rfl ?_
                    refine v_ldc2 (86400000000000) dX7_until_168 kl_X7_173 ?_
                    refine v_ladd dX7_until_171 ?_
                    refine v_lstore dX7_until_172 (by decide) ?_
                    first | (exfalso; omega) | exact v_lof [(0, .ref z), (1, .int (iI i)), (2, .int (iI j)), (3, .int (iI u)), (4, .long (lI _)), (6, .long (lI _))] (List.forall_mem_cons.mpr ⟨rfl, (List.forall_mem_cons.mpr ⟨rfl, (List.forall_mem_cons.mpr ⟨rfl, (List.forall_mem_cons.mpr ⟨rfl, (List.forall_mem_cons.mpr ⟨rfl, (List.forall_mem_cons.mpr ⟨rfl, (fun _ h => nomatch h)⟩)⟩)⟩)⟩)⟩)⟩) (K174 (by omega) _ _ (by unfold dayE; omega) (by unfold rstE; omega))
          · refine v_aload_n dX7_until_54 rfl ?_
            refine v_aload_n dX7_until_55 rfl ?_
            refine v_get dX7_until_56 f_X7_7 (by first | exact h0 | exact aup_s | exact (aup_n nz0).trans h1 | exact (aup_n nz1).trans h2 | exact (aup_n nz0.symm).trans aup_s | exact (aup_n nz0).trans ((aup_n nz0).trans h1) | exact (aup_n nz1).trans ((aup_n nz1).trans h2)) rfl ?_
            refine v_iload_n dX7_until_59 rfl ?_
            refine v_lald dX7_until_60 (by first | exact h0 | exact aup_s | exact (aup_n nz0).trans h1 | exact (aup_n nz1).trans h2 | exact (aup_n nz0.symm).trans aup_s | exact (aup_n nz0).trans ((aup_n nz0).trans h1) | exact (aup_n nz1).trans ((aup_n nz1).trans h2)) ?_
            refine v_aload_n dX7_until_61 rfl ?_
            refine v_get dX7_until_62 f_X7_13 (by first | exact h0 | exact aup_s | exact (aup_n nz0).trans h1 | exact (aup_n nz1).trans h2 | exact (aup_n nz0.symm).trans aup_s | exact (aup_n nz0).trans ((aup_n nz0).trans h1) | exact (aup_n nz1).trans ((aup_n nz1).trans h2)) rfl ?_
            refine v_iload_n dX7_until_65 rfl ?_
            refine v_lald dX7_until_66 (by first | exact h0 | exact aup_s | exact (aup_n nz0).trans h1 | exact (aup_n nz1).trans h2 | exact (aup_n nz0.symm).trans aup_s | exact (aup_n nz0).trans ((aup_n nz0).trans h1) | exact (aup_n nz1).trans ((aup_n nz1).trans h2)) ?_
            refine v_aload_n dX7_until_67 rfl ?_
            refine v_get dX7_until_68 f_X7_7 (by first | exact h0 | exact aup_s | exact (aup_n nz0).trans h1 | exact (aup_n nz1).trans h2 | exact (aup_n nz0.symm).trans aup_s | exact (aup_n nz0).trans ((aup_n nz0).trans h1) | exact (aup_n nz1).trans ((aup_n nz1).trans h2)) rfl ?_
            refine v_iload_n dX7_until_71 rfl ?_
            refine v_lald dX7_until_72 (by first | exact h0 | exact aup_s | exact (aup_n nz0).trans h1 | exact (aup_n nz1).trans h2 | exact (aup_n nz0.symm).trans aup_s | exact (aup_n nz0).trans ((aup_n nz0).trans h1) | exact (aup_n nz1).trans ((aup_n nz1).trans h2)) ?_
            refine v_aload_n dX7_until_73 rfl ?_
            refine v_get dX7_until_74 f_X7_13 (by first | exact h0 | exact aup_s | exact (aup_n nz0).trans h1 | exact (aup_n nz1).trans h2 | exact (aup_n nz0.symm).trans aup_s | exact (aup_n nz0).trans ((aup_n nz0).trans h1) | exact (aup_n nz1).trans ((aup_n nz1).trans h2)) rfl ?_
            refine v_iload_n dX7_until_77 rfl ?_
            refine v_lald dX7_until_78 (by first | exact h0 | exact aup_s | exact (aup_n nz0).trans h1 | exact (aup_n nz1).trans h2 | exact (aup_n nz0.symm).trans aup_s | exact (aup_n nz0).trans ((aup_n nz0).trans h1) | exact (aup_n nz1).trans ((aup_n nz1).trans h2)) ?_
            refine v_V4 (rm' := rX7_monthsTo) (RX7, TX7, 18) dX7_until_79 km_X7_202 kn_X7_monthsTo kv_X7_monthsTo kz_X7 mk_X7_monthsTo rfl rfl (by first | exact h0 | exact aup_s | exact (aup_n nz0).trans h1 | exact (aup_n nz1).trans h2 | exact (aup_n nz0.symm).trans aup_s | exact (aup_n nz0).trans ((aup_n nz0).trans h1) | exact (aup_n nz1).trans ((aup_n nz1).trans h2)) ⟨Nat.le_of_ble_eq_true rfl, Nat.le_of_ble_eq_true rfl⟩ ⟨Nat.le_of_ble_eq_true rfl, Nat.le_of_ble_eq_true rfl⟩ (Nat.le_of_ble_eq_true rfl) ?_
            refine s_X7_monthsTo hst aup_s (by omega) (by omega) hy hm hd e0.symm hy' hm' hd' e1.symm (fun rM eM => ?_)
            rw [aup_up]
            have hMr : -400000 ≤ rM ∧ rM ≤ 400000 := (by unfold monE at eM; omega)
            refine v_iload_n dX7_until_82 rfl ?_
            refine v_S1 (rm' := rX7_monthsOfUnit) dX7_until_83 km_X7_195 ks_X7_monthsOfUnit kz_X7 mk_X7_monthsOfUnit rfl ⟨Nat.le_of_ble_eq_true rfl, Nat.le_of_ble_eq_true rfl⟩ ⟨Nat.le_of_ble_eq_true rfl, Nat.le_of_ble_eq_true rfl⟩ (Nat.le_of_ble_eq_true rfl) ?_
            refine s_X7_monthsOfUnit hst (by omega) ?_
            have hmu := mOU_c (u := u) (by omega)
            refine v_ldivK dX7_until_86 (fun r_86 e_86 => ?_)
            exact v_lret dX7_until_87 rfl (by first | (exfalso; omega) | exact hQm _ _ _ h7 h8 (by omega) rM _ eM e_86)
        · refine v_lconst0 dX7_until_46 ?_
          exact v_lret dX7_until_47 rfl (by first | (exfalso; omega) | exact hQ2 _ h7 h8 (by omega))
    · rw [aup_up]
      refine v_if_ne 18 dX7_until_13 (fun h_13 => ?_) (fun h_13 => ?_)
      · (exfalso; omega)
      refine v_lconst0 dX7_until_16 ?_
      exact v_lret dX7_until_17 rfl (by exact hQI _ (by omega))
  · refine v_if_eq 16 dX7_until_5 (fun h_5 => ?_) (fun h_5 => ?_)
    rotate_left
    · (exfalso; omega)
    refine v_lconst0 dX7_until_16 ?_
    exact v_lret dX7_until_17 rfl (by exact hQI _ (by omega))
