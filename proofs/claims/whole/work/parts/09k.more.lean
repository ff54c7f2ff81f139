set_option maxRecDepth 100000 in
set_option maxHeartbeats 4000000 in
theorem s_X1_appendP {l : Launch} {G : GG} {w : AH} {Q : Option Value → AH → Prop} {X : String → AH → Prop} (hst : l.stackTraces = false) {z ac p : Nat} {L : Int} {g : Nat → Int} (h0 : w z = some (liC ac L p)) (h1 : w ac = some (acA G 30 g)) (hL : 0 ≤ L ∧ L ≤ 30) (hg : ∀ k, 0 ≤ g k ∧ g k ≤ 65535) {c : Int} (hc : 0 ≤ c ∧ c ≤ 65535) (hQ1 : (32 ≤ c ∧ c ≤ 126 ∧ L < 30) → Q (some (.int (iI 1))) (aup (aup w ac (acA G 30 (gup g L.toNat c))) z (liC ac (L + 1) p))) (hQ0 : ¬ (32 ≤ c ∧ c ≤ 126 ∧ L < 30) → Q (some (.int (iI 0))) w) : Ct l G mX1_append rX1_append [.ref z, .int (iI c)] w Q X := by
  have hnx := nx_c g L p
  have hgp := hg p
  have n1 : ac ≠ z := fun e => absurd (ne_of h0 h1 lica) (fun h => h e.symm)
  refine ct_of hst mk_X1_append (Nat.le_of_ble_eq_true rfl) ?_
  refine v_iload_n dX1_append_0 rfl ?_
  refine v_bipush dX1_append_1 ?_
  refine v_icmp_lt 21 dX1_append_3 (fun h_3 => ?_) (fun h_3 => ?_)
  · refine v_iconst dX1_append_21 ?_
    exact v_zret dX1_append_22 rfl (by first | exact hQ0 (by omega) | exact hQ1 (by omega)) (by first | exact Or.inl rfl | exact Or.inr rfl | omega)
  · refine v_iload_n dX1_append_6 rfl ?_
    refine v_bipush dX1_append_7 ?_
    refine v_icmp_gt 21 dX1_append_9 (fun h_9 => ?_) (fun h_9 => ?_)
    · refine v_iconst dX1_append_21 ?_
      exact v_zret dX1_append_22 rfl (by first | exact hQ0 (by omega) | exact hQ1 (by omega)) (by first | exact Or.inl rfl | exact Or.inr rfl | omega)
    · refine v_aload_n dX1_append_12 rfl ?_
      refine v_get dX1_append_13 f_X1_15 (by first | exact h0 | exact h1 | exact aup_s | exact (aup_n n1.symm).trans h0 | exact (aup_n n1).trans h1) rfl ?_
      refine v_bipush dX1_append_16 ?_
      refine v_icmp_lt 23 dX1_append_18 (fun h_18 => ?_) (fun h_18 => ?_)
      · refine v_aload_n dX1_append_23 rfl ?_
        refine v_get dX1_append_24 f_X1_9 (by first | exact h0 | exact h1 | exact aup_s | exact (aup_n n1.symm).trans h0 | exact (aup_n n1).trans h1) rfl ?_
        refine v_aload_n dX1_append_27 rfl ?_
        refine v_get dX1_append_28 f_X1_15 (by first | exact h0 | exact h1 | exact aup_s | exact (aup_n n1.symm).trans h0 | exact (aup_n n1).trans h1) rfl ?_
        refine v_iload_n dX1_append_31 rfl ?_
        refine v_cast dX1_append_32 (by first | exact h0 | exact h1 | exact aup_s | exact (aup_n n1.symm).trans h0 | exact (aup_n n1).trans h1) ?_
        refine v_aload_n dX1_append_33 rfl ?_
        refine v_dup dX1_append_34 rfl ?_
        refine v_get dX1_append_35 f_X1_15 (by first | exact h0 | exact h1 | exact aup_s | exact (aup_n n1.symm).trans h0 | exact (aup_n n1).trans h1) rfl ?_
        refine v_iconst dX1_append_38 ?_
        refine v_iadd dX1_append_39 ?_
        refine v_put dX1_append_40 f_X1_15 (by first | exact h0 | exact h1 | exact aup_s | exact (aup_n n1.symm).trans h0 | exact (aup_n n1).trans h1) rfl rfl (Nat.le_of_ble_eq_true rfl) ?_
        refine v_iconst dX1_append_43 ?_
        exact v_zret dX1_append_44 rfl (by first | exact hQ0 (by omega) | exact hQ1 (by omega)) (by first | exact Or.inl rfl | exact Or.inr rfl | omega)
      · refine v_iconst dX1_append_21 ?_
        exact v_zret dX1_append_22 rfl (by first | exact hQ0 (by omega) | exact hQ1 (by omega)) (by first | exact Or.inl rfl | exact Or.inr rfl | omega)
set_option maxRecDepth 100000 in
set_option maxHeartbeats 4000000 in
theorem s_X6_typeP {l : Launch} {G : GG} {w : AH} {Q : Option Value → AH → Prop} {X : String → AH → Prop} (hst : l.stackTraces = false) {x sl zn li pg : Nat} (hx : w x = some (tdC sl zn li pg)) {ac p : Nat} {L : Int} {g : Nat → Int} (hl0 : w li = some (liC ac L p)) (hl1 : w ac = some (acA G 30 g)) (hL : 0 ≤ L ∧ L ≤ 30) (hg : ∀ k, 0 ≤ g k ∧ g k ≤ 65535) {c : Int} (hc : 0 ≤ c ∧ c ≤ 65535) (hQ1 : (32 ≤ c ∧ c ≤ 126 ∧ L < 30) → Q (some (.int (iI 1))) (aup (aup w ac (acA G 30 (gup g L.toNat c))) li (liC ac (L + 1) p))) (hQ0 : ¬ (32 ≤ c ∧ c ≤ 126 ∧ L < 30) → Q (some (.int (iI 0))) w) : Ct l G mX6_type rX6_type [.ref x, .int (iI c)] w Q X := by
  refine ct_of hst mk_X6_type (Nat.le_of_ble_eq_true rfl) ?_
  refine v_aload_n dX6_type_0 rfl ?_
  refine v_get dX6_type_1 f_X6_28 (by first | exact hx | exact hl0) rfl ?_
  refine v_iload_n dX6_type_4 rfl ?_
  refine v_V1 (rm' := rX1_append) (RX1, TX1, 3) dX6_type_5 km_X6_256 kn_X1_append kv_X1_append kz_X1 mk_X1_append rfl rfl (by first | exact hx | exact hl0) ⟨Nat.le_of_ble_eq_true rfl, Nat.le_of_ble_eq_true rfl⟩ ⟨Nat.le_of_ble_eq_true rfl, Nat.le_of_ble_eq_true rfl⟩ (Nat.le_of_ble_eq_true rfl) ?_
  refine s_X1_appendP hst hl0 hl1 hL hg hc (fun h9 => ?_) (fun h9 => ?_)
  · exact v_zret dX6_type_8 rfl (by first | exact hQ1 h9 | exact hQ0 h9) (by first | exact Or.inl rfl | exact Or.inr rfl | omega)
  · exact v_zret dX6_type_8 rfl (by first | exact hQ1 h9 | exact hQ0 h9) (by first | exact Or.inl rfl | exact Or.inr rfl | omega)
set_option maxRecDepth 100000 in
set_option maxHeartbeats 4000000 in
theorem s_X6_parseP {l : Launch} {G : GG} {w : AH} {Q : Option Value → AH → Prop} {X : String → AH → Prop} (hst : l.stackTraces = false) {x sl zn li pg : Nat} {sa : Nat → Nat} {i : Int} (hx : w x = some (tdC sl zn li pg)) (hsl : w sl = some (arA G 4 8 (fun k => some (sa k)))) (hS : ∀ k : Nat, k < 8 → SV w (sa k)) (hi : -2147483648 ≤ i ∧ i ≤ 2147483647) (hXI : (i < 0 ∨ 7 < i) → X "java/lang/IndexOutOfBoundsException" w) {ac p : Nat} {L : Int} {g : Nat → Int} (hl0 : w li = some (liC ac L p)) (hl1 : w ac = some (acA G 30 g)) (hL : 0 ≤ L ∧ L ≤ 30) (hg : ∀ k, 0 ≤ g k ∧ g k ≤ 65535) {o : Nat} (ho : o = 0) (hXA : ∀ p' : Nat, p' ≤ 30 → (0 ≤ i ∧ i ≤ 7) → (∀ y m d T : Int, ¬ PO g L o y m d T) → X "java/lang/IllegalArgumentException" (aup w li (liC ac 0 p'))) (hQ : ∀ (p' : Nat) (y m d T : Int), (0 ≤ i ∧ i ≤ 7) → PO g L o y m d T → Q none (aup (aup w li (liC ac 0 p')) (sa i.toNat) (stC y m d T))) : Ct l G mX6_parse rX6_parse [.ref x, .int (iI i)] w Q X := by
  refine ct_of hst mk_X6_parse (Nat.le_of_ble_eq_true rfl) ?_
  refine v_aload_n dX6_parse_0 rfl ?_
  refine v_iload_n dX6_parse_1 rfl ?_
  refine v_V1 (rm' := rX6_slotAt) (RX6, TX6, 4) dX6_parse_2 km_X6_39 kn_X6_slotAt kv_X6_slotAt kz_X6 mk_X6_slotAt rfl rfl (by first | exact hx | exact hl0 | exact (aup_n nxl).trans hx | exact (aup_n nxs).trans ((aup_n nxl).trans hx) | exact aup_s | exact (aup_n nls).trans aup_s) ⟨Nat.le_of_ble_eq_true rfl, Nat.le_of_ble_eq_true rfl⟩ ⟨Nat.le_of_ble_eq_true rfl, Nat.le_of_ble_eq_true rfl⟩ (Nat.le_of_ble_eq_true rfl) ?_
  refine s_X6_slotAt hst hx hsl hi (fun h9 => vx_leave rfl (hXI h9)) (fun h7 => ?_)
  obtain ⟨y, m, d, n, h0, hy, hm, hd, hn⟩ := hS i.toNat (by omega)
  have hlen := lenM_rng y m
  have hed := ed_rng hy hm hd
  refine v_astore_n dX6_parse_5 (by decide) ?_
  have nxl : x ≠ li := ne_of hx hl0 tdli
  have nxs : x ≠ sa i.toNat := ne_of hx h0 tdst
  have nls : li ≠ sa i.toNat := fun e => ne_of h0 hl0 stli e.symm
  refine v_aload_n dX6_parse_6 rfl ?_
  refine v_get dX6_parse_7 f_X6_28 (by first | exact hx | exact hl0 | exact (aup_n nxl).trans hx | exact (aup_n nxs).trans ((aup_n nxl).trans hx) | exact aup_s | exact (aup_n nls).trans aup_s) rfl ?_
  refine v_aload_n dX6_parse_10 rfl ?_
  refine v_V1 (rm' := rX1_readInto) (RX1, TX1, 3) dX6_parse_11 km_X6_260 kn_X1_readInto kv_X1_readInto kz_X1 mk_X1_readInto rfl rfl (by first | exact hx | exact hl0 | exact (aup_n nxl).trans hx | exact (aup_n nxs).trans ((aup_n nxl).trans hx) | exact aup_s | exact (aup_n nls).trans aup_s) ⟨Nat.le_of_ble_eq_true rfl, Nat.le_of_ble_eq_true rfl⟩ ⟨Nat.le_of_ble_eq_true rfl, Nat.le_of_ble_eq_true rfl⟩ (Nat.le_of_ble_eq_true rfl) ?_
  refine s_X1_readInto hst ho hl0 hl1 h0 hL hg (fun y' m' d' T p' hP9 => ?_) (fun p' hp9 hN9 => ?_)
  · refine v_istore_n dX6_parse_14 (by decide) ?_
    refine v_aload_n dX6_parse_15 rfl ?_
    refine v_get dX6_parse_16 f_X6_28 (by first | exact hx | exact hl0 | exact (aup_n nxl).trans hx | exact (aup_n nxs).trans ((aup_n nxl).trans hx) | exact aup_s | exact (aup_n nls).trans aup_s) rfl ?_
    refine v_V0 (rm' := rX1_clear) (RX1, TX1, 3) dX6_parse_19 km_X6_264 kn_X1_clear kv_X1_clear kz_X1 mk_X1_clear rfl rfl (by first | exact hx | exact hl0 | exact (aup_n nxl).trans hx | exact (aup_n nxs).trans ((aup_n nxl).trans hx) | exact aup_s | exact (aup_n nls).trans aup_s) ⟨Nat.le_of_ble_eq_true rfl, Nat.le_of_ble_eq_true rfl⟩ ⟨Nat.le_of_ble_eq_true rfl, Nat.le_of_ble_eq_true rfl⟩ (Nat.le_of_ble_eq_true rfl) ?_
    first | refine s_X1_clear hst aup_s ?_ | refine s_X1_clear hst ((aup_n nls).trans aup_s) ?_
    try rw [aup_up]
    refine v_iload_n dX6_parse_22 rfl ?_
    refine v_if_ne 37 dX6_parse_23 (fun h_23 => ?_) (fun h_23 => ?_)
    · exact v_vret dX6_parse_37 rfl (by first | (exfalso; omega) | (rw [aup_comm nls, aup_up, aup_comm nls.symm]; exact hQ _ _ _ _ _ h7 hP9))
    · exact v_throwW (E := "java/lang/IllegalArgumentException") (sk := 14) dX6_parse_26 dX6_parse_29 dX6_parse_30 dX6_parse_33 dX6_parse_36 rfl kc_X6_49 kz_java_lang_IllegalArgumentException tw_53 (by decide +kernel) rfl (by first | exact hXA _ hp9 h7 hN9 | (exfalso; omega))
  · refine v_istore_n dX6_parse_14 (by decide) ?_
    refine v_aload_n dX6_parse_15 rfl ?_
    refine v_get dX6_parse_16 f_X6_28 (by first | exact hx | exact hl0 | exact (aup_n nxl).trans hx | exact (aup_n nxs).trans ((aup_n nxl).trans hx) | exact aup_s | exact (aup_n nls).trans aup_s) rfl ?_
    refine v_V0 (rm' := rX1_clear) (RX1, TX1, 3) dX6_parse_19 km_X6_264 kn_X1_clear kv_X1_clear kz_X1 mk_X1_clear rfl rfl (by first | exact hx | exact hl0 | exact (aup_n nxl).trans hx | exact (aup_n nxs).trans ((aup_n nxl).trans hx) | exact aup_s | exact (aup_n nls).trans aup_s) ⟨Nat.le_of_ble_eq_true rfl, Nat.le_of_ble_eq_true rfl⟩ ⟨Nat.le_of_ble_eq_true rfl, Nat.le_of_ble_eq_true rfl⟩ (Nat.le_of_ble_eq_true rfl) ?_
    first | refine s_X1_clear hst aup_s ?_ | refine s_X1_clear hst ((aup_n nls).trans aup_s) ?_
    try rw [aup_up]
    refine v_iload_n dX6_parse_22 rfl ?_
    refine v_if_ne 37 dX6_parse_23 (fun h_23 => ?_) (fun h_23 => ?_)
    · exact v_vret dX6_parse_37 rfl (by first | (exfalso; omega) | (rw [aup_comm nls, aup_up, aup_comm nls.symm]; exact hQ _ _ _ _ _ h7 hP9))
    · exact v_throwW (E := "java/lang/IllegalArgumentException") (sk := 14) dX6_parse_26 dX6_parse_29 dX6_parse_30 dX6_parse_33 dX6_parse_36 rfl kc_X6_49 kz_java_lang_IllegalArgumentException tw_53 (by decide +kernel) rfl (by first | exact hXA _ hp9 h7 hN9 | (exfalso; omega))
set_option maxRecDepth 100000 in
set_option maxHeartbeats 4000000 in
theorem s_L_parseP {l : Launch} {G : GG} {w : AH} {Q : Option Value → AH → Prop} {X : String → AH → Prop} (hst : l.stackTraces = false) {x sl zn li pg : Nat} {sa : Nat → Nat} {i : Int} (hx : w x = some (tdC sl zn li pg)) (hsl : w sl = some (arA G 4 8 (fun k => some (sa k)))) (hS : ∀ k : Nat, k < 8 → SV w (sa k)) (hi : -2147483648 ≤ i ∧ i ≤ 2147483647) (hXI : (i < 0 ∨ 7 < i) → Q (some (.int (iI 1))) w) {ac p : Nat} {L : Int} {g : Nat → Int} (hl0 : w li = some (liC ac L p)) (hl1 : w ac = some (acA G 30 g)) (hL : 0 ≤ L ∧ L ≤ 30) (hg : ∀ k, 0 ≤ g k ∧ g k ≤ 65535) {o : Nat} (ho : o = 0) (hXA : ∀ p' : Nat, p' ≤ 30 → (0 ≤ i ∧ i ≤ 7) → (∀ y m d T : Int, ¬ PO g L o y m d T) → Q (some (.int (iI 2))) (aup w li (liC ac 0 p'))) (hQ : ∀ (p' : Nat) (y m d T : Int), (0 ≤ i ∧ i ≤ 7) → PO g L o y m d T → Q (some (.int (iI 0))) (aup (aup w li (liC ac 0 p')) (sa i.toNat) (stC y m d T))) : Ct l G mL_parse rL_parse [.ref x, .int (iI i)] w Q X := by
  refine ct_of hst mk_L_parse (Nat.le_of_ble_eq_true rfl) ?_
  refine v_aload_n dL_parse_0 rfl ?_
  refine v_iload_n dL_parse_1 rfl ?_
  refine v_V1 (rm' := rX6_parse) (RX6, TX6, 4) dL_parse_2 km_L_68 kn_X6_parse kv_X6_parse kz_X6 mk_X6_parse rfl rfl (by exact hx) ⟨Nat.le_of_ble_eq_true rfl, Nat.le_of_ble_eq_true rfl⟩ ⟨Nat.le_of_ble_eq_true rfl, Nat.le_of_ble_eq_true rfl⟩ (Nat.le_of_ble_eq_true rfl) ?_
  refine s_X6_parseP hst hx hsl hS hi ?_ hl0 hl1 hL hg ho ?_ ?_
  · intro a1
    refine vx_take [] (0, 5, 8, 13) [(0, 5, 11, 15)] rfl (fun z hz => nomatch hz) (by decide) (by decide) kc_L_13 kq_IndexOutOfBoundsException (fun q9 => ?_)
    refine v_astore_n dL_parse_8 (by decide) ?_
    refine v_iconst dL_parse_9 ?_
    exact v_iret dL_parse_10 rfl (by exact hXI a1)
  · intro a1 a2 a3 a4
    refine vx_take [(0, 5, 8, 13)] (0, 5, 11, 15) [] rfl (fun z hz => by
          rcases List.mem_cons.mp hz with rfl | hz
          · exact ⟨by decide, _, kc_L_13, by decide⟩
          cases hz) (by decide) (by decide) kc_L_15 kq_IllegalArgumentException (fun q9 => ?_)
    refine v_astore_n dL_parse_11 (by decide) ?_
    refine v_iconst dL_parse_12 ?_
    exact v_iret dL_parse_13 rfl (by exact hXA a1 a2 a3 a4)
  · intro a1 a2 a3 a4 a5 a6 a7
    refine v_goto 14 dL_parse_5 ?_
    refine v_iconst dL_parse_14 ?_
    exact v_iret dL_parse_15 rfl (by exact hQ a1 a2 a3 a4 a5 a6 a7)
set_option maxRecDepth 100000 in
set_option maxHeartbeats 4000000 in
theorem s_X6_changeP {l : Launch} {G : GG} {w : AH} {Q : Option Value → AH → Prop} {X : String → AH → Prop} (hst : l.stackTraces = false) {x sl zn li pg : Nat} {za : Nat → Nat} {i : Int} (hx : w x = some (tdC sl zn li pg)) (hzn : w zn = some (arA G 5 4 (fun k => some (za k)))) (hi : -2147483648 ≤ i ∧ i ≤ 2147483647) {t v : Int} (hv : -2147483648 ≤ v ∧ v ≤ 2147483647) (ht : -9223372036854775808 ≤ t ∧ t ≤ 9223372036854775807) {f c r : Int} {am ao ar : Nat} {gm go : Nat → Int} (hZ : (0 ≤ i ∧ i ≤ 3) → w (za i.toNat) = some (zoC f am ao c ar r) ∧ w am = some (alA G 8 gm) ∧ w ao = some (aiA G 8 go) ∧ (0 ≤ c ∧ c ≤ 8) ∧ (0 ≤ r ∧ r ≤ 2) ∧ (∀ k, -9223372036854775808 ≤ gm k ∧ gm k ≤ 9223372036854775807)) (hQ0 : ¬ ((0 ≤ i ∧ i ≤ 3) ∧ (-64800 ≤ v ∧ v ≤ 64800) ∧ -377700000000 ≤ t ∧ t ≤ 253400000000) → Q (some (.int (iI 0))) w) (hQz : (0 ≤ i ∧ i ≤ 3) →  ((-64800 ≤ v ∧ v ≤ 64800) ∧ -377700000000 ≤ t ∧ t ≤ 253400000000) → (0 < r ∨ 8 ≤ c ∨ t ≤ lastC gm c) → Q (some (.int (iI 0))) w) (hQ1 : (0 ≤ i ∧ i ≤ 3) →  ((-64800 ≤ v ∧ v ≤ 64800) ∧ -377700000000 ≤ t ∧ t ≤ 253400000000) → ¬ (0 < r ∨ 8 ≤ c ∨ t ≤ lastC gm c) → Q (some (.int (iI 1))) (aup (aup (aup w am (alA G 8 (gup gm c.toNat t))) ao (aiA G 8 (gup go c.toNat v))) (za i.toNat) (zoC f am ao (c + 1) ar r))) : Ct l G mX6_change rX6_change [(.ref x), .int (iI i), .long (lI t), .int (iI v)] w Q X := by
  refine ct_of hst mk_X6_change (Nat.le_of_ble_eq_true rfl) ?_
  refine v_iload_n dX6_change_0 rfl ?_
  refine v_S1 (rm' := rX6_isZone) dX6_change_1 km_X6_192 ks_X6_isZone kz_X6 mk_X6_isZone rfl ⟨Nat.le_of_ble_eq_true rfl, Nat.le_of_ble_eq_true rfl⟩ ⟨Nat.le_of_ble_eq_true rfl, Nat.le_of_ble_eq_true rfl⟩ (Nat.le_of_ble_eq_true rfl) ?_
  refine s_X6_isZone hst (by omega) (fun r_X6_isZone e_X6_isZone => ?_)
  refine v_if_eq 22 dX6_change_4 (fun h_4 => ?_) (fun h_4 => ?_)
  · refine v_iconst dX6_change_22 ?_
    exact v_zret dX6_change_23 rfl (by first | exact hQ0 (by omega) | exact hQ1 (by omega) (by omega) h9 | exact hQz (by omega) (by omega) h9) (by first | exact Or.inl rfl | exact Or.inr rfl | omega)
  · refine v_iload dX6_change_7 rfl ?_
    refine v_S1 (rm' := rX6_isOffset) dX6_change_9 km_X6_195 ks_X6_isOffset kz_X6 mk_X6_isOffset rfl ⟨Nat.le_of_ble_eq_true rfl, Nat.le_of_ble_eq_true rfl⟩ ⟨Nat.le_of_ble_eq_true rfl, Nat.le_of_ble_eq_true rfl⟩ (Nat.le_of_ble_eq_true rfl) ?_
    refine s_X6_isOffset hst (by omega) (fun r_X6_isOffset e_X6_isOffset => ?_)
    refine v_if_eq 22 dX6_change_12 (fun h_12 => ?_) (fun h_12 => ?_)
    · refine v_iconst dX6_change_22 ?_
      exact v_zret dX6_change_23 rfl (by first | exact hQ0 (by omega) | exact hQ1 (by omega) (by omega) h9 | exact hQz (by omega) (by omega) h9) (by first | exact Or.inl rfl | exact Or.inr rfl | omega)
    · refine v_lload_n dX6_change_15 rfl ?_
      refine v_S1 (rm' := rX6_isMoment) dX6_change_16 km_X6_202 ks_X6_isMoment kz_X6 mk_X6_isMoment rfl ⟨Nat.le_of_ble_eq_true rfl, Nat.le_of_ble_eq_true rfl⟩ ⟨Nat.le_of_ble_eq_true rfl, Nat.le_of_ble_eq_true rfl⟩ (Nat.le_of_ble_eq_true rfl) ?_
      refine s_X6_isMoment hst (by omega) (fun r_X6_isMoment e_X6_isMoment => ?_)
      refine v_if_ne 24 dX6_change_19 (fun h_19 => ?_) (fun h_19 => ?_)
      · obtain ⟨h0, h1, h2, hc, hr, hgm⟩ := hZ (by omega)
        refine v_aload_n dX6_change_24 rfl ?_
        refine v_get dX6_change_25 f_X6_20 (by first | exact hx | exact hzn | exact h0) rfl ?_
        refine v_iload_n dX6_change_28 rfl ?_
        refine v_aald (t := 5) dX6_change_29 (fun _ => rfl) (by first | exact hx | exact hzn | exact h0) (by exact rfl) ?_
        refine v_lload_n dX6_change_30 rfl ?_
        refine v_iload dX6_change_31 rfl ?_
        refine v_V2 (rm' := rX5_addChange) (RX5, TX5, 6) dX6_change_33 km_X6_205 kn_X5_addChange kv_X5_addChange kz_X5 mk_X5_addChange rfl rfl (by first | exact hx | exact hzn | exact h0) ⟨Nat.le_of_ble_eq_true rfl, Nat.le_of_ble_eq_true rfl⟩ ⟨Nat.le_of_ble_eq_true rfl, Nat.le_of_ble_eq_true rfl⟩ (Nat.le_of_ble_eq_true rfl) ?_
        refine s_X5_addChange hst h0 h1 h2 hc hr ht hgm (fun h9 => ?_) (fun h9 => ?_)
        · exact v_zret dX6_change_36 rfl (by first | exact hQ0 (by omega) | exact hQ1 (by omega) (by omega) h9 | exact hQz (by omega) (by omega) h9) (by first | exact Or.inl rfl | exact Or.inr rfl | omega)
        · exact v_zret dX6_change_36 rfl (by first | exact hQ0 (by omega) | exact hQ1 (by omega) (by omega) h9 | exact hQz (by omega) (by omega) h9) (by first | exact Or.inl rfl | exact Or.inr rfl | omega)
      · refine v_iconst dX6_change_22 ?_
        exact v_zret dX6_change_23 rfl (by first | exact hQ0 (by omega) | exact hQ1 (by omega) (by omega) h9 | exact hQz (by omega) (by omega) h9) (by first | exact Or.inl rfl | exact Or.inr rfl | omega)
set_option maxRecDepth 100000 in
set_option maxHeartbeats 4000000 in
theorem s_X6_ruleP {l : Launch} {G : GG} {w : AH} {Q : Option Value → AH → Prop} {X : String → AH → Prop} (hst : l.stackTraces = false) {x sl zn li pg : Nat} {za : Nat → Nat} {i : Int} (hx : w x = some (tdC sl zn li pg)) (hzn : w zn = some (arA G 5 4 (fun k => some (za k)))) (hi : -2147483648 ≤ i ∧ i ≤ 2147483647) {mo da wk se of : Int} (hmo : -2147483648 ≤ mo ∧ mo ≤ 2147483647) (hda : -2147483648 ≤ da ∧ da ≤ 2147483647) (hwk : -2147483648 ≤ wk ∧ wk ≤ 2147483647) (hse : -2147483648 ≤ se ∧ se ≤ 2147483647) (hof : -2147483648 ≤ of ∧ of ≤ 2147483647) {f c r : Int} {am ao ar : Nat} {ra : Nat → Nat} (hZ : (0 ≤ i ∧ i ≤ 3) → w (za i.toNat) = some (zoC f am ao c ar r) ∧ w ar = some (arA G 6 2 (fun k => some (ra k))) ∧ (0 ≤ c ∧ c ≤ 8) ∧ (0 ≤ r ∧ r ≤ 2) ∧ (∀ k, k < 2 → ∃ mo da wk se of, w (ra k) = some (ruC mo da wk se of))) (hQ0 : ¬ ((0 ≤ i ∧ i ≤ 3) ∧ ((1 ≤ mo ∧ mo ≤ 12) ∧ (da = -1 ∨ (1 ≤ da ∧ da ≤ 28)) ∧ (1 ≤ wk ∧ wk ≤ 7) ∧ (0 ≤ se ∧ se ≤ 86400) ∧ (-64800 ≤ of ∧ of ≤ 64800))) → Q (some (.int (iI 0))) w) (hQz : (0 ≤ i ∧ i ≤ 3) →  ((1 ≤ mo ∧ mo ≤ 12) ∧ (da = -1 ∨ (1 ≤ da ∧ da ≤ 28)) ∧ (1 ≤ wk ∧ wk ≤ 7) ∧ (0 ≤ se ∧ se ≤ 86400) ∧ (-64800 ≤ of ∧ of ≤ 64800)) → 2 ≤ r → Q (some (.int (iI 0))) w) (hQ1 : (0 ≤ i ∧ i ≤ 3) →  ((1 ≤ mo ∧ mo ≤ 12) ∧ (da = -1 ∨ (1 ≤ da ∧ da ≤ 28)) ∧ (1 ≤ wk ∧ wk ≤ 7) ∧ (0 ≤ se ∧ se ≤ 86400) ∧ (-64800 ≤ of ∧ of ≤ 64800)) → r < 2 → Q (some (.int (iI 1))) (aup (aup w (ra r.toNat) (ruC mo da wk se of)) (za i.toNat) (zoC f am ao c ar (r + 1)))) : Ct l G mX6_rule rX6_rule [(.ref x), .int (iI i), .int (iI mo), .int (iI da), .int (iI wk), .int (iI se), .int (iI of)] w Q X := by
  refine ct_of hst mk_X6_rule (Nat.le_of_ble_eq_true rfl) ?_
  refine v_iload_n dX6_rule_0 rfl ?_
  refine v_S1 (rm' := rX6_isZone) dX6_rule_1 km_X6_192 ks_X6_isZone kz_X6 mk_X6_isZone rfl ⟨Nat.le_of_ble_eq_true rfl, Nat.le_of_ble_eq_true rfl⟩ ⟨Nat.le_of_ble_eq_true rfl, Nat.le_of_ble_eq_true rfl⟩ (Nat.le_of_ble_eq_true rfl) ?_
  refine s_X6_isZone hst (by omega) (fun r_X6_isZone e_X6_isZone => ?_)
  refine v_if_eq 32 dX6_rule_4 (fun h_4 => ?_) (fun h_4 => ?_)
  · refine v_iconst dX6_rule_32 ?_
    exact v_zret dX6_rule_33 rfl (by first | exact hQ0 (by omega) | exact hQ1 (by omega) (by omega) h9 | exact hQz (by omega) (by omega) h9) (by first | exact Or.inl rfl | exact Or.inr rfl | omega)
  · refine v_iload dX6_rule_7 rfl ?_
    refine v_S1 (rm' := rX6_isOffset) dX6_rule_9 km_X6_195 ks_X6_isOffset kz_X6 mk_X6_isOffset rfl ⟨Nat.le_of_ble_eq_true rfl, Nat.le_of_ble_eq_true rfl⟩ ⟨Nat.le_of_ble_eq_true rfl, Nat.le_of_ble_eq_true rfl⟩ (Nat.le_of_ble_eq_true rfl) ?_
    refine s_X6_isOffset hst (by omega) (fun r_X6_isOffset e_X6_isOffset => ?_)
    refine v_if_eq 32 dX6_rule_12 (fun h_12 => ?_) (fun h_12 => ?_)
    · refine v_iconst dX6_rule_32 ?_
      exact v_zret dX6_rule_33 rfl (by first | exact hQ0 (by omega) | exact hQ1 (by omega) (by omega) h9 | exact hQz (by omega) (by omega) h9) (by first | exact Or.inl rfl | exact Or.inr rfl | omega)
    · refine v_iload_n dX6_rule_15 rfl ?_
      refine v_i2l dX6_rule_16 ?_
      refine v_S1 (rm' := rX0_isMonth) dX6_rule_17 km_X6_209 ks_X0_isMonth kz_X0 mk_X0_isMonth rfl ⟨Nat.le_of_ble_eq_true rfl, Nat.le_of_ble_eq_true rfl⟩ ⟨Nat.le_of_ble_eq_true rfl, Nat.le_of_ble_eq_true rfl⟩ (Nat.le_of_ble_eq_true rfl) ?_
      refine s_X0_isMonth hst (fun rm9 em9 => ?_)
      refine v_if_eq 32 dX6_rule_20 (fun h_20 => ?_) (fun h_20 => ?_)
      · refine v_iconst dX6_rule_32 ?_
        exact v_zret dX6_rule_33 rfl (by first | exact hQ0 (by omega) | exact hQ1 (by omega) (by omega) h9 | exact hQz (by omega) (by omega) h9) (by first | exact Or.inl rfl | exact Or.inr rfl | omega)
      · refine v_iload dX6_rule_23 rfl ?_
        refine v_i2l dX6_rule_25 ?_
        refine v_S1 (rm' := rX0_isWeekday) dX6_rule_26 km_X6_169 ks_X0_isWeekday kz_X0 mk_X0_isWeekday rfl ⟨Nat.le_of_ble_eq_true rfl, Nat.le_of_ble_eq_true rfl⟩ ⟨Nat.le_of_ble_eq_true rfl, Nat.le_of_ble_eq_true rfl⟩ (Nat.le_of_ble_eq_true rfl) ?_
        refine s_X0_isWeekday hst (fun rw9 ew9 => ?_)
        refine v_if_ne 34 dX6_rule_29 (fun h_29 => ?_) (fun h_29 => ?_)
        · refine v_iload_n dX6_rule_34 rfl ?_
          refine v_iconst dX6_rule_35 ?_
          refine v_icmp_lt 45 dX6_rule_36 (fun h_36 => ?_) (fun h_36 => ?_)
          · refine v_iload_n dX6_rule_45 rfl ?_
            refine v_iconst dX6_rule_46 ?_
            refine v_icmp_ne 65 dX6_rule_47 (fun h_47 => ?_) (fun h_47 => ?_)
            · refine v_iconst dX6_rule_65 ?_
              exact v_zret dX6_rule_66 rfl (by first | exact hQ0 (by omega) | exact hQ1 (by omega) (by omega) h9 | exact hQz (by omega) (by omega) h9) (by first | exact Or.inl rfl | exact Or.inr rfl | omega)
            · refine v_iload dX6_rule_50 rfl ?_
              refine v_if_lt 65 dX6_rule_52 (fun h_52 => ?_) (fun h_52 => ?_)
              · refine v_iconst dX6_rule_65 ?_
                exact v_zret dX6_rule_66 rfl (by first | exact hQ0 (by omega) | exact hQ1 (by omega) (by omega) h9 | exact hQz (by omega) (by omega) h9) (by first | exact Or.inl rfl | exact Or.inr rfl | omega)
              · refine v_iload dX6_rule_55 rfl ?_
                refine v_i2l dX6_rule_57 ?_
                refine v_ldc2 (86400) dX6_rule_58 kl_X6_214 ?_
                refine v_lif_le 67 dX6_rule_61 dX6_rule_62 (fun h_61 => ?_) (fun h_61 => ?_)
                · obtain ⟨h0, h3, hc, hr, h4⟩ := hZ (by omega)
                  refine v_aload_n dX6_rule_67 rfl ?_
                  refine v_get dX6_rule_68 f_X6_20 (by first | exact hx | exact hzn | exact h0) rfl ?_
                  refine v_iload_n dX6_rule_71 rfl ?_
                  refine v_aald (t := 5) dX6_rule_72 (fun _ => rfl) (by first | exact hx | exact hzn | exact h0) (by exact rfl) ?_
                  refine v_iload_n dX6_rule_73 rfl ?_
                  refine v_iload_n dX6_rule_74 rfl ?_
                  refine v_iload dX6_rule_75 rfl ?_
                  refine v_iload dX6_rule_77 rfl ?_
                  refine v_iload dX6_rule_79 rfl ?_
                  refine v_V5 (rm' := rX5_addRule) (RX5, TX5, 6) dX6_rule_81 km_X6_216 kn_X5_addRule kv_X5_addRule kz_X5 mk_X5_addRule rfl rfl (by first | exact hx | exact hzn | exact h0) ⟨Nat.le_of_ble_eq_true rfl, Nat.le_of_ble_eq_true rfl⟩ ⟨Nat.le_of_ble_eq_true rfl, Nat.le_of_ble_eq_true rfl⟩ (Nat.le_of_ble_eq_true rfl) ?_
                  refine s_X5_addRule hst h0 h3 hc hr h4 (fun h9 => ?_) (fun h9 => ?_)
                  · exact v_zret dX6_rule_84 rfl (by first | exact hQ0 (by omega) | exact hQ1 (by omega) (by omega) h9 | exact hQz (by omega) (by omega) h9) (by first | exact Or.inl rfl | exact Or.inr rfl | omega)
                  · exact v_zret dX6_rule_84 rfl (by first | exact hQ0 (by omega) | exact hQ1 (by omega) (by omega) h9 | exact hQz (by omega) (by omega) h9) (by first | exact Or.inl rfl | exact Or.inr rfl | omega)
                · refine v_iconst dX6_rule_65 ?_
                  exact v_zret dX6_rule_66 rfl (by first | exact hQ0 (by omega) | exact hQ1 (by omega) (by omega) h9 | exact hQz (by omega) (by omega) h9) (by first | exact Or.inl rfl | exact Or.inr rfl | omega)
          · refine v_iload_n dX6_rule_39 rfl ?_
            refine v_bipush dX6_rule_40 ?_
            refine v_icmp_le 50 dX6_rule_42 (fun h_42 => ?_) (fun h_42 => ?_)
            · refine v_iload dX6_rule_50 rfl ?_
              refine v_if_lt 65 dX6_rule_52 (fun h_52 => ?_) (fun h_52 => ?_)
              · refine v_iconst dX6_rule_65 ?_
                exact v_zret dX6_rule_66 rfl (by first | exact hQ0 (by omega) | exact hQ1 (by omega) (by omega) h9 | exact hQz (by omega) (by omega) h9) (by first | exact Or.inl rfl | exact Or.inr rfl | omega)
              · refine v_iload dX6_rule_55 rfl ?_
                refine v_i2l dX6_rule_57 ?_
                refine v_ldc2 (86400) dX6_rule_58 kl_X6_214 ?_
                refine v_lif_le 67 dX6_rule_61 dX6_rule_62 (fun h_61 => ?_) (fun h_61 => ?_)
                · obtain ⟨h0, h3, hc, hr, h4⟩ := hZ (by omega)
                  refine v_aload_n dX6_rule_67 rfl ?_
                  refine v_get dX6_rule_68 f_X6_20 (by first | exact hx | exact hzn | exact h0) rfl ?_
                  refine v_iload_n dX6_rule_71 rfl ?_
                  refine v_aald (t := 5) dX6_rule_72 (fun _ => rfl) (by first | exact hx | exact hzn | exact h0) (by exact rfl) ?_
                  refine v_iload_n dX6_rule_73 rfl ?_
                  refine v_iload_n dX6_rule_74 rfl ?_
                  refine v_iload dX6_rule_75 rfl ?_
                  refine v_iload dX6_rule_77 rfl ?_
                  refine v_iload dX6_rule_79 rfl ?_
                  refine v_V5 (rm' := rX5_addRule) (RX5, TX5, 6) dX6_rule_81 km_X6_216 kn_X5_addRule kv_X5_addRule kz_X5 mk_X5_addRule rfl rfl (by first | exact hx | exact hzn | exact h0) ⟨Nat.le_of_ble_eq_true rfl, Nat.le_of_ble_eq_true rfl⟩ ⟨Nat.le_of_ble_eq_true rfl, Nat.le_of_ble_eq_true rfl⟩ (Nat.le_of_ble_eq_true rfl) ?_
                  refine s_X5_addRule hst h0 h3 hc hr h4 (fun h9 => ?_) (fun h9 => ?_)
                  · exact v_zret dX6_rule_84 rfl (by first | exact hQ0 (by omega) | exact hQ1 (by omega) (by omega) h9 | exact hQz (by omega) (by omega) h9) (by first | exact Or.inl rfl | exact Or.inr rfl | omega)
                  · exact v_zret dX6_rule_84 rfl (by first | exact hQ0 (by omega) | exact hQ1 (by omega) (by omega) h9 | exact hQz (by omega) (by omega) h9) (by first | exact Or.inl rfl | exact Or.inr rfl | omega)
                · refine v_iconst dX6_rule_65 ?_
                  exact v_zret dX6_rule_66 rfl (by first | exact hQ0 (by omega) | exact hQ1 (by omega) (by omega) h9 | exact hQz (by omega) (by omega) h9) (by first | exact Or.inl rfl | exact Or.inr rfl | omega)
            · refine v_iload_n dX6_rule_45 rfl ?_
              refine v_iconst dX6_rule_46 ?_
              refine v_icmp_ne 65 dX6_rule_47 (fun h_47 => ?_) (fun h_47 => ?_)
              · refine v_iconst dX6_rule_65 ?_
                exact v_zret dX6_rule_66 rfl (by first | exact hQ0 (by omega) | exact hQ1 (by omega) (by omega) h9 | exact hQz (by omega) (by omega) h9) (by first | exact Or.inl rfl | exact Or.inr rfl | omega)
              · refine v_iload dX6_rule_50 rfl ?_
                refine v_if_lt 65 dX6_rule_52 (fun h_52 => ?_) (fun h_52 => ?_)
                · refine v_iconst dX6_rule_65 ?_
                  exact v_zret dX6_rule_66 rfl (by first | exact hQ0 (by omega) | exact hQ1 (by omega) (by omega) h9 | exact hQz (by omega) (by omega) h9) (by first | exact Or.inl rfl | exact Or.inr rfl | omega)
                · refine v_iload dX6_rule_55 rfl ?_
                  refine v_i2l dX6_rule_57 ?_
                  refine v_ldc2 (86400) dX6_rule_58 kl_X6_214 ?_
                  refine v_lif_le 67 dX6_rule_61 dX6_rule_62 (fun h_61 => ?_) (fun h_61 => ?_)
                  · obtain ⟨h0, h3, hc, hr, h4⟩ := hZ (by omega)
                    refine v_aload_n dX6_rule_67 rfl ?_
                    refine v_get dX6_rule_68 f_X6_20 (by first | exact hx | exact hzn | exact h0) rfl ?_
                    refine v_iload_n dX6_rule_71 rfl ?_
                    refine v_aald (t := 5) dX6_rule_72 (fun _ => rfl) (by first | exact hx | exact hzn | exact h0) (by exact rfl) ?_
                    refine v_iload_n dX6_rule_73 rfl ?_
                    refine v_iload_n dX6_rule_74 rfl ?_
                    refine v_iload dX6_rule_75 rfl ?_
                    refine v_iload dX6_rule_77 rfl ?_
                    refine v_iload dX6_rule_79 rfl ?_
                    refine v_V5 (rm' := rX5_addRule) (RX5, TX5, 6) dX6_rule_81 km_X6_216 kn_X5_addRule kv_X5_addRule kz_X5 mk_X5_addRule rfl rfl (by first | exact hx | exact hzn | exact h0) ⟨Nat.le_of_ble_eq_true rfl, Nat.le_of_ble_eq_true rfl⟩ ⟨Nat.le_of_ble_eq_true rfl, Nat.le_of_ble_eq_true rfl⟩ (Nat.le_of_ble_eq_true rfl) ?_
                    refine s_X5_addRule hst h0 h3 hc hr h4 (fun h9 => ?_) (fun h9 => ?_)
                    · exact v_zret dX6_rule_84 rfl (by first | exact hQ0 (by omega) | exact hQ1 (by omega) (by omega) h9 | exact hQz (by omega) (by omega) h9) (by first | exact Or.inl rfl | exact Or.inr rfl | omega)
                    · exact v_zret dX6_rule_84 rfl (by first | exact hQ0 (by omega) | exact hQ1 (by omega) (by omega) h9 | exact hQz (by omega) (by omega) h9) (by first | exact Or.inl rfl | exact Or.inr rfl | omega)
                  · refine v_iconst dX6_rule_65 ?_
                    exact v_zret dX6_rule_66 rfl (by first | exact hQ0 (by omega) | exact hQ1 (by omega) (by omega) h9 | exact hQz (by omega) (by omega) h9) (by first | exact Or.inl rfl | exact Or.inr rfl | omega)
        · refine v_iconst dX6_rule_32 ?_
          exact v_zret dX6_rule_33 rfl (by first | exact hQ0 (by omega) | exact hQ1 (by omega) (by omega) h9 | exact hQz (by omega) (by omega) h9) (by first | exact Or.inl rfl | exact Or.inr rfl | omega)
theorem zo_inj {f c r f' c' r' : Int} {am ao ar am' ao' ar' : Nat} (h : zoC f am ao c ar r = zoC f' am' ao' c' ar' r') : am = am' ∧ ao = ao' ∧ ar = ar' := by
  unfold zoC at h
  injection h with h
  injection h with h1 h2
  injection h2 with c1 h2
  injection h2 with c2 h2
  injection h2 with c3 h2
  injection h2 with c4 h2
  injection h2 with c5 h2
  injection c2 with c2
  injection c3 with c3
  injection c5 with c5
  exact ⟨c2, c3, c5⟩
