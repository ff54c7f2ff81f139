set_option maxRecDepth 100000 in
set_option maxHeartbeats 4000000 in
theorem s_X1_init {l : Launch} {G : GG} {w : AH} {Q : Option Value → AH → Prop} {X : String → AH → Prop} (hst : l.stackTraces = false) {z : Nat} (h0 : w z = some (.inr (0, [.null, .int (iI 0), .int (iI 0)]) : va_E)) (hQ : ∀ (w' : AH) (ac : Nat), EXL (aup w z (liC ac 0 0)) w' [(ac, acA G 30 (fun _ => 0))] → Q none w') : Ct l G mX1_init rX1_init [.ref z] w Q X := by
  refine ct_of hst mk_X1_init (Nat.le_of_ble_eq_true rfl) ?_
  refine v_aload_n dX1_init_0 rfl ?_
  refine v_objInit dX1_init_1 km_X1_3 kn_obj ko_obj ?_
  refine v_aload_n dX1_init_4 rfl ?_
  refine v_bipush dX1_init_5 ?_
  refine v_newc dX1_init_7 ka_123 rfl (fun ac f1 => ?_)
  have E1 := EXL.new (EXL.nil (w := w)) (e := acA G 30 (fun _ => 0)) f1
  have E2 := E1.base (e := liC ac 0 0) h0
  refine v_putF dX1_init_9 f_X1_9 rfl (by decide +kernel) (by exact E1.bz h0) rfl rfl (Nat.le_of_ble_eq_true rfl) ?_
  exact v_vret dX1_init_12 rfl (by exact hQ _ ac E2)
set_option maxRecDepth 100000 in
set_option maxHeartbeats 4000000 in
theorem s_X2_init {l : Launch} {G : GG} {w : AH} {Q : Option Value → AH → Prop} {X : String → AH → Prop} (hst : l.stackTraces = false) {z : Nat} (h0 : w z = some (.inr (1, [.null, .int (iI 0)]) : va_E)) (hQ : ∀ (w' : AH) (ac : Nat), EXL (aup w z (paC ac 0)) w' [(ac, acA G 30 (fun _ => 0))] → Q none w') : Ct l G mX2_init rX2_init [.ref z] w Q X := by
  refine ct_of hst mk_X2_init (Nat.le_of_ble_eq_true rfl) ?_
  refine v_aload_n dX2_init_0 rfl ?_
  refine v_objInit dX2_init_1 km_X2_3 kn_obj ko_obj ?_
  refine v_aload_n dX2_init_4 rfl ?_
  refine v_bipush dX2_init_5 ?_
  refine v_newc dX2_init_7 ka_123 rfl (fun ac f1 => ?_)
  have E1 := EXL.new (EXL.nil (w := w)) (e := acA G 30 (fun _ => 0)) f1
  have E2 := E1.base (e := paC ac 0) h0
  refine v_putF dX2_init_9 f_X2_9 rfl (by decide +kernel) (by exact E1.bz h0) rfl rfl (Nat.le_of_ble_eq_true rfl) ?_
  exact v_vret dX2_init_12 rfl (by exact hQ _ ac E2)
set_option maxRecDepth 100000 in
set_option maxHeartbeats 4000000 in
theorem s_X5_init {l : Launch} {G : GG} {w : AH} {Q : Option Value → AH → Prop} {X : String → AH → Prop} (hst : l.stackTraces = false) {z : Nat} (h0 : w z = some (.inr (4, [.int (iI 0), .null, .null, .int (iI 0), .null, .int (iI 0)]) : va_E)) (hQ : ∀ (w' : AH) (am ao ar r0 r1 : Nat), EXL (aup w z (zoC 0 am ao 0 ar 0)) w' [(am, alA G 8 (fun _ => 0)), (ao, aiA G 8 (fun _ => 0)), (ar, arA G 6 2 (fun i => some (if i = 0 then r0 else r1))), (r0, ruC 1 1 1 0 0), (r1, ruC 1 1 1 0 0)] → Q none w') : Ct l G mX5_init rX5_init [.ref z] w Q X := by
  refine ct_of hst mk_X5_init (Nat.le_of_ble_eq_true rfl) ?_
  have K54 : ∀ (v : AH) (am ao ar r0 r1 : Nat), EXL (aup w z (.inr (4, [.int (iI 0), .ref am, .ref ao, .int (iI 0), .ref ar, .int (iI 0)]) : va_E)) v [(am, alA G 8 (fun _ => 0)), (ao, aiA G 8 (fun _ => 0)), (ar, arA G 6 2 (fup (fup (fun _ => none) 0 (some r0)) 1 (some r1))), (r0, ruC 1 1 1 0 0), (r1, ruC 1 1 1 0 0)] → V l G mX5_init rX5_init Q X 30 (lof [(0, .ref z), (1, .int (iI 2))]) [] v 5 28 := by
    intro v am ao ar r0 r1 E
    refine v_hx (hw_ar (f' := fun i => some (if i = 0 then r0 else r1)) (E.get 2 rfl) (fun j hj => by match j, hj with | 0, _ => rfl | 1, _ => rfl | (j + 2), hj => exact absurd hj (by omega))) ?_
    refine v_iload_n dX5_init_30 rfl ?_
    refine v_iconst dX5_init_31 ?_
    refine v_icmp_ge 54 dX5_init_32 (fun h_32 => ?_) (fun h_32 => ?_)
    rotate_left
    · (exfalso; omega)
    exact v_vret dX5_init_54 rfl (by exact hQ _ am ao ar r0 r1 (E.put (k := 2) rfl))
  have K30_1 : ∀ (v : AH) (am ao ar r0 : Nat), EXL (aup w z (.inr (4, [.int (iI 0), .ref am, .ref ao, .int (iI 0), .ref ar, .int (iI 0)]) : va_E)) v [(am, alA G 8 (fun _ => 0)), (ao, aiA G 8 (fun _ => 0)), (ar, arA G 6 2 (fup (fun _ => none) 0 (some r0))), (r0, ruC 1 1 1 0 0)] → V l G mX5_init rX5_init Q X 30 (lof [(0, .ref z), (1, .int (iI 1))]) [] v 4 23 := by
    intro v am ao ar r0 E
    refine v_iload_n dX5_init_30 rfl ?_
    refine v_iconst dX5_init_31 ?_
    refine v_icmp_ge 54 dX5_init_32 (fun h_32 => ?_) (fun h_32 => ?_)
    · (exfalso; omega)
    refine v_aload_n dX5_init_35 rfl ?_
    refine v_get dX5_init_36 f_X5_21 (by exact E.bz aup_s) rfl ?_
    refine v_iload_n dX5_init_39 rfl ?_
    refine v_new (fs := [.int (iI 0), .int (iI 0), .int (iI 0), .int (iI 0), .int (iI 0)]) dX5_init_40 kc_X5_19 kx_X3 kz_X3 ck_X3 (fun j hj => by match j, hj with | 0, _ => rfl | 1, _ => rfl | 2, _ => rfl | 3, _ => rfl | 4, _ => rfl | (j + 5), hj => exact absurd hj (by omega)) (fun r1 g1 => ?_)
    have E2 := E.new (e := ruC 0 0 0 0 0) g1
    refine v_dup dX5_init_43 rfl ?_
    refine v_I0 (rm' := rX3_init) dX5_init_44 km_X5_25 kn_X3_init kz_X3 mk_X3_init rfl rfl rfl ⟨Nat.le_of_ble_eq_true rfl, Nat.le_of_ble_eq_true rfl⟩ ⟨Nat.le_of_ble_eq_true rfl, Nat.le_of_ble_eq_true rfl⟩ (Nat.le_of_ble_eq_true rfl) ?_
    refine s_X3_init hst (E2.get 4 rfl) ?_
    have E3 := E2.put (k := 4) (e' := ruC 1 1 1 0 0) rfl
    refine v_aast (t := 6) dX5_init_47 (fun _ => rfl) (ci := 2) rfl (by exact E3.get 2 rfl) (by exact E3.get 4 rfl) ?_
    have E4 := E3.put (k := 2) (e' := arA G 6 2 (fup (fup (fun _ => none) 0 (some r0)) 1 (some r1))) rfl
    refine v_iinc dX5_init_48 rfl ?_
    refine v_goto 30 dX5_init_51 ?_
    exact v_lof [(0, .ref z), (1, .int (iI 2))] (List.forall_mem_cons.mpr ⟨rfl, (List.forall_mem_cons.mpr ⟨rfl, (fun _ h => nomatch h)⟩)⟩) (K54 _ am ao ar r0 r1 E4)
  have K30_0 : ∀ (v : AH) (am ao ar  : Nat), EXL (aup w z (.inr (4, [.int (iI 0), .ref am, .ref ao, .int (iI 0), .ref ar, .int (iI 0)]) : va_E)) v [(am, alA G 8 (fun _ => 0)), (ao, aiA G 8 (fun _ => 0)), (ar, arA G 6 2 (fun _ => none))] → V l G mX5_init rX5_init Q X 30 (lof [(0, .ref z), (1, .int (iI 0))]) [] v 3 18 := by
    intro v am ao ar  E
    refine v_iload_n dX5_init_30 rfl ?_
    refine v_iconst dX5_init_31 ?_
    refine v_icmp_ge 54 dX5_init_32 (fun h_32 => ?_) (fun h_32 => ?_)
    · (exfalso; omega)
    refine v_aload_n dX5_init_35 rfl ?_
    refine v_get dX5_init_36 f_X5_21 (by exact E.bz aup_s) rfl ?_
    refine v_iload_n dX5_init_39 rfl ?_
    refine v_new (fs := [.int (iI 0), .int (iI 0), .int (iI 0), .int (iI 0), .int (iI 0)]) dX5_init_40 kc_X5_19 kx_X3 kz_X3 ck_X3 (fun j hj => by match j, hj with | 0, _ => rfl | 1, _ => rfl | 2, _ => rfl | 3, _ => rfl | 4, _ => rfl | (j + 5), hj => exact absurd hj (by omega)) (fun r0 g1 => ?_)
    have E2 := E.new (e := ruC 0 0 0 0 0) g1
    refine v_dup dX5_init_43 rfl ?_
    refine v_I0 (rm' := rX3_init) dX5_init_44 km_X5_25 kn_X3_init kz_X3 mk_X3_init rfl rfl rfl ⟨Nat.le_of_ble_eq_true rfl, Nat.le_of_ble_eq_true rfl⟩ ⟨Nat.le_of_ble_eq_true rfl, Nat.le_of_ble_eq_true rfl⟩ (Nat.le_of_ble_eq_true rfl) ?_
    refine s_X3_init hst (E2.get 3 rfl) ?_
    have E3 := E2.put (k := 3) (e' := ruC 1 1 1 0 0) rfl
    refine v_aast (t := 6) dX5_init_47 (fun _ => rfl) (ci := 2) rfl (by exact E3.get 2 rfl) (by exact E3.get 3 rfl) ?_
    have E4 := E3.put (k := 2) (e' := arA G 6 2 (fup (fun _ => none) 0 (some r0))) rfl
    refine v_iinc dX5_init_48 rfl ?_
    refine v_goto 30 dX5_init_51 ?_
    exact v_lof [(0, .ref z), (1, .int (iI 1))] (List.forall_mem_cons.mpr ⟨rfl, (List.forall_mem_cons.mpr ⟨rfl, (fun _ h => nomatch h)⟩)⟩) (K30_1 _ am ao ar r0 E4)
  have K20 : ∀ (v : AH) (am ao : Nat), EXL (aup w z (.inr (4, [.int (iI 0), .ref am, .ref ao, .int (iI 0), .null, .int (iI 0)]) : va_E)) v [(am, alA G 8 (fun _ => 0)), (ao, aiA G 8 (fun _ => 0))] → V l G mX5_init rX5_init Q X 20 (lof [(0, .ref z)]) [] v 2 16 := by
    intro v am ao E
    refine v_aload_n dX5_init_20 rfl ?_
    refine v_iconst dX5_init_21 ?_
    refine v_newq (t := 6) dX5_init_22 kc_X5_19 (fun U h => h.2.2.2.2.2.1.2.2) (fun _ => rfl) rfl (fun ar g1 => ?_)
    have E2 := E.new (e := arA G 6 2 (fun _ => none)) g1
    have E3 := E2.base (z := z) (e := (.inr (4, [.int (iI 0), .ref am, .ref ao, .int (iI 0), .ref ar, .int (iI 0)]) : va_E)) aup_s
    rw [aup_up] at E3
    refine v_putF dX5_init_25 f_X5_21 rfl (by decide +kernel) (by exact E2.bz aup_s) rfl rfl (Nat.le_of_ble_eq_true rfl) ?_
    refine v_iconst dX5_init_28 ?_
    refine v_istore_n dX5_init_29 (by decide) ?_
    exact v_lof [(0, .ref z), (1, .int (iI 0))] (List.forall_mem_cons.mpr ⟨rfl, (List.forall_mem_cons.mpr ⟨rfl, (fun _ h => nomatch h)⟩)⟩) (K30_0 _ am ao ar E3)
  have K12 : ∀ (v : AH) (am : Nat), EXL (aup w z (.inr (4, [.int (iI 0), .ref am, .null, .int (iI 0), .null, .int (iI 0)]) : va_E)) v [(am, alA G 8 (fun _ => 0))] → V l G mX5_init rX5_init Q X 12 (lof [(0, .ref z)]) [] v 1 8 := by
    intro v am E
    refine v_aload_n dX5_init_12 rfl ?_
    refine v_bipush dX5_init_13 ?_
    refine v_newi dX5_init_15 ka_87 rfl (fun ao g1 => ?_)
    have E2 := E.new (e := aiA G 8 (fun _ => 0)) g1
    have E3 := E2.base (z := z) (e := (.inr (4, [.int (iI 0), .ref am, .ref ao, .int (iI 0), .null, .int (iI 0)]) : va_E)) aup_s
    rw [aup_up] at E3
    refine v_putF dX5_init_17 f_X5_15 rfl (by decide +kernel) (by exact E2.bz aup_s) rfl rfl (Nat.le_of_ble_eq_true rfl) ?_
    exact v_lof [(0, .ref z)] (List.forall_mem_cons.mpr ⟨rfl, (fun _ h => nomatch h)⟩) (K20 _ am ao E3)
  refine v_aload_n dX5_init_0 rfl ?_
  refine v_objInit dX5_init_1 km_X5_3 kn_obj ko_obj ?_
  refine v_aload_n dX5_init_4 rfl ?_
  refine v_bipush dX5_init_5 ?_
  refine v_newl dX5_init_7 ka_86 rfl (fun am g1 => ?_)
  have E2 := EXL.new (EXL.nil (w := w)) (e := alA G 8 (fun _ => 0)) g1
  have E3 := E2.base (z := z) (e := (.inr (4, [.int (iI 0), .ref am, .null, .int (iI 0), .null, .int (iI 0)]) : va_E)) h0
  refine v_putF dX5_init_9 f_X5_9 rfl (by decide +kernel) (by exact E2.bz h0) rfl rfl (Nat.le_of_ble_eq_true rfl) ?_
  exact v_lof [(0, .ref z)] (List.forall_mem_cons.mpr ⟨rfl, (fun _ h => nomatch h)⟩) (K12 _ am E3)
