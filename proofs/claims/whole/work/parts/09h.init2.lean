set_option maxRecDepth 100000 in
set_option maxHeartbeats 4000000 in
theorem s_X7_init {l : Launch} {G : GG} {w : AH} {Q : Option Value → AH → Prop} {X : String → AH → Prop} (hst : l.stackTraces = false) {z : Nat} (h0 : w z = some (.inr (6, [.int (iI 0), .null, .null, .long (lI 0), .int (iI 0), .int (iI 0), .null, .null, .null, .null, .null, .null, .null, .int (iI 0), .int (iI 0), .int (iI 0), .null, .int (iI 0)]) : va_E)) (hQ : ∀ (w' : AH) (A : Nat → Nat), EXL (aup w z (mdC A 0 0 0 0 0 0 0 0)) w' [(A 0, alA G 8 (fun _ => 0)), (A 1, alA G 8 (fun _ => 0)), (A 2, aiA G 4 (fun _ => 0)), (A 3, aiA G 4 (fun _ => 0)), (A 4, alA G 32 (fun _ => 0)), (A 5, aiA G 32 (fun _ => 0)), (A 6, aiA G 4 (fun _ => 0)), (A 7, aiA G 40 (fun _ => 0)), (A 8, aiA G 30 (fun _ => 0)), (A 9, aiA G 40 (fun _ => 0))] → Q none w') : Ct l G mX7_init rX7_init [.ref z] w Q X := by
  refine ct_of hst mk_X7_init (Nat.le_of_ble_eq_true rfl) ?_
  have K10 : ∀ (v : AH) (a0 a1 a2 a3 a4 a5 a6 a7 a8 a9 : Nat), EXL (aup w z (.inr (6, [.int (iI 0), .ref a0, .ref a1, .long (lI 0), .int (iI 0), .int (iI 0), .ref a2, .ref a3, .ref a4, .ref a5, .ref a6, .ref a7, .ref a8, .int (iI 0), .int (iI 0), .int (iI 0), .ref a9, .int (iI 0)]) : va_E)) v [(a0, alA G 8 (fun _ => 0)), (a1, alA G 8 (fun _ => 0)), (a2, aiA G 4 (fun _ => 0)), (a3, aiA G 4 (fun _ => 0)), (a4, alA G 32 (fun _ => 0)), (a5, aiA G 32 (fun _ => 0)), (a6, aiA G 4 (fun _ => 0)), (a7, aiA G 40 (fun _ => 0)), (a8, aiA G 30 (fun _ => 0)), (a9, aiA G 40 (fun _ => 0))] → V l G mX7_init rX7_init Q X 81 (lof [(0, .ref z)]) [] v 10 202 := by
    intro v a0 a1 a2 a3 a4 a5 a6 a7 a8 a9 E
    exact v_vret dX7_init_81 rfl (by exact hQ _ (fun k => [a0, a1, a2, a3, a4, a5, a6, a7, a8, a9].getD k 0) E)
  have K9 : ∀ (v : AH) (a0 a1 a2 a3 a4 a5 a6 a7 a8 : Nat), EXL (aup w z (.inr (6, [.int (iI 0), .ref a0, .ref a1, .long (lI 0), .int (iI 0), .int (iI 0), .ref a2, .ref a3, .ref a4, .ref a5, .ref a6, .ref a7, .ref a8, .int (iI 0), .int (iI 0), .int (iI 0), .null, .int (iI 0)]) : va_E)) v [(a0, alA G 8 (fun _ => 0)), (a1, alA G 8 (fun _ => 0)), (a2, aiA G 4 (fun _ => 0)), (a3, aiA G 4 (fun _ => 0)), (a4, alA G 32 (fun _ => 0)), (a5, aiA G 32 (fun _ => 0)), (a6, aiA G 4 (fun _ => 0)), (a7, aiA G 40 (fun _ => 0)), (a8, aiA G 30 (fun _ => 0))] → V l G mX7_init rX7_init Q X 73 (lof [(0, .ref z)]) [] v 9 162 := by
    intro v a0 a1 a2 a3 a4 a5 a6 a7 a8 E
    refine v_aload_n dX7_init_73 rfl ?_
    refine v_bipush dX7_init_74 ?_
    refine v_newi dX7_init_76 ka_87 rfl (fun a9 g1 => ?_)
    have E2 := EXL.new E (e := aiA G 40 (fun _ => 0)) g1
    have E3 := E2.base (z := z) (e := (.inr (6, [.int (iI 0), .ref a0, .ref a1, .long (lI 0), .int (iI 0), .int (iI 0), .ref a2, .ref a3, .ref a4, .ref a5, .ref a6, .ref a7, .ref a8, .int (iI 0), .int (iI 0), .int (iI 0), .ref a9, .int (iI 0)]) : va_E)) aup_s
    rw [aup_up] at E3
    refine v_putF dX7_init_78 f_X7_38 rfl (by decide +kernel) (by exact E2.bz aup_s) rfl rfl (Nat.le_of_ble_eq_true rfl) ?_
    exact v_lof [(0, .ref z)] (List.forall_mem_cons.mpr ⟨rfl, (fun _ h => nomatch h)⟩) (K10 _ a0 a1 a2 a3 a4 a5 a6 a7 a8 a9 E3)
  have K8 : ∀ (v : AH) (a0 a1 a2 a3 a4 a5 a6 a7 : Nat), EXL (aup w z (.inr (6, [.int (iI 0), .ref a0, .ref a1, .long (lI 0), .int (iI 0), .int (iI 0), .ref a2, .ref a3, .ref a4, .ref a5, .ref a6, .ref a7, .null, .int (iI 0), .int (iI 0), .int (iI 0), .null, .int (iI 0)]) : va_E)) v [(a0, alA G 8 (fun _ => 0)), (a1, alA G 8 (fun _ => 0)), (a2, aiA G 4 (fun _ => 0)), (a3, aiA G 4 (fun _ => 0)), (a4, alA G 32 (fun _ => 0)), (a5, aiA G 32 (fun _ => 0)), (a6, aiA G 4 (fun _ => 0)), (a7, aiA G 40 (fun _ => 0))] → V l G mX7_init rX7_init Q X 65 (lof [(0, .ref z)]) [] v 8 132 := by
    intro v a0 a1 a2 a3 a4 a5 a6 a7 E
    refine v_aload_n dX7_init_65 rfl ?_
    refine v_bipush dX7_init_66 ?_
    refine v_newi dX7_init_68 ka_87 rfl (fun a8 g1 => ?_)
    have E2 := EXL.new E (e := aiA G 30 (fun _ => 0)) g1
    have E3 := E2.base (z := z) (e := (.inr (6, [.int (iI 0), .ref a0, .ref a1, .long (lI 0), .int (iI 0), .int (iI 0), .ref a2, .ref a3, .ref a4, .ref a5, .ref a6, .ref a7, .ref a8, .int (iI 0), .int (iI 0), .int (iI 0), .null, .int (iI 0)]) : va_E)) aup_s
    rw [aup_up] at E3
    refine v_putF dX7_init_70 f_X7_35 rfl (by decide +kernel) (by exact E2.bz aup_s) rfl rfl (Nat.le_of_ble_eq_true rfl) ?_
    exact v_lof [(0, .ref z)] (List.forall_mem_cons.mpr ⟨rfl, (fun _ h => nomatch h)⟩) (K9 _ a0 a1 a2 a3 a4 a5 a6 a7 a8 E3)
  have K7 : ∀ (v : AH) (a0 a1 a2 a3 a4 a5 a6 : Nat), EXL (aup w z (.inr (6, [.int (iI 0), .ref a0, .ref a1, .long (lI 0), .int (iI 0), .int (iI 0), .ref a2, .ref a3, .ref a4, .ref a5, .ref a6, .null, .null, .int (iI 0), .int (iI 0), .int (iI 0), .null, .int (iI 0)]) : va_E)) v [(a0, alA G 8 (fun _ => 0)), (a1, alA G 8 (fun _ => 0)), (a2, aiA G 4 (fun _ => 0)), (a3, aiA G 4 (fun _ => 0)), (a4, alA G 32 (fun _ => 0)), (a5, aiA G 32 (fun _ => 0)), (a6, aiA G 4 (fun _ => 0))] → V l G mX7_init rX7_init Q X 57 (lof [(0, .ref z)]) [] v 7 92 := by
    intro v a0 a1 a2 a3 a4 a5 a6 E
    refine v_aload_n dX7_init_57 rfl ?_
    refine v_bipush dX7_init_58 ?_
    refine v_newi dX7_init_60 ka_87 rfl (fun a7 g1 => ?_)
    have E2 := EXL.new E (e := aiA G 40 (fun _ => 0)) g1
    have E3 := E2.base (z := z) (e := (.inr (6, [.int (iI 0), .ref a0, .ref a1, .long (lI 0), .int (iI 0), .int (iI 0), .ref a2, .ref a3, .ref a4, .ref a5, .ref a6, .ref a7, .null, .int (iI 0), .int (iI 0), .int (iI 0), .null, .int (iI 0)]) : va_E)) aup_s
    rw [aup_up] at E3
    refine v_putF dX7_init_62 f_X7_32 rfl (by decide +kernel) (by exact E2.bz aup_s) rfl rfl (Nat.le_of_ble_eq_true rfl) ?_
    exact v_lof [(0, .ref z)] (List.forall_mem_cons.mpr ⟨rfl, (fun _ h => nomatch h)⟩) (K8 _ a0 a1 a2 a3 a4 a5 a6 a7 E3)
  have K6 : ∀ (v : AH) (a0 a1 a2 a3 a4 a5 : Nat), EXL (aup w z (.inr (6, [.int (iI 0), .ref a0, .ref a1, .long (lI 0), .int (iI 0), .int (iI 0), .ref a2, .ref a3, .ref a4, .ref a5, .null, .null, .null, .int (iI 0), .int (iI 0), .int (iI 0), .null, .int (iI 0)]) : va_E)) v [(a0, alA G 8 (fun _ => 0)), (a1, alA G 8 (fun _ => 0)), (a2, aiA G 4 (fun _ => 0)), (a3, aiA G 4 (fun _ => 0)), (a4, alA G 32 (fun _ => 0)), (a5, aiA G 32 (fun _ => 0))] → V l G mX7_init rX7_init Q X 50 (lof [(0, .ref z)]) [] v 6 88 := by
    intro v a0 a1 a2 a3 a4 a5 E
    refine v_aload_n dX7_init_50 rfl ?_
    refine v_iconst dX7_init_51 ?_
    refine v_newi dX7_init_52 ka_87 rfl (fun a6 g1 => ?_)
    have E2 := EXL.new E (e := aiA G 4 (fun _ => 0)) g1
    have E3 := E2.base (z := z) (e := (.inr (6, [.int (iI 0), .ref a0, .ref a1, .long (lI 0), .int (iI 0), .int (iI 0), .ref a2, .ref a3, .ref a4, .ref a5, .ref a6, .null, .null, .int (iI 0), .int (iI 0), .int (iI 0), .null, .int (iI 0)]) : va_E)) aup_s
    rw [aup_up] at E3
    refine v_putF dX7_init_54 f_X7_29 rfl (by decide +kernel) (by exact E2.bz aup_s) rfl rfl (Nat.le_of_ble_eq_true rfl) ?_
    exact v_lof [(0, .ref z)] (List.forall_mem_cons.mpr ⟨rfl, (fun _ h => nomatch h)⟩) (K7 _ a0 a1 a2 a3 a4 a5 a6 E3)
  have K5 : ∀ (v : AH) (a0 a1 a2 a3 a4 : Nat), EXL (aup w z (.inr (6, [.int (iI 0), .ref a0, .ref a1, .long (lI 0), .int (iI 0), .int (iI 0), .ref a2, .ref a3, .ref a4, .null, .null, .null, .null, .int (iI 0), .int (iI 0), .int (iI 0), .null, .int (iI 0)]) : va_E)) v [(a0, alA G 8 (fun _ => 0)), (a1, alA G 8 (fun _ => 0)), (a2, aiA G 4 (fun _ => 0)), (a3, aiA G 4 (fun _ => 0)), (a4, alA G 32 (fun _ => 0))] → V l G mX7_init rX7_init Q X 42 (lof [(0, .ref z)]) [] v 5 56 := by
    intro v a0 a1 a2 a3 a4 E
    refine v_aload_n dX7_init_42 rfl ?_
    refine v_bipush dX7_init_43 ?_
    refine v_newi dX7_init_45 ka_87 rfl (fun a5 g1 => ?_)
    have E2 := EXL.new E (e := aiA G 32 (fun _ => 0)) g1
    have E3 := E2.base (z := z) (e := (.inr (6, [.int (iI 0), .ref a0, .ref a1, .long (lI 0), .int (iI 0), .int (iI 0), .ref a2, .ref a3, .ref a4, .ref a5, .null, .null, .null, .int (iI 0), .int (iI 0), .int (iI 0), .null, .int (iI 0)]) : va_E)) aup_s
    rw [aup_up] at E3
    refine v_putF dX7_init_47 f_X7_26 rfl (by decide +kernel) (by exact E2.bz aup_s) rfl rfl (Nat.le_of_ble_eq_true rfl) ?_
    exact v_lof [(0, .ref z)] (List.forall_mem_cons.mpr ⟨rfl, (fun _ h => nomatch h)⟩) (K6 _ a0 a1 a2 a3 a4 a5 E3)
  have K4 : ∀ (v : AH) (a0 a1 a2 a3 : Nat), EXL (aup w z (.inr (6, [.int (iI 0), .ref a0, .ref a1, .long (lI 0), .int (iI 0), .int (iI 0), .ref a2, .ref a3, .null, .null, .null, .null, .null, .int (iI 0), .int (iI 0), .int (iI 0), .null, .int (iI 0)]) : va_E)) v [(a0, alA G 8 (fun _ => 0)), (a1, alA G 8 (fun _ => 0)), (a2, aiA G 4 (fun _ => 0)), (a3, aiA G 4 (fun _ => 0))] → V l G mX7_init rX7_init Q X 34 (lof [(0, .ref z)]) [] v 4 24 := by
    intro v a0 a1 a2 a3 E
    refine v_aload_n dX7_init_34 rfl ?_
    refine v_bipush dX7_init_35 ?_
    refine v_newl dX7_init_37 ka_86 rfl (fun a4 g1 => ?_)
    have E2 := EXL.new E (e := alA G 32 (fun _ => 0)) g1
    have E3 := E2.base (z := z) (e := (.inr (6, [.int (iI 0), .ref a0, .ref a1, .long (lI 0), .int (iI 0), .int (iI 0), .ref a2, .ref a3, .ref a4, .null, .null, .null, .null, .int (iI 0), .int (iI 0), .int (iI 0), .null, .int (iI 0)]) : va_E)) aup_s
    rw [aup_up] at E3
    refine v_putF dX7_init_39 f_X7_23 rfl (by decide +kernel) (by exact E2.bz aup_s) rfl rfl (Nat.le_of_ble_eq_true rfl) ?_
    exact v_lof [(0, .ref z)] (List.forall_mem_cons.mpr ⟨rfl, (fun _ h => nomatch h)⟩) (K5 _ a0 a1 a2 a3 a4 E3)
  have K3 : ∀ (v : AH) (a0 a1 a2 : Nat), EXL (aup w z (.inr (6, [.int (iI 0), .ref a0, .ref a1, .long (lI 0), .int (iI 0), .int (iI 0), .ref a2, .null, .null, .null, .null, .null, .null, .int (iI 0), .int (iI 0), .int (iI 0), .null, .int (iI 0)]) : va_E)) v [(a0, alA G 8 (fun _ => 0)), (a1, alA G 8 (fun _ => 0)), (a2, aiA G 4 (fun _ => 0))] → V l G mX7_init rX7_init Q X 27 (lof [(0, .ref z)]) [] v 3 20 := by
    intro v a0 a1 a2 E
    refine v_aload_n dX7_init_27 rfl ?_
    refine v_iconst dX7_init_28 ?_
    refine v_newi dX7_init_29 ka_87 rfl (fun a3 g1 => ?_)
    have E2 := EXL.new E (e := aiA G 4 (fun _ => 0)) g1
    have E3 := E2.base (z := z) (e := (.inr (6, [.int (iI 0), .ref a0, .ref a1, .long (lI 0), .int (iI 0), .int (iI 0), .ref a2, .ref a3, .null, .null, .null, .null, .null, .int (iI 0), .int (iI 0), .int (iI 0), .null, .int (iI 0)]) : va_E)) aup_s
    rw [aup_up] at E3
    refine v_putF dX7_init_31 f_X7_20 rfl (by decide +kernel) (by exact E2.bz aup_s) rfl rfl (Nat.le_of_ble_eq_true rfl) ?_
    exact v_lof [(0, .ref z)] (List.forall_mem_cons.mpr ⟨rfl, (fun _ h => nomatch h)⟩) (K4 _ a0 a1 a2 a3 E3)
  have K2 : ∀ (v : AH) (a0 a1 : Nat), EXL (aup w z (.inr (6, [.int (iI 0), .ref a0, .ref a1, .long (lI 0), .int (iI 0), .int (iI 0), .null, .null, .null, .null, .null, .null, .null, .int (iI 0), .int (iI 0), .int (iI 0), .null, .int (iI 0)]) : va_E)) v [(a0, alA G 8 (fun _ => 0)), (a1, alA G 8 (fun _ => 0))] → V l G mX7_init rX7_init Q X 20 (lof [(0, .ref z)]) [] v 2 16 := by
    intro v a0 a1 E
    refine v_aload_n dX7_init_20 rfl ?_
    refine v_iconst dX7_init_21 ?_
    refine v_newi dX7_init_22 ka_87 rfl (fun a2 g1 => ?_)
    have E2 := EXL.new E (e := aiA G 4 (fun _ => 0)) g1
    have E3 := E2.base (z := z) (e := (.inr (6, [.int (iI 0), .ref a0, .ref a1, .long (lI 0), .int (iI 0), .int (iI 0), .ref a2, .null, .null, .null, .null, .null, .null, .int (iI 0), .int (iI 0), .int (iI 0), .null, .int (iI 0)]) : va_E)) aup_s
    rw [aup_up] at E3
    refine v_putF dX7_init_24 f_X7_16 rfl (by decide +kernel) (by exact E2.bz aup_s) rfl rfl (Nat.le_of_ble_eq_true rfl) ?_
    exact v_lof [(0, .ref z)] (List.forall_mem_cons.mpr ⟨rfl, (fun _ h => nomatch h)⟩) (K3 _ a0 a1 a2 E3)
  have K1 : ∀ (v : AH) (a0 : Nat), EXL (aup w z (.inr (6, [.int (iI 0), .ref a0, .null, .long (lI 0), .int (iI 0), .int (iI 0), .null, .null, .null, .null, .null, .null, .null, .int (iI 0), .int (iI 0), .int (iI 0), .null, .int (iI 0)]) : va_E)) v [(a0, alA G 8 (fun _ => 0))] → V l G mX7_init rX7_init Q X 12 (lof [(0, .ref z)]) [] v 1 8 := by
    intro v a0 E
    refine v_aload_n dX7_init_12 rfl ?_
    refine v_bipush dX7_init_13 ?_
    refine v_newl dX7_init_15 ka_86 rfl (fun a1 g1 => ?_)
    have E2 := EXL.new E (e := alA G 8 (fun _ => 0)) g1
    have E3 := E2.base (z := z) (e := (.inr (6, [.int (iI 0), .ref a0, .ref a1, .long (lI 0), .int (iI 0), .int (iI 0), .null, .null, .null, .null, .null, .null, .null, .int (iI 0), .int (iI 0), .int (iI 0), .null, .int (iI 0)]) : va_E)) aup_s
    rw [aup_up] at E3
    refine v_putF dX7_init_17 f_X7_13 rfl (by decide +kernel) (by exact E2.bz aup_s) rfl rfl (Nat.le_of_ble_eq_true rfl) ?_
    exact v_lof [(0, .ref z)] (List.forall_mem_cons.mpr ⟨rfl, (fun _ h => nomatch h)⟩) (K2 _ a0 a1 E3)
  refine v_aload_n dX7_init_0 rfl ?_
  refine v_objInit dX7_init_1 km_X7_1 kn_obj ko_obj ?_
  refine v_aload_n dX7_init_4 rfl ?_
  refine v_bipush dX7_init_5 ?_
  refine v_newl dX7_init_7 ka_86 rfl (fun a0 g1 => ?_)
  have E2 := EXL.new (EXL.nil (w := w)) (e := alA G 8 (fun _ => 0)) g1
  have E3 := E2.base (z := z) (e := (.inr (6, [.int (iI 0), .ref a0, .null, .long (lI 0), .int (iI 0), .int (iI 0), .null, .null, .null, .null, .null, .null, .null, .int (iI 0), .int (iI 0), .int (iI 0), .null, .int (iI 0)]) : va_E)) h0
  refine v_putF dX7_init_9 f_X7_7 rfl (by decide +kernel) (by exact E2.bz h0) rfl rfl (Nat.le_of_ble_eq_true rfl) ?_
  exact v_lof [(0, .ref z)] (List.forall_mem_cons.mpr ⟨rfl, (fun _ h => nomatch h)⟩) (K1 _ a0 E3)
set_option maxRecDepth 100000 in
set_option maxHeartbeats 4000000 in
theorem s_X6_init {l : Launch} {G : GG} {w : AH} {Q : Option Value → AH → Prop} {X : String → AH → Prop} (hst : l.stackTraces = false) {x : Nat} (h0 : w x = some (.inr (5, [.null, .null, .null, .null]) : va_E)) (hQ : ∀ (w' : AH) (B : Nat → Nat), B 0 = x → EXL (aup w x (tdC (B 1) (B 10) (B 35) (B 37))) w' [(B 1, arA G 4 8 (fun k => some (B (2 + k)))), (B 2, stC 1970 1 1 0), (B 3, stC 1970 1 1 0), (B 4, stC 1970 1 1 0), (B 5, stC 1970 1 1 0), (B 6, stC 1970 1 1 0), (B 7, stC 1970 1 1 0), (B 8, stC 1970 1 1 0), (B 9, stC 1970 1 1 0), (B 10, arA G 5 4 (fun k => some (B (11 + 6 * k)))), (B 11, zoC 0 (B 12) (B 13) 0 (B 14) 0), (B 12, alA G 8 (fun _ => 0)), (B 13, aiA G 8 (fun _ => 0)), (B 14, arA G 6 2 (fun k => some (B (15 + k)))), (B 15, ruC 1 1 1 0 0), (B 16, ruC 1 1 1 0 0), (B 17, zoC 0 (B 18) (B 19) 0 (B 20) 0), (B 18, alA G 8 (fun _ => 0)), (B 19, aiA G 8 (fun _ => 0)), (B 20, arA G 6 2 (fun k => some (B (21 + k)))), (B 21, ruC 1 1 1 0 0), (B 22, ruC 1 1 1 0 0), (B 23, zoC 0 (B 24) (B 25) 0 (B 26) 0), (B 24, alA G 8 (fun _ => 0)), (B 25, aiA G 8 (fun _ => 0)), (B 26, arA G 6 2 (fun k => some (B (27 + k)))), (B 27, ruC 1 1 1 0 0), (B 28, ruC 1 1 1 0 0), (B 29, zoC 0 (B 30) (B 31) 0 (B 32) 0), (B 30, alA G 8 (fun _ => 0)), (B 31, aiA G 8 (fun _ => 0)), (B 32, arA G 6 2 (fun k => some (B (33 + k)))), (B 33, ruC 1 1 1 0 0), (B 34, ruC 1 1 1 0 0), (B 35, liC (B 36) 0 0), (B 36, acA G 30 (fun _ => 0)), (B 37, paC (B 38) 0), (B 38, acA G 30 (fun _ => 0))] → Q none w') : Ct l G mX6_init rX6_init [.ref x] w Q X := by
  refine ct_of hst mk_X6_init (Nat.le_of_ble_eq_true rfl) ?_
  have K96 : ∀ (v : AH) (sl s0 s1 s2 s3 s4 s5 s6 s7 zn z0 am0 ao0 ar0 p0 q0 z1 am1 ao1 ar1 p1 q1 z2 am2 ao2 ar2 p2 q2 z3 am3 ao3 ar3 p3 q3 li lc pg pc : Nat), EXL (aup w x (.inr (5, [.ref sl, .ref zn, .ref li, .ref pg]) : va_E)) v [(sl, arA G 4 8 (fup (fup (fup (fup (fup (fup (fup (fup (fun _ => none) 0 (some s0)) 1 (some s1)) 2 (some s2)) 3 (some s3)) 4 (some s4)) 5 (some s5)) 6 (some s6)) 7 (some s7))), (s0, stC 1970 1 1 0), (s1, stC 1970 1 1 0), (s2, stC 1970 1 1 0), (s3, stC 1970 1 1 0), (s4, stC 1970 1 1 0), (s5, stC 1970 1 1 0), (s6, stC 1970 1 1 0), (s7, stC 1970 1 1 0), (zn, arA G 5 4 (fup (fup (fup (fup (fun _ => none) 0 (some z0)) 1 (some z1)) 2 (some z2)) 3 (some z3))), (z0, zoC 0 am0 ao0 0 ar0 0), (am0, alA G 8 (fun _ => 0)), (ao0, aiA G 8 (fun _ => 0)), (ar0, arA G 6 2 (fun i => some (if i = 0 then p0 else q0))), (p0, ruC 1 1 1 0 0), (q0, ruC 1 1 1 0 0), (z1, zoC 0 am1 ao1 0 ar1 0), (am1, alA G 8 (fun _ => 0)), (ao1, aiA G 8 (fun _ => 0)), (ar1, arA G 6 2 (fun i => some (if i = 0 then p1 else q1))), (p1, ruC 1 1 1 0 0), (q1, ruC 1 1 1 0 0), (z2, zoC 0 am2 ao2 0 ar2 0), (am2, alA G 8 (fun _ => 0)), (ao2, aiA G 8 (fun _ => 0)), (ar2, arA G 6 2 (fun i => some (if i = 0 then p2 else q2))), (p2, ruC 1 1 1 0 0), (q2, ruC 1 1 1 0 0), (z3, zoC 0 am3 ao3 0 ar3 0), (am3, alA G 8 (fun _ => 0)), (ao3, aiA G 8 (fun _ => 0)), (ar3, arA G 6 2 (fun i => some (if i = 0 then p3 else q3))), (p3, ruC 1 1 1 0 0), (q3, ruC 1 1 1 0 0), (li, liC lc 0 0), (lc, acA G 30 (fun _ => 0)), (pg, paC pc 0), (pc, acA G 30 (fun _ => 0))] → V l G mX6_init rX6_init Q X 96 (lof [(0, .ref x)]) [] v 38 245 := by
    intro v sl s0 s1 s2 s3 s4 s5 s6 s7 zn z0 am0 ao0 ar0 p0 q0 z1 am1 ao1 ar1 p1 q1 z2 am2 ao2 ar2 p2 q2 z3 am3 ao3 ar3 p3 q3 li lc pg pc E
    refine v_hx (hw_ar (f' := fun k => some ([x, sl, s0, s1, s2, s3, s4, s5, s6, s7, zn, z0, am0, ao0, ar0, p0, q0, z1, am1, ao1, ar1, p1, q1, z2, am2, ao2, ar2, p2, q2, z3, am3, ao3, ar3, p3, q3, li, lc, pg, pc].getD (2 + k) 0)) (E.get 0 rfl) (fun j hj => by match j, hj with | 0, _ => rfl | 1, _ => rfl | 2, _ => rfl | 3, _ => rfl | 4, _ => rfl | 5, _ => rfl | 6, _ => rfl | 7, _ => rfl | (j + 8), hj => exact absurd hj (by omega))) ?_
    have E1 := E.put (k := 0) (e' := arA G 4 8 (fun k => some ([x, sl, s0, s1, s2, s3, s4, s5, s6, s7, zn, z0, am0, ao0, ar0, p0, q0, z1, am1, ao1, ar1, p1, q1, z2, am2, ao2, ar2, p2, q2, z3, am3, ao3, ar3, p3, q3, li, lc, pg, pc].getD (2 + k) 0))) rfl
    refine v_hx (hw_ar (f' := fun k => some ([x, sl, s0, s1, s2, s3, s4, s5, s6, s7, zn, z0, am0, ao0, ar0, p0, q0, z1, am1, ao1, ar1, p1, q1, z2, am2, ao2, ar2, p2, q2, z3, am3, ao3, ar3, p3, q3, li, lc, pg, pc].getD (11 + 6 * k) 0)) (E1.get 9 rfl) (fun j hj => by match j, hj with | 0, _ => rfl | 1, _ => rfl | 2, _ => rfl | 3, _ => rfl | (j + 4), hj => exact absurd hj (by omega))) ?_
    have E2 := E1.put (k := 9) (e' := arA G 5 4 (fun k => some ([x, sl, s0, s1, s2, s3, s4, s5, s6, s7, zn, z0, am0, ao0, ar0, p0, q0, z1, am1, ao1, ar1, p1, q1, z2, am2, ao2, ar2, p2, q2, z3, am3, ao3, ar3, p3, q3, li, lc, pg, pc].getD (11 + 6 * k) 0))) rfl
    refine v_hx (hw_ar (f' := fun k => some ([x, sl, s0, s1, s2, s3, s4, s5, s6, s7, zn, z0, am0, ao0, ar0, p0, q0, z1, am1, ao1, ar1, p1, q1, z2, am2, ao2, ar2, p2, q2, z3, am3, ao3, ar3, p3, q3, li, lc, pg, pc].getD (15 + k) 0)) (E2.get 13 rfl) (fun j hj => by match j, hj with | 0, _ => rfl | 1, _ => rfl | (j + 2), hj => exact absurd hj (by omega))) ?_
    have E3 := E2.put (k := 13) (e' := arA G 6 2 (fun k => some ([x, sl, s0, s1, s2, s3, s4, s5, s6, s7, zn, z0, am0, ao0, ar0, p0, q0, z1, am1, ao1, ar1, p1, q1, z2, am2, ao2, ar2, p2, q2, z3, am3, ao3, ar3, p3, q3, li, lc, pg, pc].getD (15 + k) 0))) rfl
    refine v_hx (hw_ar (f' := fun k => some ([x, sl, s0, s1, s2, s3, s4, s5, s6, s7, zn, z0, am0, ao0, ar0, p0, q0, z1, am1, ao1, ar1, p1, q1, z2, am2, ao2, ar2, p2, q2, z3, am3, ao3, ar3, p3, q3, li, lc, pg, pc].getD (21 + k) 0)) (E3.get 19 rfl) (fun j hj => by match j, hj with | 0, _ => rfl | 1, _ => rfl | (j + 2), hj => exact absurd hj (by omega))) ?_
    have E4 := E3.put (k := 19) (e' := arA G 6 2 (fun k => some ([x, sl, s0, s1, s2, s3, s4, s5, s6, s7, zn, z0, am0, ao0, ar0, p0, q0, z1, am1, ao1, ar1, p1, q1, z2, am2, ao2, ar2, p2, q2, z3, am3, ao3, ar3, p3, q3, li, lc, pg, pc].getD (21 + k) 0))) rfl
    refine v_hx (hw_ar (f' := fun k => some ([x, sl, s0, s1, s2, s3, s4, s5, s6, s7, zn, z0, am0, ao0, ar0, p0, q0, z1, am1, ao1, ar1, p1, q1, z2, am2, ao2, ar2, p2, q2, z3, am3, ao3, ar3, p3, q3, li, lc, pg, pc].getD (27 + k) 0)) (E4.get 25 rfl) (fun j hj => by match j, hj with | 0, _ => rfl | 1, _ => rfl | (j + 2), hj => exact absurd hj (by omega))) ?_
    have E5 := E4.put (k := 25) (e' := arA G 6 2 (fun k => some ([x, sl, s0, s1, s2, s3, s4, s5, s6, s7, zn, z0, am0, ao0, ar0, p0, q0, z1, am1, ao1, ar1, p1, q1, z2, am2, ao2, ar2, p2, q2, z3, am3, ao3, ar3, p3, q3, li, lc, pg, pc].getD (27 + k) 0))) rfl
    refine v_hx (hw_ar (f' := fun k => some ([x, sl, s0, s1, s2, s3, s4, s5, s6, s7, zn, z0, am0, ao0, ar0, p0, q0, z1, am1, ao1, ar1, p1, q1, z2, am2, ao2, ar2, p2, q2, z3, am3, ao3, ar3, p3, q3, li, lc, pg, pc].getD (33 + k) 0)) (E5.get 31 rfl) (fun j hj => by match j, hj with | 0, _ => rfl | 1, _ => rfl | (j + 2), hj => exact absurd hj (by omega))) ?_
    have E6 := E5.put (k := 31) (e' := arA G 6 2 (fun k => some ([x, sl, s0, s1, s2, s3, s4, s5, s6, s7, zn, z0, am0, ao0, ar0, p0, q0, z1, am1, ao1, ar1, p1, q1, z2, am2, ao2, ar2, p2, q2, z3, am3, ao3, ar3, p3, q3, li, lc, pg, pc].getD (33 + k) 0))) rfl
    exact v_vret dX6_init_96 rfl (by exact hQ _ (fun k => [x, sl, s0, s1, s2, s3, s4, s5, s6, s7, zn, z0, am0, ao0, ar0, p0, q0, z1, am1, ao1, ar1, p1, q1, z2, am2, ao2, ar2, p2, q2, z3, am3, ao3, ar3, p3, q3, li, lc, pg, pc].getD k 0) rfl E6)
  have K85 : ∀ (v : AH) (sl s0 s1 s2 s3 s4 s5 s6 s7 zn z0 am0 ao0 ar0 p0 q0 z1 am1 ao1 ar1 p1 q1 z2 am2 ao2 ar2 p2 q2 z3 am3 ao3 ar3 p3 q3 li lc : Nat), EXL (aup w x (.inr (5, [.ref sl, .ref zn, .ref li, .null]) : va_E)) v [(sl, arA G 4 8 (fup (fup (fup (fup (fup (fup (fup (fup (fun _ => none) 0 (some s0)) 1 (some s1)) 2 (some s2)) 3 (some s3)) 4 (some s4)) 5 (some s5)) 6 (some s6)) 7 (some s7))), (s0, stC 1970 1 1 0), (s1, stC 1970 1 1 0), (s2, stC 1970 1 1 0), (s3, stC 1970 1 1 0), (s4, stC 1970 1 1 0), (s5, stC 1970 1 1 0), (s6, stC 1970 1 1 0), (s7, stC 1970 1 1 0), (zn, arA G 5 4 (fup (fup (fup (fup (fun _ => none) 0 (some z0)) 1 (some z1)) 2 (some z2)) 3 (some z3))), (z0, zoC 0 am0 ao0 0 ar0 0), (am0, alA G 8 (fun _ => 0)), (ao0, aiA G 8 (fun _ => 0)), (ar0, arA G 6 2 (fun i => some (if i = 0 then p0 else q0))), (p0, ruC 1 1 1 0 0), (q0, ruC 1 1 1 0 0), (z1, zoC 0 am1 ao1 0 ar1 0), (am1, alA G 8 (fun _ => 0)), (ao1, aiA G 8 (fun _ => 0)), (ar1, arA G 6 2 (fun i => some (if i = 0 then p1 else q1))), (p1, ruC 1 1 1 0 0), (q1, ruC 1 1 1 0 0), (z2, zoC 0 am2 ao2 0 ar2 0), (am2, alA G 8 (fun _ => 0)), (ao2, aiA G 8 (fun _ => 0)), (ar2, arA G 6 2 (fun i => some (if i = 0 then p2 else q2))), (p2, ruC 1 1 1 0 0), (q2, ruC 1 1 1 0 0), (z3, zoC 0 am3 ao3 0 ar3 0), (am3, alA G 8 (fun _ => 0)), (ao3, aiA G 8 (fun _ => 0)), (ar3, arA G 6 2 (fun i => some (if i = 0 then p3 else q3))), (p3, ruC 1 1 1 0 0), (q3, ruC 1 1 1 0 0), (li, liC lc 0 0), (lc, acA G 30 (fun _ => 0))] → V l G mX6_init rX6_init Q X 85 (lof [(0, .ref x)]) [] v 36 213 := by
    intro v sl s0 s1 s2 s3 s4 s5 s6 s7 zn z0 am0 ao0 ar0 p0 q0 z1 am1 ao1 ar1 p1 q1 z2 am2 ao2 ar2 p2 q2 z3 am3 ao3 ar3 p3 q3 li lc E
    refine v_aload_n dX6_init_85 rfl ?_
    refine v_new (fs := [.null, .int (iI 0)]) dX6_init_86 kc_X6_32 kx_X2 kz_X2 ck_X2 (fun j hj => by match j, hj with | 0, _ => rfl | 1, _ => rfl | (j + 2), hj => exact absurd hj (by omega)) (fun pg g1 => ?_)
    have E2 := E.new (e := (.inr (1, [.null, .int (iI 0)]) : va_E)) g1
    refine v_dup dX6_init_89 rfl ?_
    refine v_I0 (rm' := rX2_init) dX6_init_90 km_X6_34 kn_X2_init kz_X2 mk_X2_init rfl rfl rfl ⟨Nat.le_of_ble_eq_true rfl, Nat.le_of_ble_eq_true rfl⟩ ⟨Nat.le_of_ble_eq_true rfl, Nat.le_of_ble_eq_true rfl⟩ (Nat.le_of_ble_eq_true rfl) ?_
    refine s_X2_init hst (E2.get 36 rfl) (fun w5 pc F => ?_)
    have E3 := (E2.put (k := 36) (e' := paC pc 0) rfl).trans F
    have E4 := E3.base (z := x) (e := (.inr (5, [.ref sl, .ref zn, .ref li, .ref pg]) : va_E)) aup_s
    rw [aup_up] at E4
    refine v_putF dX6_init_93 f_X6_35 rfl (by decide +kernel) (by exact E3.bz aup_s) rfl rfl (Nat.le_of_ble_eq_true rfl) ?_
    exact v_lof [(0, .ref x)] (List.forall_mem_cons.mpr ⟨rfl, (fun _ h => nomatch h)⟩) (K96 _ sl s0 s1 s2 s3 s4 s5 s6 s7 zn z0 am0 ao0 ar0 p0 q0 z1 am1 ao1 ar1 p1 q1 z2 am2 ao2 ar2 p2 q2 z3 am3 ao3 ar3 p3 q3 li lc pg pc E4)
  have K50_4 : ∀ (v : AH) (sl s0 s1 s2 s3 s4 s5 s6 s7 zn z0 am0 ao0 ar0 p0 q0 z1 am1 ao1 ar1 p1 q1 z2 am2 ao2 ar2 p2 q2 z3 am3 ao3 ar3 p3 q3 : Nat), EXL (aup w x (.inr (5, [.ref sl, .ref zn, .null, .null]) : va_E)) v [(sl, arA G 4 8 (fup (fup (fup (fup (fup (fup (fup (fup (fun _ => none) 0 (some s0)) 1 (some s1)) 2 (some s2)) 3 (some s3)) 4 (some s4)) 5 (some s5)) 6 (some s6)) 7 (some s7))), (s0, stC 1970 1 1 0), (s1, stC 1970 1 1 0), (s2, stC 1970 1 1 0), (s3, stC 1970 1 1 0), (s4, stC 1970 1 1 0), (s5, stC 1970 1 1 0), (s6, stC 1970 1 1 0), (s7, stC 1970 1 1 0), (zn, arA G 5 4 (fup (fup (fup (fup (fun _ => none) 0 (some z0)) 1 (some z1)) 2 (some z2)) 3 (some z3))), (z0, zoC 0 am0 ao0 0 ar0 0), (am0, alA G 8 (fun _ => 0)), (ao0, aiA G 8 (fun _ => 0)), (ar0, arA G 6 2 (fun i => some (if i = 0 then p0 else q0))), (p0, ruC 1 1 1 0 0), (q0, ruC 1 1 1 0 0), (z1, zoC 0 am1 ao1 0 ar1 0), (am1, alA G 8 (fun _ => 0)), (ao1, aiA G 8 (fun _ => 0)), (ar1, arA G 6 2 (fun i => some (if i = 0 then p1 else q1))), (p1, ruC 1 1 1 0 0), (q1, ruC 1 1 1 0 0), (z2, zoC 0 am2 ao2 0 ar2 0), (am2, alA G 8 (fun _ => 0)), (ao2, aiA G 8 (fun _ => 0)), (ar2, arA G 6 2 (fun i => some (if i = 0 then p2 else q2))), (p2, ruC 1 1 1 0 0), (q2, ruC 1 1 1 0 0), (z3, zoC 0 am3 ao3 0 ar3 0), (am3, alA G 8 (fun _ => 0)), (ao3, aiA G 8 (fun _ => 0)), (ar3, arA G 6 2 (fun i => some (if i = 0 then p3 else q3))), (p3, ruC 1 1 1 0 0), (q3, ruC 1 1 1 0 0)] → V l G mX6_init rX6_init Q X 50 (lof [(0, .ref x), (1, .int (iI 4))]) [] v 34 180 := by
    intro v sl s0 s1 s2 s3 s4 s5 s6 s7 zn z0 am0 ao0 ar0 p0 q0 z1 am1 ao1 ar1 p1 q1 z2 am2 ao2 ar2 p2 q2 z3 am3 ao3 ar3 p3 q3 E
    refine v_iload_n dX6_init_50 rfl ?_
    refine v_iconst dX6_init_51 ?_
    refine v_icmp_ge 74 dX6_init_52 (fun h_52 => ?_) (fun h_52 => ?_)
    rotate_left
    · (exfalso; omega)
    refine v_aload_n dX6_init_74 rfl ?_
    refine v_new (fs := [.null, .int (iI 0), .int (iI 0)]) dX6_init_75 kc_X6_25 kx_X1 kz_X1 ck_X1 (fun j hj => by match j, hj with | 0, _ => rfl | 1, _ => rfl | 2, _ => rfl | (j + 3), hj => exact absurd hj (by omega)) (fun li g1 => ?_)
    have E2 := E.new (e := (.inr (0, [.null, .int (iI 0), .int (iI 0)]) : va_E)) g1
    refine v_dup dX6_init_78 rfl ?_
    refine v_I0 (rm' := rX1_init) dX6_init_79 km_X6_27 kn_X1_init kz_X1 mk_X1_init rfl rfl rfl ⟨Nat.le_of_ble_eq_true rfl, Nat.le_of_ble_eq_true rfl⟩ ⟨Nat.le_of_ble_eq_true rfl, Nat.le_of_ble_eq_true rfl⟩ (Nat.le_of_ble_eq_true rfl) ?_
    refine s_X1_init hst (E2.get 34 rfl) (fun w5 lc F => ?_)
    have E3 := (E2.put (k := 34) (e' := liC lc 0 0) rfl).trans F
    have E4 := E3.base (z := x) (e := (.inr (5, [.ref sl, .ref zn, .ref li, .null]) : va_E)) aup_s
    rw [aup_up] at E4
    refine v_putF dX6_init_82 f_X6_28 rfl (by decide +kernel) (by exact E3.bz aup_s) rfl rfl (Nat.le_of_ble_eq_true rfl) ?_
    exact v_lof [(0, .ref x)] (List.forall_mem_cons.mpr ⟨rfl, (fun _ h => nomatch h)⟩) (K85 _ sl s0 s1 s2 s3 s4 s5 s6 s7 zn z0 am0 ao0 ar0 p0 q0 z1 am1 ao1 ar1 p1 q1 z2 am2 ao2 ar2 p2 q2 z3 am3 ao3 ar3 p3 q3 li lc E4)
  have K50_3 : ∀ (v : AH) (sl s0 s1 s2 s3 s4 s5 s6 s7 zn z0 am0 ao0 ar0 p0 q0 z1 am1 ao1 ar1 p1 q1 z2 am2 ao2 ar2 p2 q2 : Nat), EXL (aup w x (.inr (5, [.ref sl, .ref zn, .null, .null]) : va_E)) v [(sl, arA G 4 8 (fup (fup (fup (fup (fup (fup (fup (fup (fun _ => none) 0 (some s0)) 1 (some s1)) 2 (some s2)) 3 (some s3)) 4 (some s4)) 5 (some s5)) 6 (some s6)) 7 (some s7))), (s0, stC 1970 1 1 0), (s1, stC 1970 1 1 0), (s2, stC 1970 1 1 0), (s3, stC 1970 1 1 0), (s4, stC 1970 1 1 0), (s5, stC 1970 1 1 0), (s6, stC 1970 1 1 0), (s7, stC 1970 1 1 0), (zn, arA G 5 4 (fup (fup (fup (fun _ => none) 0 (some z0)) 1 (some z1)) 2 (some z2))), (z0, zoC 0 am0 ao0 0 ar0 0), (am0, alA G 8 (fun _ => 0)), (ao0, aiA G 8 (fun _ => 0)), (ar0, arA G 6 2 (fun i => some (if i = 0 then p0 else q0))), (p0, ruC 1 1 1 0 0), (q0, ruC 1 1 1 0 0), (z1, zoC 0 am1 ao1 0 ar1 0), (am1, alA G 8 (fun _ => 0)), (ao1, aiA G 8 (fun _ => 0)), (ar1, arA G 6 2 (fun i => some (if i = 0 then p1 else q1))), (p1, ruC 1 1 1 0 0), (q1, ruC 1 1 1 0 0), (z2, zoC 0 am2 ao2 0 ar2 0), (am2, alA G 8 (fun _ => 0)), (ao2, aiA G 8 (fun _ => 0)), (ar2, arA G 6 2 (fun i => some (if i = 0 then p2 else q2))), (p2, ruC 1 1 1 0 0), (q2, ruC 1 1 1 0 0)] → V l G mX6_init rX6_init Q X 50 (lof [(0, .ref x), (1, .int (iI 3))]) [] v 28 146 := by
    intro v sl s0 s1 s2 s3 s4 s5 s6 s7 zn z0 am0 ao0 ar0 p0 q0 z1 am1 ao1 ar1 p1 q1 z2 am2 ao2 ar2 p2 q2 E
    refine v_iload_n dX6_init_50 rfl ?_
    refine v_iconst dX6_init_51 ?_
    refine v_icmp_ge 74 dX6_init_52 (fun h_52 => ?_) (fun h_52 => ?_)
    · (exfalso; omega)
    refine v_aload_n dX6_init_55 rfl ?_
    refine v_get dX6_init_56 f_X6_20 (by exact E.bz aup_s) rfl ?_
    refine v_iload_n dX6_init_59 rfl ?_
    refine v_new (fs := [.int (iI 0), .null, .null, .int (iI 0), .null, .int (iI 0)]) dX6_init_60 kc_X6_18 kx_X5 kz_X5 ck_X5 (fun j hj => by match j, hj with | 0, _ => rfl | 1, _ => rfl | 2, _ => rfl | 3, _ => rfl | 4, _ => rfl | 5, _ => rfl | (j + 6), hj => exact absurd hj (by omega)) (fun z3 g1 => ?_)
    have E2 := E.new (e := (.inr (4, [.int (iI 0), .null, .null, .int (iI 0), .null, .int (iI 0)]) : va_E)) g1
    refine v_dup dX6_init_63 rfl ?_
    refine v_I0 (rm' := rX5_init) dX6_init_64 km_X6_24 kn_X5_init kz_X5 mk_X5_init rfl rfl rfl ⟨Nat.le_of_ble_eq_true rfl, Nat.le_of_ble_eq_true rfl⟩ ⟨Nat.le_of_ble_eq_true rfl, Nat.le_of_ble_eq_true rfl⟩ (Nat.le_of_ble_eq_true rfl) ?_
    refine s_X5_init hst (E2.get 28 rfl) (fun w5 am3 ao3 ar3 p3 q3 F => ?_)
    have E3 := (E2.put (k := 28) (e' := zoC 0 am3 ao3 0 ar3 0) rfl).trans F
    refine v_aast (t := 5) dX6_init_67 (fun _ => rfl) (ci := 4) rfl (by exact E3.get 9 rfl) (by exact E3.get 28 rfl) ?_
    have E4 := E3.put (k := 9) (e' := arA G 5 4 (fup (fup (fup (fup (fun _ => none) 0 (some z0)) 1 (some z1)) 2 (some z2)) 3 (some z3))) rfl
    refine v_iinc dX6_init_68 rfl ?_
    refine v_goto 50 dX6_init_71 ?_
    exact v_lof [(0, .ref x), (1, .int (iI 4))] (List.forall_mem_cons.mpr ⟨rfl, (List.forall_mem_cons.mpr ⟨rfl, (fun _ h => nomatch h)⟩)⟩) (K50_4 _ sl s0 s1 s2 s3 s4 s5 s6 s7 zn z0 am0 ao0 ar0 p0 q0 z1 am1 ao1 ar1 p1 q1 z2 am2 ao2 ar2 p2 q2 z3 am3 ao3 ar3 p3 q3 E4)
  have K50_2 : ∀ (v : AH) (sl s0 s1 s2 s3 s4 s5 s6 s7 zn z0 am0 ao0 ar0 p0 q0 z1 am1 ao1 ar1 p1 q1 : Nat), EXL (aup w x (.inr (5, [.ref sl, .ref zn, .null, .null]) : va_E)) v [(sl, arA G 4 8 (fup (fup (fup (fup (fup (fup (fup (fup (fun _ => none) 0 (some s0)) 1 (some s1)) 2 (some s2)) 3 (some s3)) 4 (some s4)) 5 (some s5)) 6 (some s6)) 7 (some s7))), (s0, stC 1970 1 1 0), (s1, stC 1970 1 1 0), (s2, stC 1970 1 1 0), (s3, stC 1970 1 1 0), (s4, stC 1970 1 1 0), (s5, stC 1970 1 1 0), (s6, stC 1970 1 1 0), (s7, stC 1970 1 1 0), (zn, arA G 5 4 (fup (fup (fun _ => none) 0 (some z0)) 1 (some z1))), (z0, zoC 0 am0 ao0 0 ar0 0), (am0, alA G 8 (fun _ => 0)), (ao0, aiA G 8 (fun _ => 0)), (ar0, arA G 6 2 (fun i => some (if i = 0 then p0 else q0))), (p0, ruC 1 1 1 0 0), (q0, ruC 1 1 1 0 0), (z1, zoC 0 am1 ao1 0 ar1 0), (am1, alA G 8 (fun _ => 0)), (ao1, aiA G 8 (fun _ => 0)), (ar1, arA G 6 2 (fun i => some (if i = 0 then p1 else q1))), (p1, ruC 1 1 1 0 0), (q1, ruC 1 1 1 0 0)] → V l G mX6_init rX6_init Q X 50 (lof [(0, .ref x), (1, .int (iI 2))]) [] v 22 112 := by
    intro v sl s0 s1 s2 s3 s4 s5 s6 s7 zn z0 am0 ao0 ar0 p0 q0 z1 am1 ao1 ar1 p1 q1 E
    refine v_iload_n dX6_init_50 rfl ?_
    refine v_iconst dX6_init_51 ?_
    refine v_icmp_ge 74 dX6_init_52 (fun h_52 => ?_) (fun h_52 => ?_)
    · (exfalso; omega)
    refine v_aload_n dX6_init_55 rfl ?_
    refine v_get dX6_init_56 f_X6_20 (by exact E.bz aup_s) rfl ?_
    refine v_iload_n dX6_init_59 rfl ?_
    refine v_new (fs := [.int (iI 0), .null, .null, .int (iI 0), .null, .int (iI 0)]) dX6_init_60 kc_X6_18 kx_X5 kz_X5 ck_X5 (fun j hj => by match j, hj with | 0, _ => rfl | 1, _ => rfl | 2, _ => rfl | 3, _ => rfl | 4, _ => rfl | 5, _ => rfl | (j + 6), hj => exact absurd hj (by omega)) (fun z2 g1 => ?_)
    have E2 := E.new (e := (.inr (4, [.int (iI 0), .null, .null, .int (iI 0), .null, .int (iI 0)]) : va_E)) g1
    refine v_dup dX6_init_63 rfl ?_
    refine v_I0 (rm' := rX5_init) dX6_init_64 km_X6_24 kn_X5_init kz_X5 mk_X5_init rfl rfl rfl ⟨Nat.le_of_ble_eq_true rfl, Nat.le_of_ble_eq_true rfl⟩ ⟨Nat.le_of_ble_eq_true rfl, Nat.le_of_ble_eq_true rfl⟩ (Nat.le_of_ble_eq_true rfl) ?_
    refine s_X5_init hst (E2.get 22 rfl) (fun w5 am2 ao2 ar2 p2 q2 F => ?_)
    have E3 := (E2.put (k := 22) (e' := zoC 0 am2 ao2 0 ar2 0) rfl).trans F
    refine v_aast (t := 5) dX6_init_67 (fun _ => rfl) (ci := 4) rfl (by exact E3.get 9 rfl) (by exact E3.get 22 rfl) ?_
    have E4 := E3.put (k := 9) (e' := arA G 5 4 (fup (fup (fup (fun _ => none) 0 (some z0)) 1 (some z1)) 2 (some z2))) rfl
    refine v_iinc dX6_init_68 rfl ?_
    refine v_goto 50 dX6_init_71 ?_
    exact v_lof [(0, .ref x), (1, .int (iI 3))] (List.forall_mem_cons.mpr ⟨rfl, (List.forall_mem_cons.mpr ⟨rfl, (fun _ h => nomatch h)⟩)⟩) (K50_3 _ sl s0 s1 s2 s3 s4 s5 s6 s7 zn z0 am0 ao0 ar0 p0 q0 z1 am1 ao1 ar1 p1 q1 z2 am2 ao2 ar2 p2 q2 E4)
  have K50_1 : ∀ (v : AH) (sl s0 s1 s2 s3 s4 s5 s6 s7 zn z0 am0 ao0 ar0 p0 q0 : Nat), EXL (aup w x (.inr (5, [.ref sl, .ref zn, .null, .null]) : va_E)) v [(sl, arA G 4 8 (fup (fup (fup (fup (fup (fup (fup (fup (fun _ => none) 0 (some s0)) 1 (some s1)) 2 (some s2)) 3 (some s3)) 4 (some s4)) 5 (some s5)) 6 (some s6)) 7 (some s7))), (s0, stC 1970 1 1 0), (s1, stC 1970 1 1 0), (s2, stC 1970 1 1 0), (s3, stC 1970 1 1 0), (s4, stC 1970 1 1 0), (s5, stC 1970 1 1 0), (s6, stC 1970 1 1 0), (s7, stC 1970 1 1 0), (zn, arA G 5 4 (fup (fun _ => none) 0 (some z0))), (z0, zoC 0 am0 ao0 0 ar0 0), (am0, alA G 8 (fun _ => 0)), (ao0, aiA G 8 (fun _ => 0)), (ar0, arA G 6 2 (fun i => some (if i = 0 then p0 else q0))), (p0, ruC 1 1 1 0 0), (q0, ruC 1 1 1 0 0)] → V l G mX6_init rX6_init Q X 50 (lof [(0, .ref x), (1, .int (iI 1))]) [] v 16 78 := by
    intro v sl s0 s1 s2 s3 s4 s5 s6 s7 zn z0 am0 ao0 ar0 p0 q0 E
    refine v_iload_n dX6_init_50 rfl ?_
    refine v_iconst dX6_init_51 ?_
    refine v_icmp_ge 74 dX6_init_52 (fun h_52 => ?_) (fun h_52 => ?_)
    · (exfalso; omega)
    refine v_aload_n dX6_init_55 rfl ?_
    refine v_get dX6_init_56 f_X6_20 (by exact E.bz aup_s) rfl ?_
    refine v_iload_n dX6_init_59 rfl ?_
    refine v_new (fs := [.int (iI 0), .null, .null, .int (iI 0), .null, .int (iI 0)]) dX6_init_60 kc_X6_18 kx_X5 kz_X5 ck_X5 (fun j hj => by match j, hj with | 0, _ => rfl | 1, _ => rfl | 2, _ => rfl | 3, _ => rfl | 4, _ => rfl | 5, _ => rfl | (j + 6), hj => exact absurd hj (by omega)) (fun z1 g1 => ?_)
    have E2 := E.new (e := (.inr (4, [.int (iI 0), .null, .null, .int (iI 0), .null, .int (iI 0)]) : va_E)) g1
    refine v_dup dX6_init_63 rfl ?_
    refine v_I0 (rm' := rX5_init) dX6_init_64 km_X6_24 kn_X5_init kz_X5 mk_X5_init rfl rfl rfl ⟨Nat.le_of_ble_eq_true rfl, Nat.le_of_ble_eq_true rfl⟩ ⟨Nat.le_of_ble_eq_true rfl, Nat.le_of_ble_eq_true rfl⟩ (Nat.le_of_ble_eq_true rfl) ?_
    refine s_X5_init hst (E2.get 16 rfl) (fun w5 am1 ao1 ar1 p1 q1 F => ?_)
    have E3 := (E2.put (k := 16) (e' := zoC 0 am1 ao1 0 ar1 0) rfl).trans F
    refine v_aast (t := 5) dX6_init_67 (fun _ => rfl) (ci := 4) rfl (by exact E3.get 9 rfl) (by exact E3.get 16 rfl) ?_
    have E4 := E3.put (k := 9) (e' := arA G 5 4 (fup (fup (fun _ => none) 0 (some z0)) 1 (some z1))) rfl
    refine v_iinc dX6_init_68 rfl ?_
    refine v_goto 50 dX6_init_71 ?_
    exact v_lof [(0, .ref x), (1, .int (iI 2))] (List.forall_mem_cons.mpr ⟨rfl, (List.forall_mem_cons.mpr ⟨rfl, (fun _ h => nomatch h)⟩)⟩) (K50_2 _ sl s0 s1 s2 s3 s4 s5 s6 s7 zn z0 am0 ao0 ar0 p0 q0 z1 am1 ao1 ar1 p1 q1 E4)
  have K50_0 : ∀ (v : AH) (sl s0 s1 s2 s3 s4 s5 s6 s7 zn : Nat), EXL (aup w x (.inr (5, [.ref sl, .ref zn, .null, .null]) : va_E)) v [(sl, arA G 4 8 (fup (fup (fup (fup (fup (fup (fup (fup (fun _ => none) 0 (some s0)) 1 (some s1)) 2 (some s2)) 3 (some s3)) 4 (some s4)) 5 (some s5)) 6 (some s6)) 7 (some s7))), (s0, stC 1970 1 1 0), (s1, stC 1970 1 1 0), (s2, stC 1970 1 1 0), (s3, stC 1970 1 1 0), (s4, stC 1970 1 1 0), (s5, stC 1970 1 1 0), (s6, stC 1970 1 1 0), (s7, stC 1970 1 1 0), (zn, arA G 5 4 (fun _ => none))] → V l G mX6_init rX6_init Q X 50 (lof [(0, .ref x), (1, .int (iI 0))]) [] v 10 44 := by
    intro v sl s0 s1 s2 s3 s4 s5 s6 s7 zn E
    refine v_iload_n dX6_init_50 rfl ?_
    refine v_iconst dX6_init_51 ?_
    refine v_icmp_ge 74 dX6_init_52 (fun h_52 => ?_) (fun h_52 => ?_)
    · (exfalso; omega)
    refine v_aload_n dX6_init_55 rfl ?_
    refine v_get dX6_init_56 f_X6_20 (by exact E.bz aup_s) rfl ?_
    refine v_iload_n dX6_init_59 rfl ?_
    refine v_new (fs := [.int (iI 0), .null, .null, .int (iI 0), .null, .int (iI 0)]) dX6_init_60 kc_X6_18 kx_X5 kz_X5 ck_X5 (fun j hj => by match j, hj with | 0, _ => rfl | 1, _ => rfl | 2, _ => rfl | 3, _ => rfl | 4, _ => rfl | 5, _ => rfl | (j + 6), hj => exact absurd hj (by omega)) (fun z0 g1 => ?_)
    have E2 := E.new (e := (.inr (4, [.int (iI 0), .null, .null, .int (iI 0), .null, .int (iI 0)]) : va_E)) g1
    refine v_dup dX6_init_63 rfl ?_
    refine v_I0 (rm' := rX5_init) dX6_init_64 km_X6_24 kn_X5_init kz_X5 mk_X5_init rfl rfl rfl ⟨Nat.le_of_ble_eq_true rfl, Nat.le_of_ble_eq_true rfl⟩ ⟨Nat.le_of_ble_eq_true rfl, Nat.le_of_ble_eq_true rfl⟩ (Nat.le_of_ble_eq_true rfl) ?_
    refine s_X5_init hst (E2.get 10 rfl) (fun w5 am0 ao0 ar0 p0 q0 F => ?_)
    have E3 := (E2.put (k := 10) (e' := zoC 0 am0 ao0 0 ar0 0) rfl).trans F
    refine v_aast (t := 5) dX6_init_67 (fun _ => rfl) (ci := 4) rfl (by exact E3.get 9 rfl) (by exact E3.get 10 rfl) ?_
    have E4 := E3.put (k := 9) (e' := arA G 5 4 (fup (fun _ => none) 0 (some z0))) rfl
    refine v_iinc dX6_init_68 rfl ?_
    refine v_goto 50 dX6_init_71 ?_
    exact v_lof [(0, .ref x), (1, .int (iI 1))] (List.forall_mem_cons.mpr ⟨rfl, (List.forall_mem_cons.mpr ⟨rfl, (fun _ h => nomatch h)⟩)⟩) (K50_1 _ sl s0 s1 s2 s3 s4 s5 s6 s7 zn z0 am0 ao0 ar0 p0 q0 E4)
  have K15_8 : ∀ (v : AH) (sl s0 s1 s2 s3 s4 s5 s6 s7 : Nat), EXL (aup w x (.inr (5, [.ref sl, .null, .null, .null]) : va_E)) v [(sl, arA G 4 8 (fup (fup (fup (fup (fup (fup (fup (fup (fun _ => none) 0 (some s0)) 1 (some s1)) 2 (some s2)) 3 (some s3)) 4 (some s4)) 5 (some s5)) 6 (some s6)) 7 (some s7))), (s0, stC 1970 1 1 0), (s1, stC 1970 1 1 0), (s2, stC 1970 1 1 0), (s3, stC 1970 1 1 0), (s4, stC 1970 1 1 0), (s5, stC 1970 1 1 0), (s6, stC 1970 1 1 0), (s7, stC 1970 1 1 0)] → V l G mX6_init rX6_init Q X 15 (lof [(0, .ref x), (1, .int (iI 8))]) [] v 9 40 := by
    intro v sl s0 s1 s2 s3 s4 s5 s6 s7 E
    refine v_iload_n dX6_init_15 rfl ?_
    refine v_bipush dX6_init_16 ?_
    refine v_icmp_ge 40 dX6_init_18 (fun h_18 => ?_) (fun h_18 => ?_)
    rotate_left
    · (exfalso; omega)
    refine v_aload_n dX6_init_40 rfl ?_
    refine v_iconst dX6_init_41 ?_
    refine v_newq (t := 5) dX6_init_42 kc_X6_18 (fun U h => h.2.2.2.2.2.1.2.1) (fun _ => rfl) rfl (fun zn g1 => ?_)
    have E2 := E.new (e := arA G 5 4 (fun _ => none)) g1
    have E3 := E2.base (z := x) (e := (.inr (5, [.ref sl, .ref zn, .null, .null]) : va_E)) aup_s
    rw [aup_up] at E3
    refine v_putF dX6_init_45 f_X6_20 rfl (by decide +kernel) (by exact E2.bz aup_s) rfl rfl (Nat.le_of_ble_eq_true rfl) ?_
    refine v_iconst dX6_init_48 ?_
    refine v_istore_n dX6_init_49 (by decide) ?_
    exact v_lof [(0, .ref x), (1, .int (iI 0))] (List.forall_mem_cons.mpr ⟨rfl, (List.forall_mem_cons.mpr ⟨rfl, (fun _ h => nomatch h)⟩)⟩) (K50_0 _ sl s0 s1 s2 s3 s4 s5 s6 s7 zn E3)
  have K15_7 : ∀ (v : AH) (sl s0 s1 s2 s3 s4 s5 s6 : Nat), EXL (aup w x (.inr (5, [.ref sl, .null, .null, .null]) : va_E)) v [(sl, arA G 4 8 (fup (fup (fup (fup (fup (fup (fup (fun _ => none) 0 (some s0)) 1 (some s1)) 2 (some s2)) 3 (some s3)) 4 (some s4)) 5 (some s5)) 6 (some s6))), (s0, stC 1970 1 1 0), (s1, stC 1970 1 1 0), (s2, stC 1970 1 1 0), (s3, stC 1970 1 1 0), (s4, stC 1970 1 1 0), (s5, stC 1970 1 1 0), (s6, stC 1970 1 1 0)] → V l G mX6_init rX6_init Q X 15 (lof [(0, .ref x), (1, .int (iI 7))]) [] v 8 36 := by
    intro v sl s0 s1 s2 s3 s4 s5 s6 E
    refine v_iload_n dX6_init_15 rfl ?_
    refine v_bipush dX6_init_16 ?_
    refine v_icmp_ge 40 dX6_init_18 (fun h_18 => ?_) (fun h_18 => ?_)
    · (exfalso; omega)
    refine v_aload_n dX6_init_21 rfl ?_
    refine v_get dX6_init_22 f_X6_13 (by exact E.bz aup_s) rfl ?_
    refine v_iload_n dX6_init_25 rfl ?_
    refine v_new (fs := [.int (iI 0), .int (iI 0), .int (iI 0), .long (lI 0)]) dX6_init_26 kc_X6_11 kx_X4 kz_X4 ck_X4 (fun j hj => by match j, hj with | 0, _ => rfl | 1, _ => rfl | 2, _ => rfl | 3, _ => rfl | (j + 4), hj => exact absurd hj (by omega)) (fun s7 g1 => ?_)
    have E2 := E.new (e := stC 0 0 0 0) g1
    refine v_dup dX6_init_29 rfl ?_
    refine v_I0 (rm' := rX4_init) dX6_init_30 km_X6_17 kn_X4_init kz_X4 mk_X4_init rfl rfl rfl ⟨Nat.le_of_ble_eq_true rfl, Nat.le_of_ble_eq_true rfl⟩ ⟨Nat.le_of_ble_eq_true rfl, Nat.le_of_ble_eq_true rfl⟩ (Nat.le_of_ble_eq_true rfl) ?_
    refine s_X4_init hst (E2.get 8 rfl) ?_
    have E3 := E2.put (k := 8) (e' := stC 1970 1 1 0) rfl
    refine v_aast (t := 4) dX6_init_33 (fun _ => rfl) (ci := 3) rfl (by exact E3.get 0 rfl) (by exact E3.get 8 rfl) ?_
    have E4 := E3.put (k := 0) (e' := arA G 4 8 (fup (fup (fup (fup (fup (fup (fup (fup (fun _ => none) 0 (some s0)) 1 (some s1)) 2 (some s2)) 3 (some s3)) 4 (some s4)) 5 (some s5)) 6 (some s6)) 7 (some s7))) rfl
    refine v_iinc dX6_init_34 rfl ?_
    refine v_goto 15 dX6_init_37 ?_
    exact v_lof [(0, .ref x), (1, .int (iI 8))] (List.forall_mem_cons.mpr ⟨rfl, (List.forall_mem_cons.mpr ⟨rfl, (fun _ h => nomatch h)⟩)⟩) (K15_8 _ sl s0 s1 s2 s3 s4 s5 s6 s7 E4)
  have K15_6 : ∀ (v : AH) (sl s0 s1 s2 s3 s4 s5 : Nat), EXL (aup w x (.inr (5, [.ref sl, .null, .null, .null]) : va_E)) v [(sl, arA G 4 8 (fup (fup (fup (fup (fup (fup (fun _ => none) 0 (some s0)) 1 (some s1)) 2 (some s2)) 3 (some s3)) 4 (some s4)) 5 (some s5))), (s0, stC 1970 1 1 0), (s1, stC 1970 1 1 0), (s2, stC 1970 1 1 0), (s3, stC 1970 1 1 0), (s4, stC 1970 1 1 0), (s5, stC 1970 1 1 0)] → V l G mX6_init rX6_init Q X 15 (lof [(0, .ref x), (1, .int (iI 6))]) [] v 7 32 := by
    intro v sl s0 s1 s2 s3 s4 s5 E
    refine v_iload_n dX6_init_15 rfl ?_
    refine v_bipush dX6_init_16 ?_
    refine v_icmp_ge 40 dX6_init_18 (fun h_18 => ?_) (fun h_18 => ?_)
    · (exfalso; omega)
    refine v_aload_n dX6_init_21 rfl ?_
    refine v_get dX6_init_22 f_X6_13 (by exact E.bz aup_s) rfl ?_
    refine v_iload_n dX6_init_25 rfl ?_
    refine v_new (fs := [.int (iI 0), .int (iI 0), .int (iI 0), .long (lI 0)]) dX6_init_26 kc_X6_11 kx_X4 kz_X4 ck_X4 (fun j hj => by match j, hj with | 0, _ => rfl | 1, _ => rfl | 2, _ => rfl | 3, _ => rfl | (j + 4), hj => exact absurd hj (by omega)) (fun s6 g1 => ?_)
    have E2 := E.new (e := stC 0 0 0 0) g1
    refine v_dup dX6_init_29 rfl ?_
    refine v_I0 (rm' := rX4_init) dX6_init_30 km_X6_17 kn_X4_init kz_X4 mk_X4_init rfl rfl rfl ⟨Nat.le_of_ble_eq_true rfl, Nat.le_of_ble_eq_true rfl⟩ ⟨Nat.le_of_ble_eq_true rfl, Nat.le_of_ble_eq_true rfl⟩ (Nat.le_of_ble_eq_true rfl) ?_
    refine s_X4_init hst (E2.get 7 rfl) ?_
    have E3 := E2.put (k := 7) (e' := stC 1970 1 1 0) rfl
    refine v_aast (t := 4) dX6_init_33 (fun _ => rfl) (ci := 3) rfl (by exact E3.get 0 rfl) (by exact E3.get 7 rfl) ?_
    have E4 := E3.put (k := 0) (e' := arA G 4 8 (fup (fup (fup (fup (fup (fup (fup (fun _ => none) 0 (some s0)) 1 (some s1)) 2 (some s2)) 3 (some s3)) 4 (some s4)) 5 (some s5)) 6 (some s6))) rfl
    refine v_iinc dX6_init_34 rfl ?_
    refine v_goto 15 dX6_init_37 ?_
    exact v_lof [(0, .ref x), (1, .int (iI 7))] (List.forall_mem_cons.mpr ⟨rfl, (List.forall_mem_cons.mpr ⟨rfl, (fun _ h => nomatch h)⟩)⟩) (K15_7 _ sl s0 s1 s2 s3 s4 s5 s6 E4)
  have K15_5 : ∀ (v : AH) (sl s0 s1 s2 s3 s4 : Nat), EXL (aup w x (.inr (5, [.ref sl, .null, .null, .null]) : va_E)) v [(sl, arA G 4 8 (fup (fup (fup (fup (fup (fun _ => none) 0 (some s0)) 1 (some s1)) 2 (some s2)) 3 (some s3)) 4 (some s4))), (s0, stC 1970 1 1 0), (s1, stC 1970 1 1 0), (s2, stC 1970 1 1 0), (s3, stC 1970 1 1 0), (s4, stC 1970 1 1 0)] → V l G mX6_init rX6_init Q X 15 (lof [(0, .ref x), (1, .int (iI 5))]) [] v 6 28 := by
    intro v sl s0 s1 s2 s3 s4 E
    refine v_iload_n dX6_init_15 rfl ?_
    refine v_bipush dX6_init_16 ?_
    refine v_icmp_ge 40 dX6_init_18 (fun h_18 => ?_) (fun h_18 => ?_)
    · (exfalso; omega)
    refine v_aload_n dX6_init_21 rfl ?_
    refine v_get dX6_init_22 f_X6_13 (by exact E.bz aup_s) rfl ?_
    refine v_iload_n dX6_init_25 rfl ?_
    refine v_new (fs := [.int (iI 0), .int (iI 0), .int (iI 0), .long (lI 0)]) dX6_init_26 kc_X6_11 kx_X4 kz_X4 ck_X4 (fun j hj => by match j, hj with | 0, _ => rfl | 1, _ => rfl | 2, _ => rfl | 3, _ => rfl | (j + 4), hj => exact absurd hj (by omega)) (fun s5 g1 => ?_)
    have E2 := E.new (e := stC 0 0 0 0) g1
    refine v_dup dX6_init_29 rfl ?_
    refine v_I0 (rm' := rX4_init) dX6_init_30 km_X6_17 kn_X4_init kz_X4 mk_X4_init rfl rfl rfl ⟨Nat.le_of_ble_eq_true rfl, Nat.le_of_ble_eq_true rfl⟩ ⟨Nat.le_of_ble_eq_true rfl, Nat.le_of_ble_eq_true rfl⟩ (Nat.le_of_ble_eq_true rfl) ?_
    refine s_X4_init hst (E2.get 6 rfl) ?_
    have E3 := E2.put (k := 6) (e' := stC 1970 1 1 0) rfl
    refine v_aast (t := 4) dX6_init_33 (fun _ => rfl) (ci := 3) rfl (by exact E3.get 0 rfl) (by exact E3.get 6 rfl) ?_
    have E4 := E3.put (k := 0) (e' := arA G 4 8 (fup (fup (fup (fup (fup (fup (fun _ => none) 0 (some s0)) 1 (some s1)) 2 (some s2)) 3 (some s3)) 4 (some s4)) 5 (some s5))) rfl
    refine v_iinc dX6_init_34 rfl ?_
    refine v_goto 15 dX6_init_37 ?_
    exact v_lof [(0, .ref x), (1, .int (iI 6))] (List.forall_mem_cons.mpr ⟨rfl, (List.forall_mem_cons.mpr ⟨rfl, (fun _ h => nomatch h)⟩)⟩) (K15_6 _ sl s0 s1 s2 s3 s4 s5 E4)
  have K15_4 : ∀ (v : AH) (sl s0 s1 s2 s3 : Nat), EXL (aup w x (.inr (5, [.ref sl, .null, .null, .null]) : va_E)) v [(sl, arA G 4 8 (fup (fup (fup (fup (fun _ => none) 0 (some s0)) 1 (some s1)) 2 (some s2)) 3 (some s3))), (s0, stC 1970 1 1 0), (s1, stC 1970 1 1 0), (s2, stC 1970 1 1 0), (s3, stC 1970 1 1 0)] → V l G mX6_init rX6_init Q X 15 (lof [(0, .ref x), (1, .int (iI 4))]) [] v 5 24 := by
    intro v sl s0 s1 s2 s3 E
    refine v_iload_n dX6_init_15 rfl ?_
    refine v_bipush dX6_init_16 ?_
    refine v_icmp_ge 40 dX6_init_18 (fun h_18 => ?_) (fun h_18 => ?_)
    · (exfalso; omega)
    refine v_aload_n dX6_init_21 rfl ?_
    refine v_get dX6_init_22 f_X6_13 (by exact E.bz aup_s) rfl ?_
    refine v_iload_n dX6_init_25 rfl ?_
    refine v_new (fs := [.int (iI 0), .int (iI 0), .int (iI 0), .long (lI 0)]) dX6_init_26 kc_X6_11 kx_X4 kz_X4 ck_X4 (fun j hj => by match j, hj with | 0, _ => rfl | 1, _ => rfl | 2, _ => rfl | 3, _ => rfl | (j + 4), hj => exact absurd hj (by omega)) (fun s4 g1 => ?_)
    have E2 := E.new (e := stC 0 0 0 0) g1
    refine v_dup dX6_init_29 rfl ?_
    refine v_I0 (rm' := rX4_init) dX6_init_30 km_X6_17 kn_X4_init kz_X4 mk_X4_init rfl rfl rfl ⟨Nat.le_of_ble_eq_true rfl, Nat.le_of_ble_eq_true rfl⟩ ⟨Nat.le_of_ble_eq_true rfl, Nat.le_of_ble_eq_true rfl⟩ (Nat.le_of_ble_eq_true rfl) ?_
    refine s_X4_init hst (E2.get 5 rfl) ?_
    have E3 := E2.put (k := 5) (e' := stC 1970 1 1 0) rfl
    refine v_aast (t := 4) dX6_init_33 (fun _ => rfl) (ci := 3) rfl (by exact E3.get 0 rfl) (by exact E3.get 5 rfl) ?_
    have E4 := E3.put (k := 0) (e' := arA G 4 8 (fup (fup (fup (fup (fup (fun _ => none) 0 (some s0)) 1 (some s1)) 2 (some s2)) 3 (some s3)) 4 (some s4))) rfl
    refine v_iinc dX6_init_34 rfl ?_
    refine v_goto 15 dX6_init_37 ?_
    exact v_lof [(0, .ref x), (1, .int (iI 5))] (List.forall_mem_cons.mpr ⟨rfl, (List.forall_mem_cons.mpr ⟨rfl, (fun _ h => nomatch h)⟩)⟩) (K15_5 _ sl s0 s1 s2 s3 s4 E4)
  have K15_3 : ∀ (v : AH) (sl s0 s1 s2 : Nat), EXL (aup w x (.inr (5, [.ref sl, .null, .null, .null]) : va_E)) v [(sl, arA G 4 8 (fup (fup (fup (fun _ => none) 0 (some s0)) 1 (some s1)) 2 (some s2))), (s0, stC 1970 1 1 0), (s1, stC 1970 1 1 0), (s2, stC 1970 1 1 0)] → V l G mX6_init rX6_init Q X 15 (lof [(0, .ref x), (1, .int (iI 3))]) [] v 4 20 := by
    intro v sl s0 s1 s2 E
    refine v_iload_n dX6_init_15 rfl ?_
    refine v_bipush dX6_init_16 ?_
    refine v_icmp_ge 40 dX6_init_18 (fun h_18 => ?_) (fun h_18 => ?_)
    · (exfalso; omega)
    refine v_aload_n dX6_init_21 rfl ?_
    refine v_get dX6_init_22 f_X6_13 (by exact E.bz aup_s) rfl ?_
    refine v_iload_n dX6_init_25 rfl ?_
    refine v_new (fs := [.int (iI 0), .int (iI 0), .int (iI 0), .long (lI 0)]) dX6_init_26 kc_X6_11 kx_X4 kz_X4 ck_X4 (fun j hj => by match j, hj with | 0, _ => rfl | 1, _ => rfl | 2, _ => rfl | 3, _ => rfl | (j + 4), hj => exact absurd hj (by omega)) (fun s3 g1 => ?_)
    have E2 := E.new (e := stC 0 0 0 0) g1
    refine v_dup dX6_init_29 rfl ?_
    refine v_I0 (rm' := rX4_init) dX6_init_30 km_X6_17 kn_X4_init kz_X4 mk_X4_init rfl rfl rfl ⟨Nat.le_of_ble_eq_true rfl, Nat.le_of_ble_eq_true rfl⟩ ⟨Nat.le_of_ble_eq_true rfl, Nat.le_of_ble_eq_true rfl⟩ (Nat.le_of_ble_eq_true rfl) ?_
    refine s_X4_init hst (E2.get 4 rfl) ?_
    have E3 := E2.put (k := 4) (e' := stC 1970 1 1 0) rfl
    refine v_aast (t := 4) dX6_init_33 (fun _ => rfl) (ci := 3) rfl (by exact E3.get 0 rfl) (by exact E3.get 4 rfl) ?_
    have E4 := E3.put (k := 0) (e' := arA G 4 8 (fup (fup (fup (fup (fun _ => none) 0 (some s0)) 1 (some s1)) 2 (some s2)) 3 (some s3))) rfl
    refine v_iinc dX6_init_34 rfl ?_
    refine v_goto 15 dX6_init_37 ?_
    exact v_lof [(0, .ref x), (1, .int (iI 4))] (List.forall_mem_cons.mpr ⟨rfl, (List.forall_mem_cons.mpr ⟨rfl, (fun _ h => nomatch h)⟩)⟩) (K15_4 _ sl s0 s1 s2 s3 E4)
  have K15_2 : ∀ (v : AH) (sl s0 s1 : Nat), EXL (aup w x (.inr (5, [.ref sl, .null, .null, .null]) : va_E)) v [(sl, arA G 4 8 (fup (fup (fun _ => none) 0 (some s0)) 1 (some s1))), (s0, stC 1970 1 1 0), (s1, stC 1970 1 1 0)] → V l G mX6_init rX6_init Q X 15 (lof [(0, .ref x), (1, .int (iI 2))]) [] v 3 16 := by
    intro v sl s0 s1 E
    refine v_iload_n dX6_init_15 rfl ?_
    refine v_bipush dX6_init_16 ?_
    refine v_icmp_ge 40 dX6_init_18 (fun h_18 => ?_) (fun h_18 => ?_)
    · (exfalso; omega)
    refine v_aload_n dX6_init_21 rfl ?_
    refine v_get dX6_init_22 f_X6_13 (by exact E.bz aup_s) rfl ?_
    refine v_iload_n dX6_init_25 rfl ?_
    refine v_new (fs := [.int (iI 0), .int (iI 0), .int (iI 0), .long (lI 0)]) dX6_init_26 kc_X6_11 kx_X4 kz_X4 ck_X4 (fun j hj => by match j, hj with | 0, _ => rfl | 1, _ => rfl | 2, _ => rfl | 3, _ => rfl | (j + 4), hj => exact absurd hj (by omega)) (fun s2 g1 => ?_)
    have E2 := E.new (e := stC 0 0 0 0) g1
    refine v_dup dX6_init_29 rfl ?_
    refine v_I0 (rm' := rX4_init) dX6_init_30 km_X6_17 kn_X4_init kz_X4 mk_X4_init rfl rfl rfl ⟨Nat.le_of_ble_eq_true rfl, Nat.le_of_ble_eq_true rfl⟩ ⟨Nat.le_of_ble_eq_true rfl, Nat.le_of_ble_eq_true rfl⟩ (Nat.le_of_ble_eq_true rfl) ?_
    refine s_X4_init hst (E2.get 3 rfl) ?_
    have E3 := E2.put (k := 3) (e' := stC 1970 1 1 0) rfl
    refine v_aast (t := 4) dX6_init_33 (fun _ => rfl) (ci := 3) rfl (by exact E3.get 0 rfl) (by exact E3.get 3 rfl) ?_
    have E4 := E3.put (k := 0) (e' := arA G 4 8 (fup (fup (fup (fun _ => none) 0 (some s0)) 1 (some s1)) 2 (some s2))) rfl
    refine v_iinc dX6_init_34 rfl ?_
    refine v_goto 15 dX6_init_37 ?_
    exact v_lof [(0, .ref x), (1, .int (iI 3))] (List.forall_mem_cons.mpr ⟨rfl, (List.forall_mem_cons.mpr ⟨rfl, (fun _ h => nomatch h)⟩)⟩) (K15_3 _ sl s0 s1 s2 E4)
  have K15_1 : ∀ (v : AH) (sl s0 : Nat), EXL (aup w x (.inr (5, [.ref sl, .null, .null, .null]) : va_E)) v [(sl, arA G 4 8 (fup (fun _ => none) 0 (some s0))), (s0, stC 1970 1 1 0)] → V l G mX6_init rX6_init Q X 15 (lof [(0, .ref x), (1, .int (iI 1))]) [] v 2 12 := by
    intro v sl s0 E
    refine v_iload_n dX6_init_15 rfl ?_
    refine v_bipush dX6_init_16 ?_
    refine v_icmp_ge 40 dX6_init_18 (fun h_18 => ?_) (fun h_18 => ?_)
    · (exfalso; omega)
    refine v_aload_n dX6_init_21 rfl ?_
    refine v_get dX6_init_22 f_X6_13 (by exact E.bz aup_s) rfl ?_
    refine v_iload_n dX6_init_25 rfl ?_
    refine v_new (fs := [.int (iI 0), .int (iI 0), .int (iI 0), .long (lI 0)]) dX6_init_26 kc_X6_11 kx_X4 kz_X4 ck_X4 (fun j hj => by match j, hj with | 0, _ => rfl | 1, _ => rfl | 2, _ => rfl | 3, _ => rfl | (j + 4), hj => exact absurd hj (by omega)) (fun s1 g1 => ?_)
    have E2 := E.new (e := stC 0 0 0 0) g1
    refine v_dup dX6_init_29 rfl ?_
    refine v_I0 (rm' := rX4_init) dX6_init_30 km_X6_17 kn_X4_init kz_X4 mk_X4_init rfl rfl rfl ⟨Nat.le_of_ble_eq_true rfl, Nat.le_of_ble_eq_true rfl⟩ ⟨Nat.le_of_ble_eq_true rfl, Nat.le_of_ble_eq_true rfl⟩ (Nat.le_of_ble_eq_true rfl) ?_
    refine s_X4_init hst (E2.get 2 rfl) ?_
    have E3 := E2.put (k := 2) (e' := stC 1970 1 1 0) rfl
    refine v_aast (t := 4) dX6_init_33 (fun _ => rfl) (ci := 3) rfl (by exact E3.get 0 rfl) (by exact E3.get 2 rfl) ?_
    have E4 := E3.put (k := 0) (e' := arA G 4 8 (fup (fup (fun _ => none) 0 (some s0)) 1 (some s1))) rfl
    refine v_iinc dX6_init_34 rfl ?_
    refine v_goto 15 dX6_init_37 ?_
    exact v_lof [(0, .ref x), (1, .int (iI 2))] (List.forall_mem_cons.mpr ⟨rfl, (List.forall_mem_cons.mpr ⟨rfl, (fun _ h => nomatch h)⟩)⟩) (K15_2 _ sl s0 s1 E4)
  have K15_0 : ∀ (v : AH) (sl : Nat), EXL (aup w x (.inr (5, [.ref sl, .null, .null, .null]) : va_E)) v [(sl, arA G 4 8 (fun _ => none))] → V l G mX6_init rX6_init Q X 15 (lof [(0, .ref x), (1, .int (iI 0))]) [] v 1 8 := by
    intro v sl E
    refine v_iload_n dX6_init_15 rfl ?_
    refine v_bipush dX6_init_16 ?_
    refine v_icmp_ge 40 dX6_init_18 (fun h_18 => ?_) (fun h_18 => ?_)
    · (exfalso; omega)
    refine v_aload_n dX6_init_21 rfl ?_
    refine v_get dX6_init_22 f_X6_13 (by exact E.bz aup_s) rfl ?_
    refine v_iload_n dX6_init_25 rfl ?_
    refine v_new (fs := [.int (iI 0), .int (iI 0), .int (iI 0), .long (lI 0)]) dX6_init_26 kc_X6_11 kx_X4 kz_X4 ck_X4 (fun j hj => by match j, hj with | 0, _ => rfl | 1, _ => rfl | 2, _ => rfl | 3, _ => rfl | (j + 4), hj => exact absurd hj (by omega)) (fun s0 g1 => ?_)
    have E2 := E.new (e := stC 0 0 0 0) g1
    refine v_dup dX6_init_29 rfl ?_
    refine v_I0 (rm' := rX4_init) dX6_init_30 km_X6_17 kn_X4_init kz_X4 mk_X4_init rfl rfl rfl ⟨Nat.le_of_ble_eq_true rfl, Nat.le_of_ble_eq_true rfl⟩ ⟨Nat.le_of_ble_eq_true rfl, Nat.le_of_ble_eq_true rfl⟩ (Nat.le_of_ble_eq_true rfl) ?_
    refine s_X4_init hst (E2.get 1 rfl) ?_
    have E3 := E2.put (k := 1) (e' := stC 1970 1 1 0) rfl
    refine v_aast (t := 4) dX6_init_33 (fun _ => rfl) (ci := 3) rfl (by exact E3.get 0 rfl) (by exact E3.get 1 rfl) ?_
    have E4 := E3.put (k := 0) (e' := arA G 4 8 (fup (fun _ => none) 0 (some s0))) rfl
    refine v_iinc dX6_init_34 rfl ?_
    refine v_goto 15 dX6_init_37 ?_
    exact v_lof [(0, .ref x), (1, .int (iI 1))] (List.forall_mem_cons.mpr ⟨rfl, (List.forall_mem_cons.mpr ⟨rfl, (fun _ h => nomatch h)⟩)⟩) (K15_1 _ sl s0 E4)
  refine v_aload_n dX6_init_0 rfl ?_
  refine v_objInit dX6_init_1 km_X6_5 kn_obj ko_obj ?_
  refine v_aload_n dX6_init_4 rfl ?_
  refine v_bipush dX6_init_5 ?_
  refine v_newq (t := 4) dX6_init_7 kc_X6_11 (fun U h => h.2.2.2.2.2.1.1) (fun _ => rfl) rfl (fun sl g1 => ?_)
  have E2 := EXL.new (EXL.nil (w := w)) (e := arA G 4 8 (fun _ => none)) g1
  have E3 := E2.base (z := x) (e := (.inr (5, [.ref sl, .null, .null, .null]) : va_E)) h0
  refine v_putF dX6_init_10 f_X6_13 rfl (by decide +kernel) (by exact E2.bz h0) rfl rfl (Nat.le_of_ble_eq_true rfl) ?_
  refine v_iconst dX6_init_13 ?_
  refine v_istore_n dX6_init_14 (by decide) ?_
  exact v_lof [(0, .ref x), (1, .int (iI 0))] (List.forall_mem_cons.mpr ⟨rfl, (List.forall_mem_cons.mpr ⟨rfl, (fun _ h => nomatch h)⟩)⟩) (K15_0 _ sl E3)
