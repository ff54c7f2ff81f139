set_option maxRecDepth 100000 in
set_option maxHeartbeats 4000000 in
theorem s_X7_type {l : Launch} {G : GG} {w : AH} {Q : Option Value → AH → Prop} {X : String → AH → Prop} (hst : l.stackTraces = false) {z : Nat} {A : Nat → Nat} {th yq mq dq ty ap wr sz : Int} {g : Nat → Int} (h0 : w z = some (mdC A th yq mq dq ty ap wr sz)) (h8 : w (A 8) = some (aiA G 30 g)) (hty : 0 ≤ ty ∧ ty ≤ 30) {c : Int} (hc : 0 ≤ c ∧ c ≤ 65535) (hQ0 : ¬ (32 ≤ c ∧ c ≤ 126 ∧ ty < 30) → Q (some (.int (iI 0))) (aup w z (mdC A 0 yq mq dq ty ap wr sz))) (hQ1 : (32 ≤ c ∧ c ≤ 126 ∧ ty < 30) → Q (some (.int (iI 1))) (aup (aup (aup w z (mdC A 0 yq mq dq ty ap wr sz)) (A 8) (aiA G 30 (gup g ty.toNat c))) z (mdC A 0 yq mq dq (ty + 1) ap wr sz))) : Ct l G mX7_type rX7_type [(.ref z), .int (iI c)] w Q X := by
  have nz8 : A 8 ≠ z := fun e => ne_of h0 h8 mdai e.symm
  refine ct_of hst mk_X7_type (Nat.le_of_ble_eq_true rfl) ?_
  refine v_aload_n dX7_type_0 rfl ?_
  refine v_iconst dX7_type_1 ?_
  refine v_put dX7_type_2 f_X7_41 (by first | exact h0 | exact aup_s | exact (aup_n nz8).trans h8 | exact (aup_n nz8.symm).trans aup_s) rfl rfl (Nat.le_of_ble_eq_true rfl) ?_
  refine v_iload_n dX7_type_5 rfl ?_
  refine v_bipush dX7_type_6 ?_
  refine v_icmp_lt 26 dX7_type_8 (fun h_8 => ?_) (fun h_8 => ?_)
  · refine v_iconst dX7_type_26 ?_
    exact v_zret dX7_type_27 rfl (by exact hQ0 (by omega)) (by first | exact Or.inl rfl | exact Or.inr rfl | omega)
  · refine v_iload_n dX7_type_11 rfl ?_
    refine v_bipush dX7_type_12 ?_
    refine v_icmp_gt 26 dX7_type_14 (fun h_14 => ?_) (fun h_14 => ?_)
    · refine v_iconst dX7_type_26 ?_
      exact v_zret dX7_type_27 rfl (by exact hQ0 (by omega)) (by first | exact Or.inl rfl | exact Or.inr rfl | omega)
    · refine v_aload_n dX7_type_17 rfl ?_
      refine v_get dX7_type_18 f_X7_251 (by first | exact h0 | exact aup_s | exact (aup_n nz8).trans h8 | exact (aup_n nz8.symm).trans aup_s) rfl ?_
      refine v_bipush dX7_type_21 ?_
      refine v_icmp_ne 28 dX7_type_23 (fun h_23 => ?_) (fun h_23 => ?_)
      · refine v_aload_n dX7_type_28 rfl ?_
        refine v_get dX7_type_29 f_X7_35 (by first | exact h0 | exact aup_s | exact (aup_n nz8).trans h8 | exact (aup_n nz8.symm).trans aup_s) rfl ?_
        refine v_aload_n dX7_type_32 rfl ?_
        refine v_get dX7_type_33 f_X7_251 (by first | exact h0 | exact aup_s | exact (aup_n nz8).trans h8 | exact (aup_n nz8.symm).trans aup_s) rfl ?_
        refine v_iload_n dX7_type_36 rfl ?_
        refine v_iast dX7_type_37 (by first | exact h0 | exact aup_s | exact (aup_n nz8).trans h8 | exact (aup_n nz8.symm).trans aup_s) ?_
        refine v_aload_n dX7_type_38 rfl ?_
        refine v_dup dX7_type_39 rfl ?_
        refine v_get dX7_type_40 f_X7_251 (by first | exact h0 | exact aup_s | exact (aup_n nz8).trans h8 | exact (aup_n nz8.symm).trans aup_s) rfl ?_
        refine v_iconst dX7_type_43 ?_
        refine v_iadd dX7_type_44 ?_
        refine v_put dX7_type_45 f_X7_251 (by first | exact h0 | exact aup_s | exact (aup_n nz8).trans h8 | exact (aup_n nz8.symm).trans aup_s) rfl rfl (Nat.le_of_ble_eq_true rfl) ?_
        refine v_iconst dX7_type_48 ?_
        exact v_zret dX7_type_49 rfl (by exact hQ1 (by omega)) (by first | exact Or.inl rfl | exact Or.inr rfl | omega)
      · refine v_iconst dX7_type_26 ?_
        exact v_zret dX7_type_27 rfl (by exact hQ0 (by omega)) (by first | exact Or.inl rfl | exact Or.inr rfl | omega)
set_option maxRecDepth 100000 in
set_option maxHeartbeats 4000000 in
theorem s_X7_eat {l : Launch} {G : GG} {w : AH} {Q : Option Value → AH → Prop} {X : String → AH → Prop} (hst : l.stackTraces = false) {z : Nat} {A : Nat → Nat} {th yq mq dq ty wr sz : Int} {p : Nat} {g : Nat → Int} (h0 : w z = some (mdC A th yq mq dq ty (p : Int) wr sz)) (h8 : w (A 8) = some (aiA G 30 g)) (hty : 0 ≤ ty ∧ ty ≤ 30) (hp : p ≤ 30) (hwr : wr = 0 ∨ wr = 1) (hg : ∀ k, 0 ≤ g k ∧ g k ≤ 65535) {c : Int} (hc : 1 ≤ c ∧ c ≤ 65535) (hQ : ∀ (is : Int) (p' : Nat), ((is = 1 ∧ nx g ty p = c ∧ p' = p + 1) ∨ (is = 0 ∧ nx g ty p ≠ c ∧ p' = p)) → p' ≤ 30 → Q (some (.int (iI is))) (aup w z (mdC A th yq mq dq ty ((p' : Nat) : Int) (wr) sz))) : Ct l G mX7_eat rX7_eat [(.ref z), .int (iI c)] w Q X := by
  have nz8 : A 8 ≠ z := fun e => ne_of h0 h8 mdai e.symm
  have nxp := nx_c g ty p
  have hgp := hg p
  refine ct_of hst mk_X7_eat (Nat.le_of_ble_eq_true rfl) ?_
  have J30 : ∀ is : Int, ((is = 1 ∧ nx g ty p = c) ∨ (is = 0 ∧ nx g ty p ≠ c)) → V l G mX7_eat rX7_eat Q X 30 (lof [(0, .ref z), (1, .int (iI c)), (2, .int (iI is))]) [] (w) 0 0 := by
    intro is his
    refine v_aload_n dX7_eat_30 rfl ?_
    refine v_iload_n dX7_eat_31 rfl ?_
    refine v_if_eq 44 dX7_eat_32 (fun h_32 => ?_) (fun h_32 => ?_)
    · refine v_aload_n dX7_eat_44 rfl ?_
      refine v_get dX7_eat_45 f_X7_254 (by first | exact h0 | exact h8 | exact aup_s | exact (aup_n nz8).trans h8) rfl ?_
      first | rw [show (p : Int) + 1 = ((p + 1 : Nat) : Int) by omega] | skip
      refine v_put dX7_eat_48 f_X7_254 (by first | exact h0) rfl rfl (Nat.le_of_ble_eq_true rfl) ?_
      refine v_iload_n dX7_eat_51 rfl ?_
      exact v_zret dX7_eat_52 rfl (by first | (exfalso; omega) | (have g9 : is = 1 := (by omega); exact hQ is (p + 1) (Or.inl ⟨g9, by omega, rfl⟩) (by omega)) | (have g9 : is = 0 := (by omega); exact hQ is p (Or.inr ⟨g9, by omega, rfl⟩) hp)) (by first | exact Or.inl rfl | exact Or.inr rfl | omega)
    · refine v_aload_n dX7_eat_35 rfl ?_
      refine v_get dX7_eat_36 f_X7_254 (by first | exact h0 | exact h8 | exact aup_s | exact (aup_n nz8).trans h8) rfl ?_
      refine v_iconst dX7_eat_39 ?_
      refine v_iadd dX7_eat_40 ?_
      refine v_goto 48 dX7_eat_41 ?_
      first | rw [show (p : Int) + 1 = ((p + 1 : Nat) : Int) by omega] | skip
      refine v_put dX7_eat_48 f_X7_254 (by first | exact h0) rfl rfl (Nat.le_of_ble_eq_true rfl) ?_
      refine v_iload_n dX7_eat_51 rfl ?_
      exact v_zret dX7_eat_52 rfl (by first | (exfalso; omega) | (have g9 : is = 1 := (by omega); exact hQ is (p + 1) (Or.inl ⟨g9, by omega, rfl⟩) (by omega)) | (have g9 : is = 0 := (by omega); exact hQ is p (Or.inr ⟨g9, by omega, rfl⟩) hp)) (by first | exact Or.inl rfl | exact Or.inr rfl | omega)
  refine v_aload_n dX7_eat_0 rfl ?_
  refine v_get dX7_eat_1 f_X7_254 (by first | exact h0 | exact h8 | exact aup_s | exact (aup_n nz8).trans h8) rfl ?_
  refine v_aload_n dX7_eat_4 rfl ?_
  refine v_get dX7_eat_5 f_X7_251 (by first | exact h0 | exact h8 | exact aup_s | exact (aup_n nz8).trans h8) rfl ?_
  refine v_icmp_ge 28 dX7_eat_8 (fun h_8 => ?_) (fun h_8 => ?_)
  · refine v_iconst dX7_eat_28 ?_
    refine v_istore_n dX7_eat_29 (by decide) ?_
    exact v_lof [(0, .ref z), (1, .int (iI c)), (2, .int (iI _))] (List.forall_mem_cons.mpr ⟨rfl, (List.forall_mem_cons.mpr ⟨rfl, (List.forall_mem_cons.mpr ⟨rfl, (fun _ h => nomatch h)⟩)⟩)⟩) (J30 _ (by omega))
  · refine v_aload_n dX7_eat_11 rfl ?_
    refine v_get dX7_eat_12 f_X7_35 (by first | exact h0 | exact h8 | exact aup_s | exact (aup_n nz8).trans h8) rfl ?_
    refine v_aload_n dX7_eat_15 rfl ?_
    refine v_get dX7_eat_16 f_X7_254 (by first | exact h0 | exact h8 | exact aup_s | exact (aup_n nz8).trans h8) rfl ?_
    refine v_iald dX7_eat_19 (by first | exact h0 | exact h8 | exact aup_s | exact (aup_n nz8).trans h8) ?_
    rw [show g ((p : Int).toNat) = g p from rfl]
    refine v_iload_n dX7_eat_20 rfl ?_
    refine v_icmp_ne 28 dX7_eat_21 (fun h_21 => ?_) (fun h_21 => ?_)
    · refine v_iconst dX7_eat_28 ?_
      refine v_istore_n dX7_eat_29 (by decide) ?_
      exact v_lof [(0, .ref z), (1, .int (iI c)), (2, .int (iI _))] (List.forall_mem_cons.mpr ⟨rfl, (List.forall_mem_cons.mpr ⟨rfl, (List.forall_mem_cons.mpr ⟨rfl, (fun _ h => nomatch h)⟩)⟩)⟩) (J30 _ (by omega))
    · refine v_iconst dX7_eat_24 ?_
      refine v_goto 29 dX7_eat_25 ?_
      refine v_istore_n dX7_eat_29 (by decide) ?_
      exact v_lof [(0, .ref z), (1, .int (iI c)), (2, .int (iI _))] (List.forall_mem_cons.mpr ⟨rfl, (List.forall_mem_cons.mpr ⟨rfl, (List.forall_mem_cons.mpr ⟨rfl, (fun _ h => nomatch h)⟩)⟩)⟩) (J30 _ (by omega))
set_option maxRecDepth 100000 in
set_option maxHeartbeats 4000000 in
theorem s_X7_want {l : Launch} {G : GG} {w : AH} {Q : Option Value → AH → Prop} {X : String → AH → Prop} (hst : l.stackTraces = false) {z : Nat} {A : Nat → Nat} {th yq mq dq ty wr sz : Int} {p : Nat} {g : Nat → Int} (h0 : w z = some (mdC A th yq mq dq ty (p : Int) wr sz)) (h8 : w (A 8) = some (aiA G 30 g)) (hty : 0 ≤ ty ∧ ty ≤ 30) (hp : p ≤ 30) (hwr : wr = 0 ∨ wr = 1) (hg : ∀ k, 0 ≤ g k ∧ g k ≤ 65535) {c : Int} (hc : 1 ≤ c ∧ c ≤ 65535) (hQ : ∀ (p' : Nat) (wr' : Int), ((wr' = wr ∧ nx g ty p = c ∧ p' = p + 1) ∨ (wr' = 1 ∧ nx g ty p ≠ c ∧ p' = p)) → p' ≤ 30 → (wr' = 0 ∨ wr' = 1) → Q none (aup w z (mdC A th yq mq dq ty ((p' : Nat) : Int) (wr') sz))) : Ct l G mX7_want rX7_want [(.ref z), .int (iI c)] w Q X := by
  refine ct_of hst mk_X7_want (Nat.le_of_ble_eq_true rfl) ?_
  refine v_aload_n dX7_want_0 rfl ?_
  refine v_aload_n dX7_want_1 rfl ?_
  refine v_iload_n dX7_want_2 rfl ?_
  refine v_V1 (rm' := rX7_eat) (RX7, TX7, 18) dX7_want_3 km_X7_257 kn_X7_eat kv_X7_eat kz_X7 mk_X7_eat rfl rfl (by first | exact h0 | exact h8 | exact aup_s | exact (aup_n nz8).trans h8) ⟨Nat.le_of_ble_eq_true rfl, Nat.le_of_ble_eq_true rfl⟩ ⟨Nat.le_of_ble_eq_true rfl, Nat.le_of_ble_eq_true rfl⟩ (Nat.le_of_ble_eq_true rfl) ?_
  refine s_X7_eat hst h0 h8 hty hp hwr hg hc (fun is p' e9 hp' => ?_)
  refine v_if_eq 16 dX7_want_6 (fun h_6 => ?_) (fun h_6 => ?_)
  · refine v_iconst dX7_want_16 ?_
    refine v_goto 21 dX7_want_17 ?_
    refine v_put dX7_want_21 f_X7_260 (by first | exact h0 | exact h8 | exact aup_s | exact (aup_n nz8).trans h8) rfl rfl (Nat.le_of_ble_eq_true rfl) ?_
    try rw [aup_up]
    exact v_vret dX7_want_24 rfl (by first | (exfalso; omega) | (have g9 : wr = 0 := (by omega); subst g9; exact hQ p' 0 (by omega) hp' (by omega)) | exact hQ p' 1 (by omega) hp' (by omega))
  · refine v_aload_n dX7_want_9 rfl ?_
    refine v_get dX7_want_10 f_X7_260 (by first | exact h0 | exact h8 | exact aup_s | exact (aup_n nz8).trans h8) rfl ?_
    refine v_if_eq 20 dX7_want_13 (fun h_13 => ?_) (fun h_13 => ?_)
    · refine v_iconst dX7_want_20 ?_
      refine v_put dX7_want_21 f_X7_260 (by first | exact h0 | exact h8 | exact aup_s | exact (aup_n nz8).trans h8) rfl rfl (Nat.le_of_ble_eq_true rfl) ?_
      try rw [aup_up]
      exact v_vret dX7_want_24 rfl (by first | (exfalso; omega) | (have g9 : wr = 0 := (by omega); subst g9; exact hQ p' 0 (by omega) hp' (by omega)) | exact hQ p' 1 (by omega) hp' (by omega))
    · refine v_iconst dX7_want_16 ?_
      refine v_goto 21 dX7_want_17 ?_
      refine v_put dX7_want_21 f_X7_260 (by first | exact h0 | exact h8 | exact aup_s | exact (aup_n nz8).trans h8) rfl rfl (Nat.le_of_ble_eq_true rfl) ?_
      try rw [aup_up]
      exact v_vret dX7_want_24 rfl (by first | (exfalso; omega) | (have g9 : wr = 0 := (by omega); subst g9; exact hQ p' 0 (by omega) hp' (by omega)) | exact hQ p' 1 (by omega) hp' (by omega))
def dgs (g : Nat → Int) (L : Int) : Nat → Int → Nat → Int → Int × Nat × Int
  | 0, v, p, wr => (v, p, wr)
  | k + 1, v, p, wr => if 48 ≤ nx g L p ∧ nx g L p ≤ 57 then dgs g L k (10 * v + (nx g L p - 48)) (p + 1) wr else dgs g L k (10 * v + 0) p 1
theorem dgs_p {g : Nat → Int} {L v wr : Int} {k p : Nat} (h : 48 ≤ nx g L p ∧ nx g L p ≤ 57) : dgs g L (k + 1) v p wr = dgs g L k (10 * v + (nx g L p - 48)) (p + 1) wr := if_pos h
theorem dgs_n {g : Nat → Int} {L v wr : Int} {k p : Nat} (h : ¬ (48 ≤ nx g L p ∧ nx g L p ≤ 57)) : dgs g L (k + 1) v p wr = dgs g L k (10 * v + 0) p 1 := if_neg h
set_option maxRecDepth 100000 in
set_option maxHeartbeats 1000000 in
theorem dig_loop {l : Launch} {G : GG} {w : AH} {Q : Option Value → AH → Prop} {X : String → AH → Prop} (hst : l.stackTraces = false) {z : Nat} {A : Nat → Nat} {th yq mq dq ty sz : Int} {g : Nat → Int} (nz8 : A 8 ≠ z) (h8 : w (A 8) = some (aiA G 30 g)) (hty : 0 ≤ ty ∧ ty ≤ 30) (hg : ∀ k, 0 ≤ g k ∧ g k ≤ 65535) {n : Nat} (hn : n ≤ 4) {S : Int × Nat × Int} (hQ : Q (some (.int (iI S.1))) (aup w z (mdC A th yq mq dq ty ((S.2.1 : Nat) : Int) (S.2.2) sz))) : ∀ (N : Nat) (k : Nat) (v : Int) (p : Nat) (wr : Int), n - k ≤ N → k ≤ n → p ≤ 30 → (wr = 0 ∨ wr = 1) → (((k = 0 ∧ v = 0) ∨ (k = 1 ∧ v ≤ 9) ∨ (k = 2 ∧ v ≤ 99) ∨ (k = 3 ∧ v ≤ 999) ∨ (k = 4 ∧ v ≤ 9999)) ∧ 0 ≤ v) → dgs g ty (n - k) v p wr = S → V l G mX7_digits rX7_digits Q X 4 (lof [(0, .ref z), (1, .int (iI (n : Int))), (2, .int (iI (v))), (3, .int (iI ((k : Int))))]) [] (aup w z (mdC A th yq mq dq ty ((p : Nat) : Int) (wr) sz)) 0 0 := by
  intro N
  induction N with
  | zero =>
    intro k v p wr hN hk hp hwr hv hS
    have nxp := nx_c g ty p
    have hgp := hg p
    have J49 : ∀ is : Int, k < n → ((is = 1 ∧ (48 ≤ nx g ty (p) ∧ nx g ty (p) ≤ 57)) ∨ (is = 0 ∧ ¬ (48 ≤ nx g ty (p) ∧ nx g ty (p) ≤ 57))) → V l G mX7_digits rX7_digits Q X 49 (lof [(0, .ref z), (1, .int (iI (n : Int))), (2, .int (iI (v))), (3, .int (iI ((k : Int)))), (4, .int (iI is))]) [] (aup w z (mdC A th yq mq dq ty ((p : Nat) : Int) (wr) sz)) 0 0 := by
      intro is hkn his
      rcases his with ⟨g1, g2⟩ | ⟨g1, g2⟩
      · refine v_bipush dX7_digits_49 ?_
        refine v_iload_n dX7_digits_51 rfl ?_
        refine v_imul dX7_digits_52 ?_
        refine v_iload dX7_digits_53 rfl ?_
        refine v_if_eq 73 dX7_digits_55 (fun h_55 => ?_) (fun h_55 => ?_)
        · (exfalso; omega)
        refine v_aload_n dX7_digits_58 rfl ?_
        refine v_get dX7_digits_59 f_X7_35 (by first | exact aup_s | exact (aup_n nz8).trans h8) rfl ?_
        refine v_aload_n dX7_digits_62 rfl ?_
        refine v_get dX7_digits_63 f_X7_254 (by first | exact aup_s | exact (aup_n nz8).trans h8) rfl ?_
        refine v_iald dX7_digits_66 (by first | exact aup_s | exact (aup_n nz8).trans h8) ?_
        rw [show g ((p : Int).toNat) = g p from rfl]
        refine v_bipush dX7_digits_67 ?_
        refine v_isub dX7_digits_69 ?_
        refine v_goto 74 dX7_digits_70 ?_
        refine v_iadd dX7_digits_74 ?_
        refine v_istore_n dX7_digits_75 (by decide) ?_
        refine v_aload_n dX7_digits_76 rfl ?_
        refine v_aload_n dX7_digits_77 rfl ?_
        refine v_get dX7_digits_78 f_X7_260 (by first | exact aup_s | exact (aup_n nz8).trans h8) rfl ?_
        refine v_if_ne 89 dX7_digits_81 (fun h_81 => ?_) (fun h_81 => ?_)
        · refine v_iconst dX7_digits_89 ?_
          refine v_goto 94 dX7_digits_90 ?_
          refine v_put dX7_digits_94 f_X7_260 (by first | exact aup_s | exact (aup_n nz8).trans h8) rfl rfl (Nat.le_of_ble_eq_true rfl) ?_
          try rw [aup_up]
          refine v_aload_n dX7_digits_97 rfl ?_
          refine v_iload dX7_digits_98 rfl ?_
          refine v_if_eq 112 dX7_digits_100 (fun h_100 => ?_) (fun h_100 => ?_)
          · (exfalso; omega)
          refine v_aload_n dX7_digits_103 rfl ?_
          refine v_get dX7_digits_104 f_X7_254 (by first | exact aup_s | exact (aup_n nz8).trans h8) rfl ?_
          refine v_iconst dX7_digits_107 ?_
          refine v_iadd dX7_digits_108 ?_
          refine v_goto 116 dX7_digits_109 ?_
          refine v_put dX7_digits_116 f_X7_254 (by first | exact aup_s | exact (aup_n nz8).trans h8) rfl rfl (Nat.le_of_ble_eq_true rfl) ?_
          try rw [aup_up]
          refine v_iinc dX7_digits_119 rfl ?_
          rw [show (k : Int) + 1 = ((k + 1 : Nat) : Int) by omega]
          refine v_goto 4 dX7_digits_122 ?_
          (exfalso; omega)
        · refine v_iload dX7_digits_84 rfl ?_
          refine v_if_ne 93 dX7_digits_86 (fun h_86 => ?_) (fun h_86 => ?_)
          rotate_left
          · (exfalso; omega)
          refine v_iconst dX7_digits_93 ?_
          refine v_put dX7_digits_94 f_X7_260 (by first | exact aup_s | exact (aup_n nz8).trans h8) rfl rfl (Nat.le_of_ble_eq_true rfl) ?_
          try rw [aup_up]
          refine v_aload_n dX7_digits_97 rfl ?_
          refine v_iload dX7_digits_98 rfl ?_
          refine v_if_eq 112 dX7_digits_100 (fun h_100 => ?_) (fun h_100 => ?_)
          · (exfalso; omega)
          refine v_aload_n dX7_digits_103 rfl ?_
          refine v_get dX7_digits_104 f_X7_254 (by first | exact aup_s | exact (aup_n nz8).trans h8) rfl ?_
          refine v_iconst dX7_digits_107 ?_
          refine v_iadd dX7_digits_108 ?_
          refine v_goto 116 dX7_digits_109 ?_
          refine v_put dX7_digits_116 f_X7_254 (by first | exact aup_s | exact (aup_n nz8).trans h8) rfl rfl (Nat.le_of_ble_eq_true rfl) ?_
          try rw [aup_up]
          refine v_iinc dX7_digits_119 rfl ?_
          rw [show (k : Int) + 1 = ((k + 1 : Nat) : Int) by omega]
          refine v_goto 4 dX7_digits_122 ?_
          (exfalso; omega)
      · refine v_bipush dX7_digits_49 ?_
        refine v_iload_n dX7_digits_51 rfl ?_
        refine v_imul dX7_digits_52 ?_
        refine v_iload dX7_digits_53 rfl ?_
        refine v_if_eq 73 dX7_digits_55 (fun h_55 => ?_) (fun h_55 => ?_)
        rotate_left
        · (exfalso; omega)
        refine v_iconst dX7_digits_73 ?_
        refine v_iadd dX7_digits_74 ?_
        refine v_istore_n dX7_digits_75 (by decide) ?_
        refine v_aload_n dX7_digits_76 rfl ?_
        refine v_aload_n dX7_digits_77 rfl ?_
        refine v_get dX7_digits_78 f_X7_260 (by first | exact aup_s | exact (aup_n nz8).trans h8) rfl ?_
        refine v_if_ne 89 dX7_digits_81 (fun h_81 => ?_) (fun h_81 => ?_)
        · refine v_iconst dX7_digits_89 ?_
          refine v_goto 94 dX7_digits_90 ?_
          refine v_put dX7_digits_94 f_X7_260 (by first | exact aup_s | exact (aup_n nz8).trans h8) rfl rfl (Nat.le_of_ble_eq_true rfl) ?_
          try rw [aup_up]
          refine v_aload_n dX7_digits_97 rfl ?_
          refine v_iload dX7_digits_98 rfl ?_
          refine v_if_eq 112 dX7_digits_100 (fun h_100 => ?_) (fun h_100 => ?_)
          rotate_left
          · (exfalso; omega)
          refine v_aload_n dX7_digits_112 rfl ?_
          refine v_get dX7_digits_113 f_X7_254 (by first | exact aup_s | exact (aup_n nz8).trans h8) rfl ?_
          refine v_put dX7_digits_116 f_X7_254 (by first | exact aup_s | exact (aup_n nz8).trans h8) rfl rfl (Nat.le_of_ble_eq_true rfl) ?_
          try rw [aup_up]
          refine v_iinc dX7_digits_119 rfl ?_
          rw [show (k : Int) + 1 = ((k + 1 : Nat) : Int) by omega]
          refine v_goto 4 dX7_digits_122 ?_
          (exfalso; omega)
        · refine v_iload dX7_digits_84 rfl ?_
          refine v_if_ne 93 dX7_digits_86 (fun h_86 => ?_) (fun h_86 => ?_)
          · (exfalso; omega)
          refine v_iconst dX7_digits_89 ?_
          refine v_goto 94 dX7_digits_90 ?_
          refine v_put dX7_digits_94 f_X7_260 (by first | exact aup_s | exact (aup_n nz8).trans h8) rfl rfl (Nat.le_of_ble_eq_true rfl) ?_
          try rw [aup_up]
          refine v_aload_n dX7_digits_97 rfl ?_
          refine v_iload dX7_digits_98 rfl ?_
          refine v_if_eq 112 dX7_digits_100 (fun h_100 => ?_) (fun h_100 => ?_)
          rotate_left
          · (exfalso; omega)
          refine v_aload_n dX7_digits_112 rfl ?_
          refine v_get dX7_digits_113 f_X7_254 (by first | exact aup_s | exact (aup_n nz8).trans h8) rfl ?_
          refine v_put dX7_digits_116 f_X7_254 (by first | exact aup_s | exact (aup_n nz8).trans h8) rfl rfl (Nat.le_of_ble_eq_true rfl) ?_
          try rw [aup_up]
          refine v_iinc dX7_digits_119 rfl ?_
          rw [show (k : Int) + 1 = ((k + 1 : Nat) : Int) by omega]
          refine v_goto 4 dX7_digits_122 ?_
          (exfalso; omega)
    refine v_iload_n dX7_digits_4 rfl ?_
    refine v_iload_n dX7_digits_5 rfl ?_
    refine v_icmp_ge 125 dX7_digits_6 (fun h_6 => ?_) (fun h_6 => ?_)
    · refine v_iload_n dX7_digits_125 rfl ?_
      exact v_iret dX7_digits_126 rfl (by exact (by rw [show n - k = 0 by omega] at hS; rw [← hS] at hQ; exact hQ))
    · refine v_aload_n dX7_digits_9 rfl ?_
      refine v_get dX7_digits_10 f_X7_254 (by first | exact aup_s | exact (aup_n nz8).trans h8) rfl ?_
      refine v_aload_n dX7_digits_13 rfl ?_
      refine v_get dX7_digits_14 f_X7_251 (by first | exact aup_s | exact (aup_n nz8).trans h8) rfl ?_
      refine v_icmp_ge 46 dX7_digits_17 (fun h_17 => ?_) (fun h_17 => ?_)
      · refine v_iconst dX7_digits_46 ?_
        refine v_istore dX7_digits_47 (by decide) ?_
        exact v_lof [(0, .ref z), (1, .int (iI (n : Int))), (2, .int (iI (v))), (3, .int (iI ((k : Int)))), (4, .int (iI _))] (List.forall_mem_cons.mpr ⟨rfl, (List.forall_mem_cons.mpr ⟨rfl, (List.forall_mem_cons.mpr ⟨rfl, (List.forall_mem_cons.mpr ⟨rfl, (List.forall_mem_cons.mpr ⟨rfl, (fun _ h => nomatch h)⟩)⟩)⟩)⟩)⟩) (J49 _ (by omega) (by omega))
      · refine v_aload_n dX7_digits_20 rfl ?_
        refine v_get dX7_digits_21 f_X7_35 (by first | exact aup_s | exact (aup_n nz8).trans h8) rfl ?_
        refine v_aload_n dX7_digits_24 rfl ?_
        refine v_get dX7_digits_25 f_X7_254 (by first | exact aup_s | exact (aup_n nz8).trans h8) rfl ?_
        refine v_iald dX7_digits_28 (by first | exact aup_s | exact (aup_n nz8).trans h8) ?_
        rw [show g ((p : Int).toNat) = g p from rfl]
        refine v_i2l dX7_digits_29 ?_
        refine v_ldc2 (48) dX7_digits_30 kl_X7_264 ?_
        refine v_ldc2 (57) dX7_digits_33 kl_X7_266 ?_
        refine v_S3 (rm' := rX7_in) dX7_digits_36 km_X7_102 ks_X7_in kz_X7 mk_X7_in rfl ⟨Nat.le_of_ble_eq_true rfl, Nat.le_of_ble_eq_true rfl⟩ ⟨Nat.le_of_ble_eq_true rfl, Nat.le_of_ble_eq_true rfl⟩ (Nat.le_of_ble_eq_true rfl) ?_
        refine s_X7_in hst (fun ri ei => ?_)
        refine v_if_eq 46 dX7_digits_39 (fun h_39 => ?_) (fun h_39 => ?_)
        · refine v_iconst dX7_digits_46 ?_
          refine v_istore dX7_digits_47 (by decide) ?_
          exact v_lof [(0, .ref z), (1, .int (iI (n : Int))), (2, .int (iI (v))), (3, .int (iI ((k : Int)))), (4, .int (iI _))] (List.forall_mem_cons.mpr ⟨rfl, (List.forall_mem_cons.mpr ⟨rfl, (List.forall_mem_cons.mpr ⟨rfl, (List.forall_mem_cons.mpr ⟨rfl, (List.forall_mem_cons.mpr ⟨rfl, (fun _ h => nomatch h)⟩)⟩)⟩)⟩)⟩) (J49 _ (by omega) (by omega))
        · refine v_iconst dX7_digits_42 ?_
          refine v_goto 47 dX7_digits_43 ?_
          refine v_istore dX7_digits_47 (by decide) ?_
          exact v_lof [(0, .ref z), (1, .int (iI (n : Int))), (2, .int (iI (v))), (3, .int (iI ((k : Int)))), (4, .int (iI _))] (List.forall_mem_cons.mpr ⟨rfl, (List.forall_mem_cons.mpr ⟨rfl, (List.forall_mem_cons.mpr ⟨rfl, (List.forall_mem_cons.mpr ⟨rfl, (List.forall_mem_cons.mpr ⟨rfl, (fun _ h => nomatch h)⟩)⟩)⟩)⟩)⟩) (J49 _ (by omega) (by omega))
  | succ N ih =>
    intro k v p wr hN hk hp hwr hv hS
    have nxp := nx_c g ty p
    have hgp := hg p
    have J49 : ∀ is : Int, k < n → ((is = 1 ∧ (48 ≤ nx g ty (p) ∧ nx g ty (p) ≤ 57)) ∨ (is = 0 ∧ ¬ (48 ≤ nx g ty (p) ∧ nx g ty (p) ≤ 57))) → V l G mX7_digits rX7_digits Q X 49 (lof [(0, .ref z), (1, .int (iI (n : Int))), (2, .int (iI (v))), (3, .int (iI ((k : Int)))), (4, .int (iI is))]) [] (aup w z (mdC A th yq mq dq ty ((p : Nat) : Int) (wr) sz)) 0 0 := by
      intro is hkn his
      rcases his with ⟨g1, g2⟩ | ⟨g1, g2⟩
      · refine v_bipush dX7_digits_49 ?_
        refine v_iload_n dX7_digits_51 rfl ?_
        refine v_imul dX7_digits_52 ?_
        refine v_iload dX7_digits_53 rfl ?_
        refine v_if_eq 73 dX7_digits_55 (fun h_55 => ?_) (fun h_55 => ?_)
        · (exfalso; omega)
        refine v_aload_n dX7_digits_58 rfl ?_
        refine v_get dX7_digits_59 f_X7_35 (by first | exact aup_s | exact (aup_n nz8).trans h8) rfl ?_
        refine v_aload_n dX7_digits_62 rfl ?_
        refine v_get dX7_digits_63 f_X7_254 (by first | exact aup_s | exact (aup_n nz8).trans h8) rfl ?_
        refine v_iald dX7_digits_66 (by first | exact aup_s | exact (aup_n nz8).trans h8) ?_
        rw [show g ((p : Int).toNat) = g p from rfl]
        refine v_bipush dX7_digits_67 ?_
        refine v_isub dX7_digits_69 ?_
        refine v_goto 74 dX7_digits_70 ?_
        refine v_iadd dX7_digits_74 ?_
        refine v_istore_n dX7_digits_75 (by decide) ?_
        refine v_aload_n dX7_digits_76 rfl ?_
        refine v_aload_n dX7_digits_77 rfl ?_
        refine v_get dX7_digits_78 f_X7_260 (by first | exact aup_s | exact (aup_n nz8).trans h8) rfl ?_
        refine v_if_ne 89 dX7_digits_81 (fun h_81 => ?_) (fun h_81 => ?_)
        · refine v_iconst dX7_digits_89 ?_
          refine v_goto 94 dX7_digits_90 ?_
          refine v_put dX7_digits_94 f_X7_260 (by first | exact aup_s | exact (aup_n nz8).trans h8) rfl rfl (Nat.le_of_ble_eq_true rfl) ?_
          try rw [aup_up]
          refine v_aload_n dX7_digits_97 rfl ?_
          refine v_iload dX7_digits_98 rfl ?_
          refine v_if_eq 112 dX7_digits_100 (fun h_100 => ?_) (fun h_100 => ?_)
          · (exfalso; omega)
          refine v_aload_n dX7_digits_103 rfl ?_
          refine v_get dX7_digits_104 f_X7_254 (by first | exact aup_s | exact (aup_n nz8).trans h8) rfl ?_
          refine v_iconst dX7_digits_107 ?_
          refine v_iadd dX7_digits_108 ?_
          refine v_goto 116 dX7_digits_109 ?_
          refine v_put dX7_digits_116 f_X7_254 (by first | exact aup_s | exact (aup_n nz8).trans h8) rfl rfl (Nat.le_of_ble_eq_true rfl) ?_
          try rw [aup_up]
          refine v_iinc dX7_digits_119 rfl ?_
          rw [show (k : Int) + 1 = ((k + 1 : Nat) : Int) by omega]
          refine v_goto 4 dX7_digits_122 ?_
          have q9 : g p = nx g ty p := (by omega)
          try rw [show ((p : Int) + 1) = ((p + 1 : Nat) : Int) by omega]
          first | (have g8 : wr = 0 := (by omega); subst g8; rw [q9]; exact v_lof [(0, .ref z), (1, .int (iI (n : Int))), (2, .int (iI (10 * v + (nx g ty p - 48)))), (3, .int (iI (((k + 1 : Nat) : Int))))] (List.forall_mem_cons.mpr ⟨rfl, (List.forall_mem_cons.mpr ⟨rfl, (List.forall_mem_cons.mpr ⟨rfl, (List.forall_mem_cons.mpr ⟨rfl, (fun _ h => nomatch h)⟩)⟩)⟩)⟩) (ih (k + 1) _ (p + 1) 0 (by omega) (by omega) (by omega) (Or.inl rfl) (by omega) (by rw [← hS, show n - k = n - (k + 1) + 1 by omega, dgs_p g2]))) | (have g8 : wr = 1 := (by omega); subst g8; rw [q9]; exact v_lof [(0, .ref z), (1, .int (iI (n : Int))), (2, .int (iI (10 * v + (nx g ty p - 48)))), (3, .int (iI (((k + 1 : Nat) : Int))))] (List.forall_mem_cons.mpr ⟨rfl, (List.forall_mem_cons.mpr ⟨rfl, (List.forall_mem_cons.mpr ⟨rfl, (List.forall_mem_cons.mpr ⟨rfl, (fun _ h => nomatch h)⟩)⟩)⟩)⟩) (ih (k + 1) _ (p + 1) 1 (by omega) (by omega) (by omega) (Or.inr rfl) (by omega) (by rw [← hS, show n - k = n - (k + 1) + 1 by omega, dgs_p g2])))
        · refine v_iload dX7_digits_84 rfl ?_
          refine v_if_ne 93 dX7_digits_86 (fun h_86 => ?_) (fun h_86 => ?_)
          rotate_left
          · (exfalso; omega)
          refine v_iconst dX7_digits_93 ?_
          refine v_put dX7_digits_94 f_X7_260 (by first | exact aup_s | exact (aup_n nz8).trans h8) rfl rfl (Nat.le_of_ble_eq_true rfl) ?_
          try rw [aup_up]
          refine v_aload_n dX7_digits_97 rfl ?_
          refine v_iload dX7_digits_98 rfl ?_
          refine v_if_eq 112 dX7_digits_100 (fun h_100 => ?_) (fun h_100 => ?_)
          · (exfalso; omega)
          refine v_aload_n dX7_digits_103 rfl ?_
          refine v_get dX7_digits_104 f_X7_254 (by first | exact aup_s | exact (aup_n nz8).trans h8) rfl ?_
          refine v_iconst dX7_digits_107 ?_
          refine v_iadd dX7_digits_108 ?_
          refine v_goto 116 dX7_digits_109 ?_
          refine v_put dX7_digits_116 f_X7_254 (by first | exact aup_s | exact (aup_n nz8).trans h8) rfl rfl (Nat.le_of_ble_eq_true rfl) ?_
          try rw [aup_up]
          refine v_iinc dX7_digits_119 rfl ?_
          rw [show (k : Int) + 1 = ((k + 1 : Nat) : Int) by omega]
          refine v_goto 4 dX7_digits_122 ?_
          have q9 : g p = nx g ty p := (by omega)
          try rw [show ((p : Int) + 1) = ((p + 1 : Nat) : Int) by omega]
          first | (have g8 : wr = 0 := (by omega); subst g8; rw [q9]; exact v_lof [(0, .ref z), (1, .int (iI (n : Int))), (2, .int (iI (10 * v + (nx g ty p - 48)))), (3, .int (iI (((k + 1 : Nat) : Int))))] (List.forall_mem_cons.mpr ⟨rfl, (List.forall_mem_cons.mpr ⟨rfl, (List.forall_mem_cons.mpr ⟨rfl, (List.forall_mem_cons.mpr ⟨rfl, (fun _ h => nomatch h)⟩)⟩)⟩)⟩) (ih (k + 1) _ (p + 1) 0 (by omega) (by omega) (by omega) (Or.inl rfl) (by omega) (by rw [← hS, show n - k = n - (k + 1) + 1 by omega, dgs_p g2]))) | (have g8 : wr = 1 := (by omega); subst g8; rw [q9]; exact v_lof [(0, .ref z), (1, .int (iI (n : Int))), (2, .int (iI (10 * v + (nx g ty p - 48)))), (3, .int (iI (((k + 1 : Nat) : Int))))] (List.forall_mem_cons.mpr ⟨rfl, (List.forall_mem_cons.mpr ⟨rfl, (List.forall_mem_cons.mpr ⟨rfl, (List.forall_mem_cons.mpr ⟨rfl, (fun _ h => nomatch h)⟩)⟩)⟩)⟩) (ih (k + 1) _ (p + 1) 1 (by omega) (by omega) (by omega) (Or.inr rfl) (by omega) (by rw [← hS, show n - k = n - (k + 1) + 1 by omega, dgs_p g2])))
      · refine v_bipush dX7_digits_49 ?_
        refine v_iload_n dX7_digits_51 rfl ?_
        refine v_imul dX7_digits_52 ?_
        refine v_iload dX7_digits_53 rfl ?_
        refine v_if_eq 73 dX7_digits_55 (fun h_55 => ?_) (fun h_55 => ?_)
        rotate_left
        · (exfalso; omega)
        refine v_iconst dX7_digits_73 ?_
        refine v_iadd dX7_digits_74 ?_
        refine v_istore_n dX7_digits_75 (by decide) ?_
        refine v_aload_n dX7_digits_76 rfl ?_
        refine v_aload_n dX7_digits_77 rfl ?_
        refine v_get dX7_digits_78 f_X7_260 (by first | exact aup_s | exact (aup_n nz8).trans h8) rfl ?_
        refine v_if_ne 89 dX7_digits_81 (fun h_81 => ?_) (fun h_81 => ?_)
        · refine v_iconst dX7_digits_89 ?_
          refine v_goto 94 dX7_digits_90 ?_
          refine v_put dX7_digits_94 f_X7_260 (by first | exact aup_s | exact (aup_n nz8).trans h8) rfl rfl (Nat.le_of_ble_eq_true rfl) ?_
          try rw [aup_up]
          refine v_aload_n dX7_digits_97 rfl ?_
          refine v_iload dX7_digits_98 rfl ?_
          refine v_if_eq 112 dX7_digits_100 (fun h_100 => ?_) (fun h_100 => ?_)
          rotate_left
          · (exfalso; omega)
          refine v_aload_n dX7_digits_112 rfl ?_
          refine v_get dX7_digits_113 f_X7_254 (by first | exact aup_s | exact (aup_n nz8).trans h8) rfl ?_
          refine v_put dX7_digits_116 f_X7_254 (by first | exact aup_s | exact (aup_n nz8).trans h8) rfl rfl (Nat.le_of_ble_eq_true rfl) ?_
          try rw [aup_up]
          refine v_iinc dX7_digits_119 rfl ?_
          rw [show (k : Int) + 1 = ((k + 1 : Nat) : Int) by omega]
          refine v_goto 4 dX7_digits_122 ?_
          exact v_lof [(0, .ref z), (1, .int (iI (n : Int))), (2, .int (iI (10 * v + 0))), (3, .int (iI (((k + 1 : Nat) : Int))))] (List.forall_mem_cons.mpr ⟨rfl, (List.forall_mem_cons.mpr ⟨rfl, (List.forall_mem_cons.mpr ⟨rfl, (List.forall_mem_cons.mpr ⟨rfl, (fun _ h => nomatch h)⟩)⟩)⟩)⟩) (ih (k + 1) _ p 1 (by omega) (by omega) hp (Or.inr rfl) (by omega) (by rw [← hS, show n - k = n - (k + 1) + 1 by omega, dgs_n g2]))
        · refine v_iload dX7_digits_84 rfl ?_
          refine v_if_ne 93 dX7_digits_86 (fun h_86 => ?_) (fun h_86 => ?_)
          · (exfalso; omega)
          refine v_iconst dX7_digits_89 ?_
          refine v_goto 94 dX7_digits_90 ?_
          refine v_put dX7_digits_94 f_X7_260 (by first | exact aup_s | exact (aup_n nz8).trans h8) rfl rfl (Nat.le_of_ble_eq_true rfl) ?_
          try rw [aup_up]
          refine v_aload_n dX7_digits_97 rfl ?_
          refine v_iload dX7_digits_98 rfl ?_
          refine v_if_eq 112 dX7_digits_100 (fun h_100 => ?_) (fun h_100 => ?_)
          rotate_left
          · (exfalso; omega)
          refine v_aload_n dX7_digits_112 rfl ?_
          refine v_get dX7_digits_113 f_X7_254 (by first | exact aup_s | exact (aup_n nz8).trans h8) rfl ?_
          refine v_put dX7_digits_116 f_X7_254 (by first | exact aup_s | exact (aup_n nz8).trans h8) rfl rfl (Nat.le_of_ble_eq_true rfl) ?_
          try rw [aup_up]
          refine v_iinc dX7_digits_119 rfl ?_
          rw [show (k : Int) + 1 = ((k + 1 : Nat) : Int) by omega]
          refine v_goto 4 dX7_digits_122 ?_
          exact v_lof [(0, .ref z), (1, .int (iI (n : Int))), (2, .int (iI (10 * v + 0))), (3, .int (iI (((k + 1 : Nat) : Int))))] (List.forall_mem_cons.mpr ⟨rfl, (List.forall_mem_cons.mpr ⟨rfl, (List.forall_mem_cons.mpr ⟨rfl, (List.forall_mem_cons.mpr ⟨rfl, (fun _ h => nomatch h)⟩)⟩)⟩)⟩) (ih (k + 1) _ p 1 (by omega) (by omega) hp (Or.inr rfl) (by omega) (by rw [← hS, show n - k = n - (k + 1) + 1 by omega, dgs_n g2]))
    refine v_iload_n dX7_digits_4 rfl ?_
    refine v_iload_n dX7_digits_5 rfl ?_
    refine v_icmp_ge 125 dX7_digits_6 (fun h_6 => ?_) (fun h_6 => ?_)
    · refine v_iload_n dX7_digits_125 rfl ?_
      exact v_iret dX7_digits_126 rfl (by exact (by rw [show n - k = 0 by omega] at hS; rw [← hS] at hQ; exact hQ))
    · refine v_aload_n dX7_digits_9 rfl ?_
      refine v_get dX7_digits_10 f_X7_254 (by first | exact aup_s | exact (aup_n nz8).trans h8) rfl ?_
      refine v_aload_n dX7_digits_13 rfl ?_
      refine v_get dX7_digits_14 f_X7_251 (by first | exact aup_s | exact (aup_n nz8).trans h8) rfl ?_
      refine v_icmp_ge 46 dX7_digits_17 (fun h_17 => ?_) (fun h_17 => ?_)
      · refine v_iconst dX7_digits_46 ?_
        refine v_istore dX7_digits_47 (by decide) ?_
        exact v_lof [(0, .ref z), (1, .int (iI (n : Int))), (2, .int (iI (v))), (3, .int (iI ((k : Int)))), (4, .int (iI _))] (List.forall_mem_cons.mpr ⟨rfl, (List.forall_mem_cons.mpr ⟨rfl, (List.forall_mem_cons.mpr ⟨rfl, (List.forall_mem_cons.mpr ⟨rfl, (List.forall_mem_cons.mpr ⟨rfl, (fun _ h => nomatch h)⟩)⟩)⟩)⟩)⟩) (J49 _ (by omega) (by omega))
      · refine v_aload_n dX7_digits_20 rfl ?_
        refine v_get dX7_digits_21 f_X7_35 (by first | exact aup_s | exact (aup_n nz8).trans h8) rfl ?_
        refine v_aload_n dX7_digits_24 rfl ?_
        refine v_get dX7_digits_25 f_X7_254 (by first | exact aup_s | exact (aup_n nz8).trans h8) rfl ?_
        refine v_iald dX7_digits_28 (by first | exact aup_s | exact (aup_n nz8).trans h8) ?_
        rw [show g ((p : Int).toNat) = g p from rfl]
        refine v_i2l dX7_digits_29 ?_
        refine v_ldc2 (48) dX7_digits_30 kl_X7_264 ?_
        refine v_ldc2 (57) dX7_digits_33 kl_X7_266 ?_
        refine v_S3 (rm' := rX7_in) dX7_digits_36 km_X7_102 ks_X7_in kz_X7 mk_X7_in rfl ⟨Nat.le_of_ble_eq_true rfl, Nat.le_of_ble_eq_true rfl⟩ ⟨Nat.le_of_ble_eq_true rfl, Nat.le_of_ble_eq_true rfl⟩ (Nat.le_of_ble_eq_true rfl) ?_
        refine s_X7_in hst (fun ri ei => ?_)
        refine v_if_eq 46 dX7_digits_39 (fun h_39 => ?_) (fun h_39 => ?_)
        · refine v_iconst dX7_digits_46 ?_
          refine v_istore dX7_digits_47 (by decide) ?_
          exact v_lof [(0, .ref z), (1, .int (iI (n : Int))), (2, .int (iI (v))), (3, .int (iI ((k : Int)))), (4, .int (iI _))] (List.forall_mem_cons.mpr ⟨rfl, (List.forall_mem_cons.mpr ⟨rfl, (List.forall_mem_cons.mpr ⟨rfl, (List.forall_mem_cons.mpr ⟨rfl, (List.forall_mem_cons.mpr ⟨rfl, (fun _ h => nomatch h)⟩)⟩)⟩)⟩)⟩) (J49 _ (by omega) (by omega))
        · refine v_iconst dX7_digits_42 ?_
          refine v_goto 47 dX7_digits_43 ?_
          refine v_istore dX7_digits_47 (by decide) ?_
          exact v_lof [(0, .ref z), (1, .int (iI (n : Int))), (2, .int (iI (v))), (3, .int (iI ((k : Int)))), (4, .int (iI _))] (List.forall_mem_cons.mpr ⟨rfl, (List.forall_mem_cons.mpr ⟨rfl, (List.forall_mem_cons.mpr ⟨rfl, (List.forall_mem_cons.mpr ⟨rfl, (List.forall_mem_cons.mpr ⟨rfl, (fun _ h => nomatch h)⟩)⟩)⟩)⟩)⟩) (J49 _ (by omega) (by omega))
set_option maxRecDepth 100000 in
set_option maxHeartbeats 4000000 in
theorem s_X7_digits {l : Launch} {G : GG} {w : AH} {Q : Option Value → AH → Prop} {X : String → AH → Prop} (hst : l.stackTraces = false) {z : Nat} {A : Nat → Nat} {th yq mq dq ty wr sz : Int} {p : Nat} {g : Nat → Int} (h0 : w z = some (mdC A th yq mq dq ty (p : Int) wr sz)) (h8 : w (A 8) = some (aiA G 30 g)) (hty : 0 ≤ ty ∧ ty ≤ 30) (hp : p ≤ 30) (hwr : wr = 0 ∨ wr = 1) (hg : ∀ k, 0 ≤ g k ∧ g k ≤ 65535) {n : Nat} (hn : n ≤ 4) {S : Int × Nat × Int} (hS : dgs g ty n 0 p wr = S) (hQ : Q (some (.int (iI S.1))) (aup w z (mdC A th yq mq dq ty ((S.2.1 : Nat) : Int) (S.2.2) sz))) : Ct l G mX7_digits rX7_digits [(.ref z), .int (iI (n : Int))] w Q X := by
  have nz8 : A 8 ≠ z := fun e => ne_of h0 h8 mdai e.symm
  have nxp := nx_c g ty p
  have hgp := hg p
  refine ct_of hst mk_X7_digits (Nat.le_of_ble_eq_true rfl) ?_
  refine v_iconst dX7_digits_0 ?_
  refine v_istore_n dX7_digits_1 (by decide) ?_
  refine v_iconst dX7_digits_2 ?_
  refine v_istore_n dX7_digits_3 (by decide) ?_
  rw [← aup_id h0]
  exact v_lof [(0, .ref z), (1, .int (iI (n : Int))), (2, .int (iI (0))), (3, .int (iI (((0 : Nat) : Int))))] (List.forall_mem_cons.mpr ⟨rfl, (List.forall_mem_cons.mpr ⟨rfl, (List.forall_mem_cons.mpr ⟨rfl, (List.forall_mem_cons.mpr ⟨rfl, (fun _ h => nomatch h)⟩)⟩)⟩)⟩) (dig_loop hst nz8 h8 hty hg hn hQ n 0 0 p wr (by omega) (by omega) hp hwr (by omega) hS)
