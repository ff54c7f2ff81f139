set_option maxRecDepth 100000 in
set_option maxHeartbeats 4000000 in
theorem s_X7_parse {l : Launch} {G : GG} {w : AH} {Q : Option Value → AH → Prop} {X : String → AH → Prop} (hst : l.stackTraces = false) {z : Nat} {A : Nat → Nat} {th yq mq dq ty ap wr sz : Int} {g : Nat → Int} (h0 : w z = some (mdC A th yq mq dq ty ap wr sz)) (h8 : w (A 8) = some (aiA G 30 g)) (hty : 0 ≤ ty ∧ ty ≤ 30) (hg : ∀ k, 0 ≤ g k ∧ g k ≤ 65535) {gd gn : Nat → Int} (h1 : w (A 0) = some (alA G 8 gd)) (h2 : w (A 1) = some (alA G 8 gn)) (hA01 : A 0 ≠ A 1) {i : Int} {o : Nat} (ho : o = 0) (hi : -2147483648 ≤ i ∧ i ≤ 2147483647) (hQI : (i < 0 ∨ 7 < i) → Q none (aup w z (mdC A 1 yq mq dq ty ap wr sz))) (hQ2 : ∀ (p' : Nat), (0 ≤ i ∧ i ≤ 7) → (∀ y m d T : Int, ¬ PO g ty o y m d T) → Q none (aup w z (mdC A 2 yq mq dq 0 ((p' : Nat) : Int) (1) sz))) (hQ : ∀ (p' : Nat) (y m d T : Int), (0 ≤ i ∧ i ≤ 7) → PO g ty o y m d T → Q none (aup (aup (aup w z (mdC A 0 yq mq dq 0 ((p' : Nat) : Int) (0) sz)) (A 0) (alA G 8 (gup gd i.toNat (ed y m d)))) (A 1) (alA G 8 (gup gn i.toNat T)))) : Ct l G mX7_parse rX7_parse [.ref z, .int (iI i)] w Q X := by
  have nz0 : A 0 ≠ z := fun e => ne_of h0 h1 mdal e.symm
  have nz1 : A 1 ≠ z := fun e => ne_of h0 h2 mdal e.symm
  have nz8 : A 8 ≠ z := fun e => ne_of h0 h8 mdai e.symm
  refine ct_of hst mk_X7_parse (Nat.le_of_ble_eq_true rfl) ?_
  refine v_aload_n dX7_parse_0 rfl ?_
  refine v_iload_n dX7_parse_1 rfl ?_
  refine v_V1 (rm' := rX7_isSlot) (RX7, TX7, 18) dX7_parse_2 km_X7_120 kn_X7_isSlot kv_X7_isSlot kz_X7 mk_X7_isSlot rfl rfl (by exact h0) ⟨Nat.le_of_ble_eq_true rfl, Nat.le_of_ble_eq_true rfl⟩ ⟨Nat.le_of_ble_eq_true rfl, Nat.le_of_ble_eq_true rfl⟩ (Nat.le_of_ble_eq_true rfl) ?_
  refine s_X7_isSlot hst h0 hi (fun h7 => ?_) (fun h7 => ?_)
  · refine v_if_ne 9 dX7_parse_5 (fun h_5 => ?_) (fun h_5 => ?_)
    rotate_left
    · (exfalso; omega)
    refine v_aload_n dX7_parse_9 rfl ?_
    refine v_iconst dX7_parse_10 ?_
    have e0 : (Value.int (iI 0)) = Value.int (iI ((o : Nat) : Int)) := (by rw [ho]; rfl)
    rw [e0]
    refine v_put dX7_parse_11 f_X7_254 (by exact aup_s) rfl rfl (Nat.le_of_ble_eq_true rfl) ?_
    try rw [aup_up]
    refine v_aload_n dX7_parse_14 rfl ?_
    refine v_iconst dX7_parse_15 ?_
    refine v_put dX7_parse_16 f_X7_260 (by exact aup_s) rfl rfl (Nat.le_of_ble_eq_true rfl) ?_
    try rw [aup_up]
    refine v_aload_n dX7_parse_19 rfl ?_
    refine v_bipush dX7_parse_20 ?_
    refine v_V1 (rm' := rX7_eat) (RX7, TX7, 18) dX7_parse_22 km_X7_257 kn_X7_eat kv_X7_eat kz_X7 mk_X7_eat rfl rfl (by exact aup_s) ⟨Nat.le_of_ble_eq_true rfl, Nat.le_of_ble_eq_true rfl⟩ ⟨Nat.le_of_ble_eq_true rfl, Nat.le_of_ble_eq_true rfl⟩ (Nat.le_of_ble_eq_true rfl) ?_
    refine s_X7_eat hst aup_s ((aup_n nz8).trans h8) hty (p := o) (by omega) (Or.inl rfl) hg (by omega) (fun mi s e1 hs => ?_)
    rw [aup_up]
    have hmi : mi = 0 ∨ mi = 1 := (by rcases e1 with g | g; exact Or.inr g.1; exact Or.inl g.1)
    replace e1 : OPQ _ := e1
    refine v_istore_n dX7_parse_25 (by decide) ?_
    refine v_aload_n dX7_parse_26 rfl ?_
    refine v_iconst dX7_parse_27 ?_
    refine v_V1 (rm' := rX7_digits) (RX7, TX7, 18) dX7_parse_28 km_X7_268 kn_X7_digits kv_X7_digits kz_X7 mk_X7_digits rfl rfl (by exact aup_s) ⟨Nat.le_of_ble_eq_true rfl, Nat.le_of_ble_eq_true rfl⟩ ⟨Nat.le_of_ble_eq_true rfl, Nat.le_of_ble_eq_true rfl⟩ (Nat.le_of_ble_eq_true rfl) ?_
    refine s_dig4 hst aup_s ((aup_n nz8).trans h8) hty hs (Or.inl rfl) hg (fun y p2 w2 e2 hy hp2 hw2 => ?_)
    rw [aup_up]
    replace e2 : OPQ _ := e2
    have J56 : ∀ w3 : Int, (w3 = 0 ∨ w3 = 1) → OPQ ((w3 = 0 ∧ w2 = 0 ∧ ¬ (mi = 1 ∧ y = 0)) ∨ (w3 = 1 ∧ ¬ (w2 = 0 ∧ ¬ (mi = 1 ∧ y = 0)))) → V l G mX7_parse rX7_parse Q X 56 (lof [(0, .ref z), (1, .int (iI i)), (2, .int (iI mi)), (3, .int (iI y))]) [] (aup w z (mdC A 0 yq mq dq ty ((p2 : Nat) : Int) (w3) sz)) 0 0 := by
      intro w3 hw3 e3
      refine v_aload_n dX7_parse_56 rfl ?_
      refine v_bipush dX7_parse_57 ?_
      refine v_V1 (rm' := rX7_want) (RX7, TX7, 18) dX7_parse_59 km_X7_272 kn_X7_want kv_X7_want kz_X7 mk_X7_want rfl rfl (by exact aup_s) ⟨Nat.le_of_ble_eq_true rfl, Nat.le_of_ble_eq_true rfl⟩ ⟨Nat.le_of_ble_eq_true rfl, Nat.le_of_ble_eq_true rfl⟩ (Nat.le_of_ble_eq_true rfl) ?_
      refine s_X7_want hst aup_s ((aup_n nz8).trans h8) hty hp2 hw3 hg (by omega) (fun p4 w4 e4 hp4 hw4 => ?_)
      rw [aup_up]
      replace e4 : OPQ _ := e4
      refine v_aload_n dX7_parse_62 rfl ?_
      refine v_iconst dX7_parse_63 ?_
      refine v_V1 (rm' := rX7_digits) (RX7, TX7, 18) dX7_parse_64 km_X7_268 kn_X7_digits kv_X7_digits kz_X7 mk_X7_digits rfl rfl (by exact aup_s) ⟨Nat.le_of_ble_eq_true rfl, Nat.le_of_ble_eq_true rfl⟩ ⟨Nat.le_of_ble_eq_true rfl, Nat.le_of_ble_eq_true rfl⟩ (Nat.le_of_ble_eq_true rfl) ?_
      refine s_dig2 hst aup_s ((aup_n nz8).trans h8) hty hp4 hw4 hg (fun m p5 w5 e5 hm hp5 hw5 => ?_)
      rw [aup_up]
      replace e5 : OPQ _ := e5
      refine v_istore dX7_parse_67 (by decide) ?_
      refine v_aload_n dX7_parse_69 rfl ?_
      refine v_bipush dX7_parse_70 ?_
      refine v_V1 (rm' := rX7_want) (RX7, TX7, 18) dX7_parse_72 km_X7_272 kn_X7_want kv_X7_want kz_X7 mk_X7_want rfl rfl (by exact aup_s) ⟨Nat.le_of_ble_eq_true rfl, Nat.le_of_ble_eq_true rfl⟩ ⟨Nat.le_of_ble_eq_true rfl, Nat.le_of_ble_eq_true rfl⟩ (Nat.le_of_ble_eq_true rfl) ?_
      refine s_X7_want hst aup_s ((aup_n nz8).trans h8) hty hp5 hw5 hg (by omega) (fun p6 w6 e6 hp6 hw6 => ?_)
      rw [aup_up]
      replace e6 : OPQ _ := e6
      refine v_aload_n dX7_parse_75 rfl ?_
      refine v_iconst dX7_parse_76 ?_
      refine v_V1 (rm' := rX7_digits) (RX7, TX7, 18) dX7_parse_77 km_X7_268 kn_X7_digits kv_X7_digits kz_X7 mk_X7_digits rfl rfl (by exact aup_s) ⟨Nat.le_of_ble_eq_true rfl, Nat.le_of_ble_eq_true rfl⟩ ⟨Nat.le_of_ble_eq_true rfl, Nat.le_of_ble_eq_true rfl⟩ (Nat.le_of_ble_eq_true rfl) ?_
      refine s_dig2 hst aup_s ((aup_n nz8).trans h8) hty hp6 hw6 hg (fun d p7 w7 e7 hd hp7 hw7 => ?_)
      rw [aup_up]
      replace e7 : OPQ _ := e7
      refine v_istore dX7_parse_80 (by decide) ?_
      refine v_aload_n dX7_parse_82 rfl ?_
      refine v_bipush dX7_parse_83 ?_
      refine v_V1 (rm' := rX7_eat) (RX7, TX7, 18) dX7_parse_85 km_X7_257 kn_X7_eat kv_X7_eat kz_X7 mk_X7_eat rfl rfl (by exact aup_s) ⟨Nat.le_of_ble_eq_true rfl, Nat.le_of_ble_eq_true rfl⟩ ⟨Nat.le_of_ble_eq_true rfl, Nat.le_of_ble_eq_true rfl⟩ (Nat.le_of_ble_eq_true rfl) ?_
      refine s_X7_eat hst aup_s ((aup_n nz8).trans h8) hty hp7 hw7 hg (by omega) (fun is p8 e8 hp8 => ?_)
      rw [aup_up]
      have his : is = 0 ∨ is = 1 := (by rcases e8 with g | g; exact Or.inr g.1; exact Or.inl g.1)
      replace e8 : OPQ _ := e8
      refine v_if_eq 98 dX7_parse_88 (fun h_88 => ?_) (fun h_88 => ?_)
      · refine v_lconst0 dX7_parse_98 ?_
        refine v_lstore dX7_parse_99 (by decide) ?_
        first
        | (have g9 : is = 0 ∧ nx g ty p7 ≠ 84 ∧ p8 = p7 := (by rcases e8 with g8 | g8; (exfalso; omega); exact g8)
           obtain ⟨g1, g2, g3⟩ := g9
           have hp9 := hp8
           rw [g3] at hp9 ⊢
           exact v_lof [(0, .ref z), (1, .int (iI i)), (2, .int (iI mi)), (3, .int (iI y)), (4, .int (iI m)), (5, .int (iI d)), (6, .long (lI (0)))] (List.forall_mem_cons.mpr ⟨rfl, (List.forall_mem_cons.mpr ⟨rfl, (List.forall_mem_cons.mpr ⟨rfl, (List.forall_mem_cons.mpr ⟨rfl, (List.forall_mem_cons.mpr ⟨rfl, (List.forall_mem_cons.mpr ⟨rfl, (List.forall_mem_cons.mpr ⟨rfl, (fun _ h => nomatch h)⟩)⟩)⟩)⟩)⟩)⟩)⟩) (par_101 hst h0 h8 hty hg h1 h2 hA01 ho h7 hQ2 hQ mi y m d (0) p7 w7 hp9 hy hm hd (by decide) hmi hw7 (paK e1 e2 e3 e4 e5 e6 e7 (te0 g2).1 (te0 g2).2).1 (paK e1 e2 e3 e4 e5 e6 e7 (te0 g2).1 (te0 g2).2).2))
        | (exact v_lof [(0, .ref z), (1, .int (iI i)), (2, .int (iI mi)), (3, .int (iI y)), (4, .int (iI m)), (5, .int (iI d)), (6, .long (lI (T)))] (List.forall_mem_cons.mpr ⟨rfl, (List.forall_mem_cons.mpr ⟨rfl, (List.forall_mem_cons.mpr ⟨rfl, (List.forall_mem_cons.mpr ⟨rfl, (List.forall_mem_cons.mpr ⟨rfl, (List.forall_mem_cons.mpr ⟨rfl, (List.forall_mem_cons.mpr ⟨rfl, (fun _ h => nomatch h)⟩)⟩)⟩)⟩)⟩)⟩)⟩) (par_101 hst h0 h8 hty hg h1 h2 hA01 ho h7 hQ2 hQ mi y m d (T) p9 w9 hp9 hy hm hd hT hmi hw9 (paK e1 e2 e3 e4 e5 e6 e7 (te1 g2 k1 k2).1 (te1 g2 k1 k2).2).1 (paK e1 e2 e3 e4 e5 e6 e7 (te1 g2 k1 k2).1 (te1 g2 k1 k2).2).2))
      · refine v_aload_n dX7_parse_91 rfl ?_
        refine v_V0 (rm' := rX7_timeIn) (RX7, TX7, 18) dX7_parse_92 km_X7_276 kn_X7_timeIn kv_X7_timeIn kz_X7 mk_X7_timeIn rfl rfl (by exact aup_s) ⟨Nat.le_of_ble_eq_true rfl, Nat.le_of_ble_eq_true rfl⟩ ⟨Nat.le_of_ble_eq_true rfl, Nat.le_of_ble_eq_true rfl⟩ (Nat.le_of_ble_eq_true rfl) ?_
        have g9 : is = 1 ∧ nx g ty p7 = 84 ∧ p8 = p7 + 1 := (by rcases e8 with g8 | g8; exact g8; (exfalso; omega))
        obtain ⟨g1, g2, g3⟩ := g9
        refine s_X7_timeIn hst aup_s ((aup_n nz8).trans h8) hty hp8 hw7 hg (q := p7) g3 g2 (fun T p9 w9 hp9 hT hw9 k1 k2 => ?_)
        rw [aup_up]
        replace k1 : OPQ _ := k1
        replace k2 : OPQ _ := k2
        refine v_goto 99 dX7_parse_95 ?_
        refine v_lstore dX7_parse_99 (by decide) ?_
        first
        | (have g9 : is = 0 ∧ nx g ty p7 ≠ 84 ∧ p8 = p7 := (by rcases e8 with g8 | g8; (exfalso; omega); exact g8)
           obtain ⟨g1, g2, g3⟩ := g9
           have hp9 := hp8
           rw [g3] at hp9 ⊢
           exact v_lof [(0, .ref z), (1, .int (iI i)), (2, .int (iI mi)), (3, .int (iI y)), (4, .int (iI m)), (5, .int (iI d)), (6, .long (lI (0)))] (List.forall_mem_cons.mpr ⟨rfl, (List.forall_mem_cons.mpr ⟨rfl, (List.forall_mem_cons.mpr ⟨rfl, (List.forall_mem_cons.mpr ⟨rfl, (List.forall_mem_cons.mpr ⟨rfl, (List.forall_mem_cons.mpr ⟨rfl, (List.forall_mem_cons.mpr ⟨rfl, (fun _ h => nomatch h)⟩)⟩)⟩)⟩)⟩)⟩)⟩) (par_101 hst h0 h8 hty hg h1 h2 hA01 ho h7 hQ2 hQ mi y m d (0) p7 w7 hp9 hy hm hd (by decide) hmi hw7 (paK e1 e2 e3 e4 e5 e6 e7 (te0 g2).1 (te0 g2).2).1 (paK e1 e2 e3 e4 e5 e6 e7 (te0 g2).1 (te0 g2).2).2))
        | (exact v_lof [(0, .ref z), (1, .int (iI i)), (2, .int (iI mi)), (3, .int (iI y)), (4, .int (iI m)), (5, .int (iI d)), (6, .long (lI (T)))] (List.forall_mem_cons.mpr ⟨rfl, (List.forall_mem_cons.mpr ⟨rfl, (List.forall_mem_cons.mpr ⟨rfl, (List.forall_mem_cons.mpr ⟨rfl, (List.forall_mem_cons.mpr ⟨rfl, (List.forall_mem_cons.mpr ⟨rfl, (List.forall_mem_cons.mpr ⟨rfl, (fun _ h => nomatch h)⟩)⟩)⟩)⟩)⟩)⟩)⟩) (par_101 hst h0 h8 hty hg h1 h2 hA01 ho h7 hQ2 hQ mi y m d (T) p9 w9 hp9 hy hm hd hT hmi hw9 (paK e1 e2 e3 e4 e5 e6 e7 (te1 g2 k1 k2).1 (te1 g2 k1 k2).2).1 (paK e1 e2 e3 e4 e5 e6 e7 (te1 g2 k1 k2).1 (te1 g2 k1 k2).2).2))
    refine v_istore_n dX7_parse_31 (by decide) ?_
    refine v_aload_n dX7_parse_32 rfl ?_
    refine v_aload_n dX7_parse_33 rfl ?_
    refine v_get dX7_parse_34 f_X7_260 (by exact aup_s) rfl ?_
    refine v_if_ne 48 dX7_parse_37 (fun h_37 => ?_) (fun h_37 => ?_)
    · refine v_iconst dX7_parse_48 ?_
      refine v_goto 53 dX7_parse_49 ?_
      refine v_put dX7_parse_53 f_X7_260 (by exact aup_s) rfl rfl (Nat.le_of_ble_eq_true rfl) ?_
      try rw [aup_up]
      first | (exfalso; omega) | exact v_lof [(0, .ref z), (1, .int (iI i)), (2, .int (iI mi)), (3, .int (iI y))] (List.forall_mem_cons.mpr ⟨rfl, (List.forall_mem_cons.mpr ⟨rfl, (List.forall_mem_cons.mpr ⟨rfl, (List.forall_mem_cons.mpr ⟨rfl, (fun _ h => nomatch h)⟩)⟩)⟩)⟩) (J56 _ (by first | exact Or.inl rfl | exact Or.inr rfl) (by first | exact Or.inl ⟨rfl, by omega, by omega⟩ | exact Or.inr ⟨rfl, by omega⟩))
    · refine v_iload_n dX7_parse_40 rfl ?_
      refine v_if_eq 52 dX7_parse_41 (fun h_41 => ?_) (fun h_41 => ?_)
      · refine v_iconst dX7_parse_52 ?_
        refine v_put dX7_parse_53 f_X7_260 (by exact aup_s) rfl rfl (Nat.le_of_ble_eq_true rfl) ?_
        try rw [aup_up]
        first | (exfalso; omega) | exact v_lof [(0, .ref z), (1, .int (iI i)), (2, .int (iI mi)), (3, .int (iI y))] (List.forall_mem_cons.mpr ⟨rfl, (List.forall_mem_cons.mpr ⟨rfl, (List.forall_mem_cons.mpr ⟨rfl, (List.forall_mem_cons.mpr ⟨rfl, (fun _ h => nomatch h)⟩)⟩)⟩)⟩) (J56 _ (by first | exact Or.inl rfl | exact Or.inr rfl) (by first | exact Or.inl ⟨rfl, by omega, by omega⟩ | exact Or.inr ⟨rfl, by omega⟩))
      · refine v_iload_n dX7_parse_44 rfl ?_
        refine v_if_ne 52 dX7_parse_45 (fun h_45 => ?_) (fun h_45 => ?_)
        · refine v_iconst dX7_parse_52 ?_
          refine v_put dX7_parse_53 f_X7_260 (by exact aup_s) rfl rfl (Nat.le_of_ble_eq_true rfl) ?_
          try rw [aup_up]
          first | (exfalso; omega) | exact v_lof [(0, .ref z), (1, .int (iI i)), (2, .int (iI mi)), (3, .int (iI y))] (List.forall_mem_cons.mpr ⟨rfl, (List.forall_mem_cons.mpr ⟨rfl, (List.forall_mem_cons.mpr ⟨rfl, (List.forall_mem_cons.mpr ⟨rfl, (fun _ h => nomatch h)⟩)⟩)⟩)⟩) (J56 _ (by first | exact Or.inl rfl | exact Or.inr rfl) (by first | exact Or.inl ⟨rfl, by omega, by omega⟩ | exact Or.inr ⟨rfl, by omega⟩))
        · refine v_iconst dX7_parse_48 ?_
          refine v_goto 53 dX7_parse_49 ?_
          refine v_put dX7_parse_53 f_X7_260 (by exact aup_s) rfl rfl (Nat.le_of_ble_eq_true rfl) ?_
          try rw [aup_up]
          first | (exfalso; omega) | exact v_lof [(0, .ref z), (1, .int (iI i)), (2, .int (iI mi)), (3, .int (iI y))] (List.forall_mem_cons.mpr ⟨rfl, (List.forall_mem_cons.mpr ⟨rfl, (List.forall_mem_cons.mpr ⟨rfl, (List.forall_mem_cons.mpr ⟨rfl, (fun _ h => nomatch h)⟩)⟩)⟩)⟩) (J56 _ (by first | exact Or.inl rfl | exact Or.inr rfl) (by first | exact Or.inl ⟨rfl, by omega, by omega⟩ | exact Or.inr ⟨rfl, by omega⟩))
  · refine v_if_ne 9 dX7_parse_5 (fun h_5 => ?_) (fun h_5 => ?_)
    · (exfalso; omega)
    exact v_vret dX7_parse_8 rfl (by exact hQI (by omega))
