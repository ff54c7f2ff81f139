set_option maxRecDepth 100000 in
set_option maxHeartbeats 1000000 in
theorem mof_loop {l : Launch} {G : GG} {w : AH} {Q : Option Value → AH → Prop} {X : String → AH → Prop} (hst : l.stackTraces = false) {z am ao ar : Nat} {ra : Nat → Nat} {f c r : Int} {gm go : Nat → Int} {ru : Nat → Nat → Int} (h0 : w z = some (zoC f am ao c ar r)) (h1 : w am = some (alA G 8 gm)) (h2 : w ao = some (aiA G 8 go)) (h3 : w ar = some (arA G 6 2 (fun i => some (ra i)))) (h4 : ∀ k, k < 2 → w (ra k) = some (ruC (ru k 0) (ru k 1) (ru k 2) (ru k 3) (ru k 4))) (hZ : ZOK f c r gm go ru) {lo la : Int} (hlo : -377705116800 ≤ lo ∧ lo ≤ 253402300799) (hla : la = 0 ∨ la = 1) (hQ : Q (some (.long (lI (mS f c r gm go ru lo la (1 + c + r).toNat)))) w) : ∀ (N k : Nat), 1 + c + r - k ≤ N → (k : Int) ≤ 1 + c + r → ∀ a : Int, mS f c r gm go ru lo la k = a → V l G mX5_momentOf rX5_momentOf Q X 8 (lof [(0, .ref z), (1, .long (lI lo)), (3, .int (iI la)), (4, .long (lI (a))), (6, .int (iI ((k : Int))))]) [] (w) 0 0 := by
  obtain ⟨hc, hr, hgm, hmono, hf, hgo, hru⟩ := hZ
  intro N
  induction N with
  | zero =>
    intro k hN hk a hak
    have har := mS_rng (la := la) ⟨hc, hr, hgm, hmono, hf, hgo, hru⟩ hlo k hk
    rw [hak] at har
    refine v_iload dX5_momentOf_8 rfl ?_
    refine v_iconst dX5_momentOf_10 ?_
    refine v_aload_n dX5_momentOf_11 rfl ?_
    refine v_get dX5_momentOf_12 f_X5_30 (by first | exact h0 | exact h1 | exact h2 | exact h3 | exact h5) rfl ?_
    refine v_iadd dX5_momentOf_15 ?_
    refine v_aload_n dX5_momentOf_16 rfl ?_
    refine v_get dX5_momentOf_17 f_X5_33 (by first | exact h0 | exact h1 | exact h2 | exact h3 | exact h5) rfl ?_
    refine v_iadd dX5_momentOf_20 ?_
    refine v_icmp_ge 104 dX5_momentOf_21 (fun h_21 => ?_) (fun h_21 => ?_)
    · refine v_lload dX5_momentOf_104 rfl ?_
      exact v_lret dX5_momentOf_106 rfl (by exact ql hQ (by rw [show (1 + c + r).toNat = k by omega, hak]))
    · refine v_aload_n dX5_momentOf_24 rfl ?_
      refine v_iload dX5_momentOf_25 rfl ?_
      refine v_V1 (rm' := rX5_offsetOfKind) (RX5, TX5, 6) dX5_momentOf_27 km_X5_77 kn_X5_offsetOfKind kv_X5_offsetOfKind kz_X5 mk_X5_offsetOfKind rfl rfl (by first | exact h0 | exact h1 | exact h2 | exact h3 | exact h5) ⟨Nat.le_of_ble_eq_true rfl, Nat.le_of_ble_eq_true rfl⟩ ⟨Nat.le_of_ble_eq_true rfl, Nat.le_of_ble_eq_true rfl⟩ (Nat.le_of_ble_eq_true rfl) ?_
      refine s_X5_offsetOfKind hst h0 h2 h3 hc hr (fun i h => ⟨_, _, _, _, h4 i h⟩) (ro := fun k => ru k 4) (by omega) ?_
      have hKr := kOff_rng (k := (k : Int)) ⟨hc, hr, hgm, hmono, hf, hgo, hru⟩ (by omega)
      have hK : ∃ K, kOff f go c (fun k => ru k 4) (k : Int) = K := ⟨_, rfl⟩
      obtain ⟨K, hK⟩ := hK
      rw [hK] at hKr ⊢
      refine v_istore dX5_momentOf_30 (by decide) ?_
      refine v_lload_n dX5_momentOf_32 rfl ?_
      refine v_iload dX5_momentOf_33 rfl ?_
      refine v_i2l dX5_momentOf_35 ?_
      refine v_lsub dX5_momentOf_36 ?_
      refine v_lstore dX5_momentOf_37 (by decide) ?_
      refine v_lload dX5_momentOf_39 rfl ?_
      refine v_ldc2 (-9223372036854775808) dX5_momentOf_41 kl_X5_44 ?_
      refine v_lif_eq 71 dX5_momentOf_44 dX5_momentOf_45 (fun h_44 => ?_) (fun h_44 => ?_)
      · refine v_iconst dX5_momentOf_71 ?_
        refine v_goto 76 dX5_momentOf_72 ?_
        refine v_istore dX5_momentOf_76 (by decide) ?_
        refine v_iload dX5_momentOf_78 rfl ?_
        refine v_if_eq 98 dX5_momentOf_80 (fun h_80 => ?_) (fun h_80 => ?_)
        · refine v_iinc dX5_momentOf_98 rfl ?_
          rw [show (k : Int) + 1 = ((k + 1 : Nat) : Int) by omega]
          refine v_goto 8 dX5_momentOf_101 ?_
          (exfalso; omega)
        · refine v_aload_n dX5_momentOf_83 rfl ?_
          refine v_lload dX5_momentOf_84 rfl ?_
          refine v_V1 (rm' := rX5_offsetAt) (RX5, TX5, 6) dX5_momentOf_86 km_X5_81 kn_X5_offsetAt kv_X5_offsetAt kz_X5 mk_X5_offsetAt rfl rfl (by first | exact h0 | exact h1 | exact h2 | exact h3 | exact h5) ⟨Nat.le_of_ble_eq_true rfl, Nat.le_of_ble_eq_true rfl⟩ ⟨Nat.le_of_ble_eq_true rfl, Nat.le_of_ble_eq_true rfl⟩ (Nat.le_of_ble_eq_true rfl) ?_
          refine s_X5_offsetAt hst h0 h1 h2 h3 h4 ⟨hc, hr, hgm, hmono, hf, hgo, hru⟩ (by omega) ?_
          have hOr := oA_rng (t := lo - K) ⟨hc, hr, hgm, hmono, hf, hgo, hru⟩
          refine v_iload dX5_momentOf_89 rfl ?_
          refine v_icmp_ne 98 dX5_momentOf_91 (fun h_91 => ?_) (fun h_91 => ?_)
          · refine v_iinc dX5_momentOf_98 rfl ?_
            rw [show (k : Int) + 1 = ((k + 1 : Nat) : Int) by omega]
            refine v_goto 8 dX5_momentOf_101 ?_
            (exfalso; omega)
          · refine v_lload dX5_momentOf_94 rfl ?_
            refine v_lstore dX5_momentOf_96 (by decide) ?_
            refine v_iinc dX5_momentOf_98 rfl ?_
            rw [show (k : Int) + 1 = ((k + 1 : Nat) : Int) by omega]
            refine v_goto 8 dX5_momentOf_101 ?_
            (exfalso; omega)
      · refine v_iload_n dX5_momentOf_48 rfl ?_
        refine v_if_eq 63 dX5_momentOf_49 (fun h_49 => ?_) (fun h_49 => ?_)
        · refine v_lload dX5_momentOf_63 rfl ?_
          refine v_lload dX5_momentOf_65 rfl ?_
          refine v_lif_ge 75 dX5_momentOf_67 dX5_momentOf_68 (fun h_67 => ?_) (fun h_67 => ?_)
          · refine v_iconst dX5_momentOf_75 ?_
            refine v_istore dX5_momentOf_76 (by decide) ?_
            refine v_iload dX5_momentOf_78 rfl ?_
            refine v_if_eq 98 dX5_momentOf_80 (fun h_80 => ?_) (fun h_80 => ?_)
            · refine v_iinc dX5_momentOf_98 rfl ?_
              rw [show (k : Int) + 1 = ((k + 1 : Nat) : Int) by omega]
              refine v_goto 8 dX5_momentOf_101 ?_
              (exfalso; omega)
            · refine v_aload_n dX5_momentOf_83 rfl ?_
              refine v_lload dX5_momentOf_84 rfl ?_
              refine v_V1 (rm' := rX5_offsetAt) (RX5, TX5, 6) dX5_momentOf_86 km_X5_81 kn_X5_offsetAt kv_X5_offsetAt kz_X5 mk_X5_offsetAt rfl rfl (by first | exact h0 | exact h1 | exact h2 | exact h3 | exact h5) ⟨Nat.le_of_ble_eq_true rfl, Nat.le_of_ble_eq_true rfl⟩ ⟨Nat.le_of_ble_eq_true rfl, Nat.le_of_ble_eq_true rfl⟩ (Nat.le_of_ble_eq_true rfl) ?_
              refine s_X5_offsetAt hst h0 h1 h2 h3 h4 ⟨hc, hr, hgm, hmono, hf, hgo, hru⟩ (by omega) ?_
              have hOr := oA_rng (t := lo - K) ⟨hc, hr, hgm, hmono, hf, hgo, hru⟩
              refine v_iload dX5_momentOf_89 rfl ?_
              refine v_icmp_ne 98 dX5_momentOf_91 (fun h_91 => ?_) (fun h_91 => ?_)
              · refine v_iinc dX5_momentOf_98 rfl ?_
                rw [show (k : Int) + 1 = ((k + 1 : Nat) : Int) by omega]
                refine v_goto 8 dX5_momentOf_101 ?_
                (exfalso; omega)
              · refine v_lload dX5_momentOf_94 rfl ?_
                refine v_lstore dX5_momentOf_96 (by decide) ?_
                refine v_iinc dX5_momentOf_98 rfl ?_
                rw [show (k : Int) + 1 = ((k + 1 : Nat) : Int) by omega]
                refine v_goto 8 dX5_momentOf_101 ?_
                (exfalso; omega)
          · refine v_iconst dX5_momentOf_71 ?_
            refine v_goto 76 dX5_momentOf_72 ?_
            refine v_istore dX5_momentOf_76 (by decide) ?_
            refine v_iload dX5_momentOf_78 rfl ?_
            refine v_if_eq 98 dX5_momentOf_80 (fun h_80 => ?_) (fun h_80 => ?_)
            · refine v_iinc dX5_momentOf_98 rfl ?_
              rw [show (k : Int) + 1 = ((k + 1 : Nat) : Int) by omega]
              refine v_goto 8 dX5_momentOf_101 ?_
              (exfalso; omega)
            · refine v_aload_n dX5_momentOf_83 rfl ?_
              refine v_lload dX5_momentOf_84 rfl ?_
              refine v_V1 (rm' := rX5_offsetAt) (RX5, TX5, 6) dX5_momentOf_86 km_X5_81 kn_X5_offsetAt kv_X5_offsetAt kz_X5 mk_X5_offsetAt rfl rfl (by first | exact h0 | exact h1 | exact h2 | exact h3 | exact h5) ⟨Nat.le_of_ble_eq_true rfl, Nat.le_of_ble_eq_true rfl⟩ ⟨Nat.le_of_ble_eq_true rfl, Nat.le_of_ble_eq_true rfl⟩ (Nat.le_of_ble_eq_true rfl) ?_
              refine s_X5_offsetAt hst h0 h1 h2 h3 h4 ⟨hc, hr, hgm, hmono, hf, hgo, hru⟩ (by omega) ?_
              have hOr := oA_rng (t := lo - K) ⟨hc, hr, hgm, hmono, hf, hgo, hru⟩
              refine v_iload dX5_momentOf_89 rfl ?_
              refine v_icmp_ne 98 dX5_momentOf_91 (fun h_91 => ?_) (fun h_91 => ?_)
              · refine v_iinc dX5_momentOf_98 rfl ?_
                rw [show (k : Int) + 1 = ((k + 1 : Nat) : Int) by omega]
                refine v_goto 8 dX5_momentOf_101 ?_
                (exfalso; omega)
              · refine v_lload dX5_momentOf_94 rfl ?_
                refine v_lstore dX5_momentOf_96 (by decide) ?_
                refine v_iinc dX5_momentOf_98 rfl ?_
                rw [show (k : Int) + 1 = ((k + 1 : Nat) : Int) by omega]
                refine v_goto 8 dX5_momentOf_101 ?_
                (exfalso; omega)
        · refine v_lload dX5_momentOf_52 rfl ?_
          refine v_lload dX5_momentOf_54 rfl ?_
          refine v_lif_le 75 dX5_momentOf_56 dX5_momentOf_57 (fun h_56 => ?_) (fun h_56 => ?_)
          · refine v_iconst dX5_momentOf_75 ?_
            refine v_istore dX5_momentOf_76 (by decide) ?_
            refine v_iload dX5_momentOf_78 rfl ?_
            refine v_if_eq 98 dX5_momentOf_80 (fun h_80 => ?_) (fun h_80 => ?_)
            · refine v_iinc dX5_momentOf_98 rfl ?_
              rw [show (k : Int) + 1 = ((k + 1 : Nat) : Int) by omega]
              refine v_goto 8 dX5_momentOf_101 ?_
              (exfalso; omega)
            · refine v_aload_n dX5_momentOf_83 rfl ?_
              refine v_lload dX5_momentOf_84 rfl ?_
              refine v_V1 (rm' := rX5_offsetAt) (RX5, TX5, 6) dX5_momentOf_86 km_X5_81 kn_X5_offsetAt kv_X5_offsetAt kz_X5 mk_X5_offsetAt rfl rfl (by first | exact h0 | exact h1 | exact h2 | exact h3 | exact h5) ⟨Nat.le_of_ble_eq_true rfl, Nat.le_of_ble_eq_true rfl⟩ ⟨Nat.le_of_ble_eq_true rfl, Nat.le_of_ble_eq_true rfl⟩ (Nat.le_of_ble_eq_true rfl) ?_
              refine s_X5_offsetAt hst h0 h1 h2 h3 h4 ⟨hc, hr, hgm, hmono, hf, hgo, hru⟩ (by omega) ?_
              have hOr := oA_rng (t := lo - K) ⟨hc, hr, hgm, hmono, hf, hgo, hru⟩
              refine v_iload dX5_momentOf_89 rfl ?_
              refine v_icmp_ne 98 dX5_momentOf_91 (fun h_91 => ?_) (fun h_91 => ?_)
              · refine v_iinc dX5_momentOf_98 rfl ?_
                rw [show (k : Int) + 1 = ((k + 1 : Nat) : Int) by omega]
                refine v_goto 8 dX5_momentOf_101 ?_
                (exfalso; omega)
              · refine v_lload dX5_momentOf_94 rfl ?_
                refine v_lstore dX5_momentOf_96 (by decide) ?_
                refine v_iinc dX5_momentOf_98 rfl ?_
                rw [show (k : Int) + 1 = ((k + 1 : Nat) : Int) by omega]
                refine v_goto 8 dX5_momentOf_101 ?_
                (exfalso; omega)
          · refine v_goto 71 dX5_momentOf_60 ?_
            refine v_iconst dX5_momentOf_71 ?_
            refine v_goto 76 dX5_momentOf_72 ?_
            refine v_istore dX5_momentOf_76 (by decide) ?_
            refine v_iload dX5_momentOf_78 rfl ?_
            refine v_if_eq 98 dX5_momentOf_80 (fun h_80 => ?_) (fun h_80 => ?_)
            · refine v_iinc dX5_momentOf_98 rfl ?_
              rw [show (k : Int) + 1 = ((k + 1 : Nat) : Int) by omega]
              refine v_goto 8 dX5_momentOf_101 ?_
              (exfalso; omega)
            · refine v_aload_n dX5_momentOf_83 rfl ?_
              refine v_lload dX5_momentOf_84 rfl ?_
              refine v_V1 (rm' := rX5_offsetAt) (RX5, TX5, 6) dX5_momentOf_86 km_X5_81 kn_X5_offsetAt kv_X5_offsetAt kz_X5 mk_X5_offsetAt rfl rfl (by first | exact h0 | exact h1 | exact h2 | exact h3 | exact h5) ⟨Nat.le_of_ble_eq_true rfl, Nat.le_of_ble_eq_true rfl⟩ ⟨Nat.le_of_ble_eq_true rfl, Nat.le_of_ble_eq_true rfl⟩ (Nat.le_of_ble_eq_true rfl) ?_
              refine s_X5_offsetAt hst h0 h1 h2 h3 h4 ⟨hc, hr, hgm, hmono, hf, hgo, hru⟩ (by omega) ?_
              have hOr := oA_rng (t := lo - K) ⟨hc, hr, hgm, hmono, hf, hgo, hru⟩
              refine v_iload dX5_momentOf_89 rfl ?_
              refine v_icmp_ne 98 dX5_momentOf_91 (fun h_91 => ?_) (fun h_91 => ?_)
              · refine v_iinc dX5_momentOf_98 rfl ?_
                rw [show (k : Int) + 1 = ((k + 1 : Nat) : Int) by omega]
                refine v_goto 8 dX5_momentOf_101 ?_
                (exfalso; omega)
              · refine v_lload dX5_momentOf_94 rfl ?_
                refine v_lstore dX5_momentOf_96 (by decide) ?_
                refine v_iinc dX5_momentOf_98 rfl ?_
                rw [show (k : Int) + 1 = ((k + 1 : Nat) : Int) by omega]
                refine v_goto 8 dX5_momentOf_101 ?_
                (exfalso; omega)
  | succ N ih =>
    intro k hN hk a hak
    have har := mS_rng (la := la) ⟨hc, hr, hgm, hmono, hf, hgo, hru⟩ hlo k hk
    rw [hak] at har
    refine v_iload dX5_momentOf_8 rfl ?_
    refine v_iconst dX5_momentOf_10 ?_
    refine v_aload_n dX5_momentOf_11 rfl ?_
    refine v_get dX5_momentOf_12 f_X5_30 (by first | exact h0 | exact h1 | exact h2 | exact h3 | exact h5) rfl ?_
    refine v_iadd dX5_momentOf_15 ?_
    refine v_aload_n dX5_momentOf_16 rfl ?_
    refine v_get dX5_momentOf_17 f_X5_33 (by first | exact h0 | exact h1 | exact h2 | exact h3 | exact h5) rfl ?_
    refine v_iadd dX5_momentOf_20 ?_
    refine v_icmp_ge 104 dX5_momentOf_21 (fun h_21 => ?_) (fun h_21 => ?_)
    · refine v_lload dX5_momentOf_104 rfl ?_
      exact v_lret dX5_momentOf_106 rfl (by exact ql hQ (by rw [show (1 + c + r).toNat = k by omega, hak]))
    · refine v_aload_n dX5_momentOf_24 rfl ?_
      refine v_iload dX5_momentOf_25 rfl ?_
      refine v_V1 (rm' := rX5_offsetOfKind) (RX5, TX5, 6) dX5_momentOf_27 km_X5_77 kn_X5_offsetOfKind kv_X5_offsetOfKind kz_X5 mk_X5_offsetOfKind rfl rfl (by first | exact h0 | exact h1 | exact h2 | exact h3 | exact h5) ⟨Nat.le_of_ble_eq_true rfl, Nat.le_of_ble_eq_true rfl⟩ ⟨Nat.le_of_ble_eq_true rfl, Nat.le_of_ble_eq_true rfl⟩ (Nat.le_of_ble_eq_true rfl) ?_
      refine s_X5_offsetOfKind hst h0 h2 h3 hc hr (fun i h => ⟨_, _, _, _, h4 i h⟩) (ro := fun k => ru k 4) (by omega) ?_
      have hKr := kOff_rng (k := (k : Int)) ⟨hc, hr, hgm, hmono, hf, hgo, hru⟩ (by omega)
      have hK : ∃ K, kOff f go c (fun k => ru k 4) (k : Int) = K := ⟨_, rfl⟩
      obtain ⟨K, hK⟩ := hK
      rw [hK] at hKr ⊢
      refine v_istore dX5_momentOf_30 (by decide) ?_
      refine v_lload_n dX5_momentOf_32 rfl ?_
      refine v_iload dX5_momentOf_33 rfl ?_
      refine v_i2l dX5_momentOf_35 ?_
      refine v_lsub dX5_momentOf_36 ?_
      refine v_lstore dX5_momentOf_37 (by decide) ?_
      refine v_lload dX5_momentOf_39 rfl ?_
      refine v_ldc2 (-9223372036854775808) dX5_momentOf_41 kl_X5_44 ?_
      refine v_lif_eq 71 dX5_momentOf_44 dX5_momentOf_45 (fun h_44 => ?_) (fun h_44 => ?_)
      · refine v_iconst dX5_momentOf_71 ?_
        refine v_goto 76 dX5_momentOf_72 ?_
        refine v_istore dX5_momentOf_76 (by decide) ?_
        refine v_iload dX5_momentOf_78 rfl ?_
        refine v_if_eq 98 dX5_momentOf_80 (fun h_80 => ?_) (fun h_80 => ?_)
        · refine v_iinc dX5_momentOf_98 rfl ?_
          rw [show (k : Int) + 1 = ((k + 1 : Nat) : Int) by omega]
          refine v_goto 8 dX5_momentOf_101 ?_
          first | (exfalso; omega) | (have g9 : (oA f c r gm go ru (lo - K) = K ∧ (a = -9223372036854775808 ∨ (la = 1 ∧ a < lo - K) ∨ (la = 0 ∧ lo - K < a))) := (by omega); exact v_lof [(0, .ref z), (1, .long (lI lo)), (3, .int (iI la)), (4, .long (lI (lo - K))), (6, .int (iI (((k + 1 : Nat) : Int))))] (List.forall_mem_cons.mpr ⟨rfl, (List.forall_mem_cons.mpr ⟨rfl, (List.forall_mem_cons.mpr ⟨rfl, (List.forall_mem_cons.mpr ⟨rfl, (List.forall_mem_cons.mpr ⟨rfl, (fun _ h => nomatch h)⟩)⟩)⟩)⟩)⟩) (ih (k + 1) (by omega) (by omega) _ (mS_p hak hK g9))) | (have g9 : ¬ (oA f c r gm go ru (lo - K) = K ∧ (a = -9223372036854775808 ∨ (la = 1 ∧ a < lo - K) ∨ (la = 0 ∧ lo - K < a))) := (by omega); exact v_lof [(0, .ref z), (1, .long (lI lo)), (3, .int (iI la)), (4, .long (lI (a))), (6, .int (iI (((k + 1 : Nat) : Int))))] (List.forall_mem_cons.mpr ⟨rfl, (List.forall_mem_cons.mpr ⟨rfl, (List.forall_mem_cons.mpr ⟨rfl, (List.forall_mem_cons.mpr ⟨rfl, (List.forall_mem_cons.mpr ⟨rfl, (fun _ h => nomatch h)⟩)⟩)⟩)⟩)⟩) (ih (k + 1) (by omega) (by omega) _ (mS_n hak hK g9)))
        · refine v_aload_n dX5_momentOf_83 rfl ?_
          refine v_lload dX5_momentOf_84 rfl ?_
          refine v_V1 (rm' := rX5_offsetAt) (RX5, TX5, 6) dX5_momentOf_86 km_X5_81 kn_X5_offsetAt kv_X5_offsetAt kz_X5 mk_X5_offsetAt rfl rfl (by first | exact h0 | exact h1 | exact h2 | exact h3 | exact h5) ⟨Nat.le_of_ble_eq_true rfl, Nat.le_of_ble_eq_true rfl⟩ ⟨Nat.le_of_ble_eq_true rfl, Nat.le_of_ble_eq_true rfl⟩ (Nat.le_of_ble_eq_true rfl) ?_
          refine s_X5_offsetAt hst h0 h1 h2 h3 h4 ⟨hc, hr, hgm, hmono, hf, hgo, hru⟩ (by omega) ?_
          have hOr := oA_rng (t := lo - K) ⟨hc, hr, hgm, hmono, hf, hgo, hru⟩
          refine v_iload dX5_momentOf_89 rfl ?_
          refine v_icmp_ne 98 dX5_momentOf_91 (fun h_91 => ?_) (fun h_91 => ?_)
          · refine v_iinc dX5_momentOf_98 rfl ?_
            rw [show (k : Int) + 1 = ((k + 1 : Nat) : Int) by omega]
            refine v_goto 8 dX5_momentOf_101 ?_
            first | (exfalso; omega) | (have g9 : (oA f c r gm go ru (lo - K) = K ∧ (a = -9223372036854775808 ∨ (la = 1 ∧ a < lo - K) ∨ (la = 0 ∧ lo - K < a))) := (by omega); exact v_lof [(0, .ref z), (1, .long (lI lo)), (3, .int (iI la)), (4, .long (lI (lo - K))), (6, .int (iI (((k + 1 : Nat) : Int))))] (List.forall_mem_cons.mpr ⟨rfl, (List.forall_mem_cons.mpr ⟨rfl, (List.forall_mem_cons.mpr ⟨rfl, (List.forall_mem_cons.mpr ⟨rfl, (List.forall_mem_cons.mpr ⟨rfl, (fun _ h => nomatch h)⟩)⟩)⟩)⟩)⟩) (ih (k + 1) (by omega) (by omega) _ (mS_p hak hK g9))) | (have g9 : ¬ (oA f c r gm go ru (lo - K) = K ∧ (a = -9223372036854775808 ∨ (la = 1 ∧ a < lo - K) ∨ (la = 0 ∧ lo - K < a))) := (by omega); exact v_lof [(0, .ref z), (1, .long (lI lo)), (3, .int (iI la)), (4, .long (lI (a))), (6, .int (iI (((k + 1 : Nat) : Int))))] (List.forall_mem_cons.mpr ⟨rfl, (List.forall_mem_cons.mpr ⟨rfl, (List.forall_mem_cons.mpr ⟨rfl, (List.forall_mem_cons.mpr ⟨rfl, (List.forall_mem_cons.mpr ⟨rfl, (fun _ h => nomatch h)⟩)⟩)⟩)⟩)⟩) (ih (k + 1) (by omega) (by omega) _ (mS_n hak hK g9)))
          · refine v_lload dX5_momentOf_94 rfl ?_
            refine v_lstore dX5_momentOf_96 (by decide) ?_
            refine v_iinc dX5_momentOf_98 rfl ?_
            rw [show (k : Int) + 1 = ((k + 1 : Nat) : Int) by omega]
            refine v_goto 8 dX5_momentOf_101 ?_
            first | (exfalso; omega) | (have g9 : (oA f c r gm go ru (lo - K) = K ∧ (a = -9223372036854775808 ∨ (la = 1 ∧ a < lo - K) ∨ (la = 0 ∧ lo - K < a))) := (by omega); exact v_lof [(0, .ref z), (1, .long (lI lo)), (3, .int (iI la)), (4, .long (lI (lo - K))), (6, .int (iI (((k + 1 : Nat) : Int))))] (List.forall_mem_cons.mpr ⟨rfl, (List.forall_mem_cons.mpr ⟨rfl, (List.forall_mem_cons.mpr ⟨rfl, (List.forall_mem_cons.mpr ⟨rfl, (List.forall_mem_cons.mpr ⟨rfl, (fun _ h => nomatch h)⟩)⟩)⟩)⟩)⟩) (ih (k + 1) (by omega) (by omega) _ (mS_p hak hK g9))) | (have g9 : ¬ (oA f c r gm go ru (lo - K) = K ∧ (a = -9223372036854775808 ∨ (la = 1 ∧ a < lo - K) ∨ (la = 0 ∧ lo - K < a))) := (by omega); exact v_lof [(0, .ref z), (1, .long (lI lo)), (3, .int (iI la)), (4, .long (lI (a))), (6, .int (iI (((k + 1 : Nat) : Int))))] (List.forall_mem_cons.mpr ⟨rfl, (List.forall_mem_cons.mpr ⟨rfl, (List.forall_mem_cons.mpr ⟨rfl, (List.forall_mem_cons.mpr ⟨rfl, (List.forall_mem_cons.mpr ⟨rfl, (fun _ h => nomatch h)⟩)⟩)⟩)⟩)⟩) (ih (k + 1) (by omega) (by omega) _ (mS_n hak hK g9)))
      · refine v_iload_n dX5_momentOf_48 rfl ?_
        refine v_if_eq 63 dX5_momentOf_49 (fun h_49 => ?_) (fun h_49 => ?_)
        · refine v_lload dX5_momentOf_63 rfl ?_
          refine v_lload dX5_momentOf_65 rfl ?_
          refine v_lif_ge 75 dX5_momentOf_67 dX5_momentOf_68 (fun h_67 => ?_) (fun h_67 => ?_)
          · refine v_iconst dX5_momentOf_75 ?_
            refine v_istore dX5_momentOf_76 (by decide) ?_
            refine v_iload dX5_momentOf_78 rfl ?_
            refine v_if_eq 98 dX5_momentOf_80 (fun h_80 => ?_) (fun h_80 => ?_)
            · refine v_iinc dX5_momentOf_98 rfl ?_
              rw [show (k : Int) + 1 = ((k + 1 : Nat) : Int) by omega]
              refine v_goto 8 dX5_momentOf_101 ?_
              first | (exfalso; omega) | (have g9 : (oA f c r gm go ru (lo - K) = K ∧ (a = -9223372036854775808 ∨ (la = 1 ∧ a < lo - K) ∨ (la = 0 ∧ lo - K < a))) := (by omega); exact v_lof [(0, .ref z), (1, .long (lI lo)), (3, .int (iI la)), (4, .long (lI (lo - K))), (6, .int (iI (((k + 1 : Nat) : Int))))] (List.forall_mem_cons.mpr ⟨rfl, (List.forall_mem_cons.mpr ⟨rfl, (List.forall_mem_cons.mpr ⟨rfl, (List.forall_mem_cons.mpr ⟨rfl, (List.forall_mem_cons.mpr ⟨rfl, (fun _ h => nomatch h)⟩)⟩)⟩)⟩)⟩) (ih (k + 1) (by omega) (by omega) _ (mS_p hak hK g9))) | (have g9 : ¬ (oA f c r gm go ru (lo - K) = K ∧ (a = -9223372036854775808 ∨ (la = 1 ∧ a < lo - K) ∨ (la = 0 ∧ lo - K < a))) := (by omega); exact v_lof [(0, .ref z), (1, .long (lI lo)), (3, .int (iI la)), (4, .long (lI (a))), (6, .int (iI (((k + 1 : Nat) : Int))))] (List.forall_mem_cons.mpr ⟨rfl, (List.forall_mem_cons.mpr ⟨rfl, (List.forall_mem_cons.mpr ⟨rfl, (List.forall_mem_cons.mpr ⟨rfl, (List.forall_mem_cons.mpr ⟨rfl, (fun _ h => nomatch h)⟩)⟩)⟩)⟩)⟩) (ih (k + 1) (by omega) (by omega) _ (mS_n hak hK g9)))
            · refine v_aload_n dX5_momentOf_83 rfl ?_
              refine v_lload dX5_momentOf_84 rfl ?_
              refine v_V1 (rm' := rX5_offsetAt) (RX5, TX5, 6) dX5_momentOf_86 km_X5_81 kn_X5_offsetAt kv_X5_offsetAt kz_X5 mk_X5_offsetAt rfl rfl (by first | exact h0 | exact h1 | exact h2 | exact h3 | exact h5) ⟨Nat.le_of_ble_eq_true rfl, Nat.le_of_ble_eq_true rfl⟩ ⟨Nat.le_of_ble_eq_true rfl, Nat.le_of_ble_eq_true rfl⟩ (Nat.le_of_ble_eq_true rfl) ?_
              refine s_X5_offsetAt hst h0 h1 h2 h3 h4 ⟨hc, hr, hgm, hmono, hf, hgo, hru⟩ (by omega) ?_
              have hOr := oA_rng (t := lo - K) ⟨hc, hr, hgm, hmono, hf, hgo, hru⟩
              refine v_iload dX5_momentOf_89 rfl ?_
              refine v_icmp_ne 98 dX5_momentOf_91 (fun h_91 => ?_) (fun h_91 => ?_)
              · refine v_iinc dX5_momentOf_98 rfl ?_
                rw [show (k : Int) + 1 = ((k + 1 : Nat) : Int) by omega]
                refine v_goto 8 dX5_momentOf_101 ?_
                first | (exfalso; omega) | (have g9 : (oA f c r gm go ru (lo - K) = K ∧ (a = -9223372036854775808 ∨ (la = 1 ∧ a < lo - K) ∨ (la = 0 ∧ lo - K < a))) := (by omega); exact v_lof [(0, .ref z), (1, .long (lI lo)), (3, .int (iI la)), (4, .long (lI (lo - K))), (6, .int (iI (((k + 1 : Nat) : Int))))] (List.forall_mem_cons.mpr ⟨rfl, (List.forall_mem_cons.mpr ⟨rfl, (List.forall_mem_cons.mpr ⟨rfl, (List.forall_mem_cons.mpr ⟨rfl, (List.forall_mem_cons.mpr ⟨rfl, (fun _ h => nomatch h)⟩)⟩)⟩)⟩)⟩) (ih (k + 1) (by omega) (by omega) _ (mS_p hak hK g9))) | (have g9 : ¬ (oA f c r gm go ru (lo - K) = K ∧ (a = -9223372036854775808 ∨ (la = 1 ∧ a < lo - K) ∨ (la = 0 ∧ lo - K < a))) := (by omega); exact v_lof [(0, .ref z), (1, .long (lI lo)), (3, .int (iI la)), (4, .long (lI (a))), (6, .int (iI (((k + 1 : Nat) : Int))))] (List.forall_mem_cons.mpr ⟨rfl, (List.forall_mem_cons.mpr ⟨rfl, (List.forall_mem_cons.mpr ⟨rfl, (List.forall_mem_cons.mpr ⟨rfl, (List.forall_mem_cons.mpr ⟨rfl, (fun _ h => nomatch h)⟩)⟩)⟩)⟩)⟩) (ih (k + 1) (by omega) (by omega) _ (mS_n hak hK g9)))
              · refine v_lload dX5_momentOf_94 rfl ?_
                refine v_lstore dX5_momentOf_96 (by decide) ?_
                refine v_iinc dX5_momentOf_98 rfl ?_
                rw [show (k : Int) + 1 = ((k + 1 : Nat) : Int) by omega]
                refine v_goto 8 dX5_momentOf_101 ?_
                first | (exfalso; omega) | (have g9 : (oA f c r gm go ru (lo - K) = K ∧ (a = -9223372036854775808 ∨ (la = 1 ∧ a < lo - K) ∨ (la = 0 ∧ lo - K < a))) := (by omega); exact v_lof [(0, .ref z), (1, .long (lI lo)), (3, .int (iI la)), (4, .long (lI (lo - K))), (6, .int (iI (((k + 1 : Nat) : Int))))] (List.forall_mem_cons.mpr ⟨rfl, (List.forall_mem_cons.mpr ⟨rfl, (List.forall_mem_cons.mpr ⟨rfl, (List.forall_mem_cons.mpr ⟨rfl, (List.forall_mem_cons.mpr ⟨rfl, (fun _ h => nomatch h)⟩)⟩)⟩)⟩)⟩) (ih (k + 1) (by omega) (by omega) _ (mS_p hak hK g9))) | (have g9 : ¬ (oA f c r gm go ru (lo - K) = K ∧ (a = -9223372036854775808 ∨ (la = 1 ∧ a < lo - K) ∨ (la = 0 ∧ lo - K < a))) := (by omega); exact v_lof [(0, .ref z), (1, .long (lI lo)), (3, .int (iI la)), (4, .long (lI (a))), (6, .int (iI (((k + 1 : Nat) : Int))))] (List.forall_mem_cons.mpr ⟨rfl, (List.forall_mem_cons.mpr ⟨rfl, (List.forall_mem_cons.mpr ⟨rfl, (List.forall_mem_cons.mpr ⟨rfl, (List.forall_mem_cons.mpr ⟨rfl, (fun _ h => nomatch h)⟩)⟩)⟩)⟩)⟩) (ih (k + 1) (by omega) (by omega) _ (mS_n hak hK g9)))
          · refine v_iconst dX5_momentOf_71 ?_
            refine v_goto 76 dX5_momentOf_72 ?_
            refine v_istore dX5_momentOf_76 (by decide) ?_
            refine v_iload dX5_momentOf_78 rfl ?_
            refine v_if_eq 98 dX5_momentOf_80 (fun h_80 => ?_) (fun h_80 => ?_)
            · refine v_iinc dX5_momentOf_98 rfl ?_
              rw [show (k : Int) + 1 = ((k + 1 : Nat) : Int) by omega]
              refine v_goto 8 dX5_momentOf_101 ?_
              first | (exfalso; omega) | (have g9 : (oA f c r gm go ru (lo - K) = K ∧ (a = -9223372036854775808 ∨ (la = 1 ∧ a < lo - K) ∨ (la = 0 ∧ lo - K < a))) := (by omega); exact v_lof [(0, .ref z), (1, .long (lI lo)), (3, .int (iI la)), (4, .long (lI (lo - K))), (6, .int (iI (((k + 1 : Nat) : Int))))] (List.forall_mem_cons.mpr ⟨rfl, (List.forall_mem_cons.mpr ⟨rfl, (List.forall_mem_cons.mpr ⟨rfl, (List.forall_mem_cons.mpr ⟨rfl, (List.forall_mem_cons.mpr ⟨rfl, (fun _ h => nomatch h)⟩)⟩)⟩)⟩)⟩) (ih (k + 1) (by omega) (by omega) _ (mS_p hak hK g9))) | (have g9 : ¬ (oA f c r gm go ru (lo - K) = K ∧ (a = -9223372036854775808 ∨ (la = 1 ∧ a < lo - K) ∨ (la = 0 ∧ lo - K < a))) := (by omega); exact v_lof [(0, .ref z), (1, .long (lI lo)), (3, .int (iI la)), (4, .long (lI (a))), (6, .int (iI (((k + 1 : Nat) : Int))))] (List.forall_mem_cons.mpr ⟨rfl, (List.forall_mem_cons.mpr ⟨rfl, (List.forall_mem_cons.mpr ⟨rfl, (List.forall_mem_cons.mpr ⟨rfl, (List.forall_mem_cons.mpr ⟨rfl, (fun _ h => nomatch h)⟩)⟩)⟩)⟩)⟩) (ih (k + 1) (by omega) (by omega) _ (mS_n hak hK g9)))
            · refine v_aload_n dX5_momentOf_83 rfl ?_
              refine v_lload dX5_momentOf_84 rfl ?_
              refine v_V1 (rm' := rX5_offsetAt) (RX5, TX5, 6) dX5_momentOf_86 km_X5_81 kn_X5_offsetAt kv_X5_offsetAt kz_X5 mk_X5_offsetAt rfl rfl (by first | exact h0 | exact h1 | exact h2 | exact h3 | exact h5) ⟨Nat.le_of_ble_eq_true rfl, Nat.le_of_ble_eq_true rfl⟩ ⟨Nat.le_of_ble_eq_true rfl, Nat.le_of_ble_eq_true rfl⟩ (Nat.le_of_ble_eq_true rfl) ?_
              refine s_X5_offsetAt hst h0 h1 h2 h3 h4 ⟨hc, hr, hgm, hmono, hf, hgo, hru⟩ (by omega) ?_
              have hOr := oA_rng (t := lo - K) ⟨hc, hr, hgm, hmono, hf, hgo, hru⟩
              refine v_iload dX5_momentOf_89 rfl ?_
              refine v_icmp_ne 98 dX5_momentOf_91 (fun h_91 => ?_) (fun h_91 => ?_)
              · refine v_iinc dX5_momentOf_98 rfl ?_
                rw [show (k : Int) + 1 = ((k + 1 : Nat) : Int) by omega]
                refine v_goto 8 dX5_momentOf_101 ?_
                first | (exfalso; omega) | (have g9 : (oA f c r gm go ru (lo - K) = K ∧ (a = -9223372036854775808 ∨ (la = 1 ∧ a < lo - K) ∨ (la = 0 ∧ lo - K < a))) := (by omega); exact v_lof [(0, .ref z), (1, .long (lI lo)), (3, .int (iI la)), (4, .long (lI (lo - K))), (6, .int (iI (((k + 1 : Nat) : Int))))] (List.forall_mem_cons.mpr ⟨rfl, (List.forall_mem_cons.mpr ⟨rfl, (List.forall_mem_cons.mpr ⟨rfl, (List.forall_mem_cons.mpr ⟨rfl, (List.forall_mem_cons.mpr ⟨rfl, (fun _ h => nomatch h)⟩)⟩)⟩)⟩)⟩) (ih (k + 1) (by omega) (by omega) _ (mS_p hak hK g9))) | (have g9 : ¬ (oA f c r gm go ru (lo - K) = K ∧ (a = -9223372036854775808 ∨ (la = 1 ∧ a < lo - K) ∨ (la = 0 ∧ lo - K < a))) := (by omega); exact v_lof [(0, .ref z), (1, .long (lI lo)), (3, .int (iI la)), (4, .long (lI (a))), (6, .int (iI (((k + 1 : Nat) : Int))))] (List.forall_mem_cons.mpr ⟨rfl, (List.forall_mem_cons.mpr ⟨rfl, (List.forall_mem_cons.mpr ⟨rfl, (List.forall_mem_cons.mpr ⟨rfl, (List.forall_mem_cons.mpr ⟨rfl, (fun _ h => nomatch h)⟩)⟩)⟩)⟩)⟩) (ih (k + 1) (by omega) (by omega) _ (mS_n hak hK g9)))
              · refine v_lload dX5_momentOf_94 rfl ?_
                refine v_lstore dX5_momentOf_96 (by decide) ?_
                refine v_iinc dX5_momentOf_98 rfl ?_
                rw [show (k : Int) + 1 = ((k + 1 : Nat) : Int) by omega]
                refine v_goto 8 dX5_momentOf_101 ?_
                first | (exfalso; omega) | (have g9 : (oA f c r gm go ru (lo - K) = K ∧ (a = -9223372036854775808 ∨ (la = 1 ∧ a < lo - K) ∨ (la = 0 ∧ lo - K < a))) := (by omega); exact v_lof [(0, .ref z), (1, .long (lI lo)), (3, .int (iI la)), (4, .long (lI (lo - K))), (6, .int (iI (((k + 1 : Nat) : Int))))] (List.forall_mem_cons.mpr ⟨rfl, (List.forall_mem_cons.mpr ⟨rfl, (List.forall_mem_cons.mpr ⟨rfl, (List.forall_mem_cons.mpr ⟨rfl, (List.forall_mem_cons.mpr ⟨rfl, (fun _ h => nomatch h)⟩)⟩)⟩)⟩)⟩) (ih (k + 1) (by omega) (by omega) _ (mS_p hak hK g9))) | (have g9 : ¬ (oA f c r gm go ru (lo - K) = K ∧ (a = -9223372036854775808 ∨ (la = 1 ∧ a < lo - K) ∨ (la = 0 ∧ lo - K < a))) := (by omega); exact v_lof [(0, .ref z), (1, .long (lI lo)), (3, .int (iI la)), (4, .long (lI (a))), (6, .int (iI (((k + 1 : Nat) : Int))))] (List.forall_mem_cons.mpr ⟨rfl, (List.forall_mem_cons.mpr ⟨rfl, (List.forall_mem_cons.mpr ⟨rfl, (List.forall_mem_cons.mpr ⟨rfl, (List.forall_mem_cons.mpr ⟨rfl, (fun _ h => nomatch h)⟩)⟩)⟩)⟩)⟩) (ih (k + 1) (by omega) (by omega) _ (mS_n hak hK g9)))
        · refine v_lload dX5_momentOf_52 rfl ?_
          refine v_lload dX5_momentOf_54 rfl ?_
          refine v_lif_le 75 dX5_momentOf_56 dX5_momentOf_57 (fun h_56 => ?_) (fun h_56 => ?_)
          · refine v_iconst dX5_momentOf_75 ?_
            refine v_istore dX5_momentOf_76 (by decide) ?_
            refine v_iload dX5_momentOf_78 rfl ?_
            refine v_if_eq 98 dX5_momentOf_80 (fun h_80 => ?_) (fun h_80 => ?_)
            · refine v_iinc dX5_momentOf_98 rfl ?_
              rw [show (k : Int) + 1 = ((k + 1 : Nat) : Int) by omega]
              refine v_goto 8 dX5_momentOf_101 ?_
              first | (exfalso; omega) | (have g9 : (oA f c r gm go ru (lo - K) = K ∧ (a = -9223372036854775808 ∨ (la = 1 ∧ a < lo - K) ∨ (la = 0 ∧ lo - K < a))) := (by omega); exact v_lof [(0, .ref z), (1, .long (lI lo)), (3, .int (iI la)), (4, .long (lI (lo - K))), (6, .int (iI (((k + 1 : Nat) : Int))))] (List.forall_mem_cons.mpr ⟨rfl, (List.forall_mem_cons.mpr ⟨rfl, (List.forall_mem_cons.mpr ⟨rfl, (List.forall_mem_cons.mpr ⟨rfl, (List.forall_mem_cons.mpr ⟨rfl, (fun _ h => nomatch h)⟩)⟩)⟩)⟩)⟩) (ih (k + 1) (by omega) (by omega) _ (mS_p hak hK g9))) | (have g9 : ¬ (oA f c r gm go ru (lo - K) = K ∧ (a = -9223372036854775808 ∨ (la = 1 ∧ a < lo - K) ∨ (la = 0 ∧ lo - K < a))) := (by omega); exact v_lof [(0, .ref z), (1, .long (lI lo)), (3, .int (iI la)), (4, .long (lI (a))), (6, .int (iI (((k + 1 : Nat) : Int))))] (List.forall_mem_cons.mpr ⟨rfl, (List.forall_mem_cons.mpr ⟨rfl, (List.forall_mem_cons.mpr ⟨rfl, (List.forall_mem_cons.mpr ⟨rfl, (List.forall_mem_cons.mpr ⟨rfl, (fun _ h => nomatch h)⟩)⟩)⟩)⟩)⟩) (ih (k + 1) (by omega) (by omega) _ (mS_n hak hK g9)))
            · refine v_aload_n dX5_momentOf_83 rfl ?_
              refine v_lload dX5_momentOf_84 rfl ?_
              refine v_V1 (rm' := rX5_offsetAt) (RX5, TX5, 6) dX5_momentOf_86 km_X5_81 kn_X5_offsetAt kv_X5_offsetAt kz_X5 mk_X5_offsetAt rfl rfl (by first | exact h0 | exact h1 | exact h2 | exact h3 | exact h5) ⟨Nat.le_of_ble_eq_true rfl, Nat.le_of_ble_eq_true rfl⟩ ⟨Nat.le_of_ble_eq_true rfl, Nat.le_of_ble_eq_true rfl⟩ (Nat.le_of_ble_eq_true rfl) ?_
              refine s_X5_offsetAt hst h0 h1 h2 h3 h4 ⟨hc, hr, hgm, hmono, hf, hgo, hru⟩ (by omega) ?_
              have hOr := oA_rng (t := lo - K) ⟨hc, hr, hgm, hmono, hf, hgo, hru⟩
              refine v_iload dX5_momentOf_89 rfl ?_
              refine v_icmp_ne 98 dX5_momentOf_91 (fun h_91 => ?_) (fun h_91 => ?_)
              · refine v_iinc dX5_momentOf_98 rfl ?_
                rw [show (k : Int) + 1 = ((k + 1 : Nat) : Int) by omega]
                refine v_goto 8 dX5_momentOf_101 ?_
                first | (exfalso; omega) | (have g9 : (oA f c r gm go ru (lo - K) = K ∧ (a = -9223372036854775808 ∨ (la = 1 ∧ a < lo - K) ∨ (la = 0 ∧ lo - K < a))) := (by omega); exact v_lof [(0, .ref z), (1, .long (lI lo)), (3, .int (iI la)), (4, .long (lI (lo - K))), (6, .int (iI (((k + 1 : Nat) : Int))))] (List.forall_mem_cons.mpr ⟨rfl, (List.forall_mem_cons.mpr ⟨rfl, (List.forall_mem_cons.mpr ⟨rfl, (List.forall_mem_cons.mpr ⟨rfl, (List.forall_mem_cons.mpr ⟨rfl, (fun _ h => nomatch h)⟩)⟩)⟩)⟩)⟩) (ih (k + 1) (by omega) (by omega) _ (mS_p hak hK g9))) | (have g9 : ¬ (oA f c r gm go ru (lo - K) = K ∧ (a = -9223372036854775808 ∨ (la = 1 ∧ a < lo - K) ∨ (la = 0 ∧ lo - K < a))) := (by omega); exact v_lof [(0, .ref z), (1, .long (lI lo)), (3, .int (iI la)), (4, .long (lI (a))), (6, .int (iI (((k + 1 : Nat) : Int))))] (List.forall_mem_cons.mpr ⟨rfl, (List.forall_mem_cons.mpr ⟨rfl, (List.forall_mem_cons.mpr ⟨rfl, (List.forall_mem_cons.mpr ⟨rfl, (List.forall_mem_cons.mpr ⟨rfl, (fun _ h => nomatch h)⟩)⟩)⟩)⟩)⟩) (ih (k + 1) (by omega) (by omega) _ (mS_n hak hK g9)))
              · refine v_lload dX5_momentOf_94 rfl ?_
                refine v_lstore dX5_momentOf_96 (by decide) ?_
                refine v_iinc dX5_momentOf_98 rfl ?_
                rw [show (k : Int) + 1 = ((k + 1 : Nat) : Int) by omega]
                refine v_goto 8 dX5_momentOf_101 ?_
                first | (exfalso; omega) | (have g9 : (oA f c r gm go ru (lo - K) = K ∧ (a = -9223372036854775808 ∨ (la = 1 ∧ a < lo - K) ∨ (la = 0 ∧ lo - K < a))) := (by omega); exact v_lof [(0, .ref z), (1, .long (lI lo)), (3, .int (iI la)), (4, .long (lI (lo - K))), (6, .int (iI (((k + 1 : Nat) : Int))))] (List.forall_mem_cons.mpr ⟨rfl, (List.forall_mem_cons.mpr ⟨rfl, (List.forall_mem_cons.mpr ⟨rfl, (List.forall_mem_cons.mpr ⟨rfl, (List.forall_mem_cons.mpr ⟨rfl, (fun _ h => nomatch h)⟩)⟩)⟩)⟩)⟩) (ih (k + 1) (by omega) (by omega) _ (mS_p hak hK g9))) | (have g9 : ¬ (oA f c r gm go ru (lo - K) = K ∧ (a = -9223372036854775808 ∨ (la = 1 ∧ a < lo - K) ∨ (la = 0 ∧ lo - K < a))) := (by omega); exact v_lof [(0, .ref z), (1, .long (lI lo)), (3, .int (iI la)), (4, .long (lI (a))), (6, .int (iI (((k + 1 : Nat) : Int))))] (List.forall_mem_cons.mpr ⟨rfl, (List.forall_mem_cons.mpr ⟨rfl, (List.forall_mem_cons.mpr ⟨rfl, (List.forall_mem_cons.mpr ⟨rfl, (List.forall_mem_cons.mpr ⟨rfl, (fun _ h => nomatch h)⟩)⟩)⟩)⟩)⟩) (ih (k + 1) (by omega) (by omega) _ (mS_n hak hK g9)))
          · refine v_goto 71 dX5_momentOf_60 ?_
            refine v_iconst dX5_momentOf_71 ?_
            refine v_goto 76 dX5_momentOf_72 ?_
            refine v_istore dX5_momentOf_76 (by decide) ?_
            refine v_iload dX5_momentOf_78 rfl ?_
            refine v_if_eq 98 dX5_momentOf_80 (fun h_80 => ?_) (fun h_80 => ?_)
            · refine v_iinc dX5_momentOf_98 rfl ?_
              rw [show (k : Int) + 1 = ((k + 1 : Nat) : Int) by omega]
              refine v_goto 8 dX5_momentOf_101 ?_
              first | (exfalso; omega) | (have g9 : (oA f c r gm go ru (lo - K) = K ∧ (a = -9223372036854775808 ∨ (la = 1 ∧ a < lo - K) ∨ (la = 0 ∧ lo - K < a))) := (by omega); exact v_lof [(0, .ref z), (1, .long (lI lo)), (3, .int (iI la)), (4, .long (lI (lo - K))), (6, .int (iI (((k + 1 : Nat) : Int))))] (List.forall_mem_cons.mpr ⟨rfl, (List.forall_mem_cons.mpr ⟨rfl, (List.forall_mem_cons.mpr ⟨rfl, (List.forall_mem_cons.mpr ⟨rfl, (List.forall_mem_cons.mpr ⟨rfl, (fun _ h => nomatch h)⟩)⟩)⟩)⟩)⟩) (ih (k + 1) (by omega) (by omega) _ (mS_p hak hK g9))) | (have g9 : ¬ (oA f c r gm go ru (lo - K) = K ∧ (a = -9223372036854775808 ∨ (la = 1 ∧ a < lo - K) ∨ (la = 0 ∧ lo - K < a))) := (by omega); exact v_lof [(0, .ref z), (1, .long (lI lo)), (3, .int (iI la)), (4, .long (lI (a))), (6, .int (iI (((k + 1 : Nat) : Int))))] (List.forall_mem_cons.mpr ⟨rfl, (List.forall_mem_cons.mpr ⟨rfl, (List.forall_mem_cons.mpr ⟨rfl, (List.forall_mem_cons.mpr ⟨rfl, (List.forall_mem_cons.mpr ⟨rfl, (fun _ h => nomatch h)⟩)⟩)⟩)⟩)⟩) (ih (k + 1) (by omega) (by omega) _ (mS_n hak hK g9)))
            · refine v_aload_n dX5_momentOf_83 rfl ?_
              refine v_lload dX5_momentOf_84 rfl ?_
              refine v_V1 (rm' := rX5_offsetAt) (RX5, TX5, 6) dX5_momentOf_86 km_X5_81 kn_X5_offsetAt kv_X5_offsetAt kz_X5 mk_X5_offsetAt rfl rfl (by first | exact h0 | exact h1 | exact h2 | exact h3 | exact h5) ⟨Nat.le_of_ble_eq_true rfl, Nat.le_of_ble_eq_true rfl⟩ ⟨Nat.le_of_ble_eq_true rfl, Nat.le_of_ble_eq_true rfl⟩ (Nat.le_of_ble_eq_true rfl) ?_
              refine s_X5_offsetAt hst h0 h1 h2 h3 h4 ⟨hc, hr, hgm, hmono, hf, hgo, hru⟩ (by omega) ?_
              have hOr := oA_rng (t := lo - K) ⟨hc, hr, hgm, hmono, hf, hgo, hru⟩
              refine v_iload dX5_momentOf_89 rfl ?_
              refine v_icmp_ne 98 dX5_momentOf_91 (fun h_91 => ?_) (fun h_91 => ?_)
              · refine v_iinc dX5_momentOf_98 rfl ?_
                rw [show (k : Int) + 1 = ((k + 1 : Nat) : Int) by omega]
                refine v_goto 8 dX5_momentOf_101 ?_
                first | (exfalso; omega) | (have g9 : (oA f c r gm go ru (lo - K) = K ∧ (a = -9223372036854775808 ∨ (la = 1 ∧ a < lo - K) ∨ (la = 0 ∧ lo - K < a))) := (by omega); exact v_lof [(0, .ref z), (1, .long (lI lo)), (3, .int (iI la)), (4, .long (lI (lo - K))), (6, .int (iI (((k + 1 : Nat) : Int))))] (List.forall_mem_cons.mpr ⟨rfl, (List.forall_mem_cons.mpr ⟨rfl, (List.forall_mem_cons.mpr ⟨rfl, (List.forall_mem_cons.mpr ⟨rfl, (List.forall_mem_cons.mpr ⟨rfl, (fun _ h => nomatch h)⟩)⟩)⟩)⟩)⟩) (ih (k + 1) (by omega) (by omega) _ (mS_p hak hK g9))) | (have g9 : ¬ (oA f c r gm go ru (lo - K) = K ∧ (a = -9223372036854775808 ∨ (la = 1 ∧ a < lo - K) ∨ (la = 0 ∧ lo - K < a))) := (by omega); exact v_lof [(0, .ref z), (1, .long (lI lo)), (3, .int (iI la)), (4, .long (lI (a))), (6, .int (iI (((k + 1 : Nat) : Int))))] (List.forall_mem_cons.mpr ⟨rfl, (List.forall_mem_cons.mpr ⟨rfl, (List.forall_mem_cons.mpr ⟨rfl, (List.forall_mem_cons.mpr ⟨rfl, (List.forall_mem_cons.mpr ⟨rfl, (fun _ h => nomatch h)⟩)⟩)⟩)⟩)⟩) (ih (k + 1) (by omega) (by omega) _ (mS_n hak hK g9)))
              · refine v_lload dX5_momentOf_94 rfl ?_
                refine v_lstore dX5_momentOf_96 (by decide) ?_
                refine v_iinc dX5_momentOf_98 rfl ?_
                rw [show (k : Int) + 1 = ((k + 1 : Nat) : Int) by omega]
                refine v_goto 8 dX5_momentOf_101 ?_
                first | (exfalso; omega) | (have g9 : (oA f c r gm go ru (lo - K) = K ∧ (a = -9223372036854775808 ∨ (la = 1 ∧ a < lo - K) ∨ (la = 0 ∧ lo - K < a))) := (by omega); exact v_lof [(0, .ref z), (1, .long (lI lo)), (3, .int (iI la)), (4, .long (lI (lo - K))), (6, .int (iI (((k + 1 : Nat) : Int))))] (List.forall_mem_cons.mpr ⟨rfl, (List.forall_mem_cons.mpr ⟨rfl, (List.forall_mem_cons.mpr ⟨rfl, (List.forall_mem_cons.mpr ⟨rfl, (List.forall_mem_cons.mpr ⟨rfl, (fun _ h => nomatch h)⟩)⟩)⟩)⟩)⟩) (ih (k + 1) (by omega) (by omega) _ (mS_p hak hK g9))) | (have g9 : ¬ (oA f c r gm go ru (lo - K) = K ∧ (a = -9223372036854775808 ∨ (la = 1 ∧ a < lo - K) ∨ (la = 0 ∧ lo - K < a))) := (by omega); exact v_lof [(0, .ref z), (1, .long (lI lo)), (3, .int (iI la)), (4, .long (lI (a))), (6, .int (iI (((k + 1 : Nat) : Int))))] (List.forall_mem_cons.mpr ⟨rfl, (List.forall_mem_cons.mpr ⟨rfl, (List.forall_mem_cons.mpr ⟨rfl, (List.forall_mem_cons.mpr ⟨rfl, (List.forall_mem_cons.mpr ⟨rfl, (fun _ h => nomatch h)⟩)⟩)⟩)⟩)⟩) (ih (k + 1) (by omega) (by omega) _ (mS_n hak hK g9)))
set_option maxRecDepth 100000 in
set_option maxHeartbeats 4000000 in
theorem s_X5_momentOf {l : Launch} {G : GG} {w : AH} {Q : Option Value → AH → Prop} {X : String → AH → Prop} (hst : l.stackTraces = false) {z am ao ar : Nat} {ra : Nat → Nat} {f c r : Int} {gm go : Nat → Int} {ru : Nat → Nat → Int} (h0 : w z = some (zoC f am ao c ar r)) (h1 : w am = some (alA G 8 gm)) (h2 : w ao = some (aiA G 8 go)) (h3 : w ar = some (arA G 6 2 (fun i => some (ra i)))) (h4 : ∀ k, k < 2 → w (ra k) = some (ruC (ru k 0) (ru k 1) (ru k 2) (ru k 3) (ru k 4))) (hZ : ZOK f c r gm go ru) {lo la : Int} (hlo : -377705116800 ≤ lo ∧ lo ≤ 253402300799) (hla : la = 0 ∨ la = 1) (hQ : Q (some (.long (lI (mS f c r gm go ru lo la (1 + c + r).toNat)))) w) : Ct l G mX5_momentOf rX5_momentOf [(.ref z), .long (lI lo), .int (iI la)] w Q X := by
  obtain ⟨hc, hr, hgm, hmono, hf, hgo, hru⟩ := hZ
  refine ct_of hst mk_X5_momentOf (Nat.le_of_ble_eq_true rfl) ?_
  refine v_ldc2 (-9223372036854775808) dX5_momentOf_0 kl_X5_44 ?_
  refine v_lstore dX5_momentOf_3 (by decide) ?_
  refine v_iconst dX5_momentOf_5 ?_
  refine v_istore dX5_momentOf_6 (by decide) ?_
  exact v_lof [(0, .ref z), (1, .long (lI lo)), (3, .int (iI la)), (4, .long (lI (-9223372036854775808))), (6, .int (iI (((0 : Nat) : Int))))] (List.forall_mem_cons.mpr ⟨rfl, (List.forall_mem_cons.mpr ⟨rfl, (List.forall_mem_cons.mpr ⟨rfl, (List.forall_mem_cons.mpr ⟨rfl, (List.forall_mem_cons.mpr ⟨rfl, (fun _ h => nomatch h)⟩)⟩)⟩)⟩)⟩) (mof_loop hst h0 h1 h2 h3 h4 ⟨hc, hr, hgm, hmono, hf, hgo, hru⟩ hlo hla hQ 11 0 (by omega) (by omega) _ rfl)
set_option maxRecDepth 100000 in
set_option maxHeartbeats 1000000 in
theorem gap_in {l : Launch} {G : GG} {w : AH} {Q : Option Value → AH → Prop} {X : String → AH → Prop} (hst : l.stackTraces = false) {z am ao ar : Nat} {ra : Nat → Nat} {f c r : Int} {gm go : Nat → Int} {ru : Nat → Nat → Int} (h0 : w z = some (zoC f am ao c ar r)) (h1 : w am = some (alA G 8 gm)) (h2 : w ao = some (aiA G 8 go)) (h3 : w ar = some (arA G 6 2 (fun i => some (ra i)))) (h4 : ∀ k, k < 2 → w (ra k) = some (ruC (ru k 0) (ru k 1) (ru k 2) (ru k 3) (ru k 4))) (hZ : ZOK f c r gm go ru) {lo : Int} (hlo : -377705116800 ≤ lo ∧ lo ≤ 253402300799) (hQ : ∀ E : Int, CE f c r gm go ru lo (yr (lo / 86400)) E → Q (some (.int (iI (oA f c r gm go ru (E - 1))))) w) {y : Int} (hyr : -9999 ≤ y ∧ y ≤ 9999) (hyw : yr (lo / 86400) - 1 ≤ y ∧ y ≤ yr (lo / 86400) + 1) (hE : ∀ E : Int, IB f c r gm go ru lo (yr (lo / 86400)) (y + 1) (0) (E) → V l G mX5_offsetBeforeGap rX5_offsetBeforeGap Q X 155 (lof [(0, .ref z), (1, .long (lI lo)), (3, .long (lI (E))), (5, .int (iI (yr (lo / 86400)))), (6, .int (iI (y)))]) [] (w) 0 0) : ∀ (N i : Nat), r - i ≤ N → (i : Int) ≤ r → ∀ E : Int, IB f c r gm go ru lo (yr (lo / 86400)) (y) (i) (E) → V l G mX5_offsetBeforeGap rX5_offsetBeforeGap Q X 101 (lof [(0, .ref z), (1, .long (lI lo)), (3, .long (lI (E))), (5, .int (iI (yr (lo / 86400)))), (6, .int (iI (y))), (7, .int (iI ((i : Int))))]) [] (w) 0 0 := by
  obtain ⟨hc, hr, hgm, hmono, hf, hgo, hru⟩ := hZ
  intro N
  induction N with
  | zero =>
    intro i hN hi E hIB
    have hEr := IB_rng ⟨hc, hr, hgm, hmono, hf, hgo, hru⟩ hlo hIB
    refine v_iload dX5_offsetBeforeGap_101 rfl ?_
    refine v_aload_n dX5_offsetBeforeGap_103 rfl ?_
    refine v_get dX5_offsetBeforeGap_104 f_X5_33 (by first | exact h0 | exact h1 | exact h2 | exact h3 | exact h5) rfl ?_
    refine v_icmp_ge 155 dX5_offsetBeforeGap_107 (fun h_107 => ?_) (fun h_107 => ?_)
    · exact v_lof [(0, .ref z), (1, .long (lI lo)), (3, .long (lI (E))), (5, .int (iI (yr (lo / 86400)))), (6, .int (iI (y)))] (List.forall_mem_cons.mpr ⟨rfl, (List.forall_mem_cons.mpr ⟨rfl, (List.forall_mem_cons.mpr ⟨rfl, (List.forall_mem_cons.mpr ⟨rfl, (List.forall_mem_cons.mpr ⟨rfl, (fun _ h => nomatch h)⟩)⟩)⟩)⟩)⟩) (hE E (IB_y hIB (by omega)))
    · have h5 := h4 i (by omega)
      have hRV := hru i (by omega)
      have hmr := rM_rng hRV hyr
      have v0 := hRV.1
      have v1 := hRV.2.1
      have v2 := hRV.2.2.1
      have v3 := hRV.2.2.2.1
      refine v_aload_n dX5_offsetBeforeGap_110 rfl ?_
      refine v_get dX5_offsetBeforeGap_111 f_X5_21 (by first | exact h0 | exact h1 | exact h2 | exact h3 | exact h5) rfl ?_
      refine v_iload dX5_offsetBeforeGap_114 rfl ?_
      refine v_aald (t := 6) dX5_offsetBeforeGap_116 (fun _ => rfl) (by first | exact h0 | exact h1 | exact h2 | exact h3 | exact h5) (by exact rfl) ?_
      refine v_iload dX5_offsetBeforeGap_117 rfl ?_
      refine v_V1 (rm' := rX3_momentIn) (RX3, TX3, 5) dX5_offsetBeforeGap_119 km_X5_70 kn_X3_momentIn kv_X3_momentIn kz_X3 mk_X3_momentIn rfl rfl (by first | exact h0 | exact h1 | exact h2 | exact h3 | exact h5) ⟨Nat.le_of_ble_eq_true rfl, Nat.le_of_ble_eq_true rfl⟩ ⟨Nat.le_of_ble_eq_true rfl, Nat.le_of_ble_eq_true rfl⟩ (Nat.le_of_ble_eq_true rfl) ?_
      refine s_X3_momentIn hst h5 v0 v1 v2 v3 hyr ?_
      rw [show rMom (ru i 0) (ru i 1) (ru i 2) (ru i 3) y = rM ru i y from rfl]
      refine v_lstore dX5_offsetBeforeGap_122 (by decide) ?_
      refine v_lload dX5_offsetBeforeGap_124 rfl ?_
      refine v_lload_n dX5_offsetBeforeGap_126 rfl ?_
      refine v_lif_ge 149 dX5_offsetBeforeGap_127 dX5_offsetBeforeGap_128 (fun h_127 => ?_) (fun h_127 => ?_)
      · refine v_iinc dX5_offsetBeforeGap_149 rfl ?_
        rw [show (i : Int) + 1 = ((i + 1 : Nat) : Int) by omega]
        refine v_goto 101 dX5_offsetBeforeGap_152 ?_
        (exfalso; omega)
      · refine v_lload dX5_offsetBeforeGap_131 rfl ?_
        refine v_aload_n dX5_offsetBeforeGap_133 rfl ?_
        refine v_lload dX5_offsetBeforeGap_134 rfl ?_
        refine v_V1 (rm' := rX5_offsetAt) (RX5, TX5, 6) dX5_offsetBeforeGap_136 km_X5_81 kn_X5_offsetAt kv_X5_offsetAt kz_X5 mk_X5_offsetAt rfl rfl (by first | exact h0 | exact h1 | exact h2 | exact h3 | exact h5) ⟨Nat.le_of_ble_eq_true rfl, Nat.le_of_ble_eq_true rfl⟩ ⟨Nat.le_of_ble_eq_true rfl, Nat.le_of_ble_eq_true rfl⟩ (Nat.le_of_ble_eq_true rfl) ?_
        refine s_X5_offsetAt hst h0 h1 h2 h3 h4 ⟨hc, hr, hgm, hmono, hf, hgo, hru⟩ (by omega) ?_
        have hOr := oA_rng (t := rM ru i y) ⟨hc, hr, hgm, hmono, hf, hgo, hru⟩
        refine v_i2l dX5_offsetBeforeGap_139 ?_
        refine v_ladd dX5_offsetBeforeGap_140 ?_
        refine v_lload_n dX5_offsetBeforeGap_141 rfl ?_
        refine v_lif_le 149 dX5_offsetBeforeGap_142 dX5_offsetBeforeGap_143 (fun h_142 => ?_) (fun h_142 => ?_)
        · refine v_iinc dX5_offsetBeforeGap_149 rfl ?_
          rw [show (i : Int) + 1 = ((i + 1 : Nat) : Int) by omega]
          refine v_goto 101 dX5_offsetBeforeGap_152 ?_
          (exfalso; omega)
        · refine v_lload dX5_offsetBeforeGap_146 rfl ?_
          refine v_lstore_n dX5_offsetBeforeGap_148 (by decide) ?_
          refine v_iinc dX5_offsetBeforeGap_149 rfl ?_
          rw [show (i : Int) + 1 = ((i + 1 : Nat) : Int) by omega]
          refine v_goto 101 dX5_offsetBeforeGap_152 ?_
          (exfalso; omega)
  | succ N ih =>
    intro i hN hi E hIB
    have hEr := IB_rng ⟨hc, hr, hgm, hmono, hf, hgo, hru⟩ hlo hIB
    refine v_iload dX5_offsetBeforeGap_101 rfl ?_
    refine v_aload_n dX5_offsetBeforeGap_103 rfl ?_
    refine v_get dX5_offsetBeforeGap_104 f_X5_33 (by first | exact h0 | exact h1 | exact h2 | exact h3 | exact h5) rfl ?_
    refine v_icmp_ge 155 dX5_offsetBeforeGap_107 (fun h_107 => ?_) (fun h_107 => ?_)
    · exact v_lof [(0, .ref z), (1, .long (lI lo)), (3, .long (lI (E))), (5, .int (iI (yr (lo / 86400)))), (6, .int (iI (y)))] (List.forall_mem_cons.mpr ⟨rfl, (List.forall_mem_cons.mpr ⟨rfl, (List.forall_mem_cons.mpr ⟨rfl, (List.forall_mem_cons.mpr ⟨rfl, (List.forall_mem_cons.mpr ⟨rfl, (fun _ h => nomatch h)⟩)⟩)⟩)⟩)⟩) (hE E (IB_y hIB (by omega)))
    · have h5 := h4 i (by omega)
      have hRV := hru i (by omega)
      have hmr := rM_rng hRV hyr
      have v0 := hRV.1
      have v1 := hRV.2.1
      have v2 := hRV.2.2.1
      have v3 := hRV.2.2.2.1
      refine v_aload_n dX5_offsetBeforeGap_110 rfl ?_
      refine v_get dX5_offsetBeforeGap_111 f_X5_21 (by first | exact h0 | exact h1 | exact h2 | exact h3 | exact h5) rfl ?_
      refine v_iload dX5_offsetBeforeGap_114 rfl ?_
      refine v_aald (t := 6) dX5_offsetBeforeGap_116 (fun _ => rfl) (by first | exact h0 | exact h1 | exact h2 | exact h3 | exact h5) (by exact rfl) ?_
      refine v_iload dX5_offsetBeforeGap_117 rfl ?_
      refine v_V1 (rm' := rX3_momentIn) (RX3, TX3, 5) dX5_offsetBeforeGap_119 km_X5_70 kn_X3_momentIn kv_X3_momentIn kz_X3 mk_X3_momentIn rfl rfl (by first | exact h0 | exact h1 | exact h2 | exact h3 | exact h5) ⟨Nat.le_of_ble_eq_true rfl, Nat.le_of_ble_eq_true rfl⟩ ⟨Nat.le_of_ble_eq_true rfl, Nat.le_of_ble_eq_true rfl⟩ (Nat.le_of_ble_eq_true rfl) ?_
      refine s_X3_momentIn hst h5 v0 v1 v2 v3 hyr ?_
      rw [show rMom (ru i 0) (ru i 1) (ru i 2) (ru i 3) y = rM ru i y from rfl]
      refine v_lstore dX5_offsetBeforeGap_122 (by decide) ?_
      refine v_lload dX5_offsetBeforeGap_124 rfl ?_
      refine v_lload_n dX5_offsetBeforeGap_126 rfl ?_
      refine v_lif_ge 149 dX5_offsetBeforeGap_127 dX5_offsetBeforeGap_128 (fun h_127 => ?_) (fun h_127 => ?_)
      · refine v_iinc dX5_offsetBeforeGap_149 rfl ?_
        rw [show (i : Int) + 1 = ((i + 1 : Nat) : Int) by omega]
        refine v_goto 101 dX5_offsetBeforeGap_152 ?_
        first | (have g9 : rM ru i y < E ∧ lo < rM ru i y + oA f c r gm go ru (rM ru i y) := (by omega); exact v_lof [(0, .ref z), (1, .long (lI lo)), (3, .long (lI (rM ru i y))), (5, .int (iI (yr (lo / 86400)))), (6, .int (iI (y))), (7, .int (iI (((i + 1 : Nat) : Int))))] (List.forall_mem_cons.mpr ⟨rfl, (List.forall_mem_cons.mpr ⟨rfl, (List.forall_mem_cons.mpr ⟨rfl, (List.forall_mem_cons.mpr ⟨rfl, (List.forall_mem_cons.mpr ⟨rfl, (List.forall_mem_cons.mpr ⟨rfl, (fun _ h => nomatch h)⟩)⟩)⟩)⟩)⟩)⟩) (ih (i + 1) (by omega) (by omega) _ (IB_p hIB (by omega) hyr hyw g9.1 g9.2))) | (have g9 : ¬ (rM ru i y < E ∧ lo < rM ru i y + oA f c r gm go ru (rM ru i y)) := (by omega); exact v_lof [(0, .ref z), (1, .long (lI lo)), (3, .long (lI (E))), (5, .int (iI (yr (lo / 86400)))), (6, .int (iI (y))), (7, .int (iI (((i + 1 : Nat) : Int))))] (List.forall_mem_cons.mpr ⟨rfl, (List.forall_mem_cons.mpr ⟨rfl, (List.forall_mem_cons.mpr ⟨rfl, (List.forall_mem_cons.mpr ⟨rfl, (List.forall_mem_cons.mpr ⟨rfl, (List.forall_mem_cons.mpr ⟨rfl, (fun _ h => nomatch h)⟩)⟩)⟩)⟩)⟩)⟩) (ih (i + 1) (by omega) (by omega) _ (IB_n hIB g9)))
      · refine v_lload dX5_offsetBeforeGap_131 rfl ?_
        refine v_aload_n dX5_offsetBeforeGap_133 rfl ?_
        refine v_lload dX5_offsetBeforeGap_134 rfl ?_
        refine v_V1 (rm' := rX5_offsetAt) (RX5, TX5, 6) dX5_offsetBeforeGap_136 km_X5_81 kn_X5_offsetAt kv_X5_offsetAt kz_X5 mk_X5_offsetAt rfl rfl (by first | exact h0 | exact h1 | exact h2 | exact h3 | exact h5) ⟨Nat.le_of_ble_eq_true rfl, Nat.le_of_ble_eq_true rfl⟩ ⟨Nat.le_of_ble_eq_true rfl, Nat.le_of_ble_eq_true rfl⟩ (Nat.le_of_ble_eq_true rfl) ?_
        refine s_X5_offsetAt hst h0 h1 h2 h3 h4 ⟨hc, hr, hgm, hmono, hf, hgo, hru⟩ (by omega) ?_
        have hOr := oA_rng (t := rM ru i y) ⟨hc, hr, hgm, hmono, hf, hgo, hru⟩
        refine v_i2l dX5_offsetBeforeGap_139 ?_
        refine v_ladd dX5_offsetBeforeGap_140 ?_
        refine v_lload_n dX5_offsetBeforeGap_141 rfl ?_
        refine v_lif_le 149 dX5_offsetBeforeGap_142 dX5_offsetBeforeGap_143 (fun h_142 => ?_) (fun h_142 => ?_)
        · refine v_iinc dX5_offsetBeforeGap_149 rfl ?_
          rw [show (i : Int) + 1 = ((i + 1 : Nat) : Int) by omega]
          refine v_goto 101 dX5_offsetBeforeGap_152 ?_
          first | (have g9 : rM ru i y < E ∧ lo < rM ru i y + oA f c r gm go ru (rM ru i y) := (by omega); exact v_lof [(0, .ref z), (1, .long (lI lo)), (3, .long (lI (rM ru i y))), (5, .int (iI (yr (lo / 86400)))), (6, .int (iI (y))), (7, .int (iI (((i + 1 : Nat) : Int))))] (List.forall_mem_cons.mpr ⟨rfl, (List.forall_mem_cons.mpr ⟨rfl, (List.forall_mem_cons.mpr ⟨rfl, (List.forall_mem_cons.mpr ⟨rfl, (List.forall_mem_cons.mpr ⟨rfl, (List.forall_mem_cons.mpr ⟨rfl, (fun _ h => nomatch h)⟩)⟩)⟩)⟩)⟩)⟩) (ih (i + 1) (by omega) (by omega) _ (IB_p hIB (by omega) hyr hyw g9.1 g9.2))) | (have g9 : ¬ (rM ru i y < E ∧ lo < rM ru i y + oA f c r gm go ru (rM ru i y)) := (by omega); exact v_lof [(0, .ref z), (1, .long (lI lo)), (3, .long (lI (E))), (5, .int (iI (yr (lo / 86400)))), (6, .int (iI (y))), (7, .int (iI (((i + 1 : Nat) : Int))))] (List.forall_mem_cons.mpr ⟨rfl, (List.forall_mem_cons.mpr ⟨rfl, (List.forall_mem_cons.mpr ⟨rfl, (List.forall_mem_cons.mpr ⟨rfl, (List.forall_mem_cons.mpr ⟨rfl, (List.forall_mem_cons.mpr ⟨rfl, (fun _ h => nomatch h)⟩)⟩)⟩)⟩)⟩)⟩) (ih (i + 1) (by omega) (by omega) _ (IB_n hIB g9)))
        · refine v_lload dX5_offsetBeforeGap_146 rfl ?_
          refine v_lstore_n dX5_offsetBeforeGap_148 (by decide) ?_
          refine v_iinc dX5_offsetBeforeGap_149 rfl ?_
          rw [show (i : Int) + 1 = ((i + 1 : Nat) : Int) by omega]
          refine v_goto 101 dX5_offsetBeforeGap_152 ?_
          first | (have g9 : rM ru i y < E ∧ lo < rM ru i y + oA f c r gm go ru (rM ru i y) := (by omega); exact v_lof [(0, .ref z), (1, .long (lI lo)), (3, .long (lI (rM ru i y))), (5, .int (iI (yr (lo / 86400)))), (6, .int (iI (y))), (7, .int (iI (((i + 1 : Nat) : Int))))] (List.forall_mem_cons.mpr ⟨rfl, (List.forall_mem_cons.mpr ⟨rfl, (List.forall_mem_cons.mpr ⟨rfl, (List.forall_mem_cons.mpr ⟨rfl, (List.forall_mem_cons.mpr ⟨rfl, (List.forall_mem_cons.mpr ⟨rfl, (fun _ h => nomatch h)⟩)⟩)⟩)⟩)⟩)⟩) (ih (i + 1) (by omega) (by omega) _ (IB_p hIB (by omega) hyr hyw g9.1 g9.2))) | (have g9 : ¬ (rM ru i y < E ∧ lo < rM ru i y + oA f c r gm go ru (rM ru i y)) := (by omega); exact v_lof [(0, .ref z), (1, .long (lI lo)), (3, .long (lI (E))), (5, .int (iI (yr (lo / 86400)))), (6, .int (iI (y))), (7, .int (iI (((i + 1 : Nat) : Int))))] (List.forall_mem_cons.mpr ⟨rfl, (List.forall_mem_cons.mpr ⟨rfl, (List.forall_mem_cons.mpr ⟨rfl, (List.forall_mem_cons.mpr ⟨rfl, (List.forall_mem_cons.mpr ⟨rfl, (List.forall_mem_cons.mpr ⟨rfl, (fun _ h => nomatch h)⟩)⟩)⟩)⟩)⟩)⟩) (ih (i + 1) (by omega) (by omega) _ (IB_n hIB g9)))
set_option maxRecDepth 100000 in
set_option maxHeartbeats 1000000 in
theorem gap_out {l : Launch} {G : GG} {w : AH} {Q : Option Value → AH → Prop} {X : String → AH → Prop} (hst : l.stackTraces = false) {z am ao ar : Nat} {ra : Nat → Nat} {f c r : Int} {gm go : Nat → Int} {ru : Nat → Nat → Int} (h0 : w z = some (zoC f am ao c ar r)) (h1 : w am = some (alA G 8 gm)) (h2 : w ao = some (aiA G 8 go)) (h3 : w ar = some (arA G 6 2 (fun i => some (ra i)))) (h4 : ∀ k, k < 2 → w (ra k) = some (ruC (ru k 0) (ru k 1) (ru k 2) (ru k 3) (ru k 4))) (hZ : ZOK f c r gm go ru) {lo : Int} (hlo : -377705116800 ≤ lo ∧ lo ≤ 253402300799) (hQ : ∀ E : Int, CE f c r gm go ru lo (yr (lo / 86400)) E → Q (some (.int (iI (oA f c r gm go ru (E - 1))))) w) : ∀ (N : Nat) (y : Int), (y ≤ yr (lo / 86400) + 1 → yr (lo / 86400) + 1 - y < N) → (-9999 ≤ y ∧ y ≤ 10100 ∧ yr (lo / 86400) - 1 ≤ y) → ∀ E : Int, IB f c r gm go ru lo (yr (lo / 86400)) (y) (0) (E) → V l G mX5_offsetBeforeGap rX5_offsetBeforeGap Q X 83 (lof [(0, .ref z), (1, .long (lI lo)), (3, .long (lI (E))), (5, .int (iI (yr (lo / 86400)))), (6, .int (iI (y)))]) [] (w) 0 0 := by
  have hyt := yr_t (t := lo) (by omega)
  obtain ⟨hc, hr, hgm, hmono, hf, hgo, hru⟩ := hZ
  intro N
  induction N with
  | zero =>
    intro y hN hy E hIB
    have hEr := IB_rng ⟨hc, hr, hgm, hmono, hf, hgo, hru⟩ hlo hIB
    refine v_iload dX5_offsetBeforeGap_83 rfl ?_
    refine v_iload dX5_offsetBeforeGap_85 rfl ?_
    refine v_iconst dX5_offsetBeforeGap_87 ?_
    refine v_iadd dX5_offsetBeforeGap_88 ?_
    refine v_sipush dX5_offsetBeforeGap_89 ?_
    refine v_S2 (rm' := rJ9_min_7cf53) dX5_offsetBeforeGap_92 km_X5_67 ks_J9_min_7cf53 kz_J9 mk_J9_min_7cf53 rfl ⟨Nat.le_of_ble_eq_true rfl, Nat.le_of_ble_eq_true rfl⟩ ⟨Nat.le_of_ble_eq_true rfl, Nat.le_of_ble_eq_true rfl⟩ (Nat.le_of_ble_eq_true rfl) ?_
    refine s_J9_min_7cf53 hst (fun rmn emn => ?_)
    refine v_icmp_gt 161 dX5_offsetBeforeGap_95 (fun h_95 => ?_) (fun h_95 => ?_)
    · refine v_aload_n dX5_offsetBeforeGap_161 rfl ?_
      refine v_lload_n dX5_offsetBeforeGap_162 rfl ?_
      refine v_lconst1 dX5_offsetBeforeGap_163 ?_
      refine v_lsub dX5_offsetBeforeGap_164 ?_
      refine v_V1 (rm' := rX5_offsetAt) (RX5, TX5, 6) dX5_offsetBeforeGap_165 km_X5_81 kn_X5_offsetAt kv_X5_offsetAt kz_X5 mk_X5_offsetAt rfl rfl (by first | exact h0 | exact h1 | exact h2 | exact h3 | exact h5) ⟨Nat.le_of_ble_eq_true rfl, Nat.le_of_ble_eq_true rfl⟩ ⟨Nat.le_of_ble_eq_true rfl, Nat.le_of_ble_eq_true rfl⟩ (Nat.le_of_ble_eq_true rfl) ?_
      refine s_X5_offsetAt hst h0 h1 h2 h3 h4 ⟨hc, hr, hgm, hmono, hf, hgo, hru⟩ (by omega) ?_
      
      exact v_iret dX5_offsetBeforeGap_168 rfl (by exact hQ E (IB_e hIB (fun y9 g1 g2 => by omega)))
    · refine v_iconst dX5_offsetBeforeGap_98 ?_
      refine v_istore dX5_offsetBeforeGap_99 (by decide) ?_
      have hE2 : ∀ E' : Int, IB f c r gm go ru lo (yr (lo / 86400)) (y + 1) (0) (E') → V l G mX5_offsetBeforeGap rX5_offsetBeforeGap Q X 155 (lof [(0, .ref z), (1, .long (lI lo)), (3, .long (lI (E'))), (5, .int (iI (yr (lo / 86400)))), (6, .int (iI (y)))]) [] (w) 0 0 := by
        intro E' hIB'
        refine v_iinc dX5_offsetBeforeGap_155 rfl ?_
        refine v_goto 83 dX5_offsetBeforeGap_158 ?_
        (exfalso; omega)
      exact v_lof [(0, .ref z), (1, .long (lI lo)), (3, .long (lI (E))), (5, .int (iI (yr (lo / 86400)))), (6, .int (iI (y))), (7, .int (iI (((0 : Nat) : Int))))] (List.forall_mem_cons.mpr ⟨rfl, (List.forall_mem_cons.mpr ⟨rfl, (List.forall_mem_cons.mpr ⟨rfl, (List.forall_mem_cons.mpr ⟨rfl, (List.forall_mem_cons.mpr ⟨rfl, (List.forall_mem_cons.mpr ⟨rfl, (fun _ h => nomatch h)⟩)⟩)⟩)⟩)⟩)⟩) (gap_in hst h0 h1 h2 h3 h4 ⟨hc, hr, hgm, hmono, hf, hgo, hru⟩ hlo hQ (by omega) (by omega) hE2 2 0 (by omega) (by omega) E hIB)
  | succ N ih =>
    intro y hN hy E hIB
    have hEr := IB_rng ⟨hc, hr, hgm, hmono, hf, hgo, hru⟩ hlo hIB
    refine v_iload dX5_offsetBeforeGap_83 rfl ?_
    refine v_iload dX5_offsetBeforeGap_85 rfl ?_
    refine v_iconst dX5_offsetBeforeGap_87 ?_
    refine v_iadd dX5_offsetBeforeGap_88 ?_
    refine v_sipush dX5_offsetBeforeGap_89 ?_
    refine v_S2 (rm' := rJ9_min_7cf53) dX5_offsetBeforeGap_92 km_X5_67 ks_J9_min_7cf53 kz_J9 mk_J9_min_7cf53 rfl ⟨Nat.le_of_ble_eq_true rfl, Nat.le_of_ble_eq_true rfl⟩ ⟨Nat.le_of_ble_eq_true rfl, Nat.le_of_ble_eq_true rfl⟩ (Nat.le_of_ble_eq_true rfl) ?_
    refine s_J9_min_7cf53 hst (fun rmn emn => ?_)
    refine v_icmp_gt 161 dX5_offsetBeforeGap_95 (fun h_95 => ?_) (fun h_95 => ?_)
    · refine v_aload_n dX5_offsetBeforeGap_161 rfl ?_
      refine v_lload_n dX5_offsetBeforeGap_162 rfl ?_
      refine v_lconst1 dX5_offsetBeforeGap_163 ?_
      refine v_lsub dX5_offsetBeforeGap_164 ?_
      refine v_V1 (rm' := rX5_offsetAt) (RX5, TX5, 6) dX5_offsetBeforeGap_165 km_X5_81 kn_X5_offsetAt kv_X5_offsetAt kz_X5 mk_X5_offsetAt rfl rfl (by first | exact h0 | exact h1 | exact h2 | exact h3 | exact h5) ⟨Nat.le_of_ble_eq_true rfl, Nat.le_of_ble_eq_true rfl⟩ ⟨Nat.le_of_ble_eq_true rfl, Nat.le_of_ble_eq_true rfl⟩ (Nat.le_of_ble_eq_true rfl) ?_
      refine s_X5_offsetAt hst h0 h1 h2 h3 h4 ⟨hc, hr, hgm, hmono, hf, hgo, hru⟩ (by omega) ?_
      
      exact v_iret dX5_offsetBeforeGap_168 rfl (by exact hQ E (IB_e hIB (fun y9 g1 g2 => by omega)))
    · refine v_iconst dX5_offsetBeforeGap_98 ?_
      refine v_istore dX5_offsetBeforeGap_99 (by decide) ?_
      have hE2 : ∀ E' : Int, IB f c r gm go ru lo (yr (lo / 86400)) (y + 1) (0) (E') → V l G mX5_offsetBeforeGap rX5_offsetBeforeGap Q X 155 (lof [(0, .ref z), (1, .long (lI lo)), (3, .long (lI (E'))), (5, .int (iI (yr (lo / 86400)))), (6, .int (iI (y)))]) [] (w) 0 0 := by
        intro E' hIB'
        refine v_iinc dX5_offsetBeforeGap_155 rfl ?_
        refine v_goto 83 dX5_offsetBeforeGap_158 ?_
        exact v_lof [(0, .ref z), (1, .long (lI lo)), (3, .long (lI (E'))), (5, .int (iI (yr (lo / 86400)))), (6, .int (iI (y + 1)))] (List.forall_mem_cons.mpr ⟨rfl, (List.forall_mem_cons.mpr ⟨rfl, (List.forall_mem_cons.mpr ⟨rfl, (List.forall_mem_cons.mpr ⟨rfl, (List.forall_mem_cons.mpr ⟨rfl, (fun _ h => nomatch h)⟩)⟩)⟩)⟩)⟩) (ih (y + 1) (by omega) (by omega) E' hIB')
      exact v_lof [(0, .ref z), (1, .long (lI lo)), (3, .long (lI (E))), (5, .int (iI (yr (lo / 86400)))), (6, .int (iI (y))), (7, .int (iI (((0 : Nat) : Int))))] (List.forall_mem_cons.mpr ⟨rfl, (List.forall_mem_cons.mpr ⟨rfl, (List.forall_mem_cons.mpr ⟨rfl, (List.forall_mem_cons.mpr ⟨rfl, (List.forall_mem_cons.mpr ⟨rfl, (List.forall_mem_cons.mpr ⟨rfl, (fun _ h => nomatch h)⟩)⟩)⟩)⟩)⟩)⟩) (gap_in hst h0 h1 h2 h3 h4 ⟨hc, hr, hgm, hmono, hf, hgo, hru⟩ hlo hQ (by omega) (by omega) hE2 2 0 (by omega) (by omega) E hIB)
set_option maxRecDepth 100000 in
set_option maxHeartbeats 1000000 in
theorem gap_chg {l : Launch} {G : GG} {w : AH} {Q : Option Value → AH → Prop} {X : String → AH → Prop} (hst : l.stackTraces = false) {z am ao ar : Nat} {ra : Nat → Nat} {f c r : Int} {gm go : Nat → Int} {ru : Nat → Nat → Int} (h0 : w z = some (zoC f am ao c ar r)) (h1 : w am = some (alA G 8 gm)) (h2 : w ao = some (aiA G 8 go)) (h3 : w ar = some (arA G 6 2 (fun i => some (ra i)))) (h4 : ∀ k, k < 2 → w (ra k) = some (ruC (ru k 0) (ru k 1) (ru k 2) (ru k 3) (ru k 4))) (hZ : ZOK f c r gm go ru) {lo : Int} (hlo : -377705116800 ≤ lo ∧ lo ≤ 253402300799) (hQ : ∀ E : Int, CE f c r gm go ru lo (yr (lo / 86400)) E → Q (some (.int (iI (oA f c r gm go ru (E - 1))))) w) : ∀ (N i : Nat), c - i ≤ N → (i : Int) ≤ c → ∀ E : Int, IA c gm go lo i E → V l G mX5_offsetBeforeGap rX5_offsetBeforeGap Q X 11 (lof [(0, .ref z), (1, .long (lI lo)), (3, .long (lI (E))), (5, .int (iI ((i : Int))))]) [] (w) 0 0 := by
  have hyt := yr_t (t := lo) (by omega)
  obtain ⟨hc, hr, hgm, hmono, hf, hgo, hru⟩ := hZ
  intro N
  induction N with
  | zero =>
    intro i hN hi E hIA
    have hEr := IA_rng ⟨hc, hr, hgm, hmono, hf, hgo, hru⟩ hlo hIA
    have hg9 := hgm ((i : Int).toNat)
    have hg8 := hgo ((i : Int).toNat)
    refine v_iload dX5_offsetBeforeGap_11 rfl ?_
    refine v_aload_n dX5_offsetBeforeGap_13 rfl ?_
    refine v_get dX5_offsetBeforeGap_14 f_X5_30 (by first | exact h0 | exact h1 | exact h2 | exact h3 | exact h5) rfl ?_
    refine v_icmp_ge 59 dX5_offsetBeforeGap_17 (fun h_17 => ?_) (fun h_17 => ?_)
    · refine v_lload_n dX5_offsetBeforeGap_59 rfl ?_
      refine v_ldc2 (86400) dX5_offsetBeforeGap_60 kl_X5_50 ?_
      refine v_S2 (rm' := rJ9_floorDiv_f86c9) dX5_offsetBeforeGap_63 km_X5_52 ks_J9_floorDiv_f86c9 kz_J9 mk_J9_floorDiv_f86c9 rfl ⟨Nat.le_of_ble_eq_true rfl, Nat.le_of_ble_eq_true rfl⟩ ⟨Nat.le_of_ble_eq_true rfl, Nat.le_of_ble_eq_true rfl⟩ (Nat.le_of_ble_eq_true rfl) ?_
      refine s_J9_floorDiv_f86c9 hst ?_
      refine v_S1 (rm' := rX0_yearOfDay) dX5_offsetBeforeGap_66 km_X5_58 ks_X0_yearOfDay kz_X0 mk_X0_yearOfDay rfl ⟨Nat.le_of_ble_eq_true rfl, Nat.le_of_ble_eq_true rfl⟩ ⟨Nat.le_of_ble_eq_true rfl, Nat.le_of_ble_eq_true rfl⟩ (Nat.le_of_ble_eq_true rfl) ?_
      refine s_X0_yearOfDay hst ?_
      refine v_istore dX5_offsetBeforeGap_69 (by decide) ?_
      refine v_iload dX5_offsetBeforeGap_71 rfl ?_
      refine v_iconst dX5_offsetBeforeGap_73 ?_
      refine v_isub dX5_offsetBeforeGap_74 ?_
      refine v_sipush dX5_offsetBeforeGap_75 ?_
      refine v_S2 (rm' := rJ9_max_7cf53) dX5_offsetBeforeGap_78 km_X5_63 ks_J9_max_7cf53 kz_J9 mk_J9_max_7cf53 rfl ⟨Nat.le_of_ble_eq_true rfl, Nat.le_of_ble_eq_true rfl⟩ ⟨Nat.le_of_ble_eq_true rfl, Nat.le_of_ble_eq_true rfl⟩ (Nat.le_of_ble_eq_true rfl) ?_
      refine s_J9_max_7cf53 hst (fun rmx emx => ?_)
      refine v_istore dX5_offsetBeforeGap_81 (by decide) ?_
      have hIA2 : IA c gm go lo c.toNat E := (by rw [show c.toNat = i by omega]; exact hIA)
      exact v_lof [(0, .ref z), (1, .long (lI lo)), (3, .long (lI (E))), (5, .int (iI (yr (lo / 86400)))), (6, .int (iI (rmx)))] (List.forall_mem_cons.mpr ⟨rfl, (List.forall_mem_cons.mpr ⟨rfl, (List.forall_mem_cons.mpr ⟨rfl, (List.forall_mem_cons.mpr ⟨rfl, (List.forall_mem_cons.mpr ⟨rfl, (fun _ h => nomatch h)⟩)⟩)⟩)⟩)⟩) (gap_out hst h0 h1 h2 h3 h4 ⟨hc, hr, hgm, hmono, hf, hgo, hru⟩ hlo hQ 40000 rmx (by omega) (by omega) E (IB_0 hIA2 (fun y9 g1 g2 => by omega)))
    · refine v_aload_n dX5_offsetBeforeGap_20 rfl ?_
      refine v_get dX5_offsetBeforeGap_21 f_X5_9 (by first | exact h0 | exact h1 | exact h2 | exact h3 | exact h5) rfl ?_
      refine v_iload dX5_offsetBeforeGap_24 rfl ?_
      refine v_lald dX5_offsetBeforeGap_26 (by first | exact h0 | exact h1 | exact h2 | exact h3 | exact h5) ?_
      refine v_aload_n dX5_offsetBeforeGap_27 rfl ?_
      refine v_get dX5_offsetBeforeGap_28 f_X5_15 (by first | exact h0 | exact h1 | exact h2 | exact h3 | exact h5) rfl ?_
      refine v_iload dX5_offsetBeforeGap_31 rfl ?_
      refine v_iald dX5_offsetBeforeGap_33 (by first | exact h0 | exact h1 | exact h2 | exact h3 | exact h5) ?_
      refine v_i2l dX5_offsetBeforeGap_34 ?_
      refine v_ladd dX5_offsetBeforeGap_35 ?_
      refine v_lload_n dX5_offsetBeforeGap_36 rfl ?_
      refine v_lif_le 53 dX5_offsetBeforeGap_37 dX5_offsetBeforeGap_38 (fun h_37 => ?_) (fun h_37 => ?_)
      · refine v_iinc dX5_offsetBeforeGap_53 rfl ?_
        rw [show (i : Int) + 1 = ((i + 1 : Nat) : Int) by omega]
        refine v_goto 11 dX5_offsetBeforeGap_56 ?_
        (exfalso; omega)
      · refine v_lload_n dX5_offsetBeforeGap_41 rfl ?_
        refine v_aload_n dX5_offsetBeforeGap_42 rfl ?_
        refine v_get dX5_offsetBeforeGap_43 f_X5_9 (by first | exact h0 | exact h1 | exact h2 | exact h3 | exact h5) rfl ?_
        refine v_iload dX5_offsetBeforeGap_46 rfl ?_
        refine v_lald dX5_offsetBeforeGap_48 (by first | exact h0 | exact h1 | exact h2 | exact h3 | exact h5) ?_
        refine v_S2 (rm' := rJ9_min_f86c9) dX5_offsetBeforeGap_49 km_X5_86 ks_J9_min_f86c9 kz_J9 mk_J9_min_f86c9 rfl ⟨Nat.le_of_ble_eq_true rfl, Nat.le_of_ble_eq_true rfl⟩ ⟨Nat.le_of_ble_eq_true rfl, Nat.le_of_ble_eq_true rfl⟩ (Nat.le_of_ble_eq_true rfl) ?_
        refine s_J9_min_f86c9 hst (fun rmi emi => ?_)
        refine v_lstore_n dX5_offsetBeforeGap_52 (by decide) ?_
        refine v_iinc dX5_offsetBeforeGap_53 rfl ?_
        rw [show (i : Int) + 1 = ((i + 1 : Nat) : Int) by omega]
        refine v_goto 11 dX5_offsetBeforeGap_56 ?_
        (exfalso; omega)
  | succ N ih =>
    intro i hN hi E hIA
    have hEr := IA_rng ⟨hc, hr, hgm, hmono, hf, hgo, hru⟩ hlo hIA
    have hg9 := hgm ((i : Int).toNat)
    have hg8 := hgo ((i : Int).toNat)
    refine v_iload dX5_offsetBeforeGap_11 rfl ?_
    refine v_aload_n dX5_offsetBeforeGap_13 rfl ?_
    refine v_get dX5_offsetBeforeGap_14 f_X5_30 (by first | exact h0 | exact h1 | exact h2 | exact h3 | exact h5) rfl ?_
    refine v_icmp_ge 59 dX5_offsetBeforeGap_17 (fun h_17 => ?_) (fun h_17 => ?_)
    · refine v_lload_n dX5_offsetBeforeGap_59 rfl ?_
      refine v_ldc2 (86400) dX5_offsetBeforeGap_60 kl_X5_50 ?_
      refine v_S2 (rm' := rJ9_floorDiv_f86c9) dX5_offsetBeforeGap_63 km_X5_52 ks_J9_floorDiv_f86c9 kz_J9 mk_J9_floorDiv_f86c9 rfl ⟨Nat.le_of_ble_eq_true rfl, Nat.le_of_ble_eq_true rfl⟩ ⟨Nat.le_of_ble_eq_true rfl, Nat.le_of_ble_eq_true rfl⟩ (Nat.le_of_ble_eq_true rfl) ?_
      refine s_J9_floorDiv_f86c9 hst ?_
      refine v_S1 (rm' := rX0_yearOfDay) dX5_offsetBeforeGap_66 km_X5_58 ks_X0_yearOfDay kz_X0 mk_X0_yearOfDay rfl ⟨Nat.le_of_ble_eq_true rfl, Nat.le_of_ble_eq_true rfl⟩ ⟨Nat.le_of_ble_eq_true rfl, Nat.le_of_ble_eq_true rfl⟩ (Nat.le_of_ble_eq_true rfl) ?_
      refine s_X0_yearOfDay hst ?_
      refine v_istore dX5_offsetBeforeGap_69 (by decide) ?_
      refine v_iload dX5_offsetBeforeGap_71 rfl ?_
      refine v_iconst dX5_offsetBeforeGap_73 ?_
      refine v_isub dX5_offsetBeforeGap_74 ?_
      refine v_sipush dX5_offsetBeforeGap_75 ?_
      refine v_S2 (rm' := rJ9_max_7cf53) dX5_offsetBeforeGap_78 km_X5_63 ks_J9_max_7cf53 kz_J9 mk_J9_max_7cf53 rfl ⟨Nat.le_of_ble_eq_true rfl, Nat.le_of_ble_eq_true rfl⟩ ⟨Nat.le_of_ble_eq_true rfl, Nat.le_of_ble_eq_true rfl⟩ (Nat.le_of_ble_eq_true rfl) ?_
      refine s_J9_max_7cf53 hst (fun rmx emx => ?_)
      refine v_istore dX5_offsetBeforeGap_81 (by decide) ?_
      have hIA2 : IA c gm go lo c.toNat E := (by rw [show c.toNat = i by omega]; exact hIA)
      exact v_lof [(0, .ref z), (1, .long (lI lo)), (3, .long (lI (E))), (5, .int (iI (yr (lo / 86400)))), (6, .int (iI (rmx)))] (List.forall_mem_cons.mpr ⟨rfl, (List.forall_mem_cons.mpr ⟨rfl, (List.forall_mem_cons.mpr ⟨rfl, (List.forall_mem_cons.mpr ⟨rfl, (List.forall_mem_cons.mpr ⟨rfl, (fun _ h => nomatch h)⟩)⟩)⟩)⟩)⟩) (gap_out hst h0 h1 h2 h3 h4 ⟨hc, hr, hgm, hmono, hf, hgo, hru⟩ hlo hQ 40000 rmx (by omega) (by omega) E (IB_0 hIA2 (fun y9 g1 g2 => by omega)))
    · refine v_aload_n dX5_offsetBeforeGap_20 rfl ?_
      refine v_get dX5_offsetBeforeGap_21 f_X5_9 (by first | exact h0 | exact h1 | exact h2 | exact h3 | exact h5) rfl ?_
      refine v_iload dX5_offsetBeforeGap_24 rfl ?_
      refine v_lald dX5_offsetBeforeGap_26 (by first | exact h0 | exact h1 | exact h2 | exact h3 | exact h5) ?_
      refine v_aload_n dX5_offsetBeforeGap_27 rfl ?_
      refine v_get dX5_offsetBeforeGap_28 f_X5_15 (by first | exact h0 | exact h1 | exact h2 | exact h3 | exact h5) rfl ?_
      refine v_iload dX5_offsetBeforeGap_31 rfl ?_
      refine v_iald dX5_offsetBeforeGap_33 (by first | exact h0 | exact h1 | exact h2 | exact h3 | exact h5) ?_
      refine v_i2l dX5_offsetBeforeGap_34 ?_
      refine v_ladd dX5_offsetBeforeGap_35 ?_
      refine v_lload_n dX5_offsetBeforeGap_36 rfl ?_
      refine v_lif_le 53 dX5_offsetBeforeGap_37 dX5_offsetBeforeGap_38 (fun h_37 => ?_) (fun h_37 => ?_)
      · refine v_iinc dX5_offsetBeforeGap_53 rfl ?_
        rw [show (i : Int) + 1 = ((i + 1 : Nat) : Int) by omega]
        refine v_goto 11 dX5_offsetBeforeGap_56 ?_
        first | (have g9 : lo < gm i + go i := (by simp only [Int.toNat_natCast] at *; omega); exact v_lof [(0, .ref z), (1, .long (lI lo)), (3, .long (lI (rmi))), (5, .int (iI (((i + 1 : Nat) : Int))))] (List.forall_mem_cons.mpr ⟨rfl, (List.forall_mem_cons.mpr ⟨rfl, (List.forall_mem_cons.mpr ⟨rfl, (List.forall_mem_cons.mpr ⟨rfl, (fun _ h => nomatch h)⟩)⟩)⟩)⟩) (ih (i + 1) (by omega) (by omega) _ (IA_p hIA (by omega) g9 (by simp only [Int.toNat_natCast] at *; omega)))) | (have g9 : ¬ lo < gm i + go i := (by simp only [Int.toNat_natCast] at *; omega); exact v_lof [(0, .ref z), (1, .long (lI lo)), (3, .long (lI (E))), (5, .int (iI (((i + 1 : Nat) : Int))))] (List.forall_mem_cons.mpr ⟨rfl, (List.forall_mem_cons.mpr ⟨rfl, (List.forall_mem_cons.mpr ⟨rfl, (List.forall_mem_cons.mpr ⟨rfl, (fun _ h => nomatch h)⟩)⟩)⟩)⟩) (ih (i + 1) (by omega) (by omega) _ (IA_n hIA g9)))
      · refine v_lload_n dX5_offsetBeforeGap_41 rfl ?_
        refine v_aload_n dX5_offsetBeforeGap_42 rfl ?_
        refine v_get dX5_offsetBeforeGap_43 f_X5_9 (by first | exact h0 | exact h1 | exact h2 | exact h3 | exact h5) rfl ?_
        refine v_iload dX5_offsetBeforeGap_46 rfl ?_
        refine v_lald dX5_offsetBeforeGap_48 (by first | exact h0 | exact h1 | exact h2 | exact h3 | exact h5) ?_
        refine v_S2 (rm' := rJ9_min_f86c9) dX5_offsetBeforeGap_49 km_X5_86 ks_J9_min_f86c9 kz_J9 mk_J9_min_f86c9 rfl ⟨Nat.le_of_ble_eq_true rfl, Nat.le_of_ble_eq_true rfl⟩ ⟨Nat.le_of_ble_eq_true rfl, Nat.le_of_ble_eq_true rfl⟩ (Nat.le_of_ble_eq_true rfl) ?_
        refine s_J9_min_f86c9 hst (fun rmi emi => ?_)
        refine v_lstore_n dX5_offsetBeforeGap_52 (by decide) ?_
        refine v_iinc dX5_offsetBeforeGap_53 rfl ?_
        rw [show (i : Int) + 1 = ((i + 1 : Nat) : Int) by omega]
        refine v_goto 11 dX5_offsetBeforeGap_56 ?_
        first | (have g9 : lo < gm i + go i := (by simp only [Int.toNat_natCast] at *; omega); exact v_lof [(0, .ref z), (1, .long (lI lo)), (3, .long (lI (rmi))), (5, .int (iI (((i + 1 : Nat) : Int))))] (List.forall_mem_cons.mpr ⟨rfl, (List.forall_mem_cons.mpr ⟨rfl, (List.forall_mem_cons.mpr ⟨rfl, (List.forall_mem_cons.mpr ⟨rfl, (fun _ h => nomatch h)⟩)⟩)⟩)⟩) (ih (i + 1) (by omega) (by omega) _ (IA_p hIA (by omega) g9 (by simp only [Int.toNat_natCast] at *; omega)))) | (have g9 : ¬ lo < gm i + go i := (by simp only [Int.toNat_natCast] at *; omega); exact v_lof [(0, .ref z), (1, .long (lI lo)), (3, .long (lI (E))), (5, .int (iI (((i + 1 : Nat) : Int))))] (List.forall_mem_cons.mpr ⟨rfl, (List.forall_mem_cons.mpr ⟨rfl, (List.forall_mem_cons.mpr ⟨rfl, (List.forall_mem_cons.mpr ⟨rfl, (fun _ h => nomatch h)⟩)⟩)⟩)⟩) (ih (i + 1) (by omega) (by omega) _ (IA_n hIA g9)))
set_option maxRecDepth 100000 in
set_option maxHeartbeats 4000000 in
theorem s_X5_offsetBeforeGap {l : Launch} {G : GG} {w : AH} {Q : Option Value → AH → Prop} {X : String → AH → Prop} (hst : l.stackTraces = false) {z am ao ar : Nat} {ra : Nat → Nat} {f c r : Int} {gm go : Nat → Int} {ru : Nat → Nat → Int} (h0 : w z = some (zoC f am ao c ar r)) (h1 : w am = some (alA G 8 gm)) (h2 : w ao = some (aiA G 8 go)) (h3 : w ar = some (arA G 6 2 (fun i => some (ra i)))) (h4 : ∀ k, k < 2 → w (ra k) = some (ruC (ru k 0) (ru k 1) (ru k 2) (ru k 3) (ru k 4))) (hZ : ZOK f c r gm go ru) {lo : Int} (hlo : -377705116800 ≤ lo ∧ lo ≤ 253402300799) (hQ : ∀ E : Int, CE f c r gm go ru lo (yr (lo / 86400)) E → Q (some (.int (iI (oA f c r gm go ru (E - 1))))) w) : Ct l G mX5_offsetBeforeGap rX5_offsetBeforeGap [(.ref z), .long (lI lo)] w Q X := by
  obtain ⟨hc, hr, hgm, hmono, hf, hgo, hru⟩ := hZ
  refine ct_of hst mk_X5_offsetBeforeGap (Nat.le_of_ble_eq_true rfl) ?_
  refine v_lload_n dX5_offsetBeforeGap_0 rfl ?_
  refine v_ldc2 (64800) dX5_offsetBeforeGap_1 kl_X5_84 ?_
  refine v_ladd dX5_offsetBeforeGap_4 ?_
  refine v_lconst1 dX5_offsetBeforeGap_5 ?_
  refine v_ladd dX5_offsetBeforeGap_6 ?_
  refine v_lstore_n dX5_offsetBeforeGap_7 (by decide) ?_
  refine v_iconst dX5_offsetBeforeGap_8 ?_
  refine v_istore dX5_offsetBeforeGap_9 (by decide) ?_
  exact v_lof [(0, .ref z), (1, .long (lI lo)), (3, .long (lI (lo + 64800 + 1))), (5, .int (iI (((0 : Nat) : Int))))] (List.forall_mem_cons.mpr ⟨rfl, (List.forall_mem_cons.mpr ⟨rfl, (List.forall_mem_cons.mpr ⟨rfl, (List.forall_mem_cons.mpr ⟨rfl, (fun _ h => nomatch h)⟩)⟩)⟩)⟩) (gap_chg hst h0 h1 h2 h3 h4 ⟨hc, hr, hgm, hmono, hf, hgo, hru⟩ hlo hQ 8 0 (by omega) (by omega) _ (by rw [show lo + 64800 + 1 = lo + 64801 by omega]; exact IA_0))
