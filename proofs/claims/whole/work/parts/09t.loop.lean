set_option maxRecDepth 100000 in
set_option maxHeartbeats 8000000 in
theorem lw_step {l : Launch} {G : GG} {Q : Option Value → AH → Prop} {X : String → AH → Prop} {B : Nat → Nat} {i : Int} {w : AH} {kc ks : Nat} (hst : l.stackTraces = false) (hB : iB B) (hi : 0 ≤ i ∧ i + 7 ≤ (G.scr.2.1 : Int)) (hL9 : G.scr.2.1 ≤ 448) (hk : kc ≤ 500000 ∧ ks ≤ 7000000) (h : SS G B w) (K : ∀ w' : AH, SS G B w' → V l G mL_law room_1 Q X 1530 (lof [(0, .ref G.scr.1), (1, .ref (B 0)), (2, .ref (B 39)), (3, .ref (B 50)), (4, .ref (B 51)), (5, .int (iI i))]) [] w' (kc + 8) (ks + 48)) : V l G mL_law room_1 Q X 38 (lof [(0, .ref G.scr.1), (1, .ref (B 0)), (2, .ref (B 39)), (3, .ref (B 50)), (4, .ref (B 51)), (5, .int (iI i))]) [] w kc ks := by
  obtain ⟨a0, e0⟩ : ∃ a : Int, scI G i.toNat = a := ⟨_, rfl⟩
  obtain ⟨c0, ec0⟩ : ∃ c : Int, aLg a0 = c := ⟨_, rfl⟩
  have rc0 : -2147483648 ≤ c0 ∧ c0 ≤ 2147483647 := ec0 ▸ aLg_r _
  refine v_aload_n dL_law_38 rfl ?_
  refine v_iload dL_law_39 rfl ?_
  refine v_sldA (a := a0) dL_law_41 e0 ?_
  refine v_bipush dL_law_42 ?_
  refine v_iandL (c := c0) dL_law_44 ec0 ?_
  rcases (show (c0 < 0 ∨ 18 < c0) ∨ c0 = 0 ∨ c0 = 1 ∨ c0 = 2 ∨ c0 = 3 ∨ c0 = 4 ∨ c0 = 5 ∨ c0 = 6 ∨ c0 = 7 ∨ c0 = 8 ∨ c0 = 9 ∨ c0 = 10 ∨ c0 = 11 ∨ c0 = 12 ∨ c0 = 13 ∨ c0 = 14 ∨ c0 = 15 ∨ c0 = 16 ∨ c0 = 17 ∨ c0 = 18 by omega) with s | s | s | s | s | s | s | s | s | s | s | s | s | s | s | s | s | s | s | s
  · refine v_tabOut 1530 dL_law_45 ?_
    exact v_wid (kc' := kc + 8) (ks' := ks + 48) (by omega) (by omega) (K w h)
  · subst s
    refine v_tabIn 136 dL_law_45 rfl ?_
    exact lw_date hst hB hi hL9 hk h K
  · subst s
    refine v_tabIn 208 dL_law_45 rfl ?_
    exact lw_time hst hB hi hL9 hk h K
  · subst s
    refine v_tabIn 292 dL_law_45 rfl ?_
    exact lw_get hst hB hi hL9 hk h K
  · subst s
    refine v_tabIn 359 dL_law_45 rfl ?_
    exact lw_with hst hB hi hL9 hk h K
  · subst s
    refine v_tabIn 451 dL_law_45 rfl ?_
    exact lw_plus hst hB hi hL9 hk h K
  · subst s
    refine v_tabIn 543 dL_law_45 rfl ?_
    exact lw_until hst hB hi hL9 hk h K
  · subst s
    refine v_tabIn 622 dL_law_45 rfl ?_
    exact lw_span hst hB hi hL9 hk h K
  · subst s
    refine v_tabIn 702 dL_law_45 rfl ?_
    exact lw_adjust hst hB hi hL9 hk h K
  · subst s
    refine v_tabIn 762 dL_law_45 rfl ?_
    exact lw_copy hst hB hi hL9 hk h K
  · subst s
    refine v_tabIn 830 dL_law_45 rfl ?_
    exact lw_zone hst hB hi hL9 hk h K
  · subst s
    refine v_tabIn 867 dL_law_45 rfl ?_
    exact lw_change hst hB hi hL9 hk h K
  · subst s
    refine v_tabIn 948 dL_law_45 rfl ?_
    exact lw_rule hst hB hi hL9 hk h K
  · subst s
    refine v_tabIn 1035 dL_law_45 rfl ?_
    exact lw_offset hst hB hi hL9 hk h K
  · subst s
    refine v_tabIn 1135 dL_law_45 rfl ?_
    exact lw_moment hst hB hi hL9 hk h K
  · subst s
    refine v_tabIn 1230 dL_law_45 rfl ?_
    exact lw_show hst hB hi hL9 hk h K
  · subst s
    refine v_tabIn 1322 dL_law_45 rfl ?_
    exact lw_julian hst hB hi hL9 hk h K
  · subst s
    refine v_tabIn 1399 dL_law_45 rfl ?_
    exact lw_type hst hB hi hL9 hk h K
  · subst s
    refine v_tabIn 1426 dL_law_45 rfl ?_
    exact lw_parse hst hB hi hL9 hk h K
  · subst s
    refine v_tabIn 1462 dL_law_45 rfl ?_
    exact lw_text hst hB hi hL9 hk h K
set_option maxRecDepth 100000 in
set_option maxHeartbeats 8000000 in
theorem lw_loop {l : Launch} {G : GG} {Q : Option Value → AH → Prop} {X : String → AH → Prop} {B : Nat → Nat} (hst : l.stackTraces = false) (hB : iB B) (hL9 : G.scr.2.1 ≤ 448) (hQ : ∀ w : AH, Q (some (.int (iI 1))) w) : ∀ (n j : Nat) (w : AH) (kc ks : Nat), G.scr.2.1 < 7 * j + 7 + 7 * n → j ≤ 64 → kc ≤ 100 + 8 * j → ks ≤ 1000 + 48 * j → SS G B w → V l G mL_law room_1 Q X 28 (lof [(0, .ref G.scr.1), (1, .ref (B 0)), (2, .ref (B 39)), (3, .ref (B 50)), (4, .ref (B 51)), (5, .int (iI (7 * (j : Int))))]) [] w kc ks := by
  intro n
  induction n with
  | zero =>
    intro j w kc ks hn hj hkc hks h
    refine v_iload dL_law_28 rfl ?_
    refine v_aload_n dL_law_30 rfl ?_
    refine v_slen dL_law_31 ?_
    refine v_bipush dL_law_32 ?_
    refine v_isub dL_law_34 ?_
    refine v_icmp_gt 1536 dL_law_35 (fun h9 => ?_) (fun h9 => ?_)
    · refine v_iconst dL_law_1536 ?_
      exact v_zret dL_law_1537 rfl (hQ w) (Or.inr rfl) (by show kc ≤ 600128; omega) (by show ks ≤ 7301098; omega)
    · exfalso; omega
  | succ n ih =>
    intro j w kc ks hn hj hkc hks h
    refine v_iload dL_law_28 rfl ?_
    refine v_aload_n dL_law_30 rfl ?_
    refine v_slen dL_law_31 ?_
    refine v_bipush dL_law_32 ?_
    refine v_isub dL_law_34 ?_
    refine v_icmp_gt 1536 dL_law_35 (fun h9 => ?_) (fun h9 => ?_)
    · refine v_iconst dL_law_1536 ?_
      exact v_zret dL_law_1537 rfl (hQ w) (Or.inr rfl) (by show kc ≤ 600128; omega) (by show ks ≤ 7301098; omega)
    · refine lw_step hst hB ⟨by omega, by omega⟩ hL9 ⟨by omega, by omega⟩ h (fun w' hs => ?_)
      refine v_iinc dL_law_1530 rfl ?_
      refine v_goto 28 dL_law_1533 ?_
      rw [show 7 * (j : Int) + 7 = 7 * ((j + 1 : Nat) : Int) by omega]
      exact v_lof [(0, .ref G.scr.1), (1, .ref (B 0)), (2, .ref (B 39)), (3, .ref (B 50)), (4, .ref (B 51)), (5, .int (iI (7 * ((j + 1 : Nat) : Int))))] (List.forall_mem_cons.mpr ⟨rfl, (List.forall_mem_cons.mpr ⟨rfl, (List.forall_mem_cons.mpr ⟨rfl, (List.forall_mem_cons.mpr ⟨rfl, (List.forall_mem_cons.mpr ⟨rfl, (List.forall_mem_cons.mpr ⟨rfl, (fun _ h => nomatch h)⟩)⟩)⟩)⟩)⟩)⟩) (ih (j + 1) w' (kc + 8) (ks + 48) (by omega) (by omega) (by omega) (by omega) hs)
