def NH (G : GG) (w : AH) (z : Nat) (A : Nat → Nat) (th yq mq dq ty ap wr : Int) (s : TS) : AH := aup (aup w (A 9) (aiA G 40 s.2)) z (mdC A th yq mq dq ty ap wr ((s.1 : Nat) : Int))
section NHs
variable {G : GG} {w : AH} {z : Nat} {A : Nat → Nat} {th yq mq dq ty ap wr : Int}
theorem nh_nh {s t : TS} (h : A 9 ≠ z) : aup (aup (NH G w z A th yq mq dq ty ap wr s) (A 9) (aiA G 40 t.2)) z (mdC A th yq mq dq ty ap wr ((t.1 : Nat) : Int)) = NH G w z A th yq mq dq ty ap wr t := by
  funext q
  unfold NH
  by_cases e1 : q = z
  · subst e1
    rw [aup_s, aup_s]
  · rw [aup_n e1, aup_n e1]
    by_cases e2 : q = A 9
    · rw [e2, aup_s, aup_s]
    · rw [aup_n e2, aup_n e2, aup_n e1, aup_n e2]
theorem nh_z {s : TS} : NH G w z A th yq mq dq ty ap wr s z = some (mdC A th yq mq dq ty ap wr ((s.1 : Nat) : Int)) := aup_s
theorem nh_a {s : TS} (h : A 9 ≠ z) : NH G w z A th yq mq dq ty ap wr s (A 9) = some (aiA G 40 s.2) := (aup_n h).trans aup_s
theorem nh_o {s : TS} {q : Nat} (h1 : q ≠ z) (h2 : q ≠ A 9) : NH G w z A th yq mq dq ty ap wr s q = w q := (aup_n h1).trans (aup_n h2)
end NHs
def wrP (g : Nat → Int) (p : Nat) (v : Int) (n i : Nat) : Nat → Int := fun j => if p ≤ j ∧ j < p + i then dv v (p + n - 1 - j) % 10 + 48 else g j
theorem wrP_0 {g : Nat → Int} {p n : Nat} {v : Int} : wrP g p v n 0 = g := by
  funext j
  unfold wrP
  rw [if_neg (by omega)]
theorem wrP_s {g : Nat → Int} {p n i : Nat} {v : Int} (hi : i < n) : gup (wrP g p v n i) (p + i) (dv v (n - 1 - i) % 10 + 48) = wrP g p v n (i + 1) := by
  funext j
  unfold gup wrP
  by_cases e : j = p + i
  · rw [if_pos e, if_pos (by omega), show p + n - 1 - j = n - 1 - i by omega]
  · rw [if_neg e]
    by_cases h : p ≤ j ∧ j < p + i
    · rw [if_pos h, if_pos (by omega)]
    · rw [if_neg h, if_neg (by omega)]
theorem wrP_n {g : Nat → Int} {p n : Nat} {v : Int} : wrP g p v n n = wrD g p v n n := by
  funext j
  unfold wrP wrD
  by_cases h : p ≤ j ∧ j < p + n
  · rw [if_pos h, if_pos (by omega)]
  · rw [if_neg h, if_neg (by omega)]
set_option maxRecDepth 100000 in
set_option maxHeartbeats 4000000 in
theorem s_X7_put {l : Launch} {G : GG} {w : AH} {Q : Option Value → AH → Prop} {X : String → AH → Prop} (hst : l.stackTraces = false) {z : Nat} {A : Nat → Nat} {th yq mq dq ty ap wr : Int} (n9 : A 9 ≠ z) {s : TS} (hs : s.1 < 40) {c : Int} (hQ : Q none (NH G w z A th yq mq dq ty ap wr (tCh c s))) : Ct l G mX7_put rX7_put [(.ref z), .int (iI c)] (NH G w z A th yq mq dq ty ap wr (s)) Q X := by
  refine ct_of hst mk_X7_put (Nat.le_of_ble_eq_true rfl) ?_
  refine v_aload_n dX7_put_0 rfl ?_
  refine v_get dX7_put_1 f_X7_38 (by exact nh_z) rfl ?_
  refine v_aload_n dX7_put_4 rfl ?_
  refine v_get dX7_put_5 f_X7_284 (by exact nh_z) rfl ?_
  refine v_iload_n dX7_put_8 rfl ?_
  refine v_iast dX7_put_9 (by exact nh_a n9) ?_
  refine v_aload_n dX7_put_10 rfl ?_
  refine v_dup dX7_put_11 rfl ?_
  refine v_get dX7_put_12 f_X7_284 (by exact (aup_n n9.symm).trans nh_z) rfl ?_
  refine v_iconst dX7_put_15 ?_
  refine v_iadd dX7_put_16 ?_
  refine v_put dX7_put_17 f_X7_284 (by exact (aup_n n9.symm).trans nh_z) rfl rfl (Nat.le_of_ble_eq_true rfl) ?_
  exact v_vret dX7_put_20 rfl (by (rw [show ((s.1 : Nat) : Int) + 1 = (((tCh c s).1 : Nat) : Int) by simp only [tCh_1]; omega]; rw [← nh_nh (s := s) n9] at hQ; exact hQ))
set_option maxRecDepth 100000 in
set_option maxHeartbeats 1000000 in
theorem num_in {l : Launch} {G : GG} {w : AH} {Q : Option Value → AH → Prop} {X : String → AH → Prop} (hst : l.stackTraces = false) {z : Nat} {A : Nat → Nat} {th yq mq dq ty ap wr : Int} (n9 : A 9 ≠ z) {v : Int} (hv : 0 ≤ v ∧ v ≤ 100000000000000) {n : Nat} (hn : n ≤ 9) {k : Nat} (hk : k < 9) {s : TS} (hE : V l G mX7_number rX7_number Q X 37 (lof [(0, .ref z), (1, .long (lI v)), (3, .int (iI (n : Int))), (4, .int (iI (k : Int))), (5, .long (lI (dv v k)))]) [] (NH G w z A th yq mq dq ty ap wr (s)) 0 0) : ∀ (N i : Nat), k - i ≤ N → i ≤ k → V l G mX7_number rX7_number Q X 16 (lof [(0, .ref z), (1, .long (lI v)), (3, .int (iI (n : Int))), (4, .int (iI (k : Int))), (5, .long (lI (dv v i))), (7, .int (iI ((i : Int))))]) [] (NH G w z A th yq mq dq ty ap wr (s)) 0 0 := by
  intro N
  induction N with
  | zero =>
    intro i hN hi
    have hdr := dv_rng hv i
    refine v_iload dX7_number_16 rfl ?_
    refine v_iload dX7_number_18 rfl ?_
    refine v_icmp_ge 37 dX7_number_20 (fun h_20 => ?_) (fun h_20 => ?_)
    · have e9 : i = k := (by omega)
      subst e9
      exact v_lof [(0, .ref z), (1, .long (lI v)), (3, .int (iI (n : Int))), (4, .int (iI (i : Int))), (5, .long (lI (dv v i)))] (List.forall_mem_cons.mpr ⟨rfl, (List.forall_mem_cons.mpr ⟨rfl, (List.forall_mem_cons.mpr ⟨rfl, (List.forall_mem_cons.mpr ⟨rfl, (List.forall_mem_cons.mpr ⟨rfl, (fun _ h => nomatch h)⟩)⟩)⟩)⟩)⟩) (hE)
    · refine v_lload dX7_number_23 rfl ?_
      refine v_ldc2 (10) dX7_number_25 kl_X7_280 ?_
      refine v_ldivP dX7_number_28 ?_
      refine v_lstore dX7_number_29 (by decide) ?_
      refine v_iinc dX7_number_31 rfl ?_
      rw [show (i : Int) + 1 = ((i + 1 : Nat) : Int) by omega, show dv v i / 10 = dv v (i + 1) from rfl]
      refine v_goto 16 dX7_number_34 ?_
      (exfalso; omega)
  | succ N ih =>
    intro i hN hi
    have hdr := dv_rng hv i
    refine v_iload dX7_number_16 rfl ?_
    refine v_iload dX7_number_18 rfl ?_
    refine v_icmp_ge 37 dX7_number_20 (fun h_20 => ?_) (fun h_20 => ?_)
    · have e9 : i = k := (by omega)
      subst e9
      exact v_lof [(0, .ref z), (1, .long (lI v)), (3, .int (iI (n : Int))), (4, .int (iI (i : Int))), (5, .long (lI (dv v i)))] (List.forall_mem_cons.mpr ⟨rfl, (List.forall_mem_cons.mpr ⟨rfl, (List.forall_mem_cons.mpr ⟨rfl, (List.forall_mem_cons.mpr ⟨rfl, (List.forall_mem_cons.mpr ⟨rfl, (fun _ h => nomatch h)⟩)⟩)⟩)⟩)⟩) (hE)
    · refine v_lload dX7_number_23 rfl ?_
      refine v_ldc2 (10) dX7_number_25 kl_X7_280 ?_
      refine v_ldivP dX7_number_28 ?_
      refine v_lstore dX7_number_29 (by decide) ?_
      refine v_iinc dX7_number_31 rfl ?_
      rw [show (i : Int) + 1 = ((i + 1 : Nat) : Int) by omega, show dv v i / 10 = dv v (i + 1) from rfl]
      refine v_goto 16 dX7_number_34 ?_
      exact v_lof [(0, .ref z), (1, .long (lI v)), (3, .int (iI (n : Int))), (4, .int (iI (k : Int))), (5, .long (lI (dv v (i + 1)))), (7, .int (iI (((i + 1 : Nat) : Int))))] (List.forall_mem_cons.mpr ⟨rfl, (List.forall_mem_cons.mpr ⟨rfl, (List.forall_mem_cons.mpr ⟨rfl, (List.forall_mem_cons.mpr ⟨rfl, (List.forall_mem_cons.mpr ⟨rfl, (List.forall_mem_cons.mpr ⟨rfl, (fun _ h => nomatch h)⟩)⟩)⟩)⟩)⟩)⟩) (ih (i + 1) (by omega) (by omega))
set_option maxRecDepth 100000 in
set_option maxHeartbeats 1000000 in
theorem num_out {l : Launch} {G : GG} {w : AH} {Q : Option Value → AH → Prop} {X : String → AH → Prop} (hst : l.stackTraces = false) {z : Nat} {A : Nat → Nat} {th yq mq dq ty ap wr : Int} (n9 : A 9 ≠ z) {v : Int} (hv : 0 ≤ v ∧ v ≤ 100000000000000) {n : Nat} (hn : n ≤ 9) {s : TS} (hs : s.1 + n ≤ 40) (hQ : Q none (NH G w z A th yq mq dq ty ap wr (tDg v n s))) : ∀ (N i : Nat), n - i ≤ N → i ≤ n → V l G mX7_number rX7_number Q X 5 (lof [(0, .ref z), (1, .long (lI v)), (3, .int (iI (n : Int))), (4, .int (iI ((n : Int) - 1 - ((i : Nat) : Int))))]) [] (NH G w z A th yq mq dq ty ap wr ((s.1 + i, wrP s.2 s.1 v n (i)))) 0 0 := by
  intro N
  induction N with
  | zero =>
    intro i hN hi
    refine v_iload dX7_number_5 rfl ?_
    refine v_if_lt 57 dX7_number_7 (fun h_7 => ?_) (fun h_7 => ?_)
    · exact v_vret dX7_number_57 rfl (by (have e9 : i = n := (by omega); have e8 : tDg v n s = (s.1 + i, wrP s.2 s.1 v n (i)) := Prod.ext (by show s.1 + n = s.1 + i; omega) (by show wrD s.2 s.1 v n n = wrP s.2 s.1 v n i; rw [e9]; exact wrP_n.symm); rw [← e8]; exact hQ))
    · refine v_lload_n dX7_number_10 rfl ?_
      refine v_lstore dX7_number_11 (by decide) ?_
      refine v_iconst dX7_number_13 ?_
      refine v_istore dX7_number_14 (by decide) ?_
      have hE : V l G mX7_number rX7_number Q X 37 (lof [(0, .ref z), (1, .long (lI v)), (3, .int (iI (n : Int))), (4, .int (iI ((n - 1 - i : Nat) : Int))), (5, .long (lI (dv v (n - 1 - i))))]) [] (NH G w z A th yq mq dq ty ap wr ((s.1 + i, wrP s.2 s.1 v n (i)))) 0 0 := by
        have hdr := dv_rng hv (n - 1 - i)
        refine v_aload_n dX7_number_37 rfl ?_
        refine v_lload dX7_number_38 rfl ?_
        refine v_ldc2 (10) dX7_number_40 kl_X7_280 ?_
        refine v_lremP dX7_number_43 ?_
        refine v_l2i dX7_number_44 ?_
        refine v_bipush dX7_number_45 ?_
        refine v_iadd dX7_number_47 ?_
        refine v_V1 (rm' := rX7_put) (RX7, TX7, 18) dX7_number_48 km_X7_287 kn_X7_put kv_X7_put kz_X7 mk_X7_put rfl rfl (by exact nh_z) ⟨Nat.le_of_ble_eq_true rfl, Nat.le_of_ble_eq_true rfl⟩ ⟨Nat.le_of_ble_eq_true rfl, Nat.le_of_ble_eq_true rfl⟩ (Nat.le_of_ble_eq_true rfl) ?_
        refine s_X7_put hst n9 (by show s.1 + i < 40; omega) ?_
        rw [show tCh (dv v (n - 1 - i) % 10 + 48) (s.1 + i, wrP s.2 s.1 v n (i)) = (s.1 + i + 1, wrP s.2 s.1 v n (i + 1)) from Prod.ext rfl (wrP_s (by omega))]
        refine v_iinc dX7_number_51 rfl ?_
        rw [show ((n - 1 - i : Nat) : Int) + -1 = (n : Int) - 1 - ((i + 1 : Nat) : Int) by omega]
        refine v_goto 5 dX7_number_54 ?_
        (exfalso; omega)
      rw [show (n : Int) - 1 - ((i : Nat) : Int) = ((n - 1 - i : Nat) : Int) by omega]
      exact v_lof [(0, .ref z), (1, .long (lI v)), (3, .int (iI (n : Int))), (4, .int (iI ((n - 1 - i : Nat) : Int))), (5, .long (lI (dv v 0))), (7, .int (iI (((0 : Nat) : Int))))] (List.forall_mem_cons.mpr ⟨rfl, (List.forall_mem_cons.mpr ⟨rfl, (List.forall_mem_cons.mpr ⟨rfl, (List.forall_mem_cons.mpr ⟨rfl, (List.forall_mem_cons.mpr ⟨rfl, (List.forall_mem_cons.mpr ⟨rfl, (fun _ h => nomatch h)⟩)⟩)⟩)⟩)⟩)⟩) (num_in hst n9 hv hn (by omega) hE 9 0 (by omega) (by omega))
  | succ N ih =>
    intro i hN hi
    refine v_iload dX7_number_5 rfl ?_
    refine v_if_lt 57 dX7_number_7 (fun h_7 => ?_) (fun h_7 => ?_)
    · exact v_vret dX7_number_57 rfl (by (have e9 : i = n := (by omega); have e8 : tDg v n s = (s.1 + i, wrP s.2 s.1 v n (i)) := Prod.ext (by show s.1 + n = s.1 + i; omega) (by show wrD s.2 s.1 v n n = wrP s.2 s.1 v n i; rw [e9]; exact wrP_n.symm); rw [← e8]; exact hQ))
    · refine v_lload_n dX7_number_10 rfl ?_
      refine v_lstore dX7_number_11 (by decide) ?_
      refine v_iconst dX7_number_13 ?_
      refine v_istore dX7_number_14 (by decide) ?_
      have hE : V l G mX7_number rX7_number Q X 37 (lof [(0, .ref z), (1, .long (lI v)), (3, .int (iI (n : Int))), (4, .int (iI ((n - 1 - i : Nat) : Int))), (5, .long (lI (dv v (n - 1 - i))))]) [] (NH G w z A th yq mq dq ty ap wr ((s.1 + i, wrP s.2 s.1 v n (i)))) 0 0 := by
        have hdr := dv_rng hv (n - 1 - i)
        refine v_aload_n dX7_number_37 rfl ?_
        refine v_lload dX7_number_38 rfl ?_
        refine v_ldc2 (10) dX7_number_40 kl_X7_280 ?_
        refine v_lremP dX7_number_43 ?_
        refine v_l2i dX7_number_44 ?_
        refine v_bipush dX7_number_45 ?_
        refine v_iadd dX7_number_47 ?_
        refine v_V1 (rm' := rX7_put) (RX7, TX7, 18) dX7_number_48 km_X7_287 kn_X7_put kv_X7_put kz_X7 mk_X7_put rfl rfl (by exact nh_z) ⟨Nat.le_of_ble_eq_true rfl, Nat.le_of_ble_eq_true rfl⟩ ⟨Nat.le_of_ble_eq_true rfl, Nat.le_of_ble_eq_true rfl⟩ (Nat.le_of_ble_eq_true rfl) ?_
        refine s_X7_put hst n9 (by show s.1 + i < 40; omega) ?_
        rw [show tCh (dv v (n - 1 - i) % 10 + 48) (s.1 + i, wrP s.2 s.1 v n (i)) = (s.1 + i + 1, wrP s.2 s.1 v n (i + 1)) from Prod.ext rfl (wrP_s (by omega))]
        refine v_iinc dX7_number_51 rfl ?_
        rw [show ((n - 1 - i : Nat) : Int) + -1 = (n : Int) - 1 - ((i + 1 : Nat) : Int) by omega]
        refine v_goto 5 dX7_number_54 ?_
        exact v_lof [(0, .ref z), (1, .long (lI v)), (3, .int (iI (n : Int))), (4, .int (iI ((n : Int) - 1 - ((i + 1 : Nat) : Int))))] (List.forall_mem_cons.mpr ⟨rfl, (List.forall_mem_cons.mpr ⟨rfl, (List.forall_mem_cons.mpr ⟨rfl, (List.forall_mem_cons.mpr ⟨rfl, (fun _ h => nomatch h)⟩)⟩)⟩)⟩) (ih (i + 1) (by omega) (by omega))
      rw [show (n : Int) - 1 - ((i : Nat) : Int) = ((n - 1 - i : Nat) : Int) by omega]
      exact v_lof [(0, .ref z), (1, .long (lI v)), (3, .int (iI (n : Int))), (4, .int (iI ((n - 1 - i : Nat) : Int))), (5, .long (lI (dv v 0))), (7, .int (iI (((0 : Nat) : Int))))] (List.forall_mem_cons.mpr ⟨rfl, (List.forall_mem_cons.mpr ⟨rfl, (List.forall_mem_cons.mpr ⟨rfl, (List.forall_mem_cons.mpr ⟨rfl, (List.forall_mem_cons.mpr ⟨rfl, (List.forall_mem_cons.mpr ⟨rfl, (fun _ h => nomatch h)⟩)⟩)⟩)⟩)⟩)⟩) (num_in hst n9 hv hn (by omega) hE 9 0 (by omega) (by omega))
set_option maxRecDepth 100000 in
set_option maxHeartbeats 4000000 in
theorem s_X7_number {l : Launch} {G : GG} {w : AH} {Q : Option Value → AH → Prop} {X : String → AH → Prop} (hst : l.stackTraces = false) {z : Nat} {A : Nat → Nat} {th yq mq dq ty ap wr : Int} (n9 : A 9 ≠ z) {v : Int} (hv : 0 ≤ v ∧ v ≤ 100000000000000) {n : Nat} (hn : n ≤ 9) {s : TS} (hs : s.1 + n ≤ 40) (hQ : Q none (NH G w z A th yq mq dq ty ap wr (tDg v n s))) : Ct l G mX7_number rX7_number [(.ref z), .long (lI v), .int (iI (n : Int))] (NH G w z A th yq mq dq ty ap wr (s)) Q X := by
  refine ct_of hst mk_X7_number (Nat.le_of_ble_eq_true rfl) ?_
  refine v_iload_n dX7_number_0 rfl ?_
  refine v_iconst dX7_number_1 ?_
  refine v_isub dX7_number_2 ?_
  refine v_istore dX7_number_3 (by decide) ?_
  rw [show (NH G w z A th yq mq dq ty ap wr (s)) = NH G w z A th yq mq dq ty ap wr ((s.1 + 0, wrP s.2 s.1 v n (0))) by rw [wrP_0]; rfl, show (n : Int) - 1 = (n : Int) - 1 - ((0 : Nat) : Int) by omega]
  exact v_lof [(0, .ref z), (1, .long (lI v)), (3, .int (iI (n : Int))), (4, .int (iI ((n : Int) - 1 - ((0 : Nat) : Int))))] (List.forall_mem_cons.mpr ⟨rfl, (List.forall_mem_cons.mpr ⟨rfl, (List.forall_mem_cons.mpr ⟨rfl, (List.forall_mem_cons.mpr ⟨rfl, (fun _ h => nomatch h)⟩)⟩)⟩)⟩) (num_out hst n9 hv hn hs hQ n 0 (by omega) (by omega))
