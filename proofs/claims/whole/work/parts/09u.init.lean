def BB (B0 : Nat → Nat) (z : Nat) (A : Nat → Nat) (ol od : Nat) : Nat → Nat := fun k => if k < 39 then B0 k else if k = 39 then z else if k < 50 then A (k - 40) else if k = 50 then ol else od
def TOT0 (G : GG) (B0 : Nat → Nat) (z : Nat) (A : Nat → Nat) (ol od : Nat) : List (Nat × va_E) := [(B0 0, tdC (B0 1) (B0 10) (B0 35) (B0 37)), (B0 1, arA G 4 8 (fun k => some (B0 (2 + k)))), (B0 2, stC 1970 1 1 0), (B0 3, stC 1970 1 1 0), (B0 4, stC 1970 1 1 0), (B0 5, stC 1970 1 1 0), (B0 6, stC 1970 1 1 0), (B0 7, stC 1970 1 1 0), (B0 8, stC 1970 1 1 0), (B0 9, stC 1970 1 1 0), (B0 10, arA G 5 4 (fun k => some (B0 (11 + 6 * k)))), (B0 11, zoC 0 (B0 12) (B0 13) 0 (B0 14) 0), (B0 12, alA G 8 (fun _ => 0)), (B0 13, aiA G 8 (fun _ => 0)), (B0 14, arA G 6 2 (fun k => some (B0 (15 + k)))), (B0 15, ruC 1 1 1 0 0), (B0 16, ruC 1 1 1 0 0), (B0 17, zoC 0 (B0 18) (B0 19) 0 (B0 20) 0), (B0 18, alA G 8 (fun _ => 0)), (B0 19, aiA G 8 (fun _ => 0)), (B0 20, arA G 6 2 (fun k => some (B0 (21 + k)))), (B0 21, ruC 1 1 1 0 0), (B0 22, ruC 1 1 1 0 0), (B0 23, zoC 0 (B0 24) (B0 25) 0 (B0 26) 0), (B0 24, alA G 8 (fun _ => 0)), (B0 25, aiA G 8 (fun _ => 0)), (B0 26, arA G 6 2 (fun k => some (B0 (27 + k)))), (B0 27, ruC 1 1 1 0 0), (B0 28, ruC 1 1 1 0 0), (B0 29, zoC 0 (B0 30) (B0 31) 0 (B0 32) 0), (B0 30, alA G 8 (fun _ => 0)), (B0 31, aiA G 8 (fun _ => 0)), (B0 32, arA G 6 2 (fun k => some (B0 (33 + k)))), (B0 33, ruC 1 1 1 0 0), (B0 34, ruC 1 1 1 0 0), (B0 35, liC (B0 36) 0 0), (B0 36, acA G 30 (fun _ => 0)), (B0 37, paC (B0 38) 0), (B0 38, acA G 30 (fun _ => 0)), (z, mdC A 0 0 0 0 0 0 0 0), (A 0, alA G 8 (fun _ => 0)), (A 1, alA G 8 (fun _ => 0)), (A 2, aiA G 4 (fun _ => 0)), (A 3, aiA G 4 (fun _ => 0)), (A 4, alA G 32 (fun _ => 0)), (A 5, aiA G 32 (fun _ => 0)), (A 6, aiA G 4 (fun _ => 0)), (A 7, aiA G 40 (fun _ => 0)), (A 8, aiA G 30 (fun _ => 0)), (A 9, aiA G 40 (fun _ => 0)), (ol, alA G 1 (fun _ => 0)), (od, adA G 1 (fun _ => 0))]
def TOTL (G : GG) (B0 : Nat → Nat) (z : Nat) (A : Nat → Nat) (ol od : Nat) : List (Nat × va_E) := [(B0 0, tdC (B0 1) (B0 10) (B0 35) (B0 37)), (B0 1, arA G 4 8 (fun k => some (BB B0 z A ol od (2 + k)))), (B0 2, stC 1970 1 1 0), (B0 3, stC 1970 1 1 0), (B0 4, stC 1970 1 1 0), (B0 5, stC 1970 1 1 0), (B0 6, stC 1970 1 1 0), (B0 7, stC 1970 1 1 0), (B0 8, stC 1970 1 1 0), (B0 9, stC 1970 1 1 0), (B0 10, arA G 5 4 (fun k => some (BB B0 z A ol od (11 + 6 * k)))), (B0 11, zoC 0 (B0 12) (B0 13) 0 (B0 14) 0), (B0 12, alA G 8 (fun _ => 0)), (B0 13, aiA G 8 (fun _ => 0)), (B0 14, arA G 6 2 (fun k => some (BB B0 z A ol od (15 + 6 * 0 + k)))), (B0 15, ruC 1 1 1 0 0), (B0 16, ruC 1 1 1 0 0), (B0 17, zoC 0 (B0 18) (B0 19) 0 (B0 20) 0), (B0 18, alA G 8 (fun _ => 0)), (B0 19, aiA G 8 (fun _ => 0)), (B0 20, arA G 6 2 (fun k => some (BB B0 z A ol od (15 + 6 * 1 + k)))), (B0 21, ruC 1 1 1 0 0), (B0 22, ruC 1 1 1 0 0), (B0 23, zoC 0 (B0 24) (B0 25) 0 (B0 26) 0), (B0 24, alA G 8 (fun _ => 0)), (B0 25, aiA G 8 (fun _ => 0)), (B0 26, arA G 6 2 (fun k => some (BB B0 z A ol od (15 + 6 * 2 + k)))), (B0 27, ruC 1 1 1 0 0), (B0 28, ruC 1 1 1 0 0), (B0 29, zoC 0 (B0 30) (B0 31) 0 (B0 32) 0), (B0 30, alA G 8 (fun _ => 0)), (B0 31, aiA G 8 (fun _ => 0)), (B0 32, arA G 6 2 (fun k => some (BB B0 z A ol od (15 + 6 * 3 + k)))), (B0 33, ruC 1 1 1 0 0), (B0 34, ruC 1 1 1 0 0), (B0 35, liC (B0 36) 0 0), (B0 36, acA G 30 (fun _ => 0)), (B0 37, paC (B0 38) 0), (B0 38, acA G 30 (fun _ => 0)), (z, mdC A 0 0 0 0 0 0 0 0), (A 0, alA G 8 (fun _ => 0)), (A 1, alA G 8 (fun _ => 0)), (A 2, aiA G 4 (fun _ => 0)), (A 3, aiA G 4 (fun _ => 0)), (A 4, alA G 32 (fun _ => 0)), (A 5, aiA G 32 (fun _ => 0)), (A 6, aiA G 4 (fun _ => 0)), (A 7, aiA G 40 (fun _ => 0)), (A 8, aiA G 30 (fun _ => 0)), (A 9, aiA G 40 (fun _ => 0)), (ol, alA G 1 (fun _ => 0)), (od, adA G 1 (fun _ => 0))]
set_option maxRecDepth 100000 in
theorem tot_key (G : GG) (B0 : Nat → Nat) (z : Nat) (A : Nat → Nat) (ol od : Nat) : ∀ i : Nat, i < 52 → ∃ e : va_E, (TOTL G B0 z A ol od)[i]? = some (BB B0 z A ol od i, e) := by
  intro i hi
  match i, hi with
  | 0, _ => exact ⟨_, rfl⟩
  | 1, _ => exact ⟨_, rfl⟩
  | 2, _ => exact ⟨_, rfl⟩
  | 3, _ => exact ⟨_, rfl⟩
  | 4, _ => exact ⟨_, rfl⟩
  | 5, _ => exact ⟨_, rfl⟩
  | 6, _ => exact ⟨_, rfl⟩
  | 7, _ => exact ⟨_, rfl⟩
  | 8, _ => exact ⟨_, rfl⟩
  | 9, _ => exact ⟨_, rfl⟩
  | 10, _ => exact ⟨_, rfl⟩
  | 11, _ => exact ⟨_, rfl⟩
  | 12, _ => exact ⟨_, rfl⟩
  | 13, _ => exact ⟨_, rfl⟩
  | 14, _ => exact ⟨_, rfl⟩
  | 15, _ => exact ⟨_, rfl⟩
  | 16, _ => exact ⟨_, rfl⟩
  | 17, _ => exact ⟨_, rfl⟩
  | 18, _ => exact ⟨_, rfl⟩
  | 19, _ => exact ⟨_, rfl⟩
  | 20, _ => exact ⟨_, rfl⟩
  | 21, _ => exact ⟨_, rfl⟩
  | 22, _ => exact ⟨_, rfl⟩
  | 23, _ => exact ⟨_, rfl⟩
  | 24, _ => exact ⟨_, rfl⟩
  | 25, _ => exact ⟨_, rfl⟩
  | 26, _ => exact ⟨_, rfl⟩
  | 27, _ => exact ⟨_, rfl⟩
  | 28, _ => exact ⟨_, rfl⟩
  | 29, _ => exact ⟨_, rfl⟩
  | 30, _ => exact ⟨_, rfl⟩
  | 31, _ => exact ⟨_, rfl⟩
  | 32, _ => exact ⟨_, rfl⟩
  | 33, _ => exact ⟨_, rfl⟩
  | 34, _ => exact ⟨_, rfl⟩
  | 35, _ => exact ⟨_, rfl⟩
  | 36, _ => exact ⟨_, rfl⟩
  | 37, _ => exact ⟨_, rfl⟩
  | 38, _ => exact ⟨_, rfl⟩
  | 39, _ => exact ⟨_, rfl⟩
  | 40, _ => exact ⟨_, rfl⟩
  | 41, _ => exact ⟨_, rfl⟩
  | 42, _ => exact ⟨_, rfl⟩
  | 43, _ => exact ⟨_, rfl⟩
  | 44, _ => exact ⟨_, rfl⟩
  | 45, _ => exact ⟨_, rfl⟩
  | 46, _ => exact ⟨_, rfl⟩
  | 47, _ => exact ⟨_, rfl⟩
  | 48, _ => exact ⟨_, rfl⟩
  | 49, _ => exact ⟨_, rfl⟩
  | 50, _ => exact ⟨_, rfl⟩
  | 51, _ => exact ⟨_, rfl⟩
  | (k + 52), hk => exact absurd hk (by omega)
theorem iB_of {w w' : AH} {G : GG} {B0 : Nat → Nat} {z : Nat} {A : Nat → Nat} {ol od : Nat} (h : EXL w w' (TOTL G B0 z A ol od)) : iB (BB B0 z A ol od) := by
  intro i j hi hj hne he
  obtain ⟨e1, h1⟩ := tot_key G B0 z A ol od i hi
  obtain ⟨e2, h2⟩ := tot_key G B0 z A ol od j hj
  rw [← he] at h2
  exact hne (h.2.1 i j _ e1 e2 h1 h2)
set_option maxRecDepth 100000 in
set_option maxHeartbeats 4000000 in
theorem SS_of {w w' : AH} {G : GG} {B0 : Nat → Nat} {z : Nat} {A : Nat → Nat} {ol od : Nat} (h : EXL w w' (TOTL G B0 z A ol od)) : SS G (BB B0 z A ol od) w' := by
  have hv : vD 1970 1 1 := by
    have hl := lenM_rng 1970 1
    exact ⟨by omega, by omega, by omega⟩
  have he : ed 1970 1 1 = 0 := by decide +kernel
  have hC : CSp (BB B0 z A ol od) w' (fun _ => 0) (fun _ => 0) := by
    intro k hk
    match k, hk with
    | 0, _ => exact ⟨1970, 1, 1, (h.get 2 rfl), hv, he, by dsimp only; omega⟩
    | 1, _ => exact ⟨1970, 1, 1, (h.get 3 rfl), hv, he, by dsimp only; omega⟩
    | 2, _ => exact ⟨1970, 1, 1, (h.get 4 rfl), hv, he, by dsimp only; omega⟩
    | 3, _ => exact ⟨1970, 1, 1, (h.get 5 rfl), hv, he, by dsimp only; omega⟩
    | 4, _ => exact ⟨1970, 1, 1, (h.get 6 rfl), hv, he, by dsimp only; omega⟩
    | 5, _ => exact ⟨1970, 1, 1, (h.get 7 rfl), hv, he, by dsimp only; omega⟩
    | 6, _ => exact ⟨1970, 1, 1, (h.get 8 rfl), hv, he, by dsimp only; omega⟩
    | 7, _ => exact ⟨1970, 1, 1, (h.get 9 rfl), hv, he, by dsimp only; omega⟩
    | (k + 8), hk => exact absurd hk (by omega)
  have hZ : ∀ z9 : Nat, z9 < 4 → CZp G (BB B0 z A ol od) w' z9 0 0 0 (fun _ => 0) (fun _ => 0) (fun _ => ru5 1 1 1 0 0) := by
    intro z9 hz9
    match z9, hz9 with
    | 0, _ => exact ⟨(h.get 11 rfl), (h.get 12 rfl), (h.get 13 rfl), (h.get 14 rfl), fun k hk => by
      match k, hk with
      | 0, _ => exact (h.get 15 rfl)
      | 1, _ => exact (h.get 16 rfl)
      | (k + 2), hk => exact absurd hk (by omega)⟩
    | 1, _ => exact ⟨(h.get 17 rfl), (h.get 18 rfl), (h.get 19 rfl), (h.get 20 rfl), fun k hk => by
      match k, hk with
      | 0, _ => exact (h.get 21 rfl)
      | 1, _ => exact (h.get 22 rfl)
      | (k + 2), hk => exact absurd hk (by omega)⟩
    | 2, _ => exact ⟨(h.get 23 rfl), (h.get 24 rfl), (h.get 25 rfl), (h.get 26 rfl), fun k hk => by
      match k, hk with
      | 0, _ => exact (h.get 27 rfl)
      | 1, _ => exact (h.get 28 rfl)
      | (k + 2), hk => exact absurd hk (by omega)⟩
    | 3, _ => exact ⟨(h.get 29 rfl), (h.get 30 rfl), (h.get 31 rfl), (h.get 32 rfl), fun k hk => by
      match k, hk with
      | 0, _ => exact (h.get 33 rfl)
      | 1, _ => exact (h.get 34 rfl)
      | (k + 2), hk => exact absurd hk (by omega)⟩
    | (k + 4), hk => exact absurd hk (by omega)
  have hD : DVp 0 (fun _ => 0) (fun _ => 0) (fun _ => 0) (fun _ => 0) (fun _ _ => 0) (fun _ _ => 0) (fun _ _ => ru5 1 1 1 0 0) (fun _ => 0) (fun _ => 0) (fun _ => 0) (fun _ => 0) (fun _ => 0) (fun _ => 0) := by
    refine ⟨by omega, fun k => by dsimp only; omega, fun z9 _ => ⟨⟨by dsimp only; omega, by dsimp only; omega, fun k => by dsimp only; omega, fun a b _ hb => ?_, by dsimp only; omega, fun k => by dsimp only; omega, fun k hk => ?_⟩, rfl, rfl, rfl, fun _ _ => rfl, fun _ _ => rfl, fun k q hk _ => ?_⟩⟩
    · dsimp only at hb; exfalso; omega
    · dsimp only at hk; exfalso; omega
    · dsimp only at hk; exfalso; omega
  exact SS.of (th := 0) (gd := fun _ => 0) (gn := fun _ => 0) (L := 0) (gl := fun _ => 0) (fz := fun _ => 0) (cz := fun _ => 0) (rz := fun _ => 0) (gm := fun _ _ => 0) (go := fun _ _ => 0) (ru := fun _ _ => ru5 1 1 1 0 0) (gF := fun _ => 0) (gC := fun _ => 0) (gM := fun _ => 0) (gO := fun _ => 0) (gK := fun _ => 0) (gR := fun _ => 0) ⟨⟨(h.get 0 rfl), (h.get 1 rfl), (h.get 10 rfl)⟩, ⟨⟨0, (h.get 35 rfl)⟩, (h.get 36 rfl)⟩, ⟨fun _ => 0, ⟨0, (h.get 37 rfl)⟩, (h.get 38 rfl)⟩, hC, hZ⟩ ⟨0, 0, 0, 0, 0, 0, fun _ => 0, (h.get 39 rfl), (h.get 40 rfl), (h.get 41 rfl), ⟨(h.get 42 rfl), (h.get 43 rfl), (h.get 44 rfl), (h.get 45 rfl), (h.get 46 rfl), (h.get 47 rfl)⟩, (h.get 48 rfl), (h.get 49 rfl)⟩ ⟨⟨fun _ => 0, (h.get 50 rfl)⟩, fun _ => 0, (h.get 51 rfl)⟩ hD
set_option maxRecDepth 100000 in
set_option maxHeartbeats 8000000 in
theorem lw_init {l : Launch} {G : GG} {Q : Option Value → AH → Prop} {X : String → AH → Prop} (hst : l.stackTraces = false) (hL9 : G.scr.2.1 ≤ 448) (hQ : ∀ w : AH, Q (some (.int (iI 1))) w) : V l G mL_law room_1 Q X 0 (lof [(0, .ref G.scr.1)]) [] ah0 0 0 := by
  refine v_new (fs := [.null, .null, .null, .null]) dL_law_0 kc_L_8 kx_X6 kz_X6 ck_X6 (fun j hj => by match j, hj with | 0, _ => rfl | 1, _ => rfl | 2, _ => rfl | 3, _ => rfl | (j + 4), hj => exact absurd hj (by omega)) (fun x g1 => ?_)
  refine v_dup dL_law_3 rfl ?_
  refine v_I0 (rm' := rX6_init) dL_law_4 km_L_75 kn_X6_init kz_X6 mk_X6_init rfl rfl rfl ⟨Nat.le_of_ble_eq_true rfl, Nat.le_of_ble_eq_true rfl⟩ ⟨Nat.le_of_ble_eq_true rfl, Nat.le_of_ble_eq_true rfl⟩ (Nat.le_of_ble_eq_true rfl) ?_
  refine s_X6_init hst aup_s (fun w1 B0 hx0 H1 => ?_)
  subst hx0
  refine v_astore_n dL_law_7 (by decide) ?_
  refine v_new (fs := [.int (iI 0), .null, .null, .long (lI 0), .int (iI 0), .int (iI 0), .null, .null, .null, .null, .null, .null, .null, .int (iI 0), .int (iI 0), .int (iI 0), .null, .int (iI 0)]) dL_law_8 kc_L_76 kx_X7 kz_X7 ck_X7 (fun j hj => by match j, hj with | 0, _ => rfl | 1, _ => rfl | 2, _ => rfl | 3, _ => rfl | 4, _ => rfl | 5, _ => rfl | 6, _ => rfl | 7, _ => rfl | 8, _ => rfl | 9, _ => rfl | 10, _ => rfl | 11, _ => rfl | 12, _ => rfl | 13, _ => rfl | 14, _ => rfl | 15, _ => rfl | 16, _ => rfl | 17, _ => rfl | (j + 18), hj => exact absurd hj (by omega)) (fun z g2 => ?_)
  refine v_dup dL_law_11 rfl ?_
  refine v_I0 (rm' := rX7_init) dL_law_12 km_L_78 kn_X7_init kz_X7 mk_X7_init rfl rfl rfl ⟨Nat.le_of_ble_eq_true rfl, Nat.le_of_ble_eq_true rfl⟩ ⟨Nat.le_of_ble_eq_true rfl, Nat.le_of_ble_eq_true rfl⟩ (Nat.le_of_ble_eq_true rfl) ?_
  refine s_X7_init hst aup_s (fun w2 A H2 => ?_)
  refine v_astore_n dL_law_15 (by decide) ?_
  refine v_iconst dL_law_16 ?_
  refine v_newl dL_law_17 ka_86 rfl (fun ol g3 => ?_)
  refine v_astore_n dL_law_19 (by decide) ?_
  refine v_iconst dL_law_20 ?_
  refine v_newd dL_law_21 ka_1115 rfl (fun od g4 => ?_)
  refine v_astore dL_law_23 (by decide) ?_
  refine v_iconst dL_law_25 ?_
  refine v_istore dL_law_26 (by decide) ?_
  have E1 := (((EXL.nil (w := ah0)).new (e := .inr (5, [.null, .null, .null, .null])) g1).put (k := 0) (e' := tdC (B0 1) (B0 10) (B0 35) (B0 37)) rfl).trans H1
  have E2 := ((E1.new (e := .inr (6, [.int (iI 0), .null, .null, .long (lI 0), .int (iI 0), .int (iI 0), .null, .null, .null, .null, .null, .null, .null, .int (iI 0), .int (iI 0), .int (iI 0), .null, .int (iI 0)])) g2).put (k := 39) (e' := mdC A 0 0 0 0 0 0 0 0) rfl).trans H2
  have E3 : EXL ah0 _ (TOT0 G B0 z A ol od) := (E2.new (e := alA G 1 (fun _ => 0)) g3).new (e := adA G 1 (fun _ => 0)) g4
  refine v_hx (hw_ar (E3.get 1 rfl) (f' := (fun k => some (BB B0 z A ol od (2 + k)))) (fun j hj => by show some (B0 (2 + j)) = some (BB B0 z A ol od _); unfold BB; rw [if_pos (by omega)])) ?_
  have E4 := E3.put (k := 1) (e' := arA G 4 8 (fun k => some (BB B0 z A ol od (2 + k)))) rfl
  refine v_hx (hw_ar (E4.get 10 rfl) (f' := (fun k => some (BB B0 z A ol od (11 + 6 * k)))) (fun j hj => by show some (B0 (11 + 6 * j)) = some (BB B0 z A ol od _); unfold BB; rw [if_pos (by omega)])) ?_
  have E5 := E4.put (k := 10) (e' := arA G 5 4 (fun k => some (BB B0 z A ol od (11 + 6 * k)))) rfl
  refine v_hx (hw_ar (E5.get 14 rfl) (f' := (fun k => some (BB B0 z A ol od (15 + 6 * 0 + k)))) (fun j hj => by show some (B0 (15 + j)) = some (BB B0 z A ol od _); unfold BB; rw [if_pos (by omega)])) ?_
  have E6 := E5.put (k := 14) (e' := arA G 6 2 (fun k => some (BB B0 z A ol od (15 + 6 * 0 + k)))) rfl
  refine v_hx (hw_ar (E6.get 20 rfl) (f' := (fun k => some (BB B0 z A ol od (15 + 6 * 1 + k)))) (fun j hj => by show some (B0 (21 + j)) = some (BB B0 z A ol od _); unfold BB; rw [if_pos (by omega)])) ?_
  have E7 := E6.put (k := 20) (e' := arA G 6 2 (fun k => some (BB B0 z A ol od (15 + 6 * 1 + k)))) rfl
  refine v_hx (hw_ar (E7.get 26 rfl) (f' := (fun k => some (BB B0 z A ol od (15 + 6 * 2 + k)))) (fun j hj => by show some (B0 (27 + j)) = some (BB B0 z A ol od _); unfold BB; rw [if_pos (by omega)])) ?_
  have E8 := E7.put (k := 26) (e' := arA G 6 2 (fun k => some (BB B0 z A ol od (15 + 6 * 2 + k)))) rfl
  refine v_hx (hw_ar (E8.get 32 rfl) (f' := (fun k => some (BB B0 z A ol od (15 + 6 * 3 + k)))) (fun j hj => by show some (B0 (33 + j)) = some (BB B0 z A ol od _); unfold BB; rw [if_pos (by omega)])) ?_
  have E9 := E8.put (k := 32) (e' := arA G 6 2 (fun k => some (BB B0 z A ol od (15 + 6 * 3 + k)))) rfl
  have EF : EXL ah0 _ (TOTL G B0 z A ol od) := E9
  exact v_wid (kc' := 100) (ks' := 1000) (Nat.le_of_ble_eq_true rfl) (Nat.le_of_ble_eq_true rfl) (v_lof [(0, .ref G.scr.1), (1, .ref (BB B0 z A ol od 0)), (2, .ref (BB B0 z A ol od 39)), (3, .ref (BB B0 z A ol od 50)), (4, .ref (BB B0 z A ol od 51)), (5, .int (iI (7 * ((0 : Nat) : Int))))] (List.forall_mem_cons.mpr ⟨rfl, (List.forall_mem_cons.mpr ⟨rfl, (List.forall_mem_cons.mpr ⟨rfl, (List.forall_mem_cons.mpr ⟨rfl, (List.forall_mem_cons.mpr ⟨rfl, (List.forall_mem_cons.mpr ⟨rfl, (fun _ h => nomatch h)⟩)⟩)⟩)⟩)⟩)⟩) (lw_loop hst (iB_of EF) hL9 hQ 64 0 _ 100 1000 (by omega) (by omega) (by omega) (by omega) (SS_of EF)))
