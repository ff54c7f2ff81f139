def uPD (u : Int) : Int := if u = 0 then 86400000000000 else if u = 1 then 86400000000 else if u = 2 then 86400000 else if u = 3 then 86400 else if u = 4 then 1440 else if u = 5 then 24 else if u = 6 then 2 else 1
def uSZ (u : Int) : Int := if u = 0 then 1 else if u = 1 then 1000 else if u = 2 then 1000000 else if u = 3 then 1000000000 else if u = 4 then 60000000000 else if u = 5 then 3600000000000 else if u = 6 then 43200000000000 else 86400000000000
def mOU (u : Int) : Int := if u = 10 then 3 else if u = 11 then 12 else if u = 12 then 120 else if u = 13 then 1200 else 1
theorem uPD_c {u : Int} (h : 0 ≤ u ∧ u ≤ 7) : (u = 0 ∧ uPD u = 86400000000000 ∧ uSZ u = 1) ∨ (u = 1 ∧ uPD u = 86400000000 ∧ uSZ u = 1000) ∨ (u = 2 ∧ uPD u = 86400000 ∧ uSZ u = 1000000) ∨ (u = 3 ∧ uPD u = 86400 ∧ uSZ u = 1000000000) ∨ (u = 4 ∧ uPD u = 1440 ∧ uSZ u = 60000000000) ∨ (u = 5 ∧ uPD u = 24 ∧ uSZ u = 3600000000000) ∨ (u = 6 ∧ uPD u = 2 ∧ uSZ u = 43200000000000) ∨ (u = 7 ∧ uPD u = 1 ∧ uSZ u = 86400000000000) := by
  rcases (show u = 0 ∨ u = 1 ∨ u = 2 ∨ u = 3 ∨ u = 4 ∨ u = 5 ∨ u = 6 ∨ u = 7 by omega) with rfl | rfl | rfl | rfl | rfl | rfl | rfl | rfl <;> decide
theorem mOU_c {u : Int} (h : 9 ≤ u ∧ u ≤ 13) : (u = 9 ∧ mOU u = 1) ∨ (u = 10 ∧ mOU u = 3) ∨ (u = 11 ∧ mOU u = 12) ∨ (u = 12 ∧ mOU u = 120) ∨ (u = 13 ∧ mOU u = 1200) := by
  rcases (show u = 9 ∨ u = 10 ∨ u = 11 ∨ u = 12 ∨ u = 13 by omega) with rfl | rfl | rfl | rfl | rfl <;> decide
set_option maxRecDepth 100000 in
set_option maxHeartbeats 4000000 in
theorem s_X6_unitsPerDay {l : Launch} {G : GG} {w : AH} {Q : Option Value → AH → Prop} {X : String → AH → Prop} (hst : l.stackTraces = false) {u : Int} (hu : 0 ≤ u ∧ u ≤ 7) (hQ : Q (some (.long (lI (uPD u)))) w) : Ct l G mX6_unitsPerDay rX6_unitsPerDay [.int (iI u)] w Q X := by
  refine ct_of hst mk_X6_unitsPerDay (Nat.le_of_ble_eq_true rfl) ?_
  refine v_iload_n dX6_unitsPerDay_0 rfl ?_
  rcases (show (u < 0 ∨ 6 < u) ∨ u = 0 ∨ u = 1 ∨ u = 2 ∨ u = 3 ∨ u = 4 ∨ u = 5 ∨ u = 6 by omega) with s_1 | s_1 | s_1 | s_1 | s_1 | s_1 | s_1 | s_1
  · refine v_tabOut 72 dX6_unitsPerDay_1 ?_
    refine v_lconst1 dX6_unitsPerDay_72 ?_
    exact v_lret dX6_unitsPerDay_73 rfl (by first | exact ql hQ rfl | (have h9 : u = 7 := (by omega); subst h9; exact ql hQ rfl))
  · subst s_1
    refine v_tabIn 44 dX6_unitsPerDay_1 rfl ?_
    refine v_ldc2 (86400000000000) dX6_unitsPerDay_44 kl_X6_148 ?_
    exact v_lret dX6_unitsPerDay_47 rfl (by first | exact ql hQ rfl | (have h9 : u = 7 := (by omega); subst h9; exact ql hQ rfl))
  · subst s_1
    refine v_tabIn 48 dX6_unitsPerDay_1 rfl ?_
    refine v_ldc2 (86400000000) dX6_unitsPerDay_48 kl_X6_300 ?_
    exact v_lret dX6_unitsPerDay_51 rfl (by first | exact ql hQ rfl | (have h9 : u = 7 := (by omega); subst h9; exact ql hQ rfl))
  · subst s_1
    refine v_tabIn 52 dX6_unitsPerDay_1 rfl ?_
    refine v_ldc2 (86400000) dX6_unitsPerDay_52 kl_X6_302 ?_
    exact v_lret dX6_unitsPerDay_55 rfl (by first | exact ql hQ rfl | (have h9 : u = 7 := (by omega); subst h9; exact ql hQ rfl))
  · subst s_1
    refine v_tabIn 56 dX6_unitsPerDay_1 rfl ?_
    refine v_ldc2 (86400) dX6_unitsPerDay_56 kl_X6_214 ?_
    exact v_lret dX6_unitsPerDay_59 rfl (by first | exact ql hQ rfl | (have h9 : u = 7 := (by omega); subst h9; exact ql hQ rfl))
  · subst s_1
    refine v_tabIn 60 dX6_unitsPerDay_1 rfl ?_
    refine v_ldc2 (1440) dX6_unitsPerDay_60 kl_X6_304 ?_
    exact v_lret dX6_unitsPerDay_63 rfl (by first | exact ql hQ rfl | (have h9 : u = 7 := (by omega); subst h9; exact ql hQ rfl))
  · subst s_1
    refine v_tabIn 64 dX6_unitsPerDay_1 rfl ?_
    refine v_ldc2 (24) dX6_unitsPerDay_64 kl_X6_306 ?_
    exact v_lret dX6_unitsPerDay_67 rfl (by first | exact ql hQ rfl | (have h9 : u = 7 := (by omega); subst h9; exact ql hQ rfl))
  · subst s_1
    refine v_tabIn 68 dX6_unitsPerDay_1 rfl ?_
    refine v_ldc2 (2) dX6_unitsPerDay_68 kl_X6_308 ?_
    exact v_lret dX6_unitsPerDay_71 rfl (by first | exact ql hQ rfl | (have h9 : u = 7 := (by omega); subst h9; exact ql hQ rfl))
set_option maxRecDepth 100000 in
set_option maxHeartbeats 4000000 in
theorem s_X6_monthsOfUnit {l : Launch} {G : GG} {w : AH} {Q : Option Value → AH → Prop} {X : String → AH → Prop} (hst : l.stackTraces = false) {u : Int} (hu : 9 ≤ u ∧ u ≤ 13) (hQ : Q (some (.long (lI (mOU u)))) w) : Ct l G mX6_monthsOfUnit rX6_monthsOfUnit [.int (iI u)] w Q X := by
  refine ct_of hst mk_X6_monthsOfUnit (Nat.le_of_ble_eq_true rfl) ?_
  refine v_iload_n dX6_monthsOfUnit_0 rfl ?_
  rcases (show (u < 10 ∨ 13 < u) ∨ u = 10 ∨ u = 11 ∨ u = 12 ∨ u = 13 by omega) with s_1 | s_1 | s_1 | s_1 | s_1
  · refine v_tabOut 48 dX6_monthsOfUnit_1 ?_
    refine v_lconst1 dX6_monthsOfUnit_48 ?_
    exact v_lret dX6_monthsOfUnit_49 rfl (by first | exact ql hQ rfl | (have h9 : u = 9 := (by omega); subst h9; exact ql hQ rfl))
  · subst s_1
    refine v_tabIn 32 dX6_monthsOfUnit_1 rfl ?_
    refine v_ldc2 (3) dX6_monthsOfUnit_32 kl_X6_310 ?_
    exact v_lret dX6_monthsOfUnit_35 rfl (by first | exact ql hQ rfl | (have h9 : u = 9 := (by omega); subst h9; exact ql hQ rfl))
  · subst s_1
    refine v_tabIn 36 dX6_monthsOfUnit_1 rfl ?_
    refine v_ldc2 (12) dX6_monthsOfUnit_36 kl_X6_152 ?_
    exact v_lret dX6_monthsOfUnit_39 rfl (by first | exact ql hQ rfl | (have h9 : u = 9 := (by omega); subst h9; exact ql hQ rfl))
  · subst s_1
    refine v_tabIn 40 dX6_monthsOfUnit_1 rfl ?_
    refine v_ldc2 (120) dX6_monthsOfUnit_40 kl_X6_312 ?_
    exact v_lret dX6_monthsOfUnit_43 rfl (by first | exact ql hQ rfl | (have h9 : u = 9 := (by omega); subst h9; exact ql hQ rfl))
  · subst s_1
    refine v_tabIn 44 dX6_monthsOfUnit_1 rfl ?_
    refine v_ldc2 (1200) dX6_monthsOfUnit_44 kl_X6_314 ?_
    exact v_lret dX6_monthsOfUnit_47 rfl (by first | exact ql hQ rfl | (have h9 : u = 9 := (by omega); subst h9; exact ql hQ rfl))
def tq (a b r : Int) : Prop := (0 ≤ a ∧ r = a / b) ∨ (a < 0 ∧ r = -((-a) / b))
set_option maxRecDepth 100000 in
set_option maxHeartbeats 4000000 in
theorem s_X6_wholeUnits {l : Launch} {G : GG} {w : AH} {Q : Option Value → AH → Prop} {X : String → AH → Prop} (hst : l.stackTraces = false) {a b : Int} (ha : -9223372036854775808 ≤ a ∧ a ≤ 9223372036854775807) (hb : 0 < b ∧ b ≤ 9223372036854775807) (hQ : ∀ r : Int, tq a b r → Q (some (.long (lI r))) w) : Ct l G mX6_wholeUnits rX6_wholeUnits [.long (lI a), .long (lI b)] w Q X := by
  refine ct_of hst mk_X6_wholeUnits (Nat.le_of_ble_eq_true rfl) ?_
  refine v_lload_n dX6_wholeUnits_0 rfl ?_
  refine v_lconst0 dX6_wholeUnits_1 ?_
  refine v_lif_le 12 dX6_wholeUnits_2 dX6_wholeUnits_3 (fun h_2 => ?_) (fun h_2 => ?_)
  · refine v_lconst0 dX6_wholeUnits_12 ?_
    exact v_lret dX6_wholeUnits_13 rfl (by first | exact hQ _ e_8 | (exfalso; omega))
  · refine v_lload_n dX6_wholeUnits_6 rfl ?_
    refine v_lload_n dX6_wholeUnits_7 rfl ?_
    refine v_ldivK dX6_wholeUnits_8 (fun r_8 e_8 => ?_)
    refine v_goto 13 dX6_wholeUnits_9 ?_
    exact v_lret dX6_wholeUnits_13 rfl (by first | exact hQ _ e_8 | (exfalso; omega))
set_option maxRecDepth 100000 in
set_option maxHeartbeats 4000000 in
theorem s_X6_isLongOfNanos {l : Launch} {G : GG} {w : AH} {Q : Option Value → AH → Prop} {X : String → AH → Prop} (hst : l.stackTraces = false) {D R : Int} (hD : -10000000 ≤ D ∧ D ≤ 10000000) (hR : -86400000000000 ≤ R ∧ R ≤ 86400000000000) (hs : (0 < D → 0 ≤ R) ∧ (D < 0 → R ≤ 0)) (hQ : ∀ r : Int, ((r = 1 ∧ -9223372036854775808 ≤ D * 86400000000000 + R ∧ D * 86400000000000 + R ≤ 9223372036854775807) ∨ (r = 0 ∧ ¬ (-9223372036854775808 ≤ D * 86400000000000 + R ∧ D * 86400000000000 + R ≤ 9223372036854775807))) → Q (some (.int (iI r))) w) : Ct l G mX6_isLongOfNanos rX6_isLongOfNanos [.long (lI D), .long (lI R)] w Q X := by
  refine ct_of hst mk_X6_isLongOfNanos (Nat.le_of_ble_eq_true rfl) ?_
  refine v_lload_n dX6_isLongOfNanos_0 rfl ?_
  refine v_lconst0 dX6_isLongOfNanos_1 ?_
  refine v_lif_le 26 dX6_isLongOfNanos_2 dX6_isLongOfNanos_3 (fun h_2 => ?_) (fun h_2 => ?_)
  · refine v_lload_n dX6_isLongOfNanos_26 rfl ?_
    refine v_lconst0 dX6_isLongOfNanos_27 ?_
    refine v_lif_eq 46 dX6_isLongOfNanos_28 dX6_isLongOfNanos_29 (fun h_28 => ?_) (fun h_28 => ?_)
    · refine v_iconst dX6_isLongOfNanos_46 ?_
      refine v_goto 51 dX6_isLongOfNanos_47 ?_
      exact v_zret dX6_isLongOfNanos_51 rfl (by exact hQ _ (by omega)) (by first | exact Or.inl rfl | exact Or.inr rfl | omega)
    · refine v_lload_n dX6_isLongOfNanos_32 rfl ?_
      refine v_ldc2 (-9223372036854775808) dX6_isLongOfNanos_33 kl_X6_235 ?_
      refine v_lload_n dX6_isLongOfNanos_36 rfl ?_
      refine v_lsub dX6_isLongOfNanos_37 ?_
      refine v_ldc2 (86400000000000) dX6_isLongOfNanos_38 kl_X6_148 ?_
      refine v_ldivK dX6_isLongOfNanos_41 (fun r_41 e_41 => ?_)
      refine v_lif_lt 50 dX6_isLongOfNanos_42 dX6_isLongOfNanos_43 (fun h_42 => ?_) (fun h_42 => ?_)
      · refine v_iconst dX6_isLongOfNanos_50 ?_
        exact v_zret dX6_isLongOfNanos_51 rfl (by exact hQ _ (by omega)) (by first | exact Or.inl rfl | exact Or.inr rfl | omega)
      · refine v_iconst dX6_isLongOfNanos_46 ?_
        refine v_goto 51 dX6_isLongOfNanos_47 ?_
        exact v_zret dX6_isLongOfNanos_51 rfl (by exact hQ _ (by omega)) (by first | exact Or.inl rfl | exact Or.inr rfl | omega)
  · refine v_lload_n dX6_isLongOfNanos_6 rfl ?_
    refine v_ldc2 (9223372036854775807) dX6_isLongOfNanos_7 kl_X6_316 ?_
    refine v_lload_n dX6_isLongOfNanos_10 rfl ?_
    refine v_lsub dX6_isLongOfNanos_11 ?_
    refine v_ldc2 (86400000000000) dX6_isLongOfNanos_12 kl_X6_148 ?_
    refine v_ldivK dX6_isLongOfNanos_15 (fun r_15 e_15 => ?_)
    refine v_lif_gt 24 dX6_isLongOfNanos_16 dX6_isLongOfNanos_17 (fun h_16 => ?_) (fun h_16 => ?_)
    · refine v_iconst dX6_isLongOfNanos_24 ?_
      exact v_zret dX6_isLongOfNanos_25 rfl (by exact hQ _ (by omega)) (by first | exact Or.inl rfl | exact Or.inr rfl | omega)
    · refine v_iconst dX6_isLongOfNanos_20 ?_
      refine v_goto 25 dX6_isLongOfNanos_21 ?_
      exact v_zret dX6_isLongOfNanos_25 rfl (by exact hQ _ (by omega)) (by first | exact Or.inl rfl | exact Or.inr rfl | omega)
def pE (n N p sz T D : Int) : Prop := (n + N % p * sz < 86400000000000 ∧ D = N / p ∧ T = n + N % p * sz) ∨ (86400000000000 ≤ n + N % p * sz ∧ D = N / p + 1 ∧ T = n + N % p * sz - 86400000000000)
def plE (n N u T D : Int) : Prop := if u = 8 then D = N * 7 ∧ T = n else pE n N (uPD u) (uSZ u) T D
def plB (N u : Int) : Prop := 7 ≤ u ∧ (N < -7304483 ∨ 7304483 < N)
set_option maxRecDepth 100000 in
set_option maxHeartbeats 4000000 in
theorem s_X6_addUnits {l : Launch} {G : GG} {w : AH} {Q : Option Value → AH → Prop} {X : String → AH → Prop} (hst : l.stackTraces = false) {a : Nat} {y m d n : Int} (h0 : w a = some (stC y m d n)) (hy : -9999 ≤ y ∧ y ≤ 9999) (hm : 1 ≤ m ∧ m ≤ 12) (hd : 1 ≤ d ∧ d ≤ lenM y m) (hn : 0 ≤ n ∧ n ≤ 86399999999999) {N u : Int} (hN : -9223372036854775808 ≤ N ∧ N ≤ 9223372036854775807) (hu : 0 ≤ u ∧ u ≤ 13) (hQ0 : plB N u → Q (some (.int (iI 0))) w) (hQm : ¬ plB N u → 9 ≤ u → ∀ t : Int, t = y * 12 + m - 1 + N * mOU u → (-119988 ≤ t ∧ t ≤ 119999) → Q (some (.int (iI 1))) (aup w a (stC (t / 12) (t % 12 + 1) (if d ≤ lenM (t / 12) (t % 12 + 1) then d else lenM (t / 12) (t % 12 + 1)) n))) (hQn : ¬ plB N u → 9 ≤ u → ∀ t : Int, t = y * 12 + m - 1 + N * mOU u → (t < -119988 ∨ 119999 < t) → Q (some (.int (iI 0))) w) (hQp : ¬ plB N u → u ≤ 8 → ∀ y' m' d' T D : Int, (-9999 ≤ y' ∧ y' ≤ 9999) → (1 ≤ m' ∧ m' ≤ 12) → (1 ≤ d' ∧ d' ≤ lenM y' m') →  plE n N u T D → ed y' m' d' = ed y m d + D → Q (some (.int (iI 1))) (aup w a (stC y' m' d' T))) (hQq : ¬ plB N u → u ≤ 8 → ∀ T D : Int, plE n N u T D → (ed y m d + D < -4371587 ∨ 2932896 < ed y m d + D) → Q (some (.int (iI 0))) w) : Ct l G mX6_addUnits rX6_addUnits [(.ref a), .long (lI N), .int (iI u)] w Q X := by
  have hlen := lenM_rng y m
  have hed := ed_rng hy hm hd
  refine ct_of hst mk_X6_addUnits (Nat.le_of_ble_eq_true rfl) ?_
  refine v_iload_n dX6_addUnits_0 rfl ?_
  refine v_bipush dX6_addUnits_1 ?_
  refine v_icmp_lt 24 dX6_addUnits_3 (fun h_3 => ?_) (fun h_3 => ?_)
  · refine v_iload_n dX6_addUnits_24 rfl ?_
    refine v_bipush dX6_addUnits_25 ?_
    refine v_icmp_le 46 dX6_addUnits_27 (fun h_27 => ?_) (fun h_27 => ?_)
    · refine v_iload_n dX6_addUnits_46 rfl ?_
      refine v_bipush dX6_addUnits_47 ?_
      refine v_icmp_ne 63 dX6_addUnits_49 (fun h_49 => ?_) (fun h_49 => ?_)
      · refine v_aload_n dX6_addUnits_63 rfl ?_
        refine v_lload_n dX6_addUnits_64 rfl ?_
        refine v_iload_n dX6_addUnits_65 rfl ?_
        refine v_S1 (rm' := rX6_unitsPerDay) dX6_addUnits_66 km_X6_145 ks_X6_unitsPerDay kz_X6 mk_X6_unitsPerDay rfl ⟨Nat.le_of_ble_eq_true rfl, Nat.le_of_ble_eq_true rfl⟩ ⟨Nat.le_of_ble_eq_true rfl, Nat.le_of_ble_eq_true rfl⟩ (Nat.le_of_ble_eq_true rfl) ?_
        refine s_X6_unitsPerDay hst (by omega) ?_
        refine v_V2 (rm' := rX4_addParts) (RX4, TX4, 4) dX6_addUnits_69 km_X6_297 kn_X4_addParts kv_X4_addParts kz_X4 mk_X4_addParts rfl rfl (by exact h0) ⟨Nat.le_of_ble_eq_true rfl, Nat.le_of_ble_eq_true rfl⟩ ⟨Nat.le_of_ble_eq_true rfl, Nat.le_of_ble_eq_true rfl⟩ (Nat.le_of_ble_eq_true rfl) ?_
        rcases uPD_c (u := u) (by omega) with ⟨hu9, e8, e9⟩ | ⟨hu9, e8, e9⟩ | ⟨hu9, e8, e9⟩ | ⟨hu9, e8, e9⟩ | ⟨hu9, e8, e9⟩ | ⟨hu9, e8, e9⟩ | ⟨hu9, e8, e9⟩ | ⟨hu9, e8, e9⟩
        all_goals rw [e8]
        all_goals refine s_X4_addParts (sz := uSZ u) hst h0 hy hm hd hn hN (by omega) (by rw [e9]; decide) (by rw [e9]; omega) (by omega) (fun y' m' d' T D hy' hm' hd' he' hc' => ?_) (fun D hc' h9 => ?_)
        all_goals exact v_zret dX6_addUnits_72 rfl (by first | exact hQp (by unfold plB; omega) (by omega) y' m' d' T D hy' hm' hd' (by unfold plE; rw [if_neg (by omega)]; unfold pE; rw [e8]; exact hc') he' | exact hQq (by unfold plB; omega) (by omega) (if n + N % uPD u * uSZ u < 86400000000000 then n + N % uPD u * uSZ u else n + N % uPD u * uSZ u - 86400000000000) D (by unfold plE; rw [if_neg (by omega)]; unfold pE; rw [e8]; split <;> omega) h9) (by first | exact Or.inl rfl | exact Or.inr rfl | omega)
      · refine v_aload_n dX6_addUnits_52 rfl ?_
        refine v_lload_n dX6_addUnits_53 rfl ?_
        refine v_ldc2 (7) dX6_addUnits_54 kl_X6_134 ?_
        refine v_lmul dX6_addUnits_57 ?_
        refine v_lconst1 dX6_addUnits_58 ?_
        refine v_V2 (rm' := rX4_addParts) (RX4, TX4, 4) dX6_addUnits_59 km_X6_297 kn_X4_addParts kv_X4_addParts kz_X4 mk_X4_addParts rfl rfl (by exact h0) ⟨Nat.le_of_ble_eq_true rfl, Nat.le_of_ble_eq_true rfl⟩ ⟨Nat.le_of_ble_eq_true rfl, Nat.le_of_ble_eq_true rfl⟩ (Nat.le_of_ble_eq_true rfl) ?_
        refine s_X4_addParts (sz := 86400000000000) hst h0 hy hm hd hn (by omega) (by omega) (by omega) (by omega) (by omega) (fun y' m' d' T D hy' hm' hd' he' hc' => ?_) (fun D hc' h9 => ?_)
        · exact v_zret dX6_addUnits_62 rfl (by first | (exfalso; omega) | exact hQ0 (by unfold plB; omega) | exact hQm (by unfold plB; omega) (by omega) _ rfl h9 | exact hQn (by unfold plB; omega) (by omega) _ rfl h9 | exact hQp (by unfold plB; omega) (by omega) y' m' d' T D hy' hm' hd' (by unfold plE; rw [if_pos (by omega)]; omega) he' | exact hQq (by unfold plB; omega) (by omega) n D (by unfold plE; rw [if_pos (by omega)]; omega) h9) (by first | exact Or.inl rfl | exact Or.inr rfl | omega)
        · exact v_zret dX6_addUnits_62 rfl (by first | (exfalso; omega) | exact hQ0 (by unfold plB; omega) | exact hQm (by unfold plB; omega) (by omega) _ rfl h9 | exact hQn (by unfold plB; omega) (by omega) _ rfl h9 | exact hQp (by unfold plB; omega) (by omega) y' m' d' T D hy' hm' hd' (by unfold plE; rw [if_pos (by omega)]; omega) he' | exact hQq (by unfold plB; omega) (by omega) n D (by unfold plE; rw [if_pos (by omega)]; omega) h9) (by first | exact Or.inl rfl | exact Or.inr rfl | omega)
    · refine v_aload_n dX6_addUnits_30 rfl ?_
      refine v_aload_n dX6_addUnits_31 rfl ?_
      refine v_V0 (rm' := rX4_monthNumber) (RX4, TX4, 4) dX6_addUnits_32 km_X6_158 kn_X4_monthNumber kv_X4_monthNumber kz_X4 mk_X4_monthNumber rfl rfl (by exact h0) ⟨Nat.le_of_ble_eq_true rfl, Nat.le_of_ble_eq_true rfl⟩ ⟨Nat.le_of_ble_eq_true rfl, Nat.le_of_ble_eq_true rfl⟩ (Nat.le_of_ble_eq_true rfl) ?_
      refine s_X4_monthNumber hst h0 hy hm hd hn ?_
      refine v_lload_n dX6_addUnits_35 rfl ?_
      refine v_iload_n dX6_addUnits_36 rfl ?_
      refine v_S1 (rm' := rX6_monthsOfUnit) dX6_addUnits_37 km_X6_123 ks_X6_monthsOfUnit kz_X6 mk_X6_monthsOfUnit rfl ⟨Nat.le_of_ble_eq_true rfl, Nat.le_of_ble_eq_true rfl⟩ ⟨Nat.le_of_ble_eq_true rfl, Nat.le_of_ble_eq_true rfl⟩ (Nat.le_of_ble_eq_true rfl) ?_
      refine s_X6_monthsOfUnit hst (by omega) ?_
      have hmu := mOU_c (u := u) (by omega)
      have hNm : -9999999999 ≤ N * mOU u ∧ N * mOU u ≤ 9999999999 := (by rcases hmu with ⟨-, e⟩ | ⟨-, e⟩ | ⟨-, e⟩ | ⟨-, e⟩ | ⟨-, e⟩ <;> rw [e] <;> omega)
      refine v_lmul dX6_addUnits_40 ?_
      refine v_ladd dX6_addUnits_41 ?_
      refine v_V1 (rm' := rX4_setMonthNumber) (RX4, TX4, 4) dX6_addUnits_42 km_X6_294 kn_X4_setMonthNumber kv_X4_setMonthNumber kz_X4 mk_X4_setMonthNumber rfl rfl (by exact h0) ⟨Nat.le_of_ble_eq_true rfl, Nat.le_of_ble_eq_true rfl⟩ ⟨Nat.le_of_ble_eq_true rfl, Nat.le_of_ble_eq_true rfl⟩ (Nat.le_of_ble_eq_true rfl) ?_
      refine s_X4_setMonthNumber hst h0 (by omega) (fun h9 => ?_) (fun h9 => ?_)
      · exact v_zret dX6_addUnits_45 rfl (by first | (exfalso; omega) | exact hQ0 (by unfold plB; omega) | exact hQm (by unfold plB; omega) (by omega) _ rfl h9 | exact hQn (by unfold plB; omega) (by omega) _ rfl h9 | exact hQp (by unfold plB; omega) (by omega) y' m' d' T D hy' hm' hd' (by unfold plE; rw [if_pos (by omega)]; omega) he' | exact hQq (by unfold plB; omega) (by omega) n D (by unfold plE; rw [if_pos (by omega)]; omega) h9) (by first | exact Or.inl rfl | exact Or.inr rfl | omega)
      · exact v_zret dX6_addUnits_45 rfl (by first | (exfalso; omega) | exact hQ0 (by unfold plB; omega) | exact hQm (by unfold plB; omega) (by omega) _ rfl h9 | exact hQn (by unfold plB; omega) (by omega) _ rfl h9 | exact hQp (by unfold plB; omega) (by omega) y' m' d' T D hy' hm' hd' (by unfold plE; rw [if_pos (by omega)]; omega) he' | exact hQq (by unfold plB; omega) (by omega) n D (by unfold plE; rw [if_pos (by omega)]; omega) h9) (by first | exact Or.inl rfl | exact Or.inr rfl | omega)
  · refine v_lload_n dX6_addUnits_6 rfl ?_
    refine v_ldc2 (-7304483) dX6_addUnits_7 kl_X6_290 ?_
    refine v_lif_lt 22 dX6_addUnits_10 dX6_addUnits_11 (fun h_10 => ?_) (fun h_10 => ?_)
    · refine v_iconst dX6_addUnits_22 ?_
      exact v_zret dX6_addUnits_23 rfl (by first | (exfalso; omega) | exact hQ0 (by unfold plB; omega) | exact hQm (by unfold plB; omega) (by omega) _ rfl h9 | exact hQn (by unfold plB; omega) (by omega) _ rfl h9 | exact hQp (by unfold plB; omega) (by omega) y' m' d' T D hy' hm' hd' (by unfold plE; rw [if_pos (by omega)]; omega) he' | exact hQq (by unfold plB; omega) (by omega) n D (by unfold plE; rw [if_pos (by omega)]; omega) h9) (by first | exact Or.inl rfl | exact Or.inr rfl | omega)
    · refine v_lload_n dX6_addUnits_14 rfl ?_
      refine v_ldc2 (7304483) dX6_addUnits_15 kl_X6_292 ?_
      refine v_lif_le 24 dX6_addUnits_18 dX6_addUnits_19 (fun h_18 => ?_) (fun h_18 => ?_)
      · refine v_iload_n dX6_addUnits_24 rfl ?_
        refine v_bipush dX6_addUnits_25 ?_
        refine v_icmp_le 46 dX6_addUnits_27 (fun h_27 => ?_) (fun h_27 => ?_)
        · refine v_iload_n dX6_addUnits_46 rfl ?_
          refine v_bipush dX6_addUnits_47 ?_
          refine v_icmp_ne 63 dX6_addUnits_49 (fun h_49 => ?_) (fun h_49 => ?_)
          · refine v_aload_n dX6_addUnits_63 rfl ?_
            refine v_lload_n dX6_addUnits_64 rfl ?_
            refine v_iload_n dX6_addUnits_65 rfl ?_
            refine v_S1 (rm' := rX6_unitsPerDay) dX6_addUnits_66 km_X6_145 ks_X6_unitsPerDay kz_X6 mk_X6_unitsPerDay rfl ⟨Nat.le_of_ble_eq_true rfl, Nat.le_of_ble_eq_true rfl⟩ ⟨Nat.le_of_ble_eq_true rfl, Nat.le_of_ble_eq_true rfl⟩ (Nat.le_of_ble_eq_true rfl) ?_
            refine s_X6_unitsPerDay hst (by omega) ?_
            refine v_V2 (rm' := rX4_addParts) (RX4, TX4, 4) dX6_addUnits_69 km_X6_297 kn_X4_addParts kv_X4_addParts kz_X4 mk_X4_addParts rfl rfl (by exact h0) ⟨Nat.le_of_ble_eq_true rfl, Nat.le_of_ble_eq_true rfl⟩ ⟨Nat.le_of_ble_eq_true rfl, Nat.le_of_ble_eq_true rfl⟩ (Nat.le_of_ble_eq_true rfl) ?_
            rcases uPD_c (u := u) (by omega) with ⟨hu9, e8, e9⟩ | ⟨hu9, e8, e9⟩ | ⟨hu9, e8, e9⟩ | ⟨hu9, e8, e9⟩ | ⟨hu9, e8, e9⟩ | ⟨hu9, e8, e9⟩ | ⟨hu9, e8, e9⟩ | ⟨hu9, e8, e9⟩
            all_goals rw [e8]
            all_goals refine s_X4_addParts (sz := uSZ u) hst h0 hy hm hd hn hN (by omega) (by rw [e9]; decide) (by rw [e9]; omega) (by omega) (fun y' m' d' T D hy' hm' hd' he' hc' => ?_) (fun D hc' h9 => ?_)
            all_goals exact v_zret dX6_addUnits_72 rfl (by first | exact hQp (by unfold plB; omega) (by omega) y' m' d' T D hy' hm' hd' (by unfold plE; rw [if_neg (by omega)]; unfold pE; rw [e8]; exact hc') he' | exact hQq (by unfold plB; omega) (by omega) (if n + N % uPD u * uSZ u < 86400000000000 then n + N % uPD u * uSZ u else n + N % uPD u * uSZ u - 86400000000000) D (by unfold plE; rw [if_neg (by omega)]; unfold pE; rw [e8]; split <;> omega) h9) (by first | exact Or.inl rfl | exact Or.inr rfl | omega)
          · refine v_aload_n dX6_addUnits_52 rfl ?_
            refine v_lload_n dX6_addUnits_53 rfl ?_
            refine v_ldc2 (7) dX6_addUnits_54 kl_X6_134 ?_
            refine v_lmul dX6_addUnits_57 ?_
            refine v_lconst1 dX6_addUnits_58 ?_
            refine v_V2 (rm' := rX4_addParts) (RX4, TX4, 4) dX6_addUnits_59 km_X6_297 kn_X4_addParts kv_X4_addParts kz_X4 mk_X4_addParts rfl rfl (by exact h0) ⟨Nat.le_of_ble_eq_true rfl, Nat.le_of_ble_eq_true rfl⟩ ⟨Nat.le_of_ble_eq_true rfl, Nat.le_of_ble_eq_true rfl⟩ (Nat.le_of_ble_eq_true rfl) ?_
            refine s_X4_addParts (sz := 86400000000000) hst h0 hy hm hd hn (by omega) (by omega) (by omega) (by omega) (by omega) (fun y' m' d' T D hy' hm' hd' he' hc' => ?_) (fun D hc' h9 => ?_)
            · exact v_zret dX6_addUnits_62 rfl (by first | (exfalso; omega) | exact hQ0 (by unfold plB; omega) | exact hQm (by unfold plB; omega) (by omega) _ rfl h9 | exact hQn (by unfold plB; omega) (by omega) _ rfl h9 | exact hQp (by unfold plB; omega) (by omega) y' m' d' T D hy' hm' hd' (by unfold plE; rw [if_pos (by omega)]; omega) he' | exact hQq (by unfold plB; omega) (by omega) n D (by unfold plE; rw [if_pos (by omega)]; omega) h9) (by first | exact Or.inl rfl | exact Or.inr rfl | omega)
            · exact v_zret dX6_addUnits_62 rfl (by first | (exfalso; omega) | exact hQ0 (by unfold plB; omega) | exact hQm (by unfold plB; omega) (by omega) _ rfl h9 | exact hQn (by unfold plB; omega) (by omega) _ rfl h9 | exact hQp (by unfold plB; omega) (by omega) y' m' d' T D hy' hm' hd' (by unfold plE; rw [if_pos (by omega)]; omega) he' | exact hQq (by unfold plB; omega) (by omega) n D (by unfold plE; rw [if_pos (by omega)]; omega) h9) (by first | exact Or.inl rfl | exact Or.inr rfl | omega)
        · refine v_aload_n dX6_addUnits_30 rfl ?_
          refine v_aload_n dX6_addUnits_31 rfl ?_
          refine v_V0 (rm' := rX4_monthNumber) (RX4, TX4, 4) dX6_addUnits_32 km_X6_158 kn_X4_monthNumber kv_X4_monthNumber kz_X4 mk_X4_monthNumber rfl rfl (by exact h0) ⟨Nat.le_of_ble_eq_true rfl, Nat.le_of_ble_eq_true rfl⟩ ⟨Nat.le_of_ble_eq_true rfl, Nat.le_of_ble_eq_true rfl⟩ (Nat.le_of_ble_eq_true rfl) ?_
          refine s_X4_monthNumber hst h0 hy hm hd hn ?_
          refine v_lload_n dX6_addUnits_35 rfl ?_
          refine v_iload_n dX6_addUnits_36 rfl ?_
          refine v_S1 (rm' := rX6_monthsOfUnit) dX6_addUnits_37 km_X6_123 ks_X6_monthsOfUnit kz_X6 mk_X6_monthsOfUnit rfl ⟨Nat.le_of_ble_eq_true rfl, Nat.le_of_ble_eq_true rfl⟩ ⟨Nat.le_of_ble_eq_true rfl, Nat.le_of_ble_eq_true rfl⟩ (Nat.le_of_ble_eq_true rfl) ?_
          refine s_X6_monthsOfUnit hst (by omega) ?_
          have hmu := mOU_c (u := u) (by omega)
          have hNm : -9999999999 ≤ N * mOU u ∧ N * mOU u ≤ 9999999999 := (by rcases hmu with ⟨-, e⟩ | ⟨-, e⟩ | ⟨-, e⟩ | ⟨-, e⟩ | ⟨-, e⟩ <;> rw [e] <;> omega)
          refine v_lmul dX6_addUnits_40 ?_
          refine v_ladd dX6_addUnits_41 ?_
          refine v_V1 (rm' := rX4_setMonthNumber) (RX4, TX4, 4) dX6_addUnits_42 km_X6_294 kn_X4_setMonthNumber kv_X4_setMonthNumber kz_X4 mk_X4_setMonthNumber rfl rfl (by exact h0) ⟨Nat.le_of_ble_eq_true rfl, Nat.le_of_ble_eq_true rfl⟩ ⟨Nat.le_of_ble_eq_true rfl, Nat.le_of_ble_eq_true rfl⟩ (Nat.le_of_ble_eq_true rfl) ?_
          refine s_X4_setMonthNumber hst h0 (by omega) (fun h9 => ?_) (fun h9 => ?_)
          · exact v_zret dX6_addUnits_45 rfl (by first | (exfalso; omega) | exact hQ0 (by unfold plB; omega) | exact hQm (by unfold plB; omega) (by omega) _ rfl h9 | exact hQn (by unfold plB; omega) (by omega) _ rfl h9 | exact hQp (by unfold plB; omega) (by omega) y' m' d' T D hy' hm' hd' (by unfold plE; rw [if_pos (by omega)]; omega) he' | exact hQq (by unfold plB; omega) (by omega) n D (by unfold plE; rw [if_pos (by omega)]; omega) h9) (by first | exact Or.inl rfl | exact Or.inr rfl | omega)
          · exact v_zret dX6_addUnits_45 rfl (by first | (exfalso; omega) | exact hQ0 (by unfold plB; omega) | exact hQm (by unfold plB; omega) (by omega) _ rfl h9 | exact hQn (by unfold plB; omega) (by omega) _ rfl h9 | exact hQp (by unfold plB; omega) (by omega) y' m' d' T D hy' hm' hd' (by unfold plE; rw [if_pos (by omega)]; omega) he' | exact hQq (by unfold plB; omega) (by omega) n D (by unfold plE; rw [if_pos (by omega)]; omega) h9) (by first | exact Or.inl rfl | exact Or.inr rfl | omega)
      · refine v_iconst dX6_addUnits_22 ?_
        exact v_zret dX6_addUnits_23 rfl (by first | (exfalso; omega) | exact hQ0 (by unfold plB; omega) | exact hQm (by unfold plB; omega) (by omega) _ rfl h9 | exact hQn (by unfold plB; omega) (by omega) _ rfl h9 | exact hQp (by unfold plB; omega) (by omega) y' m' d' T D hy' hm' hd' (by unfold plE; rw [if_pos (by omega)]; omega) he' | exact hQq (by unfold plB; omega) (by omega) n D (by unfold plE; rw [if_pos (by omega)]; omega) h9) (by first | exact Or.inl rfl | exact Or.inr rfl | omega)
set_option maxRecDepth 100000 in
set_option maxHeartbeats 4000000 in
theorem s_X6_plus {l : Launch} {G : GG} {w : AH} {Q : Option Value → AH → Prop} {X : String → AH → Prop} (hst : l.stackTraces = false) {x sl zn li pg : Nat} {sa : Nat → Nat} {i : Int} (hx : w x = some (tdC sl zn li pg)) (hsl : w sl = some (arA G 4 8 (fun k => some (sa k)))) (hS : ∀ k : Nat, k < 8 → SV w (sa k)) (hi : -2147483648 ≤ i ∧ i ≤ 2147483647) (hXI : (i < 0 ∨ 7 < i) → X "java/lang/IndexOutOfBoundsException" w) {N u : Int} (hN : -9223372036854775808 ≤ N ∧ N ≤ 9223372036854775807) (hu : -2147483648 ≤ u ∧ u ≤ 2147483647) (hXU : (0 ≤ i ∧ i ≤ 7) → ¬ (0 ≤ u ∧ u ≤ 13) → X "java/lang/UnsupportedOperationException" w) (hXB : ∀ y m d n : Int, (0 ≤ i ∧ i ≤ 7) → w (sa i.toNat) = some (stC y m d n) → (-9999 ≤ y ∧ y ≤ 9999) → (1 ≤ m ∧ m ≤ 12) → (1 ≤ d ∧ d ≤ lenM y m) → (0 ≤ n ∧ n ≤ 86399999999999) →  (0 ≤ u ∧ u ≤ 13) → plB N u → X "java/lang/ArithmeticException" w) (hQm : ∀ y m d n : Int, (0 ≤ i ∧ i ≤ 7) → w (sa i.toNat) = some (stC y m d n) → (-9999 ≤ y ∧ y ≤ 9999) → (1 ≤ m ∧ m ≤ 12) → (1 ≤ d ∧ d ≤ lenM y m) → (0 ≤ n ∧ n ≤ 86399999999999) →  ¬ plB N u → (9 ≤ u ∧ u ≤ 13) → ∀ t : Int, t = y * 12 + m - 1 + N * mOU u → (-119988 ≤ t ∧ t ≤ 119999) → Q none (aup w (sa i.toNat) (stC (t / 12) (t % 12 + 1) (if d ≤ lenM (t / 12) (t % 12 + 1) then d else lenM (t / 12) (t % 12 + 1)) n))) (hXn : ∀ y m d n : Int, (0 ≤ i ∧ i ≤ 7) → w (sa i.toNat) = some (stC y m d n) → (-9999 ≤ y ∧ y ≤ 9999) → (1 ≤ m ∧ m ≤ 12) → (1 ≤ d ∧ d ≤ lenM y m) → (0 ≤ n ∧ n ≤ 86399999999999) →  ¬ plB N u → (9 ≤ u ∧ u ≤ 13) → ∀ t : Int, t = y * 12 + m - 1 + N * mOU u → (t < -119988 ∨ 119999 < t) → X "java/lang/ArithmeticException" w) (hQp : ∀ y m d n : Int, (0 ≤ i ∧ i ≤ 7) → w (sa i.toNat) = some (stC y m d n) → (-9999 ≤ y ∧ y ≤ 9999) → (1 ≤ m ∧ m ≤ 12) → (1 ≤ d ∧ d ≤ lenM y m) → (0 ≤ n ∧ n ≤ 86399999999999) →  ¬ plB N u → (0 ≤ u ∧ u ≤ 8) → ∀ y' m' d' T D : Int, (-9999 ≤ y' ∧ y' ≤ 9999) → (1 ≤ m' ∧ m' ≤ 12) → (1 ≤ d' ∧ d' ≤ lenM y' m') →  plE n N u T D → ed y' m' d' = ed y m d + D → Q none (aup w (sa i.toNat) (stC y' m' d' T))) (hXq : ∀ y m d n : Int, (0 ≤ i ∧ i ≤ 7) → w (sa i.toNat) = some (stC y m d n) → (-9999 ≤ y ∧ y ≤ 9999) → (1 ≤ m ∧ m ≤ 12) → (1 ≤ d ∧ d ≤ lenM y m) → (0 ≤ n ∧ n ≤ 86399999999999) →  ¬ plB N u → (0 ≤ u ∧ u ≤ 8) → ∀ T D : Int, plE n N u T D → (ed y m d + D < -4371587 ∨ 2932896 < ed y m d + D) → X "java/lang/ArithmeticException" w) : Ct l G mX6_plus rX6_plus [(.ref x), .int (iI i), .long (lI N), .int (iI u)] w Q X := by
  refine ct_of hst mk_X6_plus (Nat.le_of_ble_eq_true rfl) ?_
  refine v_aload_n dX6_plus_0 rfl ?_
  refine v_iload_n dX6_plus_1 rfl ?_
  refine v_V1 (rm' := rX6_slotAt) (RX6, TX6, 4) dX6_plus_2 km_X6_39 kn_X6_slotAt kv_X6_slotAt kz_X6 mk_X6_slotAt rfl rfl (by first | exact hx | exact hsl | exact h0 | exact aup_s) ⟨Nat.le_of_ble_eq_true rfl, Nat.le_of_ble_eq_true rfl⟩ ⟨Nat.le_of_ble_eq_true rfl, Nat.le_of_ble_eq_true rfl⟩ (Nat.le_of_ble_eq_true rfl) ?_
  refine s_X6_slotAt hst hx hsl hi (fun h9 => vx_leave rfl (hXI h9)) (fun h7 => ?_)
  obtain ⟨y, m, d, n, h0, hy, hm, hd, hn⟩ := hS i.toNat (by omega)
  have hlen := lenM_rng y m
  have hed := ed_rng hy hm hd
  refine v_astore dX6_plus_5 (by decide) ?_
  refine v_iload dX6_plus_7 rfl ?_
  refine v_S1 (rm' := rX6_isUnit) dX6_plus_9 km_X6_101 ks_X6_isUnit kz_X6 mk_X6_isUnit rfl ⟨Nat.le_of_ble_eq_true rfl, Nat.le_of_ble_eq_true rfl⟩ ⟨Nat.le_of_ble_eq_true rfl, Nat.le_of_ble_eq_true rfl⟩ (Nat.le_of_ble_eq_true rfl) ?_
  refine s_X6_isUnit hst (by omega) (fun r_X6_isUnit e_X6_isUnit => ?_)
  refine v_if_ne 25 dX6_plus_12 (fun h_12 => ?_) (fun h_12 => ?_)
  · refine v_aload dX6_plus_25 rfl ?_
    refine v_lload_n dX6_plus_27 rfl ?_
    refine v_iload dX6_plus_28 rfl ?_
    refine v_S3 (rm' := rX6_addUnits) dX6_plus_30 km_X6_106 ks_X6_addUnits kz_X6 mk_X6_addUnits rfl ⟨Nat.le_of_ble_eq_true rfl, Nat.le_of_ble_eq_true rfl⟩ ⟨Nat.le_of_ble_eq_true rfl, Nat.le_of_ble_eq_true rfl⟩ (Nat.le_of_ble_eq_true rfl) ?_
    refine s_X6_addUnits hst h0 hy hm hd hn hN (by omega) (fun b1 => ?_) (fun b1 b2 t b3 b4 => ?_) (fun b1 b2 t b3 b4 => ?_) (fun b1 b2 y' m' d' T D hy' hm' hd' b3 b4 => ?_) (fun b1 b2 T D b3 b4 => ?_)
    · refine v_if_ne 46 dX6_plus_33 (fun h_33 => ?_) (fun h_33 => ?_)
      · exact v_vret dX6_plus_46 rfl (by first | exact hQm y m d n h7 h0 hy hm hd hn b1 (by omega) t b3 b4 | exact hQp y m d n h7 h0 hy hm hd hn b1 (by omega) y' m' d' T D hy' hm' hd' b3 b4 | (exfalso; omega))
      · exact v_throwS (E := "java/lang/ArithmeticException") (sk := 7) dX6_plus_36 dX6_plus_39 dX6_plus_40 dX6_plus_42 dX6_plus_45 rfl kc_X6_110 kz_java_lang_ArithmeticException tw_114 (by decide +kernel) rfl (by first | exact hXU h7 (by omega) | exact hXB y m d n h7 h0 hy hm hd hn (by omega) b1 | exact hXn y m d n h7 h0 hy hm hd hn b1 (by omega) t b3 b4 | exact hXq y m d n h7 h0 hy hm hd hn b1 (by omega) T D b3 b4 | (exfalso; omega))
    · refine v_if_ne 46 dX6_plus_33 (fun h_33 => ?_) (fun h_33 => ?_)
      · exact v_vret dX6_plus_46 rfl (by first | exact hQm y m d n h7 h0 hy hm hd hn b1 (by omega) t b3 b4 | exact hQp y m d n h7 h0 hy hm hd hn b1 (by omega) y' m' d' T D hy' hm' hd' b3 b4 | (exfalso; omega))
      · exact v_throwS (E := "java/lang/ArithmeticException") (sk := 7) dX6_plus_36 dX6_plus_39 dX6_plus_40 dX6_plus_42 dX6_plus_45 rfl kc_X6_110 kz_java_lang_ArithmeticException tw_114 (by decide +kernel) rfl (by first | exact hXU h7 (by omega) | exact hXB y m d n h7 h0 hy hm hd hn (by omega) b1 | exact hXn y m d n h7 h0 hy hm hd hn b1 (by omega) t b3 b4 | exact hXq y m d n h7 h0 hy hm hd hn b1 (by omega) T D b3 b4 | (exfalso; omega))
    · refine v_if_ne 46 dX6_plus_33 (fun h_33 => ?_) (fun h_33 => ?_)
      · exact v_vret dX6_plus_46 rfl (by first | exact hQm y m d n h7 h0 hy hm hd hn b1 (by omega) t b3 b4 | exact hQp y m d n h7 h0 hy hm hd hn b1 (by omega) y' m' d' T D hy' hm' hd' b3 b4 | (exfalso; omega))
      · exact v_throwS (E := "java/lang/ArithmeticException") (sk := 7) dX6_plus_36 dX6_plus_39 dX6_plus_40 dX6_plus_42 dX6_plus_45 rfl kc_X6_110 kz_java_lang_ArithmeticException tw_114 (by decide +kernel) rfl (by first | exact hXU h7 (by omega) | exact hXB y m d n h7 h0 hy hm hd hn (by omega) b1 | exact hXn y m d n h7 h0 hy hm hd hn b1 (by omega) t b3 b4 | exact hXq y m d n h7 h0 hy hm hd hn b1 (by omega) T D b3 b4 | (exfalso; omega))
    · refine v_if_ne 46 dX6_plus_33 (fun h_33 => ?_) (fun h_33 => ?_)
      · exact v_vret dX6_plus_46 rfl (by first | exact hQm y m d n h7 h0 hy hm hd hn b1 (by omega) t b3 b4 | exact hQp y m d n h7 h0 hy hm hd hn b1 (by omega) y' m' d' T D hy' hm' hd' b3 b4 | (exfalso; omega))
      · exact v_throwS (E := "java/lang/ArithmeticException") (sk := 7) dX6_plus_36 dX6_plus_39 dX6_plus_40 dX6_plus_42 dX6_plus_45 rfl kc_X6_110 kz_java_lang_ArithmeticException tw_114 (by decide +kernel) rfl (by first | exact hXU h7 (by omega) | exact hXB y m d n h7 h0 hy hm hd hn (by omega) b1 | exact hXn y m d n h7 h0 hy hm hd hn b1 (by omega) t b3 b4 | exact hXq y m d n h7 h0 hy hm hd hn b1 (by omega) T D b3 b4 | (exfalso; omega))
    · refine v_if_ne 46 dX6_plus_33 (fun h_33 => ?_) (fun h_33 => ?_)
      · exact v_vret dX6_plus_46 rfl (by first | exact hQm y m d n h7 h0 hy hm hd hn b1 (by omega) t b3 b4 | exact hQp y m d n h7 h0 hy hm hd hn b1 (by omega) y' m' d' T D hy' hm' hd' b3 b4 | (exfalso; omega))
      · exact v_throwS (E := "java/lang/ArithmeticException") (sk := 7) dX6_plus_36 dX6_plus_39 dX6_plus_40 dX6_plus_42 dX6_plus_45 rfl kc_X6_110 kz_java_lang_ArithmeticException tw_114 (by decide +kernel) rfl (by first | exact hXU h7 (by omega) | exact hXB y m d n h7 h0 hy hm hd hn (by omega) b1 | exact hXn y m d n h7 h0 hy hm hd hn b1 (by omega) t b3 b4 | exact hXq y m d n h7 h0 hy hm hd hn b1 (by omega) T D b3 b4 | (exfalso; omega))
  · exact v_throwS (E := "java/lang/UnsupportedOperationException") (sk := 6) dX6_plus_15 dX6_plus_18 dX6_plus_19 dX6_plus_21 dX6_plus_24 rfl kc_X6_74 kz_java_lang_UnsupportedOperationException tw_78 (by decide +kernel) rfl (by first | exact hXU h7 (by omega) | exact hXB y m d n h7 h0 hy hm hd hn (by omega) b1 | exact hXn y m d n h7 h0 hy hm hd hn b1 (by omega) t b3 b4 | exact hXq y m d n h7 h0 hy hm hd hn b1 (by omega) T D b3 b4 | (exfalso; omega))
set_option maxRecDepth 100000 in
set_option maxHeartbeats 4000000 in
theorem s_X6_until {l : Launch} {G : GG} {w : AH} {Q : Option Value → AH → Prop} {X : String → AH → Prop} (hst : l.stackTraces = false) {x sl zn li pg : Nat} {sa : Nat → Nat} {i : Int} (hx : w x = some (tdC sl zn li pg)) (hsl : w sl = some (arA G 4 8 (fun k => some (sa k)))) (hS : ∀ k : Nat, k < 8 → SV w (sa k)) (hi : -2147483648 ≤ i ∧ i ≤ 2147483647) (hXI : (i < 0 ∨ 7 < i) → X "java/lang/IndexOutOfBoundsException" w) {j : Int} (hj : -2147483648 ≤ j ∧ j ≤ 2147483647) (hXJ : (0 ≤ i ∧ i ≤ 7) → (j < 0 ∨ 7 < j) → X "java/lang/IndexOutOfBoundsException" w) {u : Int} (hu : -2147483648 ≤ u ∧ u ≤ 2147483647) (hXU : (0 ≤ i ∧ i ≤ 7) → (0 ≤ j ∧ j ≤ 7) → ¬ (0 ≤ u ∧ u ≤ 13) → X "java/lang/UnsupportedOperationException" w) (hQm : ∀ y m d n : Int, (0 ≤ i ∧ i ≤ 7) → w (sa i.toNat) = some (stC y m d n) → (-9999 ≤ y ∧ y ≤ 9999) → (1 ≤ m ∧ m ≤ 12) → (1 ≤ d ∧ d ≤ lenM y m) → (0 ≤ n ∧ n ≤ 86399999999999) → ∀ y' m' d' n' : Int, (0 ≤ j ∧ j ≤ 7) → w (sa j.toNat) = some (stC y' m' d' n') → (-9999 ≤ y' ∧ y' ≤ 9999) → (1 ≤ m' ∧ m' ≤ 12) → (1 ≤ d' ∧ d' ≤ lenM y' m') → (0 ≤ n' ∧ n' ≤ 86399999999999) →  (9 ≤ u ∧ u ≤ 13) → ∀ M r : Int, monE (y * 12 + m - 1) d n (y' * 12 + m' - 1) d' n' M → tq M (mOU u) r → Q (some (.long (lI r))) w) (hQw : ∀ y m d n : Int, (0 ≤ i ∧ i ≤ 7) → w (sa i.toNat) = some (stC y m d n) → (-9999 ≤ y ∧ y ≤ 9999) → (1 ≤ m ∧ m ≤ 12) → (1 ≤ d ∧ d ≤ lenM y m) → (0 ≤ n ∧ n ≤ 86399999999999) → ∀ y' m' d' n' : Int, (0 ≤ j ∧ j ≤ 7) → w (sa j.toNat) = some (stC y' m' d' n') → (-9999 ≤ y' ∧ y' ≤ 9999) → (1 ≤ m' ∧ m' ≤ 12) → (1 ≤ d' ∧ d' ≤ lenM y' m') → (0 ≤ n' ∧ n' ≤ 86399999999999) →  u = 8 → ∀ D r : Int, dayE (ed y m d) n (ed y' m' d') n' D → tq D 7 r → Q (some (.long (lI r))) w) (hXF : ∀ y m d n : Int, (0 ≤ i ∧ i ≤ 7) → w (sa i.toNat) = some (stC y m d n) → (-9999 ≤ y ∧ y ≤ 9999) → (1 ≤ m ∧ m ≤ 12) → (1 ≤ d ∧ d ≤ lenM y m) → (0 ≤ n ∧ n ≤ 86399999999999) → ∀ y' m' d' n' : Int, (0 ≤ j ∧ j ≤ 7) → w (sa j.toNat) = some (stC y' m' d' n') → (-9999 ≤ y' ∧ y' ≤ 9999) → (1 ≤ m' ∧ m' ≤ 12) → (1 ≤ d' ∧ d' ≤ lenM y' m') → (0 ≤ n' ∧ n' ≤ 86399999999999) →  u = 0 → ∀ D R : Int, dayE (ed y m d) n (ed y' m' d') n' D → rstE (ed y m d) n (ed y' m' d') n' R → ¬ (-9223372036854775808 ≤ D * 86400000000000 + R ∧ D * 86400000000000 + R ≤ 9223372036854775807) → X "java/lang/ArithmeticException" w) (hQp : ∀ y m d n : Int, (0 ≤ i ∧ i ≤ 7) → w (sa i.toNat) = some (stC y m d n) → (-9999 ≤ y ∧ y ≤ 9999) → (1 ≤ m ∧ m ≤ 12) → (1 ≤ d ∧ d ≤ lenM y m) → (0 ≤ n ∧ n ≤ 86399999999999) → ∀ y' m' d' n' : Int, (0 ≤ j ∧ j ≤ 7) → w (sa j.toNat) = some (stC y' m' d' n') → (-9999 ≤ y' ∧ y' ≤ 9999) → (1 ≤ m' ∧ m' ≤ 12) → (1 ≤ d' ∧ d' ≤ lenM y' m') → (0 ≤ n' ∧ n' ≤ 86399999999999) →  (0 ≤ u ∧ u ≤ 7) → ∀ D R r : Int, dayE (ed y m d) n (ed y' m' d') n' D → rstE (ed y m d) n (ed y' m' d') n' R → (u = 0 → -9223372036854775808 ≤ D * 86400000000000 + R ∧ D * 86400000000000 + R ≤ 9223372036854775807) → tq R (uSZ u) r → Q (some (.long (lI (D * uPD u + r)))) w) : Ct l G mX6_until rX6_until [(.ref x), .int (iI i), .int (iI j), .int (iI u)] w Q X := by
  refine ct_of hst mk_X6_until (Nat.le_of_ble_eq_true rfl) ?_
  refine v_aload_n dX6_until_0 rfl ?_
  refine v_iload_n dX6_until_1 rfl ?_
  refine v_V1 (rm' := rX6_slotAt) (RX6, TX6, 4) dX6_until_2 km_X6_39 kn_X6_slotAt kv_X6_slotAt kz_X6 mk_X6_slotAt rfl rfl (by first | exact hx | exact hsl | exact h0 | exact h1) ⟨Nat.le_of_ble_eq_true rfl, Nat.le_of_ble_eq_true rfl⟩ ⟨Nat.le_of_ble_eq_true rfl, Nat.le_of_ble_eq_true rfl⟩ (Nat.le_of_ble_eq_true rfl) ?_
  refine s_X6_slotAt hst hx hsl hi (fun h9 => vx_leave rfl (hXI h9)) (fun h7 => ?_)
  obtain ⟨y, m, d, n, h0, hy, hm, hd, hn⟩ := hS i.toNat (by omega)
  have hlen := lenM_rng y m
  have hed := ed_rng hy hm hd
  refine v_astore dX6_until_5 (by decide) ?_
  refine v_aload_n dX6_until_7 rfl ?_
  refine v_iload_n dX6_until_8 rfl ?_
  refine v_V1 (rm' := rX6_slotAt) (RX6, TX6, 4) dX6_until_9 km_X6_39 kn_X6_slotAt kv_X6_slotAt kz_X6 mk_X6_slotAt rfl rfl (by first | exact hx | exact hsl | exact h0 | exact h1) ⟨Nat.le_of_ble_eq_true rfl, Nat.le_of_ble_eq_true rfl⟩ ⟨Nat.le_of_ble_eq_true rfl, Nat.le_of_ble_eq_true rfl⟩ (Nat.le_of_ble_eq_true rfl) ?_
  refine s_X6_slotAt hst hx hsl hj (fun h9 => vx_leave rfl (hXJ h7 h9)) (fun h8 => ?_)
  obtain ⟨y', m', d', n', h1, hy', hm', hd', hn'⟩ := hS j.toNat (by omega)
  have hlen' := lenM_rng y' m'
  have hed' := ed_rng hy' hm' hd'
  refine v_astore dX6_until_12 (by decide) ?_
  refine v_iload_n dX6_until_14 rfl ?_
  refine v_S1 (rm' := rX6_isUnit) dX6_until_15 km_X6_101 ks_X6_isUnit kz_X6 mk_X6_isUnit rfl ⟨Nat.le_of_ble_eq_true rfl, Nat.le_of_ble_eq_true rfl⟩ ⟨Nat.le_of_ble_eq_true rfl, Nat.le_of_ble_eq_true rfl⟩ (Nat.le_of_ble_eq_true rfl) ?_
  refine s_X6_isUnit hst (by omega) (fun r_X6_isUnit e_X6_isUnit => ?_)
  refine v_if_ne 31 dX6_until_18 (fun h_18 => ?_) (fun h_18 => ?_)
  · refine v_iload_n dX6_until_31 rfl ?_
    refine v_bipush dX6_until_32 ?_
    refine v_icmp_le 62 dX6_until_34 (fun h_34 => ?_) (fun h_34 => ?_)
    · refine v_aload dX6_until_62 rfl ?_
      refine v_aload dX6_until_64 rfl ?_
      refine v_V1 (rm' := rX4_wholeDaysUntil) (RX4, TX4, 4) dX6_until_66 km_X6_130 kn_X4_wholeDaysUntil kv_X4_wholeDaysUntil kz_X4 mk_X4_wholeDaysUntil rfl rfl (by first | exact hx | exact hsl | exact h0 | exact h1) ⟨Nat.le_of_ble_eq_true rfl, Nat.le_of_ble_eq_true rfl⟩ ⟨Nat.le_of_ble_eq_true rfl, Nat.le_of_ble_eq_true rfl⟩ (Nat.le_of_ble_eq_true rfl) ?_
      refine s_X4_wholeDaysUntil hst h0 hy hm hd hn h1 hy' hm' hd' hn' (fun rD eD => ?_)
      have hDr : -8000000 ≤ rD ∧ rD ≤ 8000000 := (by unfold dayE at eD; omega)
      refine v_lstore dX6_until_69 (by decide) ?_
      refine v_iload_n dX6_until_71 rfl ?_
      refine v_bipush dX6_until_72 ?_
      refine v_icmp_ne 84 dX6_until_74 (fun h_74 => ?_) (fun h_74 => ?_)
      · refine v_aload dX6_until_84 rfl ?_
        refine v_aload dX6_until_86 rfl ?_
        refine v_V1 (rm' := rX4_restUntil) (RX4, TX4, 4) dX6_until_88 km_X6_136 kn_X4_restUntil kv_X4_restUntil kz_X4 mk_X4_restUntil rfl rfl (by first | exact hx | exact hsl | exact h0 | exact h1) ⟨Nat.le_of_ble_eq_true rfl, Nat.le_of_ble_eq_true rfl⟩ ⟨Nat.le_of_ble_eq_true rfl, Nat.le_of_ble_eq_true rfl⟩ (Nat.le_of_ble_eq_true rfl) ?_
        refine s_X4_restUntil hst h0 hy hm hd hn h1 hy' hm' hd' hn' (fun rR eR => ?_)
        have hRr : -86400000000000 ≤ rR ∧ rR ≤ 86400000000000 := (by unfold rstE at eR; omega)
        have hsg : (0 < rD → 0 ≤ rR) ∧ (rD < 0 → rR ≤ 0) := (by unfold rstE at eR; unfold dayE at eD; omega)
        refine v_lstore dX6_until_91 (by decide) ?_
        refine v_iload_n dX6_until_93 rfl ?_
        refine v_if_ne 117 dX6_until_94 (fun h_94 => ?_) (fun h_94 => ?_)
        · refine v_iload_n dX6_until_117 rfl ?_
          refine v_S1 (rm' := rX6_unitsPerDay) dX6_until_118 km_X6_145 ks_X6_unitsPerDay kz_X6 mk_X6_unitsPerDay rfl ⟨Nat.le_of_ble_eq_true rfl, Nat.le_of_ble_eq_true rfl⟩ ⟨Nat.le_of_ble_eq_true rfl, Nat.le_of_ble_eq_true rfl⟩ (Nat.le_of_ble_eq_true rfl) ?_
          refine s_X6_unitsPerDay hst (by omega) ?_
          have hup := uPD_c (u := u) (by omega)
          have hmul : -8000000 * 86400000000000 ≤ rD * uPD u ∧ rD * uPD u ≤ 8000000 * 86400000000000 := (by rcases hup with ⟨-, e, -⟩ | ⟨-, e, -⟩ | ⟨-, e, -⟩ | ⟨-, e, -⟩ | ⟨-, e, -⟩ | ⟨-, e, -⟩ | ⟨-, e, -⟩ | ⟨-, e, -⟩ <;> rw [e] <;> omega)
          refine v_lstore dX6_until_121 (by decide) ?_
          refine v_lload dX6_until_123 rfl ?_
          refine v_lload dX6_until_125 rfl ?_
          refine v_lmul dX6_until_127 ?_
          refine v_lload dX6_until_128 rfl ?_
          refine v_ldc2 (86400000000000) dX6_until_130 kl_X6_148 ?_
          refine v_lload dX6_until_133 rfl ?_
          refine v_S2 (rm' := rX6_wholeUnits) dX6_until_135 km_X6_126 ks_X6_wholeUnits kz_X6 mk_X6_wholeUnits rfl ⟨Nat.le_of_ble_eq_true rfl, Nat.le_of_ble_eq_true rfl⟩ ⟨Nat.le_of_ble_eq_true rfl, Nat.le_of_ble_eq_true rfl⟩ (Nat.le_of_ble_eq_true rfl) ?_
          refine s_X6_wholeUnits hst (by omega) (by omega) (fun rs es => ?_)
          have es9 : uSZ u = rs := (by unfold tq at es; rcases hup with ⟨-, e1, e2⟩ | ⟨-, e1, e2⟩ | ⟨-, e1, e2⟩ | ⟨-, e1, e2⟩ | ⟨-, e1, e2⟩ | ⟨-, e1, e2⟩ | ⟨-, e1, e2⟩ | ⟨-, e1, e2⟩ <;> rw [e1] at es <;> omega)
          refine v_S2 (rm' := rX6_wholeUnits) dX6_until_138 km_X6_126 ks_X6_wholeUnits kz_X6 mk_X6_wholeUnits rfl ⟨Nat.le_of_ble_eq_true rfl, Nat.le_of_ble_eq_true rfl⟩ ⟨Nat.le_of_ble_eq_true rfl, Nat.le_of_ble_eq_true rfl⟩ (Nat.le_of_ble_eq_true rfl) ?_
          refine s_X6_wholeUnits hst (by omega) (by omega) (fun rq2 eq2 => ?_)
          refine v_ladd dX6_until_141 ?_
          exact v_lret dX6_until_142 rfl (by first | exact hQm y m d n h7 h0 hy hm hd hn y' m' d' n' h8 h1 hy' hm' hd' hn' (by omega) rM rq eM eq9 | exact hQw y m d n h7 h0 hy hm hd hn y' m' d' n' h8 h1 hy' hm' hd' hn' (by omega) rD r_82 eD e_82 | exact hQp y m d n h7 h0 hy hm hd hn y' m' d' n' h8 h1 hy' hm' hd' hn' (by omega) rD rR rq2 eD eR (by omega) (by rw [es9]; exact eq2) | (exfalso; omega))
        · refine v_lload dX6_until_97 rfl ?_
          refine v_lload dX6_until_99 rfl ?_
          refine v_S2 (rm' := rX6_isLongOfNanos) dX6_until_101 km_X6_139 ks_X6_isLongOfNanos kz_X6 mk_X6_isLongOfNanos rfl ⟨Nat.le_of_ble_eq_true rfl, Nat.le_of_ble_eq_true rfl⟩ ⟨Nat.le_of_ble_eq_true rfl, Nat.le_of_ble_eq_true rfl⟩ (Nat.le_of_ble_eq_true rfl) ?_
          refine s_X6_isLongOfNanos hst (by omega) (by omega) hsg (fun rL eL => ?_)
          refine v_if_ne 117 dX6_until_104 (fun h_104 => ?_) (fun h_104 => ?_)
          · refine v_iload_n dX6_until_117 rfl ?_
            refine v_S1 (rm' := rX6_unitsPerDay) dX6_until_118 km_X6_145 ks_X6_unitsPerDay kz_X6 mk_X6_unitsPerDay rfl ⟨Nat.le_of_ble_eq_true rfl, Nat.le_of_ble_eq_true rfl⟩ ⟨Nat.le_of_ble_eq_true rfl, Nat.le_of_ble_eq_true rfl⟩ (Nat.le_of_ble_eq_true rfl) ?_
            refine s_X6_unitsPerDay hst (by omega) ?_
            have hup := uPD_c (u := u) (by omega)
            have hmul : -8000000 * 86400000000000 ≤ rD * uPD u ∧ rD * uPD u ≤ 8000000 * 86400000000000 := (by rcases hup with ⟨-, e, -⟩ | ⟨-, e, -⟩ | ⟨-, e, -⟩ | ⟨-, e, -⟩ | ⟨-, e, -⟩ | ⟨-, e, -⟩ | ⟨-, e, -⟩ | ⟨-, e, -⟩ <;> rw [e] <;> omega)
            refine v_lstore dX6_until_121 (by decide) ?_
            refine v_lload dX6_until_123 rfl ?_
            refine v_lload dX6_until_125 rfl ?_
            refine v_lmul dX6_until_127 ?_
            refine v_lload dX6_until_128 rfl ?_
            refine v_ldc2 (86400000000000) dX6_until_130 kl_X6_148 ?_
            refine v_lload dX6_until_133 rfl ?_
            refine v_S2 (rm' := rX6_wholeUnits) dX6_until_135 km_X6_126 ks_X6_wholeUnits kz_X6 mk_X6_wholeUnits rfl ⟨Nat.le_of_ble_eq_true rfl, Nat.le_of_ble_eq_true rfl⟩ ⟨Nat.le_of_ble_eq_true rfl, Nat.le_of_ble_eq_true rfl⟩ (Nat.le_of_ble_eq_true rfl) ?_
            refine s_X6_wholeUnits hst (by omega) (by omega) (fun rs es => ?_)
            have es9 : uSZ u = rs := (by unfold tq at es; rcases hup with ⟨-, e1, e2⟩ | ⟨-, e1, e2⟩ | ⟨-, e1, e2⟩ | ⟨-, e1, e2⟩ | ⟨-, e1, e2⟩ | ⟨-, e1, e2⟩ | ⟨-, e1, e2⟩ | ⟨-, e1, e2⟩ <;> rw [e1] at es <;> omega)
            refine v_S2 (rm' := rX6_wholeUnits) dX6_until_138 km_X6_126 ks_X6_wholeUnits kz_X6 mk_X6_wholeUnits rfl ⟨Nat.le_of_ble_eq_true rfl, Nat.le_of_ble_eq_true rfl⟩ ⟨Nat.le_of_ble_eq_true rfl, Nat.le_of_ble_eq_true rfl⟩ (Nat.le_of_ble_eq_true rfl) ?_
            refine s_X6_wholeUnits hst (by omega) (by omega) (fun rq2 eq2 => ?_)
            refine v_ladd dX6_until_141 ?_
            exact v_lret dX6_until_142 rfl (by first | exact hQm y m d n h7 h0 hy hm hd hn y' m' d' n' h8 h1 hy' hm' hd' hn' (by omega) rM rq eM eq9 | exact hQw y m d n h7 h0 hy hm hd hn y' m' d' n' h8 h1 hy' hm' hd' hn' (by omega) rD r_82 eD e_82 | exact hQp y m d n h7 h0 hy hm hd hn y' m' d' n' h8 h1 hy' hm' hd' hn' (by omega) rD rR rq2 eD eR (by omega) (by rw [es9]; exact eq2) | (exfalso; omega))
          · exact v_throwS (E := "java/lang/ArithmeticException") (sk := 8) dX6_until_107 dX6_until_110 dX6_until_111 dX6_until_113 dX6_until_116 rfl kc_X6_110 kz_java_lang_ArithmeticException tw_114 (by decide +kernel) rfl (by first | exact hXU h7 h8 (by omega) | exact hXF y m d n h7 h0 hy hm hd hn y' m' d' n' h8 h1 hy' hm' hd' hn' (by omega) rD rR eD eR (by omega) | (exfalso; omega))
      · refine v_lload dX6_until_77 rfl ?_
        refine v_ldc2 (7) dX6_until_79 kl_X6_134 ?_
        refine v_ldivK dX6_until_82 (fun r_82 e_82 => ?_)
        exact v_lret dX6_until_83 rfl (by first | exact hQm y m d n h7 h0 hy hm hd hn y' m' d' n' h8 h1 hy' hm' hd' hn' (by omega) rM rq eM eq9 | exact hQw y m d n h7 h0 hy hm hd hn y' m' d' n' h8 h1 hy' hm' hd' hn' (by omega) rD r_82 eD e_82 | exact hQp y m d n h7 h0 hy hm hd hn y' m' d' n' h8 h1 hy' hm' hd' hn' (by omega) rD rR rq2 eD eR (by omega) (by rw [es9]; exact eq2) | (exfalso; omega))
    · refine v_aload dX6_until_37 rfl ?_
      refine v_aload dX6_until_39 rfl ?_
      refine v_aload dX6_until_41 rfl ?_
      refine v_getN dX6_until_43 f_X6_115 (by first | exact hx | exact hsl | exact h0 | exact h1) rfl ?_
      refine v_aload dX6_until_46 rfl ?_
      refine v_getN dX6_until_48 f_X6_115 (by first | exact hx | exact hsl | exact h0 | exact h1) rfl ?_
      refine v_V3 (rm' := rX4_monthsUntil) (RX4, TX4, 4) dX6_until_51 km_X6_119 kn_X4_monthsUntil kv_X4_monthsUntil kz_X4 mk_X4_monthsUntil rfl rfl (by first | exact hx | exact hsl | exact h0 | exact h1) ⟨Nat.le_of_ble_eq_true rfl, Nat.le_of_ble_eq_true rfl⟩ ⟨Nat.le_of_ble_eq_true rfl, Nat.le_of_ble_eq_true rfl⟩ (Nat.le_of_ble_eq_true rfl) ?_
      refine s_X4_monthsUntil hst h0 hy hm hd hn h1 hy' hm' hd' hn' (by omega) (by omega) (fun rM eM => ?_)
      have hMr : -400000 ≤ rM ∧ rM ≤ 400000 := (by unfold monE at eM; omega)
      refine v_iload_n dX6_until_54 rfl ?_
      refine v_S1 (rm' := rX6_monthsOfUnit) dX6_until_55 km_X6_123 ks_X6_monthsOfUnit kz_X6 mk_X6_monthsOfUnit rfl ⟨Nat.le_of_ble_eq_true rfl, Nat.le_of_ble_eq_true rfl⟩ ⟨Nat.le_of_ble_eq_true rfl, Nat.le_of_ble_eq_true rfl⟩ (Nat.le_of_ble_eq_true rfl) ?_
      refine s_X6_monthsOfUnit hst (by omega) ?_
      have hmu := mOU_c (u := u) (by omega)
      refine v_S2 (rm' := rX6_wholeUnits) dX6_until_58 km_X6_126 ks_X6_wholeUnits kz_X6 mk_X6_wholeUnits rfl ⟨Nat.le_of_ble_eq_true rfl, Nat.le_of_ble_eq_true rfl⟩ ⟨Nat.le_of_ble_eq_true rfl, Nat.le_of_ble_eq_true rfl⟩ (Nat.le_of_ble_eq_true rfl) ?_
      refine s_X6_wholeUnits hst (by omega) (by omega) (fun rq eq9 => ?_)
      exact v_lret dX6_until_61 rfl (by first | exact hQm y m d n h7 h0 hy hm hd hn y' m' d' n' h8 h1 hy' hm' hd' hn' (by omega) rM rq eM eq9 | exact hQw y m d n h7 h0 hy hm hd hn y' m' d' n' h8 h1 hy' hm' hd' hn' (by omega) rD r_82 eD e_82 | exact hQp y m d n h7 h0 hy hm hd hn y' m' d' n' h8 h1 hy' hm' hd' hn' (by omega) rD rR rq2 eD eR (by omega) (by rw [es9]; exact eq2) | (exfalso; omega))
  · exact v_throwS (E := "java/lang/UnsupportedOperationException") (sk := 6) dX6_until_21 dX6_until_24 dX6_until_25 dX6_until_27 dX6_until_30 rfl kc_X6_74 kz_java_lang_UnsupportedOperationException tw_78 (by decide +kernel) rfl (by first | exact hXU h7 h8 (by omega) | exact hXF y m d n h7 h0 hy hm hd hn y' m' d' n' h8 h1 hy' hm' hd' hn' (by omega) rD rR eD eR (by omega) | (exfalso; omega))
set_option maxRecDepth 100000 in
set_option maxHeartbeats 4000000 in
theorem s_X6_span {l : Launch} {G : GG} {w : AH} {Q : Option Value → AH → Prop} {X : String → AH → Prop} (hst : l.stackTraces = false) {x sl zn li pg : Nat} {sa : Nat → Nat} {i : Int} (hx : w x = some (tdC sl zn li pg)) (hsl : w sl = some (arA G 4 8 (fun k => some (sa k)))) (hS : ∀ k : Nat, k < 8 → SV w (sa k)) (hi : -2147483648 ≤ i ∧ i ≤ 2147483647) (hXI : (i < 0 ∨ 7 < i) → X "java/lang/IndexOutOfBoundsException" w) {j : Int} (hj : -2147483648 ≤ j ∧ j ≤ 2147483647) (hXJ : (0 ≤ i ∧ i ≤ 7) → (j < 0 ∨ 7 < j) → X "java/lang/IndexOutOfBoundsException" w) {u : Int} (hu : -2147483648 ≤ u ∧ u ≤ 2147483647) (hXU : (0 ≤ i ∧ i ≤ 7) → (0 ≤ j ∧ j ≤ 7) → ¬ (0 ≤ u ∧ u ≤ 2) → X "java/lang/UnsupportedOperationException" w) (hQm : ∀ y m d n : Int, (0 ≤ i ∧ i ≤ 7) → w (sa i.toNat) = some (stC y m d n) → (-9999 ≤ y ∧ y ≤ 9999) → (1 ≤ m ∧ m ≤ 12) → (1 ≤ d ∧ d ≤ lenM y m) → (0 ≤ n ∧ n ≤ 86399999999999) → ∀ y' m' d' n' : Int, (0 ≤ j ∧ j ≤ 7) → w (sa j.toNat) = some (stC y' m' d' n') → (-9999 ≤ y' ∧ y' ≤ 9999) → (1 ≤ m' ∧ m' ≤ 12) → (1 ≤ d' ∧ d' ≤ lenM y' m') → (0 ≤ n' ∧ n' ≤ 86399999999999) →  (0 ≤ u ∧ u ≤ 1) → ∀ M r : Int, monE (y * 12 + m - 1) d 0 (y' * 12 + m' - 1) d' 0 M → ((u = 0 ∧ tq M 12 r) ∨ (u = 1 ∧ ((0 ≤ M ∧ r = M % 12) ∨ (M < 0 ∧ r = -((-M) % 12))))) → Q (some (.int (iI r))) w) (hQd : ∀ y m d n : Int, (0 ≤ i ∧ i ≤ 7) → w (sa i.toNat) = some (stC y m d n) → (-9999 ≤ y ∧ y ≤ 9999) → (1 ≤ m ∧ m ≤ 12) → (1 ≤ d ∧ d ≤ lenM y m) → (0 ≤ n ∧ n ≤ 86399999999999) → ∀ y' m' d' n' : Int, (0 ≤ j ∧ j ≤ 7) → w (sa j.toNat) = some (stC y' m' d' n') → (-9999 ≤ y' ∧ y' ≤ 9999) → (1 ≤ m' ∧ m' ≤ 12) → (1 ≤ d' ∧ d' ≤ lenM y' m') → (0 ≤ n' ∧ n' ≤ 86399999999999) →  u = 2 → ∀ M : Int, monE (y * 12 + m - 1) d 0 (y' * 12 + m' - 1) d' 0 M → Q (some (.int (iI (ed y' m' d' - monT (y * 12 + m - 1 + M) d)))) w) : Ct l G mX6_span rX6_span [(.ref x), .int (iI i), .int (iI j), .int (iI u)] w Q X := by
  refine ct_of hst mk_X6_span (Nat.le_of_ble_eq_true rfl) ?_
  refine v_aload_n dX6_span_0 rfl ?_
  refine v_iload_n dX6_span_1 rfl ?_
  refine v_V1 (rm' := rX6_slotAt) (RX6, TX6, 4) dX6_span_2 km_X6_39 kn_X6_slotAt kv_X6_slotAt kz_X6 mk_X6_slotAt rfl rfl (by first | exact hx | exact hsl | exact h0 | exact h1) ⟨Nat.le_of_ble_eq_true rfl, Nat.le_of_ble_eq_true rfl⟩ ⟨Nat.le_of_ble_eq_true rfl, Nat.le_of_ble_eq_true rfl⟩ (Nat.le_of_ble_eq_true rfl) ?_
  refine s_X6_slotAt hst hx hsl hi (fun h9 => vx_leave rfl (hXI h9)) (fun h7 => ?_)
  obtain ⟨y, m, d, n, h0, hy, hm, hd, hn⟩ := hS i.toNat (by omega)
  have hlen := lenM_rng y m
  have hed := ed_rng hy hm hd
  refine v_astore dX6_span_5 (by decide) ?_
  refine v_aload_n dX6_span_7 rfl ?_
  refine v_iload_n dX6_span_8 rfl ?_
  refine v_V1 (rm' := rX6_slotAt) (RX6, TX6, 4) dX6_span_9 km_X6_39 kn_X6_slotAt kv_X6_slotAt kz_X6 mk_X6_slotAt rfl rfl (by first | exact hx | exact hsl | exact h0 | exact h1) ⟨Nat.le_of_ble_eq_true rfl, Nat.le_of_ble_eq_true rfl⟩ ⟨Nat.le_of_ble_eq_true rfl, Nat.le_of_ble_eq_true rfl⟩ (Nat.le_of_ble_eq_true rfl) ?_
  refine s_X6_slotAt hst hx hsl hj (fun h9 => vx_leave rfl (hXJ h7 h9)) (fun h8 => ?_)
  obtain ⟨y', m', d', n', h1, hy', hm', hd', hn'⟩ := hS j.toNat (by omega)
  have hlen' := lenM_rng y' m'
  have hed' := ed_rng hy' hm' hd'
  refine v_astore dX6_span_12 (by decide) ?_
  refine v_iload_n dX6_span_14 rfl ?_
  refine v_if_lt 23 dX6_span_15 (fun h_15 => ?_) (fun h_15 => ?_)
  · exact v_throwS (E := "java/lang/UnsupportedOperationException") (sk := 9) dX6_span_23 dX6_span_26 dX6_span_27 dX6_span_29 dX6_span_32 rfl kc_X6_74 kz_java_lang_UnsupportedOperationException tw_78 (by decide +kernel) rfl (by first | exact hXU h7 h8 (by omega) | (exfalso; omega))
  · refine v_iload_n dX6_span_18 rfl ?_
    refine v_iconst dX6_span_19 ?_
    refine v_icmp_le 33 dX6_span_20 (fun h_20 => ?_) (fun h_20 => ?_)
    · refine v_aload dX6_span_33 rfl ?_
      refine v_aload dX6_span_35 rfl ?_
      refine v_lconst0 dX6_span_37 ?_
      refine v_lconst0 dX6_span_38 ?_
      refine v_V3 (rm' := rX4_monthsUntil) (RX4, TX4, 4) dX6_span_39 km_X6_119 kn_X4_monthsUntil kv_X4_monthsUntil kz_X4 mk_X4_monthsUntil rfl rfl (by first | exact hx | exact hsl | exact h0 | exact h1) ⟨Nat.le_of_ble_eq_true rfl, Nat.le_of_ble_eq_true rfl⟩ ⟨Nat.le_of_ble_eq_true rfl, Nat.le_of_ble_eq_true rfl⟩ (Nat.le_of_ble_eq_true rfl) ?_
      refine s_X4_monthsUntil hst h0 hy hm hd hn h1 hy' hm' hd' hn' (by omega) (by omega) (fun rM eM => ?_)
      have hMr : -400000 ≤ rM ∧ rM ≤ 400000 := (by unfold monE at eM; omega)
      refine v_lstore dX6_span_42 (by decide) ?_
      refine v_iload_n dX6_span_44 rfl ?_
      refine v_if_ne 56 dX6_span_45 (fun h_45 => ?_) (fun h_45 => ?_)
      · refine v_iload_n dX6_span_56 rfl ?_
        refine v_iconst dX6_span_57 ?_
        refine v_icmp_ne 69 dX6_span_58 (fun h_58 => ?_) (fun h_58 => ?_)
        · refine v_aload dX6_span_69 rfl ?_
          refine v_V0 (rm' := rX4_epochDay) (RX4, TX4, 4) dX6_span_71 km_X6_154 kn_X4_epochDay kv_X4_epochDay kz_X4 mk_X4_epochDay rfl rfl (by first | exact hx | exact hsl | exact h0 | exact h1) ⟨Nat.le_of_ble_eq_true rfl, Nat.le_of_ble_eq_true rfl⟩ ⟨Nat.le_of_ble_eq_true rfl, Nat.le_of_ble_eq_true rfl⟩ (Nat.le_of_ble_eq_true rfl) ?_
          refine s_X4_epochDay hst h1 hy' hm' hd' hn' ?_
          refine v_aload dX6_span_74 rfl ?_
          refine v_V0 (rm' := rX4_monthNumber) (RX4, TX4, 4) dX6_span_76 km_X6_158 kn_X4_monthNumber kv_X4_monthNumber kz_X4 mk_X4_monthNumber rfl rfl (by first | exact hx | exact hsl | exact h0 | exact h1) ⟨Nat.le_of_ble_eq_true rfl, Nat.le_of_ble_eq_true rfl⟩ ⟨Nat.le_of_ble_eq_true rfl, Nat.le_of_ble_eq_true rfl⟩ (Nat.le_of_ble_eq_true rfl) ?_
          refine s_X4_monthNumber hst h0 hy hm hd hn ?_
          refine v_lload dX6_span_79 rfl ?_
          refine v_ladd dX6_span_81 ?_
          refine v_aload dX6_span_82 rfl ?_
          refine v_getN dX6_span_84 f_X6_161 (by first | exact hx | exact hsl | exact h0 | exact h1) rfl ?_
          refine v_S2 (rm' := rX0_dayInMonth) dX6_span_87 km_X6_165 ks_X0_dayInMonth kz_X0 mk_X0_dayInMonth rfl ⟨Nat.le_of_ble_eq_true rfl, Nat.le_of_ble_eq_true rfl⟩ ⟨Nat.le_of_ble_eq_true rfl, Nat.le_of_ble_eq_true rfl⟩ (Nat.le_of_ble_eq_true rfl) ?_
          refine s_X0_dayInMonth hst ?_
          refine v_lsub dX6_span_90 ?_
          refine v_l2i dX6_span_91 ?_
          exact v_iret dX6_span_92 rfl (by first | exact hQm y m d n h7 h0 hy hm hd hn y' m' d' n' h8 h1 hy' hm' hd' hn' (by omega) rM _ eM (Or.inl ⟨by omega, e_53⟩) | exact hQm y m d n h7 h0 hy hm hd hn y' m' d' n' h8 h1 hy' hm' hd' hn' (by omega) rM _ eM (Or.inr ⟨by omega, e_66⟩) | exact hQd y m d n h7 h0 hy hm hd hn y' m' d' n' h8 h1 hy' hm' hd' hn' (by omega) rM eM | (exfalso; omega))
        · refine v_lload dX6_span_61 rfl ?_
          refine v_ldc2 (12) dX6_span_63 kl_X6_152 ?_
          refine v_lremK dX6_span_66 (fun r_66 e_66 => ?_)
          refine v_l2i dX6_span_67 ?_
          exact v_iret dX6_span_68 rfl (by first | exact hQm y m d n h7 h0 hy hm hd hn y' m' d' n' h8 h1 hy' hm' hd' hn' (by omega) rM _ eM (Or.inl ⟨by omega, e_53⟩) | exact hQm y m d n h7 h0 hy hm hd hn y' m' d' n' h8 h1 hy' hm' hd' hn' (by omega) rM _ eM (Or.inr ⟨by omega, e_66⟩) | exact hQd y m d n h7 h0 hy hm hd hn y' m' d' n' h8 h1 hy' hm' hd' hn' (by omega) rM eM | (exfalso; omega))
      · refine v_lload dX6_span_48 rfl ?_
        refine v_ldc2 (12) dX6_span_50 kl_X6_152 ?_
        refine v_ldivK dX6_span_53 (fun r_53 e_53 => ?_)
        refine v_l2i dX6_span_54 ?_
        exact v_iret dX6_span_55 rfl (by first | exact hQm y m d n h7 h0 hy hm hd hn y' m' d' n' h8 h1 hy' hm' hd' hn' (by omega) rM _ eM (Or.inl ⟨by omega, e_53⟩) | exact hQm y m d n h7 h0 hy hm hd hn y' m' d' n' h8 h1 hy' hm' hd' hn' (by omega) rM _ eM (Or.inr ⟨by omega, e_66⟩) | exact hQd y m d n h7 h0 hy hm hd hn y' m' d' n' h8 h1 hy' hm' hd' hn' (by omega) rM eM | (exfalso; omega))
    · exact v_throwS (E := "java/lang/UnsupportedOperationException") (sk := 9) dX6_span_23 dX6_span_26 dX6_span_27 dX6_span_29 dX6_span_32 rfl kc_X6_74 kz_java_lang_UnsupportedOperationException tw_78 (by decide +kernel) rfl (by first | exact hXU h7 h8 (by omega) | (exfalso; omega))
