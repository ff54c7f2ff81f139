def ruC (mo da wk se of : Int) : va_E := .inr (2, [.int (iI mo), .int (iI da), .int (iI wk), .int (iI se), .int (iI of)])
def zoC (f : Int) (am ao : Nat) (c : Int) (ar : Nat) (r : Int) : va_E := .inr (4, [.int (iI f), .ref am, .ref ao, .int (iI c), .ref ar, .int (iI r)])
def rday (mo da wk y : Int) : Int := if da = -1 then ed y mo (lenM y mo) - (wd (ed y mo (lenM y mo)) - wk) % 7 else ed y mo da + (wk - wd (ed y mo da)) % 7
def rMom (mo da wk se y : Int) : Int := rday mo da wk y * 86400 + se
theorem rday_c (mo da wk y : Int) : (da = -1 ∧ rday mo da wk y = ed y mo (lenM y mo) - (wd (ed y mo (lenM y mo)) - wk) % 7) ∨ (da ≠ -1 ∧ rday mo da wk y = ed y mo da + (wk - wd (ed y mo da)) % 7) := by
  unfold rday
  split
  · left; constructor <;> first | assumption | rfl
  · right; constructor <;> first | assumption | rfl
theorem ne_of {w : AH} {a b : Nat} {x y : va_E} (ha : w a = some x) (hb : w b = some y) (h : x ≠ y) : a ≠ b := by
  intro e
  subst e
  exact h (Option.some.inj (ha.symm.trans hb))
theorem zoal {G : GG} {f c r : Int} {am ao ar n : Nat} {g : Nat → Int} : zoC f am ao c ar r ≠ alA G n g := by
  intro h
  unfold zoC alA at h
  exact nomatch h
theorem zoai {G : GG} {f c r : Int} {am ao ar n : Nat} {g : Nat → Int} : zoC f am ao c ar r ≠ aiA G n g := by
  intro h
  unfold zoC aiA at h
  exact nomatch h
theorem ruzo {f c r mo da wk se of : Int} {am ao ar : Nat} : ruC mo da wk se of ≠ zoC f am ao c ar r := by
  intro h
  unfold zoC ruC at h
  cases h
theorem alai {G : GG} {n m : Nat} {f g : Nat → Int} : alA G n f ≠ aiA G m g := by
  intro h
  unfold alA aiA at h
  have h2 := congrArg (fun x : va_E => match x with | .inl q => q.2.2 | .inr _ => .inl (fun _ => 0)) h
  cases h2
set_option maxRecDepth 100000 in
set_option maxHeartbeats 4000000 in
theorem s_X3_init {l : Launch} {G : GG} {w : AH} {Q : Option Value → AH → Prop} {X : String → AH → Prop} (hst : l.stackTraces = false) {a : Nat} {mo da wk se of : Int} (h0 : w a = some (ruC mo da wk se of)) (hQ : Q none (aup w a (ruC 1 1 1 se of))) : Ct l G mX3_init rX3_init [.ref a] w Q X := by
  refine ct_of hst mk_X3_init (Nat.le_of_ble_eq_true rfl) ?_
  refine v_aload_n dX3_init_0 rfl ?_
  refine v_objInit dX3_init_1 km_X3_3 kn_obj ko_obj ?_
  refine v_aload_n dX3_init_4 rfl ?_
  refine v_iconst dX3_init_5 ?_
  refine v_put dX3_init_6 f_X3_9 (by first | exact h0 | exact aup_s) rfl rfl (Nat.le_of_ble_eq_true rfl) ?_
  refine v_aload_n dX3_init_9 rfl ?_
  refine v_iconst dX3_init_10 ?_
  refine v_put dX3_init_11 f_X3_15 (by first | exact h0 | exact aup_s) rfl rfl (Nat.le_of_ble_eq_true rfl) ?_
  refine v_aload_n dX3_init_14 rfl ?_
  refine v_iconst dX3_init_15 ?_
  refine v_put dX3_init_16 f_X3_18 (by first | exact h0 | exact aup_s) rfl rfl (Nat.le_of_ble_eq_true rfl) ?_
  exact v_vret dX3_init_19 rfl (by rw [aup_up, aup_up]; exact hQ)
set_option maxRecDepth 100000 in
set_option maxHeartbeats 4000000 in
theorem s_X3_become {l : Launch} {G : GG} {w : AH} {Q : Option Value → AH → Prop} {X : String → AH → Prop} (hst : l.stackTraces = false) {a : Nat} {mo da wk se of mo' da' wk' se' of' : Int} (h0 : w a = some (ruC mo da wk se of)) (hQ : Q none (aup w a (ruC mo' da' wk' se' of'))) : Ct l G mX3_become rX3_become [(.ref a), .int (iI mo'), .int (iI da'), .int (iI wk'), .int (iI se'), .int (iI of')] w Q X := by
  refine ct_of hst mk_X3_become (Nat.le_of_ble_eq_true rfl) ?_
  refine v_aload_n dX3_become_0 rfl ?_
  refine v_iload_n dX3_become_1 rfl ?_
  refine v_put dX3_become_2 f_X3_9 (by first | exact h0 | exact aup_s) rfl rfl (Nat.le_of_ble_eq_true rfl) ?_
  refine v_aload_n dX3_become_5 rfl ?_
  refine v_iload_n dX3_become_6 rfl ?_
  refine v_put dX3_become_7 f_X3_15 (by first | exact h0 | exact aup_s) rfl rfl (Nat.le_of_ble_eq_true rfl) ?_
  refine v_aload_n dX3_become_10 rfl ?_
  refine v_iload_n dX3_become_11 rfl ?_
  refine v_put dX3_become_12 f_X3_18 (by first | exact h0 | exact aup_s) rfl rfl (Nat.le_of_ble_eq_true rfl) ?_
  refine v_aload_n dX3_become_15 rfl ?_
  refine v_iload dX3_become_16 rfl ?_
  refine v_put dX3_become_18 f_X3_21 (by first | exact h0 | exact aup_s) rfl rfl (Nat.le_of_ble_eq_true rfl) ?_
  refine v_aload_n dX3_become_21 rfl ?_
  refine v_iload dX3_become_22 rfl ?_
  refine v_put dX3_become_24 f_X3_24 (by first | exact h0 | exact aup_s) rfl rfl (Nat.le_of_ble_eq_true rfl) ?_
  exact v_vret dX3_become_27 rfl (by rw [aup_up, aup_up, aup_up, aup_up]; exact hQ)
set_option maxRecDepth 100000 in
set_option maxHeartbeats 4000000 in
theorem s_X3_momentIn {l : Launch} {G : GG} {w : AH} {Q : Option Value → AH → Prop} {X : String → AH → Prop} (hst : l.stackTraces = false) {a : Nat} {mo da wk se of y : Int} (h0 : w a = some (ruC mo da wk se of)) (hmo : 1 ≤ mo ∧ mo ≤ 12) (hda : da = -1 ∨ (1 ≤ da ∧ da ≤ 28)) (hwk : 1 ≤ wk ∧ wk ≤ 7) (hse : 0 ≤ se ∧ se ≤ 86400) (hy : -9999 ≤ y ∧ y ≤ 9999) (hQ : Q (some (.long (lI (rMom mo da wk se y)))) w) : Ct l G mX3_momentIn rX3_momentIn [(.ref a), .int (iI y)] w Q X := by
  have hlen := lenM_rng y mo
  have her := ed_rng (y := y) (m := mo) (d := lenM y mo) hy hmo (by omega)
  have hrd := rday_c mo da wk y
  refine ct_of hst mk_X3_momentIn (Nat.le_of_ble_eq_true rfl) ?_
  refine v_aload_n dX3_momentIn_0 rfl ?_
  refine v_get dX3_momentIn_1 f_X3_15 (by exact h0) rfl ?_
  refine v_iconst dX3_momentIn_4 ?_
  refine v_icmp_ne 19 dX3_momentIn_5 (fun h_5 => ?_) (fun h_5 => ?_)
  · refine v_aload_n dX3_momentIn_19 rfl ?_
    refine v_get dX3_momentIn_20 f_X3_15 (by exact h0) rfl ?_
    refine v_istore_n dX3_momentIn_23 (by decide) ?_
    have her2 := ed_rng (y := y) (m := mo) (d := da) hy hmo
    refine v_iload_n dX3_momentIn_24 rfl ?_
    refine v_aload_n dX3_momentIn_25 rfl ?_
    refine v_get dX3_momentIn_26 f_X3_9 (by exact h0) rfl ?_
    refine v_iload_n dX3_momentIn_29 rfl ?_
    refine v_S3 (rm' := rX0_epochDay) dX3_momentIn_30 km_X3_33 ks_X0_epochDay kz_X0 mk_X0_epochDay rfl ⟨Nat.le_of_ble_eq_true rfl, Nat.le_of_ble_eq_true rfl⟩ ⟨Nat.le_of_ble_eq_true rfl, Nat.le_of_ble_eq_true rfl⟩ (Nat.le_of_ble_eq_true rfl) ?_
    refine s_X0_epochDay hst ?_
    refine v_lstore_n dX3_momentIn_33 (by decide) ?_
    refine v_aload_n dX3_momentIn_34 rfl ?_
    refine v_get dX3_momentIn_35 f_X3_15 (by exact h0) rfl ?_
    refine v_iconst dX3_momentIn_38 ?_
    refine v_icmp_ne 53 dX3_momentIn_39 (fun h_39 => ?_) (fun h_39 => ?_)
    · refine v_lload_n dX3_momentIn_53 rfl ?_
      refine v_aload_n dX3_momentIn_54 rfl ?_
      refine v_get dX3_momentIn_55 f_X3_18 (by exact h0) rfl ?_
      refine v_S2 (rm' := rX0_weekdayFrom) dX3_momentIn_58 km_X3_41 ks_X0_weekdayFrom kz_X0 mk_X0_weekdayFrom rfl ⟨Nat.le_of_ble_eq_true rfl, Nat.le_of_ble_eq_true rfl⟩ ⟨Nat.le_of_ble_eq_true rfl, Nat.le_of_ble_eq_true rfl⟩ (Nat.le_of_ble_eq_true rfl) ?_
      refine s_X0_weekdayFrom hst ?_
      refine v_lstore dX3_momentIn_61 (by decide) ?_
      refine v_lload dX3_momentIn_63 rfl ?_
      refine v_ldc2 (86400) dX3_momentIn_65 kl_X3_44 ?_
      refine v_lmul dX3_momentIn_68 ?_
      refine v_aload_n dX3_momentIn_69 rfl ?_
      refine v_get dX3_momentIn_70 f_X3_21 (by exact h0) rfl ?_
      refine v_i2l dX3_momentIn_73 ?_
      refine v_ladd dX3_momentIn_74 ?_
      exact v_lret dX3_momentIn_75 rfl (by first | exact ql hQ (by unfold rMom; omega) | (exfalso; omega))
    · refine v_lload_n dX3_momentIn_42 rfl ?_
      refine v_aload_n dX3_momentIn_43 rfl ?_
      refine v_get dX3_momentIn_44 f_X3_18 (by exact h0) rfl ?_
      refine v_S2 (rm' := rX0_weekdayUpTo) dX3_momentIn_47 km_X3_37 ks_X0_weekdayUpTo kz_X0 mk_X0_weekdayUpTo rfl ⟨Nat.le_of_ble_eq_true rfl, Nat.le_of_ble_eq_true rfl⟩ ⟨Nat.le_of_ble_eq_true rfl, Nat.le_of_ble_eq_true rfl⟩ (Nat.le_of_ble_eq_true rfl) ?_
      refine s_X0_weekdayUpTo hst ?_
      refine v_goto 61 dX3_momentIn_50 ?_
      refine v_lstore dX3_momentIn_61 (by decide) ?_
      refine v_lload dX3_momentIn_63 rfl ?_
      refine v_ldc2 (86400) dX3_momentIn_65 kl_X3_44 ?_
      refine v_lmul dX3_momentIn_68 ?_
      refine v_aload_n dX3_momentIn_69 rfl ?_
      refine v_get dX3_momentIn_70 f_X3_21 (by exact h0) rfl ?_
      refine v_i2l dX3_momentIn_73 ?_
      refine v_ladd dX3_momentIn_74 ?_
      exact v_lret dX3_momentIn_75 rfl (by first | exact ql hQ (by unfold rMom; omega) | (exfalso; omega))
  · refine v_iload_n dX3_momentIn_8 rfl ?_
    refine v_aload_n dX3_momentIn_9 rfl ?_
    refine v_get dX3_momentIn_10 f_X3_9 (by exact h0) rfl ?_
    refine v_S2 (rm' := rX0_monthLength) dX3_momentIn_13 km_X3_27 ks_X0_monthLength kz_X0 mk_X0_monthLength rfl ⟨Nat.le_of_ble_eq_true rfl, Nat.le_of_ble_eq_true rfl⟩ ⟨Nat.le_of_ble_eq_true rfl, Nat.le_of_ble_eq_true rfl⟩ (Nat.le_of_ble_eq_true rfl) ?_
    refine s_X0_monthLength hst ?_
    refine v_goto 23 dX3_momentIn_16 ?_
    refine v_istore_n dX3_momentIn_23 (by decide) ?_
    have her2 := ed_rng (y := y) (m := mo) (d := da) hy hmo
    refine v_iload_n dX3_momentIn_24 rfl ?_
    refine v_aload_n dX3_momentIn_25 rfl ?_
    refine v_get dX3_momentIn_26 f_X3_9 (by exact h0) rfl ?_
    refine v_iload_n dX3_momentIn_29 rfl ?_
    refine v_S3 (rm' := rX0_epochDay) dX3_momentIn_30 km_X3_33 ks_X0_epochDay kz_X0 mk_X0_epochDay rfl ⟨Nat.le_of_ble_eq_true rfl, Nat.le_of_ble_eq_true rfl⟩ ⟨Nat.le_of_ble_eq_true rfl, Nat.le_of_ble_eq_true rfl⟩ (Nat.le_of_ble_eq_true rfl) ?_
    refine s_X0_epochDay hst ?_
    refine v_lstore_n dX3_momentIn_33 (by decide) ?_
    refine v_aload_n dX3_momentIn_34 rfl ?_
    refine v_get dX3_momentIn_35 f_X3_15 (by exact h0) rfl ?_
    refine v_iconst dX3_momentIn_38 ?_
    refine v_icmp_ne 53 dX3_momentIn_39 (fun h_39 => ?_) (fun h_39 => ?_)
    · refine v_lload_n dX3_momentIn_53 rfl ?_
      refine v_aload_n dX3_momentIn_54 rfl ?_
      refine v_get dX3_momentIn_55 f_X3_18 (by exact h0) rfl ?_
      refine v_S2 (rm' := rX0_weekdayFrom) dX3_momentIn_58 km_X3_41 ks_X0_weekdayFrom kz_X0 mk_X0_weekdayFrom rfl ⟨Nat.le_of_ble_eq_true rfl, Nat.le_of_ble_eq_true rfl⟩ ⟨Nat.le_of_ble_eq_true rfl, Nat.le_of_ble_eq_true rfl⟩ (Nat.le_of_ble_eq_true rfl) ?_
      refine s_X0_weekdayFrom hst ?_
      refine v_lstore dX3_momentIn_61 (by decide) ?_
      refine v_lload dX3_momentIn_63 rfl ?_
      refine v_ldc2 (86400) dX3_momentIn_65 kl_X3_44 ?_
      refine v_lmul dX3_momentIn_68 ?_
      refine v_aload_n dX3_momentIn_69 rfl ?_
      refine v_get dX3_momentIn_70 f_X3_21 (by exact h0) rfl ?_
      refine v_i2l dX3_momentIn_73 ?_
      refine v_ladd dX3_momentIn_74 ?_
      exact v_lret dX3_momentIn_75 rfl (by first | exact ql hQ (by unfold rMom; omega) | (exfalso; omega))
    · refine v_lload_n dX3_momentIn_42 rfl ?_
      refine v_aload_n dX3_momentIn_43 rfl ?_
      refine v_get dX3_momentIn_44 f_X3_18 (by exact h0) rfl ?_
      refine v_S2 (rm' := rX0_weekdayUpTo) dX3_momentIn_47 km_X3_37 ks_X0_weekdayUpTo kz_X0 mk_X0_weekdayUpTo rfl ⟨Nat.le_of_ble_eq_true rfl, Nat.le_of_ble_eq_true rfl⟩ ⟨Nat.le_of_ble_eq_true rfl, Nat.le_of_ble_eq_true rfl⟩ (Nat.le_of_ble_eq_true rfl) ?_
      refine s_X0_weekdayUpTo hst ?_
      refine v_goto 61 dX3_momentIn_50 ?_
      refine v_lstore dX3_momentIn_61 (by decide) ?_
      refine v_lload dX3_momentIn_63 rfl ?_
      refine v_ldc2 (86400) dX3_momentIn_65 kl_X3_44 ?_
      refine v_lmul dX3_momentIn_68 ?_
      refine v_aload_n dX3_momentIn_69 rfl ?_
      refine v_get dX3_momentIn_70 f_X3_21 (by exact h0) rfl ?_
      refine v_i2l dX3_momentIn_73 ?_
      refine v_ladd dX3_momentIn_74 ?_
      exact v_lret dX3_momentIn_75 rfl (by first | exact ql hQ (by unfold rMom; omega) | (exfalso; omega))
set_option maxRecDepth 100000 in
set_option maxHeartbeats 4000000 in
theorem s_X5_startWith {l : Launch} {G : GG} {w : AH} {Q : Option Value → AH → Prop} {X : String → AH → Prop} (hst : l.stackTraces = false) {z am ao ar : Nat} {f c r : Int} (h0 : w z = some (zoC f am ao c ar r)) {f' : Int} (hQ : Q none (aup w z (zoC f' am ao 0 ar 0))) : Ct l G mX5_startWith rX5_startWith [(.ref z), .int (iI f')] w Q X := by
  refine ct_of hst mk_X5_startWith (Nat.le_of_ble_eq_true rfl) ?_
  refine v_aload_n dX5_startWith_0 rfl ?_
  refine v_iload_n dX5_startWith_1 rfl ?_
  refine v_put dX5_startWith_2 f_X5_26 (by first | exact h0 | exact aup_s) rfl rfl (Nat.le_of_ble_eq_true rfl) ?_
  refine v_aload_n dX5_startWith_5 rfl ?_
  refine v_iconst dX5_startWith_6 ?_
  refine v_put dX5_startWith_7 f_X5_30 (by first | exact h0 | exact aup_s) rfl rfl (Nat.le_of_ble_eq_true rfl) ?_
  refine v_aload_n dX5_startWith_10 rfl ?_
  refine v_iconst dX5_startWith_11 ?_
  refine v_put dX5_startWith_12 f_X5_33 (by first | exact h0 | exact aup_s) rfl rfl (Nat.le_of_ble_eq_true rfl) ?_
  exact v_vret dX5_startWith_15 rfl (by rw [aup_up, aup_up]; exact hQ)
def lastC (gm : Nat → Int) (c : Int) : Int := if 0 < c then gm (c - 1).toNat else -9223372036854775808
set_option maxRecDepth 100000 in
set_option maxHeartbeats 4000000 in
theorem s_X5_lastChange {l : Launch} {G : GG} {w : AH} {Q : Option Value → AH → Prop} {X : String → AH → Prop} (hst : l.stackTraces = false) {z am ao ar : Nat} {f c r : Int} {gm : Nat → Int} (h0 : w z = some (zoC f am ao c ar r)) (h1 : w am = some (alA G 8 gm)) (hc : 0 ≤ c ∧ c ≤ 8) (hr : 0 ≤ r ∧ r ≤ 2) (hQ : Q (some (.long (lI (lastC gm c)))) w) : Ct l G mX5_lastChange rX5_lastChange [.ref z] w Q X := by
  refine ct_of hst mk_X5_lastChange (Nat.le_of_ble_eq_true rfl) ?_
  refine v_aload_n dX5_lastChange_0 rfl ?_
  refine v_get dX5_lastChange_1 f_X5_30 (by first | exact h0 | exact h1) rfl ?_
  refine v_if_le 21 dX5_lastChange_4 (fun h_4 => ?_) (fun h_4 => ?_)
  · refine v_ldc2 (-9223372036854775808) dX5_lastChange_21 kl_X5_44 ?_
    exact v_lret dX5_lastChange_24 rfl (by first | exact ql hQ (by unfold lastC; rw [if_pos (by omega)]) | exact ql hQ (by unfold lastC; rw [if_neg (by omega)]))
  · refine v_aload_n dX5_lastChange_7 rfl ?_
    refine v_get dX5_lastChange_8 f_X5_9 (by first | exact h0 | exact h1) rfl ?_
    refine v_aload_n dX5_lastChange_11 rfl ?_
    refine v_get dX5_lastChange_12 f_X5_30 (by first | exact h0 | exact h1) rfl ?_
    refine v_iconst dX5_lastChange_15 ?_
    refine v_isub dX5_lastChange_16 ?_
    refine v_lald dX5_lastChange_17 (by first | exact h0 | exact h1) ?_
    refine v_goto 24 dX5_lastChange_18 ?_
    exact v_lret dX5_lastChange_24 rfl (by first | exact ql hQ (by unfold lastC; rw [if_pos (by omega)]) | exact ql hQ (by unfold lastC; rw [if_neg (by omega)]))
set_option maxRecDepth 100000 in
set_option maxHeartbeats 4000000 in
theorem s_X5_addChange {l : Launch} {G : GG} {w : AH} {Q : Option Value → AH → Prop} {X : String → AH → Prop} (hst : l.stackTraces = false) {z am ao ar : Nat} {f c r : Int} {gm go : Nat → Int} (h0 : w z = some (zoC f am ao c ar r)) (h1 : w am = some (alA G 8 gm)) (h2 : w ao = some (aiA G 8 go)) (hc : 0 ≤ c ∧ c ≤ 8) (hr : 0 ≤ r ∧ r ≤ 2) {t v : Int} (ht : -9223372036854775808 ≤ t ∧ t ≤ 9223372036854775807) (hg : ∀ k, -9223372036854775808 ≤ gm k ∧ gm k ≤ 9223372036854775807) (hQ1 : ¬ (0 < r ∨ 8 ≤ c ∨ t ≤ lastC gm c) → Q (some (.int (iI 1))) (aup (aup (aup w am (alA G 8 (gup gm c.toNat t))) ao (aiA G 8 (gup go c.toNat v))) z (zoC f am ao (c + 1) ar r))) (hQ0 : (0 < r ∨ 8 ≤ c ∨ t ≤ lastC gm c) → Q (some (.int (iI 0))) w) : Ct l G mX5_addChange rX5_addChange [(.ref z), .long (lI t), .int (iI v)] w Q X := by
  have n1 : am ≠ z := fun e => absurd (ne_of h0 h1 zoal) (fun h => h e.symm)
  have n2 : ao ≠ z := fun e => absurd (ne_of h0 h2 zoai) (fun h => h e.symm)
  have n3 : ao ≠ am := fun e => absurd (ne_of h1 h2 alai) (fun h => h e.symm)
  have hlr : -9223372036854775808 ≤ lastC gm c ∧ lastC gm c ≤ 9223372036854775807 := by
    unfold lastC
    split
    · exact hg _
    · omega
  refine ct_of hst mk_X5_addChange (Nat.le_of_ble_eq_true rfl) ?_
  refine v_aload_n dX5_addChange_0 rfl ?_
  refine v_get dX5_addChange_1 f_X5_33 (by first | exact h0 | exact h1 | exact h2 | exact aup_s | exact (aup_n n1.symm).trans h0 | exact (aup_n n2.symm).trans ((aup_n n1.symm).trans h0) | exact (aup_n n3).trans h2) rfl ?_
  refine v_if_gt 25 dX5_addChange_4 (fun h_4 => ?_) (fun h_4 => ?_)
  · refine v_iconst dX5_addChange_25 ?_
    exact v_zret dX5_addChange_26 rfl (by first | exact hQ0 (by omega) | exact hQ1 (by omega)) (by first | exact Or.inl rfl | exact Or.inr rfl | omega)
  · refine v_aload_n dX5_addChange_7 rfl ?_
    refine v_get dX5_addChange_8 f_X5_30 (by first | exact h0 | exact h1 | exact h2 | exact aup_s | exact (aup_n n1.symm).trans h0 | exact (aup_n n2.symm).trans ((aup_n n1.symm).trans h0) | exact (aup_n n3).trans h2) rfl ?_
    refine v_bipush dX5_addChange_11 ?_
    refine v_icmp_ge 25 dX5_addChange_13 (fun h_13 => ?_) (fun h_13 => ?_)
    · refine v_iconst dX5_addChange_25 ?_
      exact v_zret dX5_addChange_26 rfl (by first | exact hQ0 (by omega) | exact hQ1 (by omega)) (by first | exact Or.inl rfl | exact Or.inr rfl | omega)
    · refine v_lload_n dX5_addChange_16 rfl ?_
      refine v_aload_n dX5_addChange_17 rfl ?_
      refine v_V0 (rm' := rX5_lastChange) (RX5, TX5, 6) dX5_addChange_18 km_X5_36 kn_X5_lastChange kv_X5_lastChange kz_X5 mk_X5_lastChange rfl rfl (by first | exact h0 | exact h1 | exact h2 | exact aup_s | exact (aup_n n1.symm).trans h0 | exact (aup_n n2.symm).trans ((aup_n n1.symm).trans h0) | exact (aup_n n3).trans h2) ⟨Nat.le_of_ble_eq_true rfl, Nat.le_of_ble_eq_true rfl⟩ ⟨Nat.le_of_ble_eq_true rfl, Nat.le_of_ble_eq_true rfl⟩ (Nat.le_of_ble_eq_true rfl) ?_
      refine s_X5_lastChange hst h0 h1 hc hr ?_
      refine v_lif_gt 27 dX5_addChange_21 dX5_addChange_22 (fun h_21 => ?_) (fun h_21 => ?_)
      · refine v_aload_n dX5_addChange_27 rfl ?_
        refine v_get dX5_addChange_28 f_X5_9 (by first | exact h0 | exact h1 | exact h2 | exact aup_s | exact (aup_n n1.symm).trans h0 | exact (aup_n n2.symm).trans ((aup_n n1.symm).trans h0) | exact (aup_n n3).trans h2) rfl ?_
        refine v_aload_n dX5_addChange_31 rfl ?_
        refine v_get dX5_addChange_32 f_X5_30 (by first | exact h0 | exact h1 | exact h2 | exact aup_s | exact (aup_n n1.symm).trans h0 | exact (aup_n n2.symm).trans ((aup_n n1.symm).trans h0) | exact (aup_n n3).trans h2) rfl ?_
        refine v_lload_n dX5_addChange_35 rfl ?_
        refine v_last dX5_addChange_36 (by first | exact h0 | exact h1 | exact h2 | exact aup_s | exact (aup_n n1.symm).trans h0 | exact (aup_n n2.symm).trans ((aup_n n1.symm).trans h0) | exact (aup_n n3).trans h2) ?_
        refine v_aload_n dX5_addChange_37 rfl ?_
        refine v_get dX5_addChange_38 f_X5_15 (by first | exact h0 | exact h1 | exact h2 | exact aup_s | exact (aup_n n1.symm).trans h0 | exact (aup_n n2.symm).trans ((aup_n n1.symm).trans h0) | exact (aup_n n3).trans h2) rfl ?_
        refine v_aload_n dX5_addChange_41 rfl ?_
        refine v_get dX5_addChange_42 f_X5_30 (by first | exact h0 | exact h1 | exact h2 | exact aup_s | exact (aup_n n1.symm).trans h0 | exact (aup_n n2.symm).trans ((aup_n n1.symm).trans h0) | exact (aup_n n3).trans h2) rfl ?_
        refine v_iload_n dX5_addChange_45 rfl ?_
        refine v_iast dX5_addChange_46 (by first | exact h0 | exact h1 | exact h2 | exact aup_s | exact (aup_n n1.symm).trans h0 | exact (aup_n n2.symm).trans ((aup_n n1.symm).trans h0) | exact (aup_n n3).trans h2) ?_
        refine v_aload_n dX5_addChange_47 rfl ?_
        refine v_dup dX5_addChange_48 rfl ?_
        refine v_get dX5_addChange_49 f_X5_30 (by first | exact h0 | exact h1 | exact h2 | exact aup_s | exact (aup_n n1.symm).trans h0 | exact (aup_n n2.symm).trans ((aup_n n1.symm).trans h0) | exact (aup_n n3).trans h2) rfl ?_
        refine v_iconst dX5_addChange_52 ?_
        refine v_iadd dX5_addChange_53 ?_
        refine v_put dX5_addChange_54 f_X5_30 (by first | exact h0 | exact h1 | exact h2 | exact aup_s | exact (aup_n n1.symm).trans h0 | exact (aup_n n2.symm).trans ((aup_n n1.symm).trans h0) | exact (aup_n n3).trans h2) rfl rfl (Nat.le_of_ble_eq_true rfl) ?_
        refine v_iconst dX5_addChange_57 ?_
        exact v_zret dX5_addChange_58 rfl (by first | exact hQ0 (by omega) | exact hQ1 (by omega)) (by first | exact Or.inl rfl | exact Or.inr rfl | omega)
      · refine v_iconst dX5_addChange_25 ?_
        exact v_zret dX5_addChange_26 rfl (by first | exact hQ0 (by omega) | exact hQ1 (by omega)) (by first | exact Or.inl rfl | exact Or.inr rfl | omega)
set_option maxRecDepth 100000 in
set_option maxHeartbeats 4000000 in
theorem s_X5_addRule {l : Launch} {G : GG} {w : AH} {Q : Option Value → AH → Prop} {X : String → AH → Prop} (hst : l.stackTraces = false) {z am ao ar : Nat} {f c r : Int} (h0 : w z = some (zoC f am ao c ar r)) {ra : Nat → Nat} (h3 : w ar = some (arA G 6 2 (fun i => some (ra i)))) (hc : 0 ≤ c ∧ c ≤ 8) (hr : 0 ≤ r ∧ r ≤ 2) {mo da wk se of : Int} (h4 : ∀ i, i < 2 → ∃ mo da wk se of, w (ra i) = some (ruC mo da wk se of)) (hQ1 : r < 2 → Q (some (.int (iI 1))) (aup (aup w (ra r.toNat) (ruC mo da wk se of)) z (zoC f am ao c ar (r + 1)))) (hQ0 : 2 ≤ r → Q (some (.int (iI 0))) w) : Ct l G mX5_addRule rX5_addRule [(.ref z), .int (iI mo), .int (iI da), .int (iI wk), .int (iI se), .int (iI of)] w Q X := by
  refine ct_of hst mk_X5_addRule (Nat.le_of_ble_eq_true rfl) ?_
  refine v_aload_n dX5_addRule_0 rfl ?_
  refine v_get dX5_addRule_1 f_X5_33 (by first | exact h0 | exact h3 | exact h5 | exact (aup_n n5.symm).trans h0) rfl ?_
  refine v_iconst dX5_addRule_4 ?_
  refine v_icmp_lt 10 dX5_addRule_5 (fun h_5 => ?_) (fun h_5 => ?_)
  · obtain ⟨mo9, da9, wk9, se9, of9, h5⟩ := h4 r.toNat (by omega)
    have n5 : ra r.toNat ≠ z := ne_of h5 h0 ruzo
    refine v_aload_n dX5_addRule_10 rfl ?_
    refine v_get dX5_addRule_11 f_X5_21 (by first | exact h0 | exact h3 | exact h5 | exact (aup_n n5.symm).trans h0) rfl ?_
    refine v_aload_n dX5_addRule_14 rfl ?_
    refine v_get dX5_addRule_15 f_X5_33 (by first | exact h0 | exact h3 | exact h5 | exact (aup_n n5.symm).trans h0) rfl ?_
    refine v_aald (t := 6) dX5_addRule_18 (fun _ => rfl) (by first | exact h0 | exact h3 | exact h5 | exact (aup_n n5.symm).trans h0) (by exact rfl) ?_
    refine v_iload_n dX5_addRule_19 rfl ?_
    refine v_iload_n dX5_addRule_20 rfl ?_
    refine v_iload_n dX5_addRule_21 rfl ?_
    refine v_iload dX5_addRule_22 rfl ?_
    refine v_iload dX5_addRule_24 rfl ?_
    refine v_V5 (rm' := rX3_become) (RX3, TX3, 5) dX5_addRule_26 km_X5_40 kn_X3_become kv_X3_become kz_X3 mk_X3_become rfl rfl (by first | exact h0 | exact h3 | exact h5 | exact (aup_n n5.symm).trans h0) ⟨Nat.le_of_ble_eq_true rfl, Nat.le_of_ble_eq_true rfl⟩ ⟨Nat.le_of_ble_eq_true rfl, Nat.le_of_ble_eq_true rfl⟩ (Nat.le_of_ble_eq_true rfl) ?_
    refine s_X3_become hst h5 ?_
    refine v_aload_n dX5_addRule_29 rfl ?_
    refine v_dup dX5_addRule_30 rfl ?_
    refine v_get dX5_addRule_31 f_X5_33 (by first | exact h0 | exact h3 | exact h5 | exact (aup_n n5.symm).trans h0) rfl ?_
    refine v_iconst dX5_addRule_34 ?_
    refine v_iadd dX5_addRule_35 ?_
    refine v_put dX5_addRule_36 f_X5_33 (by first | exact h0 | exact h3 | exact h5 | exact (aup_n n5.symm).trans h0) rfl rfl (Nat.le_of_ble_eq_true rfl) ?_
    refine v_iconst dX5_addRule_39 ?_
    exact v_zret dX5_addRule_40 rfl (by first | exact hQ0 (by omega) | exact hQ1 (by omega)) (by first | exact Or.inl rfl | exact Or.inr rfl | omega)
  · refine v_iconst dX5_addRule_8 ?_
    exact v_zret dX5_addRule_9 rfl (by first | exact hQ0 (by omega) | exact hQ1 (by omega)) (by first | exact Or.inl rfl | exact Or.inr rfl | omega)
def obc (f : Int) (gm go : Nat → Int) (t : Int) : Nat → Int
  | 0 => f
  | k + 1 => if gm k ≤ t then go k else obc f gm go t k
theorem obc_stop {f : Int} {gm go : Nat → Int} {t : Int} {i : Nat} : ∀ j : Nat, i ≤ j → (∀ k, i ≤ k → k < j → t < gm k) → obc f gm go t j = obc f gm go t i := by
  intro j
  induction j with
  | zero => intro h _; rw [show i = 0 by omega]
  | succ j ih =>
    intro h hg
    by_cases e : i = j + 1
    · rw [e]
    · have h1 : i ≤ j := by omega
      rw [← ih h1 (fun k a b => hg k a (by omega))]
      show (if gm j ≤ t then go j else obc f gm go t j) = _
      rw [if_neg (by have := hg j h1 (by omega); omega)]
set_option maxRecDepth 100000 in
set_option maxHeartbeats 4000000 in
theorem X5_obc_loop {l : Launch} {G : GG} {w : AH} {Q : Option Value → AH → Prop} {X : String → AH → Prop} (hst : l.stackTraces = false) {z am ao ar : Nat} {f c r : Int} {gm go : Nat → Int} (h0 : w z = some (zoC f am ao c ar r)) (h1 : w am = some (alA G 8 gm)) (h2 : w ao = some (aiA G 8 go)) (hc : 0 ≤ c ∧ c ≤ 8) (hr : 0 ≤ r ∧ r ≤ 2) {t : Int} (ht : -9223372036854775808 ≤ t ∧ t ≤ 9223372036854775807) (hg : ∀ k, -9223372036854775808 ≤ gm k ∧ gm k ≤ 9223372036854775807) (hmono : ∀ i j : Nat, i < j → (j : Int) < c → gm i < gm j) (hQ : Q (some (.int (iI (obc f gm go t c.toNat)))) w) : ∀ (N i : Nat), c - i ≤ N → (i : Int) ≤ c → V l G mX5_offsetByChanges rX5_offsetByChanges Q X 8 (lof [(0, .ref z), (1, .long (lI t)), (3, .int (iI (obc f gm go t i))), (4, .int (iI ((i : Int))))]) [] w 0 0 := by
  intro N
  induction N with
  | zero =>
    intro i hN hi
    have hg9 := hg ((i : Int).toNat)
    refine v_iload dX5_offsetByChanges_8 rfl ?_
    refine v_aload_n dX5_offsetByChanges_10 rfl ?_
    refine v_get dX5_offsetByChanges_11 f_X5_30 (by first | exact h0 | exact h1 | exact h2) rfl ?_
    refine v_icmp_ge 43 dX5_offsetByChanges_14 (fun h_14 => ?_) (fun h_14 => ?_)
    · refine v_iload_n dX5_offsetByChanges_43 rfl ?_
      exact v_iret dX5_offsetByChanges_44 rfl (by first | exact qi hQ (by rw [show c.toNat = i by omega]) | exact qi hQ (obc_stop c.toNat (by omega) (fun k a b => by rcases Nat.lt_or_eq_of_le a with q | q; (have := hmono i k q (by omega); simp only [Int.toNat_natCast] at *; omega); (subst q; simp only [Int.toNat_natCast] at *; omega))).symm)
    · refine v_aload_n dX5_offsetByChanges_17 rfl ?_
      refine v_get dX5_offsetByChanges_18 f_X5_9 (by first | exact h0 | exact h1 | exact h2) rfl ?_
      refine v_iload dX5_offsetByChanges_21 rfl ?_
      refine v_lald dX5_offsetByChanges_23 (by first | exact h0 | exact h1 | exact h2) ?_
      refine v_lload_n dX5_offsetByChanges_24 rfl ?_
      refine v_lif_gt 43 dX5_offsetByChanges_25 dX5_offsetByChanges_26 (fun h_25 => ?_) (fun h_25 => ?_)
      · refine v_iload_n dX5_offsetByChanges_43 rfl ?_
        exact v_iret dX5_offsetByChanges_44 rfl (by first | exact qi hQ (by rw [show c.toNat = i by omega]) | exact qi hQ (obc_stop c.toNat (by omega) (fun k a b => by rcases Nat.lt_or_eq_of_le a with q | q; (have := hmono i k q (by omega); simp only [Int.toNat_natCast] at *; omega); (subst q; simp only [Int.toNat_natCast] at *; omega))).symm)
      · have hstep : go ((i : Int).toNat) = obc f gm go t (i + 1) := by
          show _ = (if gm i ≤ t then go i else obc f gm go t i)
          rw [if_pos (by simp only [Int.toNat_natCast] at *; omega)]
          rfl
        refine v_aload_n dX5_offsetByChanges_29 rfl ?_
        refine v_get dX5_offsetByChanges_30 f_X5_15 (by first | exact h0 | exact h1 | exact h2) rfl ?_
        refine v_iload dX5_offsetByChanges_33 rfl ?_
        refine v_iald dX5_offsetByChanges_35 (by first | exact h0 | exact h1 | exact h2) ?_
        rw [hstep]
        refine v_istore_n dX5_offsetByChanges_36 (by decide) ?_
        refine v_iinc dX5_offsetByChanges_37 rfl ?_
        rw [show (i : Int) + 1 = ((i + 1 : Nat) : Int) by omega]
        refine v_goto 8 dX5_offsetByChanges_40 ?_
        (exfalso; omega)
  | succ N ih =>
    intro i hN hi
    have hg9 := hg ((i : Int).toNat)
    refine v_iload dX5_offsetByChanges_8 rfl ?_
    refine v_aload_n dX5_offsetByChanges_10 rfl ?_
    refine v_get dX5_offsetByChanges_11 f_X5_30 (by first | exact h0 | exact h1 | exact h2) rfl ?_
    refine v_icmp_ge 43 dX5_offsetByChanges_14 (fun h_14 => ?_) (fun h_14 => ?_)
    · refine v_iload_n dX5_offsetByChanges_43 rfl ?_
      exact v_iret dX5_offsetByChanges_44 rfl (by first | exact qi hQ (by rw [show c.toNat = i by omega]) | exact qi hQ (obc_stop c.toNat (by omega) (fun k a b => by rcases Nat.lt_or_eq_of_le a with q | q; (have := hmono i k q (by omega); simp only [Int.toNat_natCast] at *; omega); (subst q; simp only [Int.toNat_natCast] at *; omega))).symm)
    · refine v_aload_n dX5_offsetByChanges_17 rfl ?_
      refine v_get dX5_offsetByChanges_18 f_X5_9 (by first | exact h0 | exact h1 | exact h2) rfl ?_
      refine v_iload dX5_offsetByChanges_21 rfl ?_
      refine v_lald dX5_offsetByChanges_23 (by first | exact h0 | exact h1 | exact h2) ?_
      refine v_lload_n dX5_offsetByChanges_24 rfl ?_
      refine v_lif_gt 43 dX5_offsetByChanges_25 dX5_offsetByChanges_26 (fun h_25 => ?_) (fun h_25 => ?_)
      · refine v_iload_n dX5_offsetByChanges_43 rfl ?_
        exact v_iret dX5_offsetByChanges_44 rfl (by first | exact qi hQ (by rw [show c.toNat = i by omega]) | exact qi hQ (obc_stop c.toNat (by omega) (fun k a b => by rcases Nat.lt_or_eq_of_le a with q | q; (have := hmono i k q (by omega); simp only [Int.toNat_natCast] at *; omega); (subst q; simp only [Int.toNat_natCast] at *; omega))).symm)
      · have hstep : go ((i : Int).toNat) = obc f gm go t (i + 1) := by
          show _ = (if gm i ≤ t then go i else obc f gm go t i)
          rw [if_pos (by simp only [Int.toNat_natCast] at *; omega)]
          rfl
        refine v_aload_n dX5_offsetByChanges_29 rfl ?_
        refine v_get dX5_offsetByChanges_30 f_X5_15 (by first | exact h0 | exact h1 | exact h2) rfl ?_
        refine v_iload dX5_offsetByChanges_33 rfl ?_
        refine v_iald dX5_offsetByChanges_35 (by first | exact h0 | exact h1 | exact h2) ?_
        rw [hstep]
        refine v_istore_n dX5_offsetByChanges_36 (by decide) ?_
        refine v_iinc dX5_offsetByChanges_37 rfl ?_
        rw [show (i : Int) + 1 = ((i + 1 : Nat) : Int) by omega]
        refine v_goto 8 dX5_offsetByChanges_40 ?_
        exact v_lof [(0, .ref z), (1, .long (lI t)), (3, .int (iI (obc f gm go t (i + 1)))), (4, .int (iI (((i + 1 : Nat) : Int))))] (List.forall_mem_cons.mpr ⟨rfl, (List.forall_mem_cons.mpr ⟨rfl, (List.forall_mem_cons.mpr ⟨rfl, (List.forall_mem_cons.mpr ⟨rfl, (fun _ h => nomatch h)⟩)⟩)⟩)⟩) (ih (i + 1) (by omega) (by omega))
set_option maxRecDepth 100000 in
set_option maxHeartbeats 4000000 in
theorem s_X5_offsetByChanges {l : Launch} {G : GG} {w : AH} {Q : Option Value → AH → Prop} {X : String → AH → Prop} (hst : l.stackTraces = false) {z am ao ar : Nat} {f c r : Int} {gm go : Nat → Int} (h0 : w z = some (zoC f am ao c ar r)) (h1 : w am = some (alA G 8 gm)) (h2 : w ao = some (aiA G 8 go)) (hc : 0 ≤ c ∧ c ≤ 8) (hr : 0 ≤ r ∧ r ≤ 2) {t : Int} (ht : -9223372036854775808 ≤ t ∧ t ≤ 9223372036854775807) (hg : ∀ k, -9223372036854775808 ≤ gm k ∧ gm k ≤ 9223372036854775807) (hmono : ∀ i j : Nat, i < j → (j : Int) < c → gm i < gm j) (hQ : Q (some (.int (iI (obc f gm go t c.toNat)))) w) : Ct l G mX5_offsetByChanges rX5_offsetByChanges [(.ref z), .long (lI t)] w Q X := by
  refine ct_of hst mk_X5_offsetByChanges (Nat.le_of_ble_eq_true rfl) ?_
  refine v_aload_n dX5_offsetByChanges_0 rfl ?_
  refine v_get dX5_offsetByChanges_1 f_X5_26 (by first | exact h0 | exact h1 | exact h2) rfl ?_
  refine v_istore_n dX5_offsetByChanges_4 (by decide) ?_
  refine v_iconst dX5_offsetByChanges_5 ?_
  refine v_istore dX5_offsetByChanges_6 (by decide) ?_
  exact v_lof [(0, .ref z), (1, .long (lI t)), (3, .int (iI (obc f gm go t 0))), (4, .int (iI (((0 : Nat) : Int))))] (List.forall_mem_cons.mpr ⟨rfl, (List.forall_mem_cons.mpr ⟨rfl, (List.forall_mem_cons.mpr ⟨rfl, (List.forall_mem_cons.mpr ⟨rfl, (fun _ h => nomatch h)⟩)⟩)⟩)⟩) (X5_obc_loop hst h0 h1 h2 hc hr ht hg hmono hQ 8 0 (by omega) (by omega))
def kOff (f : Int) (go : Nat → Int) (c : Int) (ro : Nat → Int) (k : Int) : Int := if k ≤ 0 then f else if k ≤ c then go (k - 1).toNat else ro (k - 1 - c).toNat
set_option maxRecDepth 100000 in
set_option maxHeartbeats 4000000 in
theorem s_X5_offsetOfKind {l : Launch} {G : GG} {w : AH} {Q : Option Value → AH → Prop} {X : String → AH → Prop} (hst : l.stackTraces = false) {z am ao ar : Nat} {f c r : Int} {go : Nat → Int} (h0 : w z = some (zoC f am ao c ar r)) (h2 : w ao = some (aiA G 8 go)) {ra : Nat → Nat} (h3 : w ar = some (arA G 6 2 (fun i => some (ra i)))) (hc : 0 ≤ c ∧ c ≤ 8) (hr : 0 ≤ r ∧ r ≤ 2) {ro : Nat → Int} (h4 : ∀ i, i < 2 → ∃ mo da wk se, w (ra i) = some (ruC mo da wk se (ro i))) {k : Int} (hk : 0 ≤ k ∧ k < 1 + c + r) (hQ : Q (some (.int (iI (kOff f go c ro k)))) w) : Ct l G mX5_offsetOfKind rX5_offsetOfKind [(.ref z), .int (iI k)] w Q X := by
  refine ct_of hst mk_X5_offsetOfKind (Nat.le_of_ble_eq_true rfl) ?_
  refine v_iload_n dX5_offsetOfKind_0 rfl ?_
  refine v_if_gt 9 dX5_offsetOfKind_1 (fun h_1 => ?_) (fun h_1 => ?_)
  · refine v_iload_n dX5_offsetOfKind_9 rfl ?_
    refine v_aload_n dX5_offsetOfKind_10 rfl ?_
    refine v_get dX5_offsetOfKind_11 f_X5_30 (by first | exact h0 | exact h2 | exact h3 | exact h5) rfl ?_
    refine v_icmp_gt 26 dX5_offsetOfKind_14 (fun h_14 => ?_) (fun h_14 => ?_)
    · have h6 := h4 (k - 1 - c).toNat
      refine v_iload_n dX5_offsetOfKind_26 rfl ?_
      refine v_iconst dX5_offsetOfKind_27 ?_
      refine v_isub dX5_offsetOfKind_28 ?_
      refine v_aload_n dX5_offsetOfKind_29 rfl ?_
      refine v_get dX5_offsetOfKind_30 f_X5_30 (by first | exact h0 | exact h2 | exact h3 | exact h5) rfl ?_
      refine v_isub dX5_offsetOfKind_33 ?_
      refine v_istore_n dX5_offsetOfKind_34 (by decide) ?_
      refine v_iload_n dX5_offsetOfKind_35 rfl ?_
      refine v_aload_n dX5_offsetOfKind_36 rfl ?_
      refine v_get dX5_offsetOfKind_37 f_X5_33 (by first | exact h0 | exact h2 | exact h3 | exact h5) rfl ?_
      refine v_icmp_ge 55 dX5_offsetOfKind_40 (fun h_40 => ?_) (fun h_40 => ?_)
      · refine v_aload_n dX5_offsetOfKind_55 rfl ?_
        refine v_get dX5_offsetOfKind_56 f_X5_26 (by first | exact h0 | exact h2 | exact h3 | exact h5) rfl ?_
        exact v_iret dX5_offsetOfKind_59 rfl (by first | exact qi hQ (by unfold kOff; rw [if_pos (by omega)]) | exact qi hQ (by unfold kOff; rw [if_neg (by omega), if_pos (by omega)]) | exact qi hQ (by unfold kOff; rw [if_neg (by omega), if_neg (by omega)]) | (exfalso; omega))
      · obtain ⟨mo9, da9, wk9, se9, h5⟩ := h6 (by omega)
        refine v_aload_n dX5_offsetOfKind_43 rfl ?_
        refine v_get dX5_offsetOfKind_44 f_X5_21 (by first | exact h0 | exact h2 | exact h3 | exact h5) rfl ?_
        refine v_iload_n dX5_offsetOfKind_47 rfl ?_
        refine v_aald (t := 6) dX5_offsetOfKind_48 (fun _ => rfl) (by first | exact h0 | exact h2 | exact h3 | exact h5) (by exact rfl) ?_
        refine v_getN dX5_offsetOfKind_49 f_X5_74 (by first | exact h0 | exact h2 | exact h3 | exact h5) rfl ?_
        refine v_goto 59 dX5_offsetOfKind_52 ?_
        exact v_iret dX5_offsetOfKind_59 rfl (by first | exact qi hQ (by unfold kOff; rw [if_pos (by omega)]) | exact qi hQ (by unfold kOff; rw [if_neg (by omega), if_pos (by omega)]) | exact qi hQ (by unfold kOff; rw [if_neg (by omega), if_neg (by omega)]) | (exfalso; omega))
    · refine v_aload_n dX5_offsetOfKind_17 rfl ?_
      refine v_get dX5_offsetOfKind_18 f_X5_15 (by first | exact h0 | exact h2 | exact h3 | exact h5) rfl ?_
      refine v_iload_n dX5_offsetOfKind_21 rfl ?_
      refine v_iconst dX5_offsetOfKind_22 ?_
      refine v_isub dX5_offsetOfKind_23 ?_
      refine v_iald dX5_offsetOfKind_24 (by first | exact h0 | exact h2 | exact h3 | exact h5) ?_
      exact v_iret dX5_offsetOfKind_25 rfl (by first | exact qi hQ (by unfold kOff; rw [if_pos (by omega)]) | exact qi hQ (by unfold kOff; rw [if_neg (by omega), if_pos (by omega)]) | exact qi hQ (by unfold kOff; rw [if_neg (by omega), if_neg (by omega)]) | (exfalso; omega))
  · refine v_aload_n dX5_offsetOfKind_4 rfl ?_
    refine v_get dX5_offsetOfKind_5 f_X5_26 (by first | exact h0 | exact h2 | exact h3 | exact h5) rfl ?_
    exact v_iret dX5_offsetOfKind_8 rfl (by first | exact qi hQ (by unfold kOff; rw [if_pos (by omega)]) | exact qi hQ (by unfold kOff; rw [if_neg (by omega), if_pos (by omega)]) | exact qi hQ (by unfold kOff; rw [if_neg (by omega), if_neg (by omega)]) | (exfalso; omega))
