section PG
theorem i2c_I {a : Int} (h : 0 ≤ a ∧ a ≤ 65535) : ((iI a).toUInt32 % 65536).toInt32 = iI a := Value.int.inj (nar_char h)
def paC (ac L : Nat) : va_E := .inr (1, [.ref ac, .int (iI (L : Int))])
def dv (v : Int) : Nat → Int
  | 0 => v
  | k + 1 => dv v k / 10
theorem dv_rng {v : Int} (h : 0 ≤ v ∧ v ≤ 100000000000000) : ∀ k, 0 ≤ dv v k ∧ dv v k ≤ 100000000000000 := by
  intro k
  induction k with
  | zero => exact h
  | succ k ih =>
    show 0 ≤ dv v k / 10 ∧ dv v k / 10 ≤ 100000000000000
    omega
def wrD (g : Nat → Int) (p : Nat) (v : Int) (n k : Nat) : Nat → Int := fun j => if p + n ≤ j + k ∧ j < p + n then dv v (p + n - 1 - j) % 10 + 48 else g j
theorem wrD_0 {g : Nat → Int} {p n : Nat} {v : Int} : wrD g p v n 0 = g := by
  funext j
  unfold wrD
  rw [if_neg (by omega)]
theorem wrD_s {g : Nat → Int} {p n k q : Nat} {v : Int} (hk : k < n) (hq : q = p + n - 1 - k) : gup (wrD g p v n k) q (dv v k % 10 + 48) = wrD g p v n (k + 1) := by
  funext j
  unfold gup wrD
  by_cases e : j = q
  · rw [if_pos e, if_pos (by omega)]
    rw [show p + n - 1 - j = k by omega]
  · rw [if_neg e]
    by_cases h : p + n ≤ j + k ∧ j < p + n
    · rw [if_pos h, if_pos (by omega)]
    · rw [if_neg h, if_neg (by omega)]
abbrev TS : Type := Nat × (Nat → Int)
def tCh (c : Int) (s : TS) : TS := (s.1 + 1, gup s.2 s.1 c)
def tDg (v : Int) (n : Nat) (s : TS) : TS := (s.1 + n, wrD s.2 s.1 v n n)
def PH (G : GG) (w : AH) (z ac : Nat) (s : TS) : AH := aup (aup w ac (acA G 30 s.2)) z (paC ac s.1)
theorem paca {G : GG} {ac L n : Nat} {g : Nat → Int} : paC ac L ≠ acA G n g := by
  intro h
  unfold paC acA at h
  exact nomatch h
theorem stpa {ac L : Nat} {y m d n : Int} : stC y m d n ≠ paC ac L := by
  intro h
  unfold stC paC at h
  cases h
theorem stca {G : GG} {k : Nat} {y m d n : Int} {g : Nat → Int} : stC y m d n ≠ acA G k g := by
  intro h
  unfold stC acA at h
  exact nomatch h
theorem ph_ph {G : GG} {w : AH} {z ac : Nat} {s t : TS} (h : ac ≠ z) : PH G (PH G w z ac s) z ac t = PH G w z ac t := by
  funext q
  unfold PH
  by_cases e1 : q = z
  · subst e1
    rw [aup_s, aup_s]
  · rw [aup_n e1, aup_n e1]
    by_cases e2 : q = ac
    · rw [e2, aup_s, aup_s]
    · rw [aup_n e2, aup_n e2, aup_n e1, aup_n e2]
theorem ph_z {G : GG} {w : AH} {z ac : Nat} {s : TS} : PH G w z ac s z = some (paC ac s.1) := aup_s
theorem ph_a {G : GG} {w : AH} {z ac : Nat} {s : TS} (h : ac ≠ z) : PH G w z ac s ac = some (acA G 30 s.2) := (aup_n h).trans aup_s
theorem ph_o {G : GG} {w : AH} {z ac q : Nat} {s : TS} (h1 : q ≠ z) (h2 : q ≠ ac) : PH G w z ac s q = w q := (aup_n h1).trans (aup_n h2)
theorem ph_id {G : GG} {w : AH} {z ac L L' : Nat} {g : Nat → Int} (h1 : w ac = some (acA G 30 g)) : aup w z (paC ac L') = PH G w z ac (L', g) := by
  unfold PH
  rw [aup_id h1]
end PG
set_option maxRecDepth 100000 in
set_option maxHeartbeats 4000000 in
theorem s_X2_append {l : Launch} {G : GG} {w : AH} {Q : Option Value → AH → Prop} {X : String → AH → Prop} (hst : l.stackTraces = false) {z ac : Nat} {s : TS} (h0 : w z = some (paC ac s.1)) (h1 : w ac = some (acA G 30 s.2)) {c : Int} (hc : 0 ≤ c ∧ c ≤ 65535) (hb : s.1 < 30) (hQ : Q none (PH G w z ac (tCh c s))) : Ct l G mX2_append rX2_append [.ref z, .int (iI c)] w Q X := by
  have n1 : ac ≠ z := fun e => absurd (ne_of h0 h1 paca) (fun h => h e.symm)
  refine ct_of hst mk_X2_append (Nat.le_of_ble_eq_true rfl) ?_
  refine v_aload_n dX2_append_0 rfl ?_
  refine v_get dX2_append_1 f_X2_15 (by first | exact h0 | exact h1 | exact aup_s | exact (aup_n n1.symm).trans h0 | exact (aup_n n1).trans h1) rfl ?_
  refine v_bipush dX2_append_4 ?_
  refine v_icmp_ge 29 dX2_append_6 (fun h_6 => ?_) (fun h_6 => ?_)
  · (exfalso; omega)
  refine v_aload_n dX2_append_9 rfl ?_
  refine v_get dX2_append_10 f_X2_9 (by first | exact h0 | exact h1 | exact aup_s | exact (aup_n n1.symm).trans h0 | exact (aup_n n1).trans h1) rfl ?_
  refine v_aload_n dX2_append_13 rfl ?_
  refine v_get dX2_append_14 f_X2_15 (by first | exact h0 | exact h1 | exact aup_s | exact (aup_n n1.symm).trans h0 | exact (aup_n n1).trans h1) rfl ?_
  refine v_iload_n dX2_append_17 rfl ?_
  refine v_cast dX2_append_18 (by first | exact h0 | exact h1 | exact aup_s | exact (aup_n n1.symm).trans h0 | exact (aup_n n1).trans h1) ?_
  refine v_aload_n dX2_append_19 rfl ?_
  refine v_dup dX2_append_20 rfl ?_
  refine v_get dX2_append_21 f_X2_15 (by first | exact h0 | exact h1 | exact aup_s | exact (aup_n n1.symm).trans h0 | exact (aup_n n1).trans h1) rfl ?_
  refine v_iconst dX2_append_24 ?_
  refine v_iadd dX2_append_25 ?_
  refine v_put dX2_append_26 f_X2_15 (by first | exact h0 | exact h1 | exact aup_s | exact (aup_n n1.symm).trans h0 | exact (aup_n n1).trans h1) rfl rfl (Nat.le_of_ble_eq_true rfl) ?_
  exact v_vret dX2_append_29 rfl (by exact hQ)
set_option maxRecDepth 100000 in
set_option maxHeartbeats 4000000 in
theorem s_X2_characterAt {l : Launch} {G : GG} {w : AH} {Q : Option Value → AH → Prop} {X : String → AH → Prop} (hst : l.stackTraces = false) {z ac : Nat} {s : TS} (h0 : w z = some (paC ac s.1)) (h1 : w ac = some (acA G 30 s.2)) {k : Int} (hk : 0 ≤ k ∧ k ≤ 2147483647) (hb : s.1 ≤ 30) (hQ : Q (some (.int (iI (if k < s.1 then s.2 k.toNat else -1)))) w) : Ct l G mX2_characterAt rX2_characterAt [.ref z, .int (iI k)] w Q X := by
  have n1 : ac ≠ z := fun e => absurd (ne_of h0 h1 paca) (fun h => h e.symm)
  refine ct_of hst mk_X2_characterAt (Nat.le_of_ble_eq_true rfl) ?_
  refine v_iload_n dX2_characterAt_0 rfl ?_
  refine v_if_lt 18 dX2_characterAt_1 (fun h_1 => ?_) (fun h_1 => ?_)
  · refine v_iconst dX2_characterAt_18 ?_
    exact v_iret dX2_characterAt_19 rfl (by first | (exfalso; omega) | exact qi hQ (by rw [if_pos (by omega)]) | exact qi hQ (by rw [if_neg (by omega)]))
  · refine v_iload_n dX2_characterAt_4 rfl ?_
    refine v_aload_n dX2_characterAt_5 rfl ?_
    refine v_get dX2_characterAt_6 f_X2_15 (by first | exact h0 | exact h1 | exact aup_s | exact (aup_n n1.symm).trans h0 | exact (aup_n n1).trans h1) rfl ?_
    refine v_icmp_ge 18 dX2_characterAt_9 (fun h_9 => ?_) (fun h_9 => ?_)
    · refine v_iconst dX2_characterAt_18 ?_
      exact v_iret dX2_characterAt_19 rfl (by first | (exfalso; omega) | exact qi hQ (by rw [if_pos (by omega)]) | exact qi hQ (by rw [if_neg (by omega)]))
    · refine v_iload_n dX2_characterAt_12 rfl ?_
      refine v_bipush dX2_characterAt_13 ?_
      refine v_icmp_lt 20 dX2_characterAt_15 (fun h_15 => ?_) (fun h_15 => ?_)
      · refine v_aload_n dX2_characterAt_20 rfl ?_
        refine v_get dX2_characterAt_21 f_X2_9 (by first | exact h0 | exact h1 | exact aup_s | exact (aup_n n1.symm).trans h0 | exact (aup_n n1).trans h1) rfl ?_
        refine v_iload_n dX2_characterAt_24 rfl ?_
        refine v_cald dX2_characterAt_25 (by first | exact h0 | exact h1 | exact aup_s | exact (aup_n n1.symm).trans h0 | exact (aup_n n1).trans h1) ?_
        exact v_iret dX2_characterAt_26 rfl (by first | (exfalso; omega) | exact qi hQ (by rw [if_pos (by omega)]) | exact qi hQ (by rw [if_neg (by omega)]))
      · refine v_iconst dX2_characterAt_18 ?_
        exact v_iret dX2_characterAt_19 rfl (by first | (exfalso; omega) | exact qi hQ (by rw [if_pos (by omega)]) | exact qi hQ (by rw [if_neg (by omega)]))
set_option maxRecDepth 100000 in
set_option maxHeartbeats 4000000 in
theorem X2_ad_loop {l : Launch} {G : GG} {w : AH} {Q : Option Value → AH → Prop} {X : String → AH → Prop} (hst : l.stackTraces = false) {z ac : Nat} {s : TS} (h0 : w z = some (paC ac s.1)) (h1 : w ac = some (acA G 30 s.2)) {v : Int} {n : Nat} (hv : 0 ≤ v ∧ v ≤ 100000000000000) (hn : 1 ≤ n ∧ n ≤ 9) (hb : s.1 + n ≤ 30) (hQ : Q none (PH G w z ac (tDg v n s))) : ∀ (N k : Nat), n - k ≤ N → k ≤ n → V l G mX2_appendDigits rX2_appendDigits Q X 25 (lof [(0, .ref z), (1, .long (lI v)), (3, .int (iI n)), (4, .long (lI (dv v k))), (6, .int (iI ((s.1 : Int) + n - 1 - (k : Int))))]) [] (aup w ac (acA G 30 (wrD s.2 s.1 v n k))) 0 0 := by
  intro N
  have n1 : ac ≠ z := fun e => absurd (ne_of h0 h1 paca) (fun h => h e.symm)
  have hQ9 : ∀ k, n ≤ k → k ≤ n → Q none (aup (aup w ac (acA G 30 (wrD s.2 s.1 v n k))) z (paC ac (s.1 + n))) := fun k a b => (show k = n by omega) ▸ hQ
  induction N with
  | zero =>
    intro k hN hk
    have hdr := dv_rng hv k
    refine v_iload dX2_appendDigits_25 rfl ?_
    refine v_aload_n dX2_appendDigits_27 rfl ?_
    refine v_get dX2_appendDigits_28 f_X2_15 (by first | exact aup_s | exact (aup_n n1.symm).trans h0) rfl ?_
    refine v_icmp_lt 67 dX2_appendDigits_31 (fun h_31 => ?_) (fun h_31 => ?_)
    · refine v_aload_n dX2_appendDigits_67 rfl ?_
      refine v_dup dX2_appendDigits_68 rfl ?_
      refine v_get dX2_appendDigits_69 f_X2_15 (by first | exact aup_s | exact (aup_n n1.symm).trans h0) rfl ?_
      refine v_iload_n dX2_appendDigits_72 rfl ?_
      refine v_iadd dX2_appendDigits_73 ?_
      refine v_put dX2_appendDigits_74 f_X2_15 (by first | exact aup_s | exact (aup_n n1.symm).trans h0) rfl rfl (Nat.le_of_ble_eq_true rfl) ?_
      exact v_vret dX2_appendDigits_77 rfl (by exact hQ9 k (by omega) (by omega))
    · refine v_aload_n dX2_appendDigits_34 rfl ?_
      refine v_get dX2_appendDigits_35 f_X2_9 (by first | exact aup_s | exact (aup_n n1.symm).trans h0) rfl ?_
      refine v_iload dX2_appendDigits_38 rfl ?_
      refine v_ldc2 (48) dX2_appendDigits_40 kl_X2_62 ?_
      refine v_lload dX2_appendDigits_43 rfl ?_
      refine v_ldc2 (10) dX2_appendDigits_45 kl_X2_64 ?_
      refine v_lremP dX2_appendDigits_48 ?_
      refine v_ladd dX2_appendDigits_49 ?_
      refine v_l2i dX2_appendDigits_50 ?_
      rw [show 48 + dv v k % 10 = dv v k % 10 + 48 by omega]
      refine v_i2c dX2_appendDigits_51 ?_
      rw [i2c_I (by omega)]
      refine v_cast dX2_appendDigits_52 (by first | exact aup_s) ?_
      rw [aup_up, wrD_s (by omega) (by omega)]
      refine v_lload dX2_appendDigits_53 rfl ?_
      refine v_ldc2 (10) dX2_appendDigits_55 kl_X2_64 ?_
      refine v_ldivP dX2_appendDigits_58 ?_
      rw [show dv v k / 10 = dv v (k + 1) from rfl]
      refine v_lstore dX2_appendDigits_59 (by decide) ?_
      refine v_iinc dX2_appendDigits_61 rfl ?_
      rw [show (s.1 : Int) + n - 1 - (k : Int) + -1 = (s.1 : Int) + n - 1 - ((k + 1 : Nat) : Int) by omega]
      refine v_goto 25 dX2_appendDigits_64 ?_
      (exfalso; omega)
  | succ N ih =>
    intro k hN hk
    have hdr := dv_rng hv k
    refine v_iload dX2_appendDigits_25 rfl ?_
    refine v_aload_n dX2_appendDigits_27 rfl ?_
    refine v_get dX2_appendDigits_28 f_X2_15 (by first | exact aup_s | exact (aup_n n1.symm).trans h0) rfl ?_
    refine v_icmp_lt 67 dX2_appendDigits_31 (fun h_31 => ?_) (fun h_31 => ?_)
    · refine v_aload_n dX2_appendDigits_67 rfl ?_
      refine v_dup dX2_appendDigits_68 rfl ?_
      refine v_get dX2_appendDigits_69 f_X2_15 (by first | exact aup_s | exact (aup_n n1.symm).trans h0) rfl ?_
      refine v_iload_n dX2_appendDigits_72 rfl ?_
      refine v_iadd dX2_appendDigits_73 ?_
      refine v_put dX2_appendDigits_74 f_X2_15 (by first | exact aup_s | exact (aup_n n1.symm).trans h0) rfl rfl (Nat.le_of_ble_eq_true rfl) ?_
      exact v_vret dX2_appendDigits_77 rfl (by exact hQ9 k (by omega) (by omega))
    · refine v_aload_n dX2_appendDigits_34 rfl ?_
      refine v_get dX2_appendDigits_35 f_X2_9 (by first | exact aup_s | exact (aup_n n1.symm).trans h0) rfl ?_
      refine v_iload dX2_appendDigits_38 rfl ?_
      refine v_ldc2 (48) dX2_appendDigits_40 kl_X2_62 ?_
      refine v_lload dX2_appendDigits_43 rfl ?_
      refine v_ldc2 (10) dX2_appendDigits_45 kl_X2_64 ?_
      refine v_lremP dX2_appendDigits_48 ?_
      refine v_ladd dX2_appendDigits_49 ?_
      refine v_l2i dX2_appendDigits_50 ?_
      rw [show 48 + dv v k % 10 = dv v k % 10 + 48 by omega]
      refine v_i2c dX2_appendDigits_51 ?_
      rw [i2c_I (by omega)]
      refine v_cast dX2_appendDigits_52 (by first | exact aup_s) ?_
      rw [aup_up, wrD_s (by omega) (by omega)]
      refine v_lload dX2_appendDigits_53 rfl ?_
      refine v_ldc2 (10) dX2_appendDigits_55 kl_X2_64 ?_
      refine v_ldivP dX2_appendDigits_58 ?_
      rw [show dv v k / 10 = dv v (k + 1) from rfl]
      refine v_lstore dX2_appendDigits_59 (by decide) ?_
      refine v_iinc dX2_appendDigits_61 rfl ?_
      rw [show (s.1 : Int) + n - 1 - (k : Int) + -1 = (s.1 : Int) + n - 1 - ((k + 1 : Nat) : Int) by omega]
      refine v_goto 25 dX2_appendDigits_64 ?_
      exact v_lof [(0, .ref z), (1, .long (lI v)), (3, .int (iI n)), (4, .long (lI (dv v (k + 1)))), (6, .int (iI ((s.1 : Int) + n - 1 - ((k + 1 : Nat) : Int))))] (List.forall_mem_cons.mpr ⟨rfl, (List.forall_mem_cons.mpr ⟨rfl, (List.forall_mem_cons.mpr ⟨rfl, (List.forall_mem_cons.mpr ⟨rfl, (List.forall_mem_cons.mpr ⟨rfl, (fun _ h => nomatch h)⟩)⟩)⟩)⟩)⟩) (ih (k + 1) (by omega) (by omega))
set_option maxRecDepth 100000 in
set_option maxHeartbeats 4000000 in
theorem s_X2_appendDigits {l : Launch} {G : GG} {w : AH} {Q : Option Value → AH → Prop} {X : String → AH → Prop} (hst : l.stackTraces = false) {z ac : Nat} {s : TS} (h0 : w z = some (paC ac s.1)) (h1 : w ac = some (acA G 30 s.2)) {v : Int} {n : Nat} (hv : 0 ≤ v ∧ v ≤ 100000000000000) (hn : 1 ≤ n ∧ n ≤ 9) (hb : s.1 + n ≤ 30) (hQ : Q none (PH G w z ac (tDg v n s))) : Ct l G mX2_appendDigits rX2_appendDigits [.ref z, .long (lI v), .int (iI (n : Int))] w Q X := by
  have n1 : ac ≠ z := fun e => absurd (ne_of h0 h1 paca) (fun h => h e.symm)
  refine ct_of hst mk_X2_appendDigits (Nat.le_of_ble_eq_true rfl) ?_
  refine v_aload_n dX2_appendDigits_0 rfl ?_
  refine v_get dX2_appendDigits_1 f_X2_15 (by first | exact h0 | exact h1 | exact aup_s | exact (aup_n n1.symm).trans h0 | exact (aup_n n1).trans h1) rfl ?_
  refine v_iload_n dX2_appendDigits_4 rfl ?_
  refine v_iadd dX2_appendDigits_5 ?_
  refine v_bipush dX2_appendDigits_6 ?_
  refine v_icmp_le 12 dX2_appendDigits_8 (fun h_8 => ?_) (fun h_8 => ?_)
  rotate_left
  · (exfalso; omega)
  refine v_lload_n dX2_appendDigits_12 rfl ?_
  refine v_lstore dX2_appendDigits_13 (by decide) ?_
  refine v_aload_n dX2_appendDigits_15 rfl ?_
  refine v_get dX2_appendDigits_16 f_X2_15 (by first | exact h0 | exact h1 | exact aup_s | exact (aup_n n1.symm).trans h0 | exact (aup_n n1).trans h1) rfl ?_
  refine v_iload_n dX2_appendDigits_19 rfl ?_
  refine v_iadd dX2_appendDigits_20 ?_
  refine v_iconst dX2_appendDigits_21 ?_
  refine v_isub dX2_appendDigits_22 ?_
  rw [show (s.1 : Int) + (n : Int) - 1 = (s.1 : Int) + n - 1 - ((0 : Nat) : Int) by omega]
  refine v_istore dX2_appendDigits_23 (by decide) ?_
  rw [show w = aup w ac (acA G 30 (wrD s.2 s.1 v n 0)) by rw [wrD_0, aup_id h1]]
  exact v_lof [(0, .ref z), (1, .long (lI v)), (3, .int (iI n)), (4, .long (lI (dv v 0))), (6, .int (iI ((s.1 : Int) + n - 1 - ((0 : Nat) : Int))))] (List.forall_mem_cons.mpr ⟨rfl, (List.forall_mem_cons.mpr ⟨rfl, (List.forall_mem_cons.mpr ⟨rfl, (List.forall_mem_cons.mpr ⟨rfl, (List.forall_mem_cons.mpr ⟨rfl, (fun _ h => nomatch h)⟩)⟩)⟩)⟩)⟩) (X2_ad_loop hst h0 h1 hv hn hb hQ n 0 (by omega) (by omega))
def tFr (v : Int) (s : TS) : TS := if v = 0 then s else if v % 1000000 = 0 then tDg (v / 1000000) 3 (tCh 46 s) else if v % 1000 = 0 then tDg (v / 1000) 6 (tCh 46 s) else tDg v 9 (tCh 46 s)
set_option maxRecDepth 100000 in
set_option maxHeartbeats 4000000 in
theorem s_X2_appendFraction {l : Launch} {G : GG} {w : AH} {Q : Option Value → AH → Prop} {X : String → AH → Prop} (hst : l.stackTraces = false) {z ac : Nat} {s : TS} (h0 : w z = some (paC ac s.1)) (h1 : w ac = some (acA G 30 s.2)) {v : Int} (hv : 0 ≤ v ∧ v ≤ 999999999) (hb : s.1 ≤ 20) (hQ : Q none (PH G w z ac (tFr v s))) : Ct l G mX2_appendFraction rX2_appendFraction [.ref z, .long (lI v)] w Q X := by
  have n1 : ac ≠ z := fun e => absurd (ne_of h0 h1 paca) (fun h => h e.symm)
  refine ct_of hst mk_X2_appendFraction (Nat.le_of_ble_eq_true rfl) ?_
  refine v_lload_n dX2_appendFraction_0 rfl ?_
  refine v_lconst0 dX2_appendFraction_1 ?_
  refine v_lif_ne 7 dX2_appendFraction_2 dX2_appendFraction_3 (fun h_2 => ?_) (fun h_2 => ?_)
  · refine v_aload_n dX2_appendFraction_7 rfl ?_
    refine v_bipush dX2_appendFraction_8 ?_
    refine v_V1 (rm' := rX2_append) (RX2, TX2, 2) dX2_appendFraction_10 km_X2_24 kn_X2_append kv_X2_append kz_X2 mk_X2_append rfl rfl (by first | exact h0 | exact ph_z) ⟨Nat.le_of_ble_eq_true rfl, Nat.le_of_ble_eq_true rfl⟩ ⟨Nat.le_of_ble_eq_true rfl, Nat.le_of_ble_eq_true rfl⟩ (Nat.le_of_ble_eq_true rfl) ?_
    refine s_X2_append (s := s) hst h0 h1 (by omega) (by omega) ?_
    refine v_lload_n dX2_appendFraction_13 rfl ?_
    refine v_ldc2 (1000000) dX2_appendFraction_14 kl_X2_58 ?_
    refine v_lremP dX2_appendFraction_17 ?_
    refine v_lconst0 dX2_appendFraction_18 ?_
    refine v_lif_ne 36 dX2_appendFraction_19 dX2_appendFraction_20 (fun h_19 => ?_) (fun h_19 => ?_)
    · refine v_lload_n dX2_appendFraction_36 rfl ?_
      refine v_ldc2 (1000) dX2_appendFraction_37 kl_X2_60 ?_
      refine v_lremP dX2_appendFraction_40 ?_
      refine v_lconst0 dX2_appendFraction_41 ?_
      refine v_lif_ne 60 dX2_appendFraction_42 dX2_appendFraction_43 (fun h_42 => ?_) (fun h_42 => ?_)
      · refine v_aload_n dX2_appendFraction_60 rfl ?_
        refine v_lload_n dX2_appendFraction_61 rfl ?_
        refine v_bipush dX2_appendFraction_62 ?_
        refine v_V2 (rm' := rX2_appendDigits) (RX2, TX2, 2) dX2_appendFraction_64 km_X2_34 kn_X2_appendDigits kv_X2_appendDigits kz_X2 mk_X2_appendDigits rfl rfl (by first | exact h0 | exact ph_z) ⟨Nat.le_of_ble_eq_true rfl, Nat.le_of_ble_eq_true rfl⟩ ⟨Nat.le_of_ble_eq_true rfl, Nat.le_of_ble_eq_true rfl⟩ (Nat.le_of_ble_eq_true rfl) ?_
        refine s_X2_appendDigits (s := tCh 46 s) (n := 9) hst ph_z (ph_a n1) (by omega) (by omega) (by simp only [tCh]; omega) ?_
        rw [ph_ph n1]
        exact v_vret dX2_appendFraction_67 rfl (by first | (rw [show tFr v s = s by unfold tFr; rw [if_pos (by omega)]] at hQ; unfold PH at hQ; rw [aup_id h1, aup_id h0] at hQ; exact hQ) | (rw [show tFr v s = _ by unfold tFr; rw [if_neg (by omega), if_pos (by omega)]] at hQ; exact hQ) | (rw [show tFr v s = _ by unfold tFr; rw [if_neg (by omega), if_neg (by omega), if_pos (by omega)]] at hQ; exact hQ) | (rw [show tFr v s = _ by unfold tFr; rw [if_neg (by omega), if_neg (by omega), if_neg (by omega)]] at hQ; exact hQ))
      · refine v_aload_n dX2_appendFraction_46 rfl ?_
        refine v_lload_n dX2_appendFraction_47 rfl ?_
        refine v_ldc2 (1000) dX2_appendFraction_48 kl_X2_60 ?_
        refine v_ldivP dX2_appendFraction_51 ?_
        refine v_bipush dX2_appendFraction_52 ?_
        refine v_V2 (rm' := rX2_appendDigits) (RX2, TX2, 2) dX2_appendFraction_54 km_X2_34 kn_X2_appendDigits kv_X2_appendDigits kz_X2 mk_X2_appendDigits rfl rfl (by first | exact h0 | exact ph_z) ⟨Nat.le_of_ble_eq_true rfl, Nat.le_of_ble_eq_true rfl⟩ ⟨Nat.le_of_ble_eq_true rfl, Nat.le_of_ble_eq_true rfl⟩ (Nat.le_of_ble_eq_true rfl) ?_
        refine s_X2_appendDigits (s := tCh 46 s) (n := 6) hst ph_z (ph_a n1) (by omega) (by omega) (by simp only [tCh]; omega) ?_
        rw [ph_ph n1]
        refine v_goto 67 dX2_appendFraction_57 ?_
        exact v_vret dX2_appendFraction_67 rfl (by first | (rw [show tFr v s = s by unfold tFr; rw [if_pos (by omega)]] at hQ; unfold PH at hQ; rw [aup_id h1, aup_id h0] at hQ; exact hQ) | (rw [show tFr v s = _ by unfold tFr; rw [if_neg (by omega), if_pos (by omega)]] at hQ; exact hQ) | (rw [show tFr v s = _ by unfold tFr; rw [if_neg (by omega), if_neg (by omega), if_pos (by omega)]] at hQ; exact hQ) | (rw [show tFr v s = _ by unfold tFr; rw [if_neg (by omega), if_neg (by omega), if_neg (by omega)]] at hQ; exact hQ))
    · refine v_aload_n dX2_appendFraction_23 rfl ?_
      refine v_lload_n dX2_appendFraction_24 rfl ?_
      refine v_ldc2 (1000000) dX2_appendFraction_25 kl_X2_58 ?_
      refine v_ldivP dX2_appendFraction_28 ?_
      refine v_iconst dX2_appendFraction_29 ?_
      refine v_V2 (rm' := rX2_appendDigits) (RX2, TX2, 2) dX2_appendFraction_30 km_X2_34 kn_X2_appendDigits kv_X2_appendDigits kz_X2 mk_X2_appendDigits rfl rfl (by first | exact h0 | exact ph_z) ⟨Nat.le_of_ble_eq_true rfl, Nat.le_of_ble_eq_true rfl⟩ ⟨Nat.le_of_ble_eq_true rfl, Nat.le_of_ble_eq_true rfl⟩ (Nat.le_of_ble_eq_true rfl) ?_
      refine s_X2_appendDigits (s := tCh 46 s) (n := 3) hst ph_z (ph_a n1) (by omega) (by omega) (by simp only [tCh]; omega) ?_
      rw [ph_ph n1]
      refine v_goto 67 dX2_appendFraction_33 ?_
      exact v_vret dX2_appendFraction_67 rfl (by first | (rw [show tFr v s = s by unfold tFr; rw [if_pos (by omega)]] at hQ; unfold PH at hQ; rw [aup_id h1, aup_id h0] at hQ; exact hQ) | (rw [show tFr v s = _ by unfold tFr; rw [if_neg (by omega), if_pos (by omega)]] at hQ; exact hQ) | (rw [show tFr v s = _ by unfold tFr; rw [if_neg (by omega), if_neg (by omega), if_pos (by omega)]] at hQ; exact hQ) | (rw [show tFr v s = _ by unfold tFr; rw [if_neg (by omega), if_neg (by omega), if_neg (by omega)]] at hQ; exact hQ))
  · exact v_vret dX2_appendFraction_6 rfl (by first | (rw [show tFr v s = s by unfold tFr; rw [if_pos (by omega)]] at hQ; unfold PH at hQ; rw [aup_id h1, aup_id h0] at hQ; exact hQ) | (rw [show tFr v s = _ by unfold tFr; rw [if_neg (by omega), if_pos (by omega)]] at hQ; exact hQ) | (rw [show tFr v s = _ by unfold tFr; rw [if_neg (by omega), if_neg (by omega), if_pos (by omega)]] at hQ; exact hQ) | (rw [show tFr v s = _ by unfold tFr; rw [if_neg (by omega), if_neg (by omega), if_neg (by omega)]] at hQ; exact hQ))
def tSec (n : Int) (s : TS) : TS := if n % 60000000000 = 0 then s else tFr (n / 1 % 1000000000) (tDg (n / 1000000000 % 60) 2 (tCh 58 s))
def tTim (n : Int) (s : TS) : TS := tSec n (tDg (n / 60000000000 % 60) 2 (tCh 58 (tDg (n / 3600000000000 % 24) 2 (tCh 84 s))))
def tDat (y m d : Int) (s : TS) : TS := tDg d 2 (tCh 45 (tDg m 2 (tCh 45 (tDg (if y < 0 then -y else y) 4 (if y < 0 then tCh 45 s else s)))))
def tTxt (y m d n : Int) (s : TS) : TS := tTim n (tDat y m d s)
theorem tCh_1 {c : Int} {s : TS} : (tCh c s).1 = s.1 + 1 := rfl
theorem tDg_1 {v : Int} {n : Nat} {s : TS} : (tDg v n s).1 = s.1 + n := rfl
set_option maxRecDepth 100000 in
set_option maxHeartbeats 4000000 in
theorem s_X2_write {l : Launch} {G : GG} {w : AH} {Q : Option Value → AH → Prop} {X : String → AH → Prop} (hst : l.stackTraces = false) {z ac st : Nat} {s0 : TS} {y m d n : Int} (h0 : w z = some (paC ac s0.1)) (h1 : w ac = some (acA G 30 s0.2)) (h5 : w st = some (stC y m d n)) (hy : -9999 ≤ y ∧ y ≤ 9999) (hm : 1 ≤ m ∧ m ≤ 12) (hd : 1 ≤ d ∧ d ≤ lenM y m) (hn : 0 ≤ n ∧ n ≤ 86399999999999) (hQ : Q none (PH G w z ac (tTxt y m d n (0, s0.2)))) : Ct l G mX2_write rX2_write [.ref z, .ref st] w Q X := by
  have n1 : ac ≠ z := fun e => absurd (ne_of h0 h1 paca) (fun h => h e.symm)
  have n2 : st ≠ z := ne_of h5 h0 stpa
  have n3 : st ≠ ac := ne_of h5 h1 stca
  have hlen := lenM_rng y m
  refine ct_of hst mk_X2_write (Nat.le_of_ble_eq_true rfl) ?_
  have J : ∀ s : TS, s.1 ≤ 1 → Q none (PH G w z ac (tTim n (tDg d 2 (tCh 45 (tDg m 2 (tCh 45 (tDg (if y < 0 then -y else y) 4 s))))))) → V l G mX2_write rX2_write Q X 18 (lof [(0, .ref z), (1, .ref st)]) [] (PH G w z ac s) 0 0 := by
    intro s hs hq
    refine v_aload_n dX2_write_18 rfl ?_
    refine v_aload_n dX2_write_19 rfl ?_
    refine v_getN dX2_write_20 f_X2_19 (by first | exact ph_z | exact (ph_o n2 n3).trans h5) rfl ?_
    refine v_S1 (rm' := rJ9_abs_0f7a4) dX2_write_23 km_X2_28 ks_J9_abs_0f7a4 kz_J9 mk_J9_abs_0f7a4 rfl ⟨Nat.le_of_ble_eq_true rfl, Nat.le_of_ble_eq_true rfl⟩ ⟨Nat.le_of_ble_eq_true rfl, Nat.le_of_ble_eq_true rfl⟩ (Nat.le_of_ble_eq_true rfl) ?_
    refine s_J9_abs_0f7a4 hst (fun ra ea => ?_)
    have ea2 : ra = (if y < 0 then -y else y) := (by split <;> omega)
    subst ea2
    have ea3 : 0 ≤ (if y < 0 then -y else y) ∧ (if y < 0 then -y else y) ≤ 9999 := (by split <;> omega)
    refine v_i2l dX2_write_26 ?_
    refine v_iconst dX2_write_27 ?_
    refine v_V2 (rm' := rX2_appendDigits) (RX2, TX2, 2) dX2_write_28 km_X2_34 kn_X2_appendDigits kv_X2_appendDigits kz_X2 mk_X2_appendDigits rfl rfl (by first | exact ph_z | exact (ph_o n2 n3).trans h5) ⟨Nat.le_of_ble_eq_true rfl, Nat.le_of_ble_eq_true rfl⟩ ⟨Nat.le_of_ble_eq_true rfl, Nat.le_of_ble_eq_true rfl⟩ (Nat.le_of_ble_eq_true rfl) ?_
    refine s_X2_appendDigits (n := 4) hst ph_z (ph_a n1) (by omega) (by omega) (by first | omega | (simp only [tCh_1, tDg_1]; omega)) ?_
    rw [ph_ph n1]
    refine v_aload_n dX2_write_31 rfl ?_
    refine v_bipush dX2_write_32 ?_
    refine v_V1 (rm' := rX2_append) (RX2, TX2, 2) dX2_write_34 km_X2_24 kn_X2_append kv_X2_append kz_X2 mk_X2_append rfl rfl (by first | exact ph_z | exact (ph_o n2 n3).trans h5) ⟨Nat.le_of_ble_eq_true rfl, Nat.le_of_ble_eq_true rfl⟩ ⟨Nat.le_of_ble_eq_true rfl, Nat.le_of_ble_eq_true rfl⟩ (Nat.le_of_ble_eq_true rfl) ?_
    refine s_X2_append hst ph_z (ph_a n1) (by omega) (by first | omega | (simp only [tCh_1, tDg_1]; omega)) ?_
    rw [ph_ph n1]
    refine v_aload_n dX2_write_37 rfl ?_
    refine v_aload_n dX2_write_38 rfl ?_
    refine v_getN dX2_write_39 f_X2_38 (by first | exact ph_z | exact (ph_o n2 n3).trans h5) rfl ?_
    refine v_i2l dX2_write_42 ?_
    refine v_iconst dX2_write_43 ?_
    refine v_V2 (rm' := rX2_appendDigits) (RX2, TX2, 2) dX2_write_44 km_X2_34 kn_X2_appendDigits kv_X2_appendDigits kz_X2 mk_X2_appendDigits rfl rfl (by first | exact ph_z | exact (ph_o n2 n3).trans h5) ⟨Nat.le_of_ble_eq_true rfl, Nat.le_of_ble_eq_true rfl⟩ ⟨Nat.le_of_ble_eq_true rfl, Nat.le_of_ble_eq_true rfl⟩ (Nat.le_of_ble_eq_true rfl) ?_
    refine s_X2_appendDigits (n := 2) hst ph_z (ph_a n1) (by omega) (by omega) (by first | omega | (simp only [tCh_1, tDg_1]; omega)) ?_
    rw [ph_ph n1]
    refine v_aload_n dX2_write_47 rfl ?_
    refine v_bipush dX2_write_48 ?_
    refine v_V1 (rm' := rX2_append) (RX2, TX2, 2) dX2_write_50 km_X2_24 kn_X2_append kv_X2_append kz_X2 mk_X2_append rfl rfl (by first | exact ph_z | exact (ph_o n2 n3).trans h5) ⟨Nat.le_of_ble_eq_true rfl, Nat.le_of_ble_eq_true rfl⟩ ⟨Nat.le_of_ble_eq_true rfl, Nat.le_of_ble_eq_true rfl⟩ (Nat.le_of_ble_eq_true rfl) ?_
    refine s_X2_append hst ph_z (ph_a n1) (by omega) (by first | omega | (simp only [tCh_1, tDg_1]; omega)) ?_
    rw [ph_ph n1]
    refine v_aload_n dX2_write_53 rfl ?_
    refine v_aload_n dX2_write_54 rfl ?_
    refine v_getN dX2_write_55 f_X2_41 (by first | exact ph_z | exact (ph_o n2 n3).trans h5) rfl ?_
    refine v_i2l dX2_write_58 ?_
    refine v_iconst dX2_write_59 ?_
    refine v_V2 (rm' := rX2_appendDigits) (RX2, TX2, 2) dX2_write_60 km_X2_34 kn_X2_appendDigits kv_X2_appendDigits kz_X2 mk_X2_appendDigits rfl rfl (by first | exact ph_z | exact (ph_o n2 n3).trans h5) ⟨Nat.le_of_ble_eq_true rfl, Nat.le_of_ble_eq_true rfl⟩ ⟨Nat.le_of_ble_eq_true rfl, Nat.le_of_ble_eq_true rfl⟩ (Nat.le_of_ble_eq_true rfl) ?_
    refine s_X2_appendDigits (n := 2) hst ph_z (ph_a n1) (by omega) (by omega) (by first | omega | (simp only [tCh_1, tDg_1]; omega)) ?_
    rw [ph_ph n1]
    refine v_aload_n dX2_write_63 rfl ?_
    refine v_bipush dX2_write_64 ?_
    refine v_V1 (rm' := rX2_append) (RX2, TX2, 2) dX2_write_66 km_X2_24 kn_X2_append kv_X2_append kz_X2 mk_X2_append rfl rfl (by first | exact ph_z | exact (ph_o n2 n3).trans h5) ⟨Nat.le_of_ble_eq_true rfl, Nat.le_of_ble_eq_true rfl⟩ ⟨Nat.le_of_ble_eq_true rfl, Nat.le_of_ble_eq_true rfl⟩ (Nat.le_of_ble_eq_true rfl) ?_
    refine s_X2_append hst ph_z (ph_a n1) (by omega) (by first | omega | (simp only [tCh_1, tDg_1]; omega)) ?_
    rw [ph_ph n1]
    refine v_aload_n dX2_write_69 rfl ?_
    refine v_aload_n dX2_write_70 rfl ?_
    refine v_bipush dX2_write_71 ?_
    refine v_V1 (rm' := rX4_timeField) (RX4, TX4, 4) dX2_write_73 km_X2_44 kn_X4_timeField kv_X4_timeField kz_X4 mk_X4_timeField rfl rfl (by first | exact ph_z | exact (ph_o n2 n3).trans h5) ⟨Nat.le_of_ble_eq_true rfl, Nat.le_of_ble_eq_true rfl⟩ ⟨Nat.le_of_ble_eq_true rfl, Nat.le_of_ble_eq_true rfl⟩ (Nat.le_of_ble_eq_true rfl) ?_
    refine s_X4_timeField hst ((ph_o n2 n3).trans h5) hy hm hd hn (by omega) ?_
    rw [show gF y m d n 6 = n / 3600000000000 % 24 from rfl]
    refine v_iconst dX2_write_76 ?_
    refine v_V2 (rm' := rX2_appendDigits) (RX2, TX2, 2) dX2_write_77 km_X2_34 kn_X2_appendDigits kv_X2_appendDigits kz_X2 mk_X2_appendDigits rfl rfl (by first | exact ph_z | exact (ph_o n2 n3).trans h5) ⟨Nat.le_of_ble_eq_true rfl, Nat.le_of_ble_eq_true rfl⟩ ⟨Nat.le_of_ble_eq_true rfl, Nat.le_of_ble_eq_true rfl⟩ (Nat.le_of_ble_eq_true rfl) ?_
    refine s_X2_appendDigits (n := 2) hst ph_z (ph_a n1) (by omega) (by omega) (by first | omega | (simp only [tCh_1, tDg_1]; omega)) ?_
    rw [ph_ph n1]
    refine v_aload_n dX2_write_80 rfl ?_
    refine v_bipush dX2_write_81 ?_
    refine v_V1 (rm' := rX2_append) (RX2, TX2, 2) dX2_write_83 km_X2_24 kn_X2_append kv_X2_append kz_X2 mk_X2_append rfl rfl (by first | exact ph_z | exact (ph_o n2 n3).trans h5) ⟨Nat.le_of_ble_eq_true rfl, Nat.le_of_ble_eq_true rfl⟩ ⟨Nat.le_of_ble_eq_true rfl, Nat.le_of_ble_eq_true rfl⟩ (Nat.le_of_ble_eq_true rfl) ?_
    refine s_X2_append hst ph_z (ph_a n1) (by omega) (by first | omega | (simp only [tCh_1, tDg_1]; omega)) ?_
    rw [ph_ph n1]
    refine v_aload_n dX2_write_86 rfl ?_
    refine v_aload_n dX2_write_87 rfl ?_
    refine v_bipush dX2_write_88 ?_
    refine v_V1 (rm' := rX4_timeField) (RX4, TX4, 4) dX2_write_90 km_X2_44 kn_X4_timeField kv_X4_timeField kz_X4 mk_X4_timeField rfl rfl (by first | exact ph_z | exact (ph_o n2 n3).trans h5) ⟨Nat.le_of_ble_eq_true rfl, Nat.le_of_ble_eq_true rfl⟩ ⟨Nat.le_of_ble_eq_true rfl, Nat.le_of_ble_eq_true rfl⟩ (Nat.le_of_ble_eq_true rfl) ?_
    refine s_X4_timeField hst ((ph_o n2 n3).trans h5) hy hm hd hn (by omega) ?_
    rw [show gF y m d n 7 = n / 60000000000 % 60 from rfl]
    refine v_iconst dX2_write_93 ?_
    refine v_V2 (rm' := rX2_appendDigits) (RX2, TX2, 2) dX2_write_94 km_X2_34 kn_X2_appendDigits kv_X2_appendDigits kz_X2 mk_X2_appendDigits rfl rfl (by first | exact ph_z | exact (ph_o n2 n3).trans h5) ⟨Nat.le_of_ble_eq_true rfl, Nat.le_of_ble_eq_true rfl⟩ ⟨Nat.le_of_ble_eq_true rfl, Nat.le_of_ble_eq_true rfl⟩ (Nat.le_of_ble_eq_true rfl) ?_
    refine s_X2_appendDigits (n := 2) hst ph_z (ph_a n1) (by omega) (by omega) (by first | omega | (simp only [tCh_1, tDg_1]; omega)) ?_
    rw [ph_ph n1]
    refine v_aload_n dX2_write_97 rfl ?_
    refine v_getN dX2_write_98 f_X2_48 (by first | exact ph_z | exact (ph_o n2 n3).trans h5) rfl ?_
    refine v_ldc2 (60000000000) dX2_write_101 kl_X2_52 ?_
    refine v_lremP dX2_write_104 ?_
    refine v_lconst0 dX2_write_105 ?_
    refine v_lif_eq 137 dX2_write_106 dX2_write_107 (fun h_106 => ?_) (fun h_106 => ?_)
    · exact v_vret dX2_write_137 rfl (by first | (unfold tTim tSec at hq; rw [if_pos (by omega)] at hq; exact hq) | (unfold tTim tSec at hq; rw [if_neg (by omega)] at hq; exact hq))
    · refine v_aload_n dX2_write_110 rfl ?_
      refine v_bipush dX2_write_111 ?_
      refine v_V1 (rm' := rX2_append) (RX2, TX2, 2) dX2_write_113 km_X2_24 kn_X2_append kv_X2_append kz_X2 mk_X2_append rfl rfl (by first | exact ph_z | exact (ph_o n2 n3).trans h5) ⟨Nat.le_of_ble_eq_true rfl, Nat.le_of_ble_eq_true rfl⟩ ⟨Nat.le_of_ble_eq_true rfl, Nat.le_of_ble_eq_true rfl⟩ (Nat.le_of_ble_eq_true rfl) ?_
      refine s_X2_append hst ph_z (ph_a n1) (by omega) (by first | omega | (simp only [tCh_1, tDg_1]; omega)) ?_
      rw [ph_ph n1]
      refine v_aload_n dX2_write_116 rfl ?_
      refine v_aload_n dX2_write_117 rfl ?_
      refine v_bipush dX2_write_118 ?_
      refine v_V1 (rm' := rX4_timeField) (RX4, TX4, 4) dX2_write_120 km_X2_44 kn_X4_timeField kv_X4_timeField kz_X4 mk_X4_timeField rfl rfl (by first | exact ph_z | exact (ph_o n2 n3).trans h5) ⟨Nat.le_of_ble_eq_true rfl, Nat.le_of_ble_eq_true rfl⟩ ⟨Nat.le_of_ble_eq_true rfl, Nat.le_of_ble_eq_true rfl⟩ (Nat.le_of_ble_eq_true rfl) ?_
      refine s_X4_timeField hst ((ph_o n2 n3).trans h5) hy hm hd hn (by omega) ?_
      rw [show gF y m d n 8 = n / 1000000000 % 60 from rfl]
      refine v_iconst dX2_write_123 ?_
      refine v_V2 (rm' := rX2_appendDigits) (RX2, TX2, 2) dX2_write_124 km_X2_34 kn_X2_appendDigits kv_X2_appendDigits kz_X2 mk_X2_appendDigits rfl rfl (by first | exact ph_z | exact (ph_o n2 n3).trans h5) ⟨Nat.le_of_ble_eq_true rfl, Nat.le_of_ble_eq_true rfl⟩ ⟨Nat.le_of_ble_eq_true rfl, Nat.le_of_ble_eq_true rfl⟩ (Nat.le_of_ble_eq_true rfl) ?_
      refine s_X2_appendDigits (n := 2) hst ph_z (ph_a n1) (by omega) (by omega) (by first | omega | (simp only [tCh_1, tDg_1]; omega)) ?_
      rw [ph_ph n1]
      refine v_aload_n dX2_write_127 rfl ?_
      refine v_aload_n dX2_write_128 rfl ?_
      refine v_bipush dX2_write_129 ?_
      refine v_V1 (rm' := rX4_timeField) (RX4, TX4, 4) dX2_write_131 km_X2_44 kn_X4_timeField kv_X4_timeField kz_X4 mk_X4_timeField rfl rfl (by first | exact ph_z | exact (ph_o n2 n3).trans h5) ⟨Nat.le_of_ble_eq_true rfl, Nat.le_of_ble_eq_true rfl⟩ ⟨Nat.le_of_ble_eq_true rfl, Nat.le_of_ble_eq_true rfl⟩ (Nat.le_of_ble_eq_true rfl) ?_
      refine s_X4_timeField hst ((ph_o n2 n3).trans h5) hy hm hd hn (by omega) ?_
      rw [show gF y m d n 9 = n / 1 % 1000000000 from rfl]
      refine v_V1 (rm' := rX2_appendFraction) (RX2, TX2, 2) dX2_write_134 km_X2_54 kn_X2_appendFraction kv_X2_appendFraction kz_X2 mk_X2_appendFraction rfl rfl (by first | exact ph_z | exact (ph_o n2 n3).trans h5) ⟨Nat.le_of_ble_eq_true rfl, Nat.le_of_ble_eq_true rfl⟩ ⟨Nat.le_of_ble_eq_true rfl, Nat.le_of_ble_eq_true rfl⟩ (Nat.le_of_ble_eq_true rfl) ?_
      refine s_X2_appendFraction hst ph_z (ph_a n1) (by omega) (by first | omega | (simp only [tCh_1, tDg_1]; omega)) ?_
      rw [ph_ph n1]
      exact v_vret dX2_write_137 rfl (by first | (unfold tTim tSec at hq; rw [if_pos (by omega)] at hq; exact hq) | (unfold tTim tSec at hq; rw [if_neg (by omega)] at hq; exact hq))
  refine v_aload_n dX2_write_0 rfl ?_
  refine v_iconst dX2_write_1 ?_
  refine v_put dX2_write_2 f_X2_15 (by exact h0) rfl rfl (Nat.le_of_ble_eq_true rfl) ?_
  show V l G _ _ Q X _ _ _ (aup w z (paC ac 0)) _ _
  rw [ph_id (L := 0) h1]
  refine v_aload_n dX2_write_5 rfl ?_
  refine v_getN dX2_write_6 f_X2_19 (by first | exact h0 | exact ph_z | exact (ph_o n2 n3).trans h5) rfl ?_
  refine v_if_ge 18 dX2_write_9 (fun h_9 => ?_) (fun h_9 => ?_)
  · first | exact v_lof [(0, .ref z), (1, .ref st)] (List.forall_mem_cons.mpr ⟨rfl, (List.forall_mem_cons.mpr ⟨rfl, (fun _ h => nomatch h)⟩)⟩) (J _ (by simp only [tCh_1]; omega) (by unfold tTxt tDat at hQ; rw [show (if y < 0 then tCh 45 (0, s0.2) else (0, s0.2)) = tCh 45 (0, s0.2) from if_pos (by omega)] at hQ; exact hQ)) | exact v_lof [(0, .ref z), (1, .ref st)] (List.forall_mem_cons.mpr ⟨rfl, (List.forall_mem_cons.mpr ⟨rfl, (fun _ h => nomatch h)⟩)⟩) (J _ (by omega) (by unfold tTxt tDat at hQ; rw [show (if y < 0 then tCh 45 (0, s0.2) else (0, s0.2)) = (0, s0.2) from if_neg (by omega)] at hQ; exact hQ))
  · refine v_aload_n dX2_write_12 rfl ?_
    refine v_bipush dX2_write_13 ?_
    refine v_V1 (rm' := rX2_append) (RX2, TX2, 2) dX2_write_15 km_X2_24 kn_X2_append kv_X2_append kz_X2 mk_X2_append rfl rfl (by first | exact h0 | exact ph_z | exact (ph_o n2 n3).trans h5) ⟨Nat.le_of_ble_eq_true rfl, Nat.le_of_ble_eq_true rfl⟩ ⟨Nat.le_of_ble_eq_true rfl, Nat.le_of_ble_eq_true rfl⟩ (Nat.le_of_ble_eq_true rfl) ?_
    refine s_X2_append hst ph_z (ph_a n1) (by omega) (by first | omega | (simp only [tCh_1, tDg_1]; omega)) ?_
    rw [ph_ph n1]
    first | exact v_lof [(0, .ref z), (1, .ref st)] (List.forall_mem_cons.mpr ⟨rfl, (List.forall_mem_cons.mpr ⟨rfl, (fun _ h => nomatch h)⟩)⟩) (J _ (by simp only [tCh_1]; omega) (by unfold tTxt tDat at hQ; rw [show (if y < 0 then tCh 45 (0, s0.2) else (0, s0.2)) = tCh 45 (0, s0.2) from if_pos (by omega)] at hQ; exact hQ)) | exact v_lof [(0, .ref z), (1, .ref st)] (List.forall_mem_cons.mpr ⟨rfl, (List.forall_mem_cons.mpr ⟨rfl, (fun _ h => nomatch h)⟩)⟩) (J _ (by omega) (by unfold tTxt tDat at hQ; rw [show (if y < 0 then tCh 45 (0, s0.2) else (0, s0.2)) = (0, s0.2) from if_neg (by omega)] at hQ; exact hQ))
