theorem mono1 {P R : Prop} {w' w : Int} (e : (w' = w ∧ P) ∨ (w' = 1 ∧ R)) (h : w' = 0) : w = 0 := by
  rcases e with ⟨a, _⟩ | ⟨a, _⟩
  · exact a.symm.trans h
  · exact absurd (a.symm.trans h) (by decide)
theorem mono3 {mi y w2 w3 : Int} (e3 : ((w3 = 0 ∧ w2 = 0 ∧ ¬ (mi = 1 ∧ y = 0)) ∨ (w3 = 1 ∧ ¬ (w2 = 0 ∧ ¬ (mi = 1 ∧ y = 0))))) : (w3 = 0 → w2 = 0 ∧ ¬ (mi = 1 ∧ y = 0)) ∧ (w2 = 0 → ¬ (mi = 1 ∧ y = 0) → w3 = 0) := by
  constructor
  · intro h
    omega
  · intro h h2
    omega
theorem paA {g : Nat → Int} {ty y m d mi w2 w3 w4 w5 w6 w7 : Int} {s p2 p4 p5 p6 p7 : Nat} (e2 : ((w2 = 0 ∧ ((48 ≤ nx g ty (s) ∧ nx g ty (s) ≤ 57) ∧ (48 ≤ nx g ty (s + 1) ∧ nx g ty (s + 1) ≤ 57) ∧ (48 ≤ nx g ty (s + 1 + 1) ∧ nx g ty (s + 1 + 1) ≤ 57) ∧ (48 ≤ nx g ty (s + 1 + 1 + 1) ∧ nx g ty (s + 1 + 1 + 1) ≤ 57)) ∧ y = n4 g ty s ∧ p2 = s + 1 + 1 + 1 + 1) ∨ (w2 = 1 ∧ ¬ ((48 ≤ nx g ty (s) ∧ nx g ty (s) ≤ 57) ∧ (48 ≤ nx g ty (s + 1) ∧ nx g ty (s + 1) ≤ 57) ∧ (48 ≤ nx g ty (s + 1 + 1) ∧ nx g ty (s + 1 + 1) ≤ 57) ∧ (48 ≤ nx g ty (s + 1 + 1 + 1) ∧ nx g ty (s + 1 + 1 + 1) ≤ 57))))) (e3 : ((w3 = 0 ∧ w2 = 0 ∧ ¬ (mi = 1 ∧ y = 0)) ∨ (w3 = 1 ∧ ¬ (w2 = 0 ∧ ¬ (mi = 1 ∧ y = 0))))) (e4 : ((w4 = w3 ∧ nx g ty p2 = 45 ∧ p4 = p2 + 1) ∨ (w4 = 1 ∧ nx g ty p2 ≠ 45 ∧ p4 = p2))) (e5 : ((w5 = w4 ∧ ((48 ≤ nx g ty (p4) ∧ nx g ty (p4) ≤ 57) ∧ (48 ≤ nx g ty (p4 + 1) ∧ nx g ty (p4 + 1) ≤ 57)) ∧ m = n2 g ty p4 ∧ p5 = p4 + 1 + 1) ∨ (w5 = 1 ∧ ¬ ((48 ≤ nx g ty (p4) ∧ nx g ty (p4) ≤ 57) ∧ (48 ≤ nx g ty (p4 + 1) ∧ nx g ty (p4 + 1) ≤ 57))))) (e6 : ((w6 = w5 ∧ nx g ty p5 = 45 ∧ p6 = p5 + 1) ∨ (w6 = 1 ∧ nx g ty p5 ≠ 45 ∧ p6 = p5))) (e7 : ((w7 = w6 ∧ ((48 ≤ nx g ty (p6) ∧ nx g ty (p6) ≤ 57) ∧ (48 ≤ nx g ty (p6 + 1) ∧ nx g ty (p6 + 1) ≤ 57)) ∧ d = n2 g ty p6 ∧ p7 = p6 + 1 + 1) ∨ (w7 = 1 ∧ ¬ ((48 ≤ nx g ty (p6) ∧ nx g ty (p6) ≤ 57) ∧ (48 ≤ nx g ty (p6 + 1) ∧ nx g ty (p6 + 1) ≤ 57))))) : (w7 = 0 → PB g ty s y m d ∧ ¬ (mi = 1 ∧ y = 0) ∧ p7 = s + 1 + 1 + 1 + 1 + 1 + 1 + 1 + 1 + 1 + 1) ∧ ((((48 ≤ nx g ty (s) ∧ nx g ty (s) ≤ 57) ∧ (48 ≤ nx g ty (s + 1) ∧ nx g ty (s + 1) ≤ 57) ∧ (48 ≤ nx g ty (s + 1 + 1) ∧ nx g ty (s + 1 + 1) ≤ 57) ∧ (48 ≤ nx g ty (s + 1 + 1 + 1) ∧ nx g ty (s + 1 + 1 + 1) ≤ 57)) ∧ (nx g ty (s + 1 + 1 + 1 + 1) = 45 ∧ ((48 ≤ nx g ty (s + 1 + 1 + 1 + 1 + 1) ∧ nx g ty (s + 1 + 1 + 1 + 1 + 1) ≤ 57) ∧ (48 ≤ nx g ty (s + 1 + 1 + 1 + 1 + 1 + 1) ∧ nx g ty (s + 1 + 1 + 1 + 1 + 1 + 1) ≤ 57))) ∧ (nx g ty (s + 1 + 1 + 1 + 1 + 1 + 1 + 1) = 45 ∧ ((48 ≤ nx g ty (s + 1 + 1 + 1 + 1 + 1 + 1 + 1 + 1) ∧ nx g ty (s + 1 + 1 + 1 + 1 + 1 + 1 + 1 + 1) ≤ 57) ∧ (48 ≤ nx g ty (s + 1 + 1 + 1 + 1 + 1 + 1 + 1 + 1 + 1) ∧ nx g ty (s + 1 + 1 + 1 + 1 + 1 + 1 + 1 + 1 + 1) ≤ 57)))) → ¬ (mi = 1 ∧ n4 g ty s = 0) → w7 = 0 ∧ p7 = s + 1 + 1 + 1 + 1 + 1 + 1 + 1 + 1 + 1 + 1 ∧ y = n4 g ty s ∧ m = n2 g ty (s + 1 + 1 + 1 + 1 + 1) ∧ d = n2 g ty (s + 1 + 1 + 1 + 1 + 1 + 1 + 1 + 1)) := by
  have m3 := mono3 e3
  have m4 := mono1 e4
  have m5 := mono1 e5
  have m6 := mono1 e6
  have m7 := mono1 e7
  rcases e2 with ⟨a1, a2, a3, a4⟩ | ⟨a1, a2⟩
  · subst a4
    rcases e4 with ⟨b1, b2, b3⟩ | ⟨b1, b2, b3⟩
    · subst b3
      rcases e5 with ⟨c1, c2, c3, c4⟩ | ⟨c1, c2⟩
      · subst c4
        rcases e6 with ⟨d1, d2, d3⟩ | ⟨d1, d2, d3⟩
        · subst d3
          rcases e7 with ⟨f1, f2, f3, f4⟩ | ⟨f1, f2⟩
          · refine ⟨fun h => ⟨⟨a2, a3, ⟨b2, c2⟩, c3, ⟨d2, f2⟩, f3⟩, (m3.1 (m4 (m5 (m6 (m7 h))))).2, f4⟩, fun h h2 => ⟨f1.trans (d1.trans (c1.trans (b1.trans (m3.2 a1 (by rw [a3]; exact h2))))), f4, a3, c3, f3⟩⟩
          · exact ⟨fun h => absurd (f1.symm.trans h) (by decide), fun h h2 => absurd h.2.2.2 f2⟩
        · exact ⟨fun h => absurd (d1.symm.trans (m7 h)) (by decide), fun h h2 => absurd h.2.2.1 d2⟩
      · exact ⟨fun h => absurd (c1.symm.trans (m6 (m7 h))) (by decide), fun h h2 => absurd h.2.1.2 c2⟩
    · exact ⟨fun h => absurd (b1.symm.trans (m5 (m6 (m7 h)))) (by decide), fun h h2 => absurd h.2.1.1 b2⟩
  · exact ⟨fun h => absurd (a1.symm.trans (m3.1 (m4 (m5 (m6 (m7 h))))).1) (by decide), fun h h2 => absurd h.1 a2⟩
theorem isDt_c {y y' m d m' d' : Int} (h : isDt y m d) (h1 : y' = y) (h2 : m' = m) (h3 : d' = d) : isDt y' m' d' := by
  subst h1 h2 h3
  exact h
theorem paK {g : Nat → Int} {ty y m d mi w2 w3 w4 w5 w6 w7 : Int} {s p2 p4 p5 p6 p7 : Nat} {w9 T : Int} {o p9 : Nat} (e1 : ((mi = 1 ∧ nx g ty o = 45 ∧ s = o + 1) ∨ (mi = 0 ∧ nx g ty o ≠ 45 ∧ s = o))) (e2 : ((w2 = 0 ∧ ((48 ≤ nx g ty (s) ∧ nx g ty (s) ≤ 57) ∧ (48 ≤ nx g ty (s + 1) ∧ nx g ty (s + 1) ≤ 57) ∧ (48 ≤ nx g ty (s + 1 + 1) ∧ nx g ty (s + 1 + 1) ≤ 57) ∧ (48 ≤ nx g ty (s + 1 + 1 + 1) ∧ nx g ty (s + 1 + 1 + 1) ≤ 57)) ∧ y = n4 g ty s ∧ p2 = s + 1 + 1 + 1 + 1) ∨ (w2 = 1 ∧ ¬ ((48 ≤ nx g ty (s) ∧ nx g ty (s) ≤ 57) ∧ (48 ≤ nx g ty (s + 1) ∧ nx g ty (s + 1) ≤ 57) ∧ (48 ≤ nx g ty (s + 1 + 1) ∧ nx g ty (s + 1 + 1) ≤ 57) ∧ (48 ≤ nx g ty (s + 1 + 1 + 1) ∧ nx g ty (s + 1 + 1 + 1) ≤ 57))))) (e3 : ((w3 = 0 ∧ w2 = 0 ∧ ¬ (mi = 1 ∧ y = 0)) ∨ (w3 = 1 ∧ ¬ (w2 = 0 ∧ ¬ (mi = 1 ∧ y = 0))))) (e4 : ((w4 = w3 ∧ nx g ty p2 = 45 ∧ p4 = p2 + 1) ∨ (w4 = 1 ∧ nx g ty p2 ≠ 45 ∧ p4 = p2))) (e5 : ((w5 = w4 ∧ ((48 ≤ nx g ty (p4) ∧ nx g ty (p4) ≤ 57) ∧ (48 ≤ nx g ty (p4 + 1) ∧ nx g ty (p4 + 1) ≤ 57)) ∧ m = n2 g ty p4 ∧ p5 = p4 + 1 + 1) ∨ (w5 = 1 ∧ ¬ ((48 ≤ nx g ty (p4) ∧ nx g ty (p4) ≤ 57) ∧ (48 ≤ nx g ty (p4 + 1) ∧ nx g ty (p4 + 1) ≤ 57))))) (e6 : ((w6 = w5 ∧ nx g ty p5 = 45 ∧ p6 = p5 + 1) ∨ (w6 = 1 ∧ nx g ty p5 ≠ 45 ∧ p6 = p5))) (e7 : ((w7 = w6 ∧ ((48 ≤ nx g ty (p6) ∧ nx g ty (p6) ≤ 57) ∧ (48 ≤ nx g ty (p6 + 1) ∧ nx g ty (p6 + 1) ≤ 57)) ∧ d = n2 g ty p6 ∧ p7 = p6 + 1 + 1) ∨ (w7 = 1 ∧ ¬ ((48 ≤ nx g ty (p6) ∧ nx g ty (p6) ≤ 57) ∧ (48 ≤ nx g ty (p6 + 1) ∧ nx g ty (p6 + 1) ≤ 57))))) (k1 : (w9 = 0 ∧ ty ≤ (p9 : Int)) → w7 = 0 ∧ TE g ty p7 T) (k2 : (w7 = 0 ∧ ∃ T' : Int, TE g ty p7 T') → w9 = 0 ∧ ty ≤ (p9 : Int)) : ((w9 = 0 ∧ ty ≤ (p9 : Int) ∧ isDt (if mi = 1 then -y else y) m d) → PO g ty o (if mi = 1 then -y else y) m d T) ∧ ((∃ y' m' d' T' : Int, PO g ty o y' m' d' T') → w9 = 0 ∧ ty ≤ (p9 : Int) ∧ isDt (if mi = 1 then -y else y) m d) := by
  obtain ⟨t1, t2⟩ := paA e2 e3 e4 e5 e6 e7
  clear e2 e3 e4 e5 e6 e7
  rcases e1 with ⟨a1, a2, a3⟩ | ⟨a1, a2, a3⟩
  · subst a3
    have hY : (if mi = 1 then -y else y) = -y := if_pos a1
    rw [hY]
    constructor
    · rintro ⟨b1, b2, b3⟩
      obtain ⟨c1, c2⟩ := k1 ⟨b1, b2⟩
      obtain ⟨d1, d2, d3⟩ := t1 c1
      subst d3
      exact Or.inl ⟨a2, by rw [show - -y = y by omega]; exact d1, by omega, b3, c2⟩
    · rintro ⟨y', m', d', T', h | h⟩
      · obtain ⟨f1, f2, f3, f4, f5⟩ := h
        obtain ⟨g1, g2, g3, g4, g5, g6⟩ := f2
        obtain ⟨h1, h2, h3, h4, h5⟩ := t2 ⟨g1, g3, g5⟩ (by omega)
        subst h2
        obtain ⟨i1, i2⟩ := k2 ⟨h1, T', f5⟩
        exact ⟨i1, i2, isDt_c f4 (by omega) (by omega) (by omega)⟩
      · exact absurd a2 h.1
  · subst a3
    have hY : (if mi = 1 then -y else y) = y := if_neg (by omega)
    rw [hY]
    constructor
    · rintro ⟨b1, b2, b3⟩
      obtain ⟨c1, c2⟩ := k1 ⟨b1, b2⟩
      obtain ⟨d1, d2, d3⟩ := t1 c1
      subst d3
      exact Or.inr ⟨a2, d1, b3, c2⟩
    · rintro ⟨y', m', d', T', h | h⟩
      · exact absurd h.1 a2
      · obtain ⟨f1, f2, f4, f5⟩ := h
        obtain ⟨g1, g2, g3, g4, g5, g6⟩ := f2
        obtain ⟨h1, h2, h3, h4, h5⟩ := t2 ⟨g1, g3, g5⟩ (by omega)
        subst h2
        obtain ⟨i1, i2⟩ := k2 ⟨h1, T', f5⟩
        exact ⟨i1, i2, isDt_c f4 (by omega) (by omega) (by omega)⟩
theorem te0 {g : Nat → Int} {ty w7 : Int} {p7 : Nat} (hx : nx g ty p7 ≠ 84) : ((w7 = 0 ∧ ty ≤ (p7 : Int)) → w7 = 0 ∧ TE g ty p7 0) ∧ ((w7 = 0 ∧ ∃ T' : Int, TE g ty p7 T') → w7 = 0 ∧ ty ≤ (p7 : Int)) := by
  constructor
  · rintro ⟨a, b⟩
    exact ⟨a, Or.inl ⟨b, rfl⟩⟩
  · rintro ⟨a, T', h | h⟩
    · exact ⟨a, h.1⟩
    · obtain ⟨_, p', h1, h2⟩ := h
      exact absurd h1.1.1 hx
theorem te1 {g : Nat → Int} {ty w7 w9 T : Int} {p7 p9 : Nat} (hx : nx g ty p7 = 84) (k1 : (w9 = 0 ∧ ty ≤ (p9 : Int)) → w7 = 0 ∧ ∃ p'' : Nat, TO g ty p7 T p'' ∧ ty ≤ (p'' : Int)) (k2 : (w7 = 0 ∧ ∃ (T'' : Int) (p'' : Nat), TO g ty p7 T'' p'' ∧ ty ≤ (p'' : Int)) → w9 = 0 ∧ ty ≤ (p9 : Int)) : ((w9 = 0 ∧ ty ≤ (p9 : Int)) → w7 = 0 ∧ TE g ty p7 T) ∧ ((w7 = 0 ∧ ∃ T' : Int, TE g ty p7 T') → w9 = 0 ∧ ty ≤ (p9 : Int)) := by
  have hl := nx_c g ty p7
  constructor
  · intro h
    obtain ⟨a, b⟩ := k1 h
    exact ⟨a, Or.inr ⟨by omega, b⟩⟩
  · rintro ⟨a, T', h | h⟩
    · exfalso; omega
    · exact k2 ⟨a, T', h.2⟩
set_option maxRecDepth 100000 in
set_option maxHeartbeats 1000000 in
theorem par_150 {l : Launch} {G : GG} {w : AH} {Q : Option Value → AH → Prop} {X : String → AH → Prop} (hst : l.stackTraces = false) {z : Nat} {A : Nat → Nat} {th yq mq dq ty ap wr sz : Int} {g : Nat → Int} (h0 : w z = some (mdC A th yq mq dq ty ap wr sz)) (h8 : w (A 8) = some (aiA G 30 g)) (hty : 0 ≤ ty ∧ ty ≤ 30) (hg : ∀ k, 0 ≤ g k ∧ g k ≤ 65535) {gd gn : Nat → Int} (h1 : w (A 0) = some (alA G 8 gd)) (h2 : w (A 1) = some (alA G 8 gn)) (hA01 : A 0 ≠ A 1) {i : Int} {o : Nat} (ho : o = 0) (h7 : (0 ≤ i ∧ i ≤ 7)) (hQ2 : ∀ (p' : Nat), (0 ≤ i ∧ i ≤ 7) → (∀ y m d T : Int, ¬ PO g ty o y m d T) → Q none (aup w z (mdC A 2 yq mq dq 0 ((p' : Nat) : Int) (1) sz))) (hQ : ∀ (p' : Nat) (y m d T : Int), (0 ≤ i ∧ i ≤ 7) → PO g ty o y m d T → Q none (aup (aup (aup w z (mdC A 0 yq mq dq 0 ((p' : Nat) : Int) (0) sz)) (A 0) (alA G 8 (gup gd i.toNat (ed y m d)))) (A 1) (alA G 8 (gup gn i.toNat T)))) : ∀ (mi y m d T : Int) (p9 : Nat) (wE : Int), p9 ≤ 30 → (0 ≤ y ∧ y ≤ 9999) → (0 ≤ m ∧ m ≤ 99) → (0 ≤ d ∧ d ≤ 99) → (0 ≤ T ∧ T ≤ 1000000000000000) → (mi = 0 ∨ mi = 1) →  (wE = 0 ∨ wE = 1) → OPQ ((wE = 0 → PO g ty o (if mi = 1 then -y else y) m d T ∧ (1 ≤ m ∧ m ≤ 12)) ∧ (wE = 1 → ∀ y m d T : Int, ¬ PO g ty o y m d T)) → V l G mX7_parse rX7_parse Q X 150 (lof [(0, .ref z), (1, .int (iI i)), (2, .int (iI mi)), (3, .int (iI y)), (4, .int (iI m)), (5, .int (iI d)), (6, .long (lI T))]) [] (aup w z (mdC A 0 yq mq dq ty ((p9 : Nat) : Int) (wE) sz)) 0 0 := by
  have nz0 : A 0 ≠ z := fun e => ne_of h0 h1 mdal e.symm
  have nz1 : A 1 ≠ z := fun e => ne_of h0 h2 mdal e.symm
  intro mi y m d T p9 wE hp9 hy hm hd hT hmi hwE hx
  rcases hwE with g0 | g0
  · subst g0
    have hd9 := (hx.1 rfl).2
    refine v_aload_n dX7_parse_150 rfl ?_
    refine v_iconst dX7_parse_151 ?_
    refine v_put dX7_parse_152 f_X7_251 (by exact aup_s) rfl rfl (Nat.le_of_ble_eq_true rfl) ?_
    try rw [aup_up]
    refine v_aload_n dX7_parse_155 rfl ?_
    refine v_aload_n dX7_parse_156 rfl ?_
    refine v_get dX7_parse_157 f_X7_260 (by exact aup_s) rfl ?_
    refine v_if_eq 167 dX7_parse_160 (fun h_160 => ?_) (fun h_160 => ?_)
    rotate_left
    · (exfalso; omega)
    refine v_iconst dX7_parse_167 ?_
    refine v_put dX7_parse_168 f_X7_41 (by exact aup_s) rfl rfl (Nat.le_of_ble_eq_true rfl) ?_
    try rw [aup_up]
    refine v_aload_n dX7_parse_171 rfl ?_
    refine v_get dX7_parse_172 f_X7_260 (by exact aup_s) rfl ?_
    refine v_if_ne 211 dX7_parse_175 (fun h_175 => ?_) (fun h_175 => ?_)
    · (exfalso; omega)
    refine v_aload_n dX7_parse_178 rfl ?_
    refine v_get dX7_parse_179 f_X7_7 (by exact aup_s) rfl ?_
    refine v_iload_n dX7_parse_182 rfl ?_
    refine v_iload_n dX7_parse_183 rfl ?_
    refine v_if_eq 193 dX7_parse_184 (fun h_184 => ?_) (fun h_184 => ?_)
    · refine v_iload_n dX7_parse_193 rfl ?_
      refine v_i2l dX7_parse_194 ?_
      refine v_iload dX7_parse_195 rfl ?_
      refine v_iload dX7_parse_197 rfl ?_
      refine v_S3 (rm' := rX7_dayOf) dX7_parse_199 km_X7_96 ks_X7_dayOf kz_X7 mk_X7_dayOf rfl ⟨Nat.le_of_ble_eq_true rfl, Nat.le_of_ble_eq_true rfl⟩ ⟨Nat.le_of_ble_eq_true rfl, Nat.le_of_ble_eq_true rfl⟩ (Nat.le_of_ble_eq_true rfl) ?_
      refine s_X7_dayOf hst ?_
      refine v_last dX7_parse_202 (by exact (aup_n nz0).trans h1) ?_
      refine v_aload_n dX7_parse_203 rfl ?_
      refine v_get dX7_parse_204 f_X7_13 (by exact (aup_n nz0.symm).trans aup_s) rfl ?_
      refine v_iload_n dX7_parse_207 rfl ?_
      refine v_lload dX7_parse_208 rfl ?_
      refine v_last dX7_parse_210 (by exact (aup_n hA01.symm).trans ((aup_n nz1).trans h2)) ?_
      exact v_vret dX7_parse_211 rfl (by first | (have g7 : mi = 1 := (by omega); have g8 := (hx.1 rfl).1; rw [if_pos g7] at g8; exact hQ p9 (-y) m d T h7 g8) | (have g7 : ¬ mi = 1 := (by omega); have g8 := (hx.1 rfl).1; rw [if_neg g7] at g8; exact hQ p9 y m d T h7 g8))
    · refine v_iload_n dX7_parse_187 rfl ?_
      refine v_ineg dX7_parse_188 ?_
      refine v_i2l dX7_parse_189 ?_
      refine v_goto 195 dX7_parse_190 ?_
      refine v_iload dX7_parse_195 rfl ?_
      refine v_iload dX7_parse_197 rfl ?_
      refine v_S3 (rm' := rX7_dayOf) dX7_parse_199 km_X7_96 ks_X7_dayOf kz_X7 mk_X7_dayOf rfl ⟨Nat.le_of_ble_eq_true rfl, Nat.le_of_ble_eq_true rfl⟩ ⟨Nat.le_of_ble_eq_true rfl, Nat.le_of_ble_eq_true rfl⟩ (Nat.le_of_ble_eq_true rfl) ?_
      refine s_X7_dayOf hst ?_
      refine v_last dX7_parse_202 (by exact (aup_n nz0).trans h1) ?_
      refine v_aload_n dX7_parse_203 rfl ?_
      refine v_get dX7_parse_204 f_X7_13 (by exact (aup_n nz0.symm).trans aup_s) rfl ?_
      refine v_iload_n dX7_parse_207 rfl ?_
      refine v_lload dX7_parse_208 rfl ?_
      refine v_last dX7_parse_210 (by exact (aup_n hA01.symm).trans ((aup_n nz1).trans h2)) ?_
      exact v_vret dX7_parse_211 rfl (by first | (have g7 : mi = 1 := (by omega); have g8 := (hx.1 rfl).1; rw [if_pos g7] at g8; exact hQ p9 (-y) m d T h7 g8) | (have g7 : ¬ mi = 1 := (by omega); have g8 := (hx.1 rfl).1; rw [if_neg g7] at g8; exact hQ p9 y m d T h7 g8))
  · subst g0
    refine v_aload_n dX7_parse_150 rfl ?_
    refine v_iconst dX7_parse_151 ?_
    refine v_put dX7_parse_152 f_X7_251 (by exact aup_s) rfl rfl (Nat.le_of_ble_eq_true rfl) ?_
    try rw [aup_up]
    refine v_aload_n dX7_parse_155 rfl ?_
    refine v_aload_n dX7_parse_156 rfl ?_
    refine v_get dX7_parse_157 f_X7_260 (by exact aup_s) rfl ?_
    refine v_if_eq 167 dX7_parse_160 (fun h_160 => ?_) (fun h_160 => ?_)
    · (exfalso; omega)
    refine v_iconst dX7_parse_163 ?_
    refine v_goto 168 dX7_parse_164 ?_
    refine v_put dX7_parse_168 f_X7_41 (by exact aup_s) rfl rfl (Nat.le_of_ble_eq_true rfl) ?_
    try rw [aup_up]
    refine v_aload_n dX7_parse_171 rfl ?_
    refine v_get dX7_parse_172 f_X7_260 (by exact aup_s) rfl ?_
    refine v_if_ne 211 dX7_parse_175 (fun h_175 => ?_) (fun h_175 => ?_)
    rotate_left
    · (exfalso; omega)
    exact v_vret dX7_parse_211 rfl (by exact hQ2 p9 h7 (hx.2 rfl))
set_option maxRecDepth 100000 in
set_option maxHeartbeats 1000000 in
theorem par_101 {l : Launch} {G : GG} {w : AH} {Q : Option Value → AH → Prop} {X : String → AH → Prop} (hst : l.stackTraces = false) {z : Nat} {A : Nat → Nat} {th yq mq dq ty ap wr sz : Int} {g : Nat → Int} (h0 : w z = some (mdC A th yq mq dq ty ap wr sz)) (h8 : w (A 8) = some (aiA G 30 g)) (hty : 0 ≤ ty ∧ ty ≤ 30) (hg : ∀ k, 0 ≤ g k ∧ g k ≤ 65535) {gd gn : Nat → Int} (h1 : w (A 0) = some (alA G 8 gd)) (h2 : w (A 1) = some (alA G 8 gn)) (hA01 : A 0 ≠ A 1) {i : Int} {o : Nat} (ho : o = 0) (h7 : (0 ≤ i ∧ i ≤ 7)) (hQ2 : ∀ (p' : Nat), (0 ≤ i ∧ i ≤ 7) → (∀ y m d T : Int, ¬ PO g ty o y m d T) → Q none (aup w z (mdC A 2 yq mq dq 0 ((p' : Nat) : Int) (1) sz))) (hQ : ∀ (p' : Nat) (y m d T : Int), (0 ≤ i ∧ i ≤ 7) → PO g ty o y m d T → Q none (aup (aup (aup w z (mdC A 0 yq mq dq 0 ((p' : Nat) : Int) (0) sz)) (A 0) (alA G 8 (gup gd i.toNat (ed y m d)))) (A 1) (alA G 8 (gup gn i.toNat T)))) : ∀ (mi y m d T : Int) (p9 : Nat) (w9 : Int), p9 ≤ 30 → (0 ≤ y ∧ y ≤ 9999) → (0 ≤ m ∧ m ≤ 99) → (0 ≤ d ∧ d ≤ 99) → (0 ≤ T ∧ T ≤ 1000000000000000) → (mi = 0 ∨ mi = 1) →  (w9 = 0 ∨ w9 = 1) → OPQ ((w9 = 0 ∧ ty ≤ (p9 : Int) ∧ isDt (if mi = 1 then -y else y) m d) → PO g ty o (if mi = 1 then -y else y) m d T) → OPQ ((∃ y' m' d' T' : Int, PO g ty o y' m' d' T') → w9 = 0 ∧ ty ≤ (p9 : Int) ∧ isDt (if mi = 1 then -y else y) m d) → V l G mX7_parse rX7_parse Q X 101 (lof [(0, .ref z), (1, .int (iI i)), (2, .int (iI mi)), (3, .int (iI y)), (4, .int (iI m)), (5, .int (iI d)), (6, .long (lI T))]) [] (aup w z (mdC A 0 yq mq dq ty ((p9 : Nat) : Int) (w9) sz)) 0 0 := by
  have nz0 : A 0 ≠ z := fun e => ne_of h0 h1 mdal e.symm
  have nz1 : A 1 ≠ z := fun e => ne_of h0 h2 mdal e.symm
  intro mi y m d T p9 w9 hp9 hy hm hd hT hmi hw9 k1 k2
  refine v_aload_n dX7_parse_101 rfl ?_
  refine v_aload_n dX7_parse_102 rfl ?_
  refine v_get dX7_parse_103 f_X7_260 (by exact aup_s) rfl ?_
  refine v_if_ne 142 dX7_parse_106 (fun h_106 => ?_) (fun h_106 => ?_)
  · refine v_iconst dX7_parse_142 ?_
    refine v_goto 147 dX7_parse_143 ?_
    refine v_put dX7_parse_147 f_X7_260 (by exact aup_s) rfl rfl (Nat.le_of_ble_eq_true rfl) ?_
    try rw [aup_up]
    first
    | (exfalso; omega)
    | (have g9 : (w9 = 0 ∧ ty ≤ (p9 : Int)) ∧ rd = 1 ∧ mi = 1 := (by omega)
       have g4 : isDt (-y) m d := (by rcases ed9 with g8 | g8; (exact g8.1); (exfalso; omega))
       have g6 : isDt (if mi = 1 then -y else y) m d := (by rw [if_pos (by omega)]; exact g4)
       exact v_lof [(0, .ref z), (1, .int (iI i)), (2, .int (iI mi)), (3, .int (iI y)), (4, .int (iI m)), (5, .int (iI d)), (6, .long (lI T))] (List.forall_mem_cons.mpr ⟨rfl, (List.forall_mem_cons.mpr ⟨rfl, (List.forall_mem_cons.mpr ⟨rfl, (List.forall_mem_cons.mpr ⟨rfl, (List.forall_mem_cons.mpr ⟨rfl, (List.forall_mem_cons.mpr ⟨rfl, (List.forall_mem_cons.mpr ⟨rfl, (fun _ h => nomatch h)⟩)⟩)⟩)⟩)⟩)⟩)⟩) (par_150 hst h0 h8 hty hg h1 h2 hA01 ho h7 hQ2 hQ mi y m d T p9 0 hp9 hy hm hd hT hmi (Or.inl rfl) ⟨fun _ => ⟨k1 ⟨g9.1.1, g9.1.2, g6⟩, by have g5 := g6; unfold isDt at g5; exact ⟨g5.2.2.1, g5.2.2.2.1⟩⟩, fun g => absurd g (by decide)⟩))
    | (have g9 : (w9 = 0 ∧ ty ≤ (p9 : Int)) ∧ rd = 1 ∧ mi = 0 := (by omega)
       have g4 : isDt y m d := (by rcases ed9 with g8 | g8; (exact g8.1); (exfalso; omega))
       have g6 : isDt (if mi = 1 then -y else y) m d := (by rw [if_neg (by omega)]; exact g4)
       exact v_lof [(0, .ref z), (1, .int (iI i)), (2, .int (iI mi)), (3, .int (iI y)), (4, .int (iI m)), (5, .int (iI d)), (6, .long (lI T))] (List.forall_mem_cons.mpr ⟨rfl, (List.forall_mem_cons.mpr ⟨rfl, (List.forall_mem_cons.mpr ⟨rfl, (List.forall_mem_cons.mpr ⟨rfl, (List.forall_mem_cons.mpr ⟨rfl, (List.forall_mem_cons.mpr ⟨rfl, (List.forall_mem_cons.mpr ⟨rfl, (fun _ h => nomatch h)⟩)⟩)⟩)⟩)⟩)⟩)⟩) (par_150 hst h0 h8 hty hg h1 h2 hA01 ho h7 hQ2 hQ mi y m d T p9 0 hp9 hy hm hd hT hmi (Or.inl rfl) ⟨fun _ => ⟨k1 ⟨g9.1.1, g9.1.2, g6⟩, by have g5 := g6; unfold isDt at g5; exact ⟨g5.2.2.1, g5.2.2.2.1⟩⟩, fun g => absurd g (by decide)⟩))
    | (have g9 : w9 = 1 := (by omega)
       exact v_lof [(0, .ref z), (1, .int (iI i)), (2, .int (iI mi)), (3, .int (iI y)), (4, .int (iI m)), (5, .int (iI d)), (6, .long (lI T))] (List.forall_mem_cons.mpr ⟨rfl, (List.forall_mem_cons.mpr ⟨rfl, (List.forall_mem_cons.mpr ⟨rfl, (List.forall_mem_cons.mpr ⟨rfl, (List.forall_mem_cons.mpr ⟨rfl, (List.forall_mem_cons.mpr ⟨rfl, (List.forall_mem_cons.mpr ⟨rfl, (fun _ h => nomatch h)⟩)⟩)⟩)⟩)⟩)⟩)⟩) (par_150 hst h0 h8 hty hg h1 h2 hA01 ho h7 hQ2 hQ mi y m d T p9 1 hp9 hy hm hd hT hmi (Or.inr rfl) ⟨fun g => absurd g (by decide), fun _ y' m' d' T' g => by have g5 := (k2 ⟨y', m', d', T', g⟩).1; omega⟩))
    | (have g9 : (p9 : Int) < ty := (by omega)
       exact v_lof [(0, .ref z), (1, .int (iI i)), (2, .int (iI mi)), (3, .int (iI y)), (4, .int (iI m)), (5, .int (iI d)), (6, .long (lI T))] (List.forall_mem_cons.mpr ⟨rfl, (List.forall_mem_cons.mpr ⟨rfl, (List.forall_mem_cons.mpr ⟨rfl, (List.forall_mem_cons.mpr ⟨rfl, (List.forall_mem_cons.mpr ⟨rfl, (List.forall_mem_cons.mpr ⟨rfl, (List.forall_mem_cons.mpr ⟨rfl, (fun _ h => nomatch h)⟩)⟩)⟩)⟩)⟩)⟩)⟩) (par_150 hst h0 h8 hty hg h1 h2 hA01 ho h7 hQ2 hQ mi y m d T p9 1 hp9 hy hm hd hT hmi (Or.inr rfl) ⟨fun g => absurd g (by decide), fun _ y' m' d' T' g => by have g5 := (k2 ⟨y', m', d', T', g⟩).2.1; omega⟩))
    | (have g9 : rd = 0 ∧ mi = 1 := (by omega)
       exact v_lof [(0, .ref z), (1, .int (iI i)), (2, .int (iI mi)), (3, .int (iI y)), (4, .int (iI m)), (5, .int (iI d)), (6, .long (lI T))] (List.forall_mem_cons.mpr ⟨rfl, (List.forall_mem_cons.mpr ⟨rfl, (List.forall_mem_cons.mpr ⟨rfl, (List.forall_mem_cons.mpr ⟨rfl, (List.forall_mem_cons.mpr ⟨rfl, (List.forall_mem_cons.mpr ⟨rfl, (List.forall_mem_cons.mpr ⟨rfl, (fun _ h => nomatch h)⟩)⟩)⟩)⟩)⟩)⟩)⟩) (par_150 hst h0 h8 hty hg h1 h2 hA01 ho h7 hQ2 hQ mi y m d T p9 1 hp9 hy hm hd hT hmi (Or.inr rfl) ⟨fun g => absurd g (by decide), fun _ y' m' d' T' g => by have g5 := (k2 ⟨y', m', d', T', g⟩).2.2; rw [if_pos (by omega)] at g5; rcases ed9 with g8 | g8; (omega); (exact g8.1 g5)⟩))
    | (have g9 : rd = 0 ∧ mi = 0 := (by omega)
       exact v_lof [(0, .ref z), (1, .int (iI i)), (2, .int (iI mi)), (3, .int (iI y)), (4, .int (iI m)), (5, .int (iI d)), (6, .long (lI T))] (List.forall_mem_cons.mpr ⟨rfl, (List.forall_mem_cons.mpr ⟨rfl, (List.forall_mem_cons.mpr ⟨rfl, (List.forall_mem_cons.mpr ⟨rfl, (List.forall_mem_cons.mpr ⟨rfl, (List.forall_mem_cons.mpr ⟨rfl, (List.forall_mem_cons.mpr ⟨rfl, (fun _ h => nomatch h)⟩)⟩)⟩)⟩)⟩)⟩)⟩) (par_150 hst h0 h8 hty hg h1 h2 hA01 ho h7 hQ2 hQ mi y m d T p9 1 hp9 hy hm hd hT hmi (Or.inr rfl) ⟨fun g => absurd g (by decide), fun _ y' m' d' T' g => by have g5 := (k2 ⟨y', m', d', T', g⟩).2.2; rw [if_neg (by omega)] at g5; rcases ed9 with g8 | g8; (omega); (exact g8.1 g5)⟩))
  · refine v_aload_n dX7_parse_109 rfl ?_
    refine v_get dX7_parse_110 f_X7_254 (by exact aup_s) rfl ?_
    refine v_aload_n dX7_parse_113 rfl ?_
    refine v_get dX7_parse_114 f_X7_251 (by exact aup_s) rfl ?_
    refine v_icmp_lt 142 dX7_parse_117 (fun h_117 => ?_) (fun h_117 => ?_)
    · refine v_iconst dX7_parse_142 ?_
      refine v_goto 147 dX7_parse_143 ?_
      refine v_put dX7_parse_147 f_X7_260 (by exact aup_s) rfl rfl (Nat.le_of_ble_eq_true rfl) ?_
      try rw [aup_up]
      first
      | (exfalso; omega)
      | (have g9 : (w9 = 0 ∧ ty ≤ (p9 : Int)) ∧ rd = 1 ∧ mi = 1 := (by omega)
         have g4 : isDt (-y) m d := (by rcases ed9 with g8 | g8; (exact g8.1); (exfalso; omega))
         have g6 : isDt (if mi = 1 then -y else y) m d := (by rw [if_pos (by omega)]; exact g4)
         exact v_lof [(0, .ref z), (1, .int (iI i)), (2, .int (iI mi)), (3, .int (iI y)), (4, .int (iI m)), (5, .int (iI d)), (6, .long (lI T))] (List.forall_mem_cons.mpr ⟨rfl, (List.forall_mem_cons.mpr ⟨rfl, (List.forall_mem_cons.mpr ⟨rfl, (List.forall_mem_cons.mpr ⟨rfl, (List.forall_mem_cons.mpr ⟨rfl, (List.forall_mem_cons.mpr ⟨rfl, (List.forall_mem_cons.mpr ⟨rfl, (fun _ h => nomatch h)⟩)⟩)⟩)⟩)⟩)⟩)⟩) (par_150 hst h0 h8 hty hg h1 h2 hA01 ho h7 hQ2 hQ mi y m d T p9 0 hp9 hy hm hd hT hmi (Or.inl rfl) ⟨fun _ => ⟨k1 ⟨g9.1.1, g9.1.2, g6⟩, by have g5 := g6; unfold isDt at g5; exact ⟨g5.2.2.1, g5.2.2.2.1⟩⟩, fun g => absurd g (by decide)⟩))
      | (have g9 : (w9 = 0 ∧ ty ≤ (p9 : Int)) ∧ rd = 1 ∧ mi = 0 := (by omega)
         have g4 : isDt y m d := (by rcases ed9 with g8 | g8; (exact g8.1); (exfalso; omega))
         have g6 : isDt (if mi = 1 then -y else y) m d := (by rw [if_neg (by omega)]; exact g4)
         exact v_lof [(0, .ref z), (1, .int (iI i)), (2, .int (iI mi)), (3, .int (iI y)), (4, .int (iI m)), (5, .int (iI d)), (6, .long (lI T))] (List.forall_mem_cons.mpr ⟨rfl, (List.forall_mem_cons.mpr ⟨rfl, (List.forall_mem_cons.mpr ⟨rfl, (List.forall_mem_cons.mpr ⟨rfl, (List.forall_mem_cons.mpr ⟨rfl, (List.forall_mem_cons.mpr ⟨rfl, (List.forall_mem_cons.mpr ⟨rfl, (fun _ h => nomatch h)⟩)⟩)⟩)⟩)⟩)⟩)⟩) (par_150 hst h0 h8 hty hg h1 h2 hA01 ho h7 hQ2 hQ mi y m d T p9 0 hp9 hy hm hd hT hmi (Or.inl rfl) ⟨fun _ => ⟨k1 ⟨g9.1.1, g9.1.2, g6⟩, by have g5 := g6; unfold isDt at g5; exact ⟨g5.2.2.1, g5.2.2.2.1⟩⟩, fun g => absurd g (by decide)⟩))
      | (have g9 : w9 = 1 := (by omega)
         exact v_lof [(0, .ref z), (1, .int (iI i)), (2, .int (iI mi)), (3, .int (iI y)), (4, .int (iI m)), (5, .int (iI d)), (6, .long (lI T))] (List.forall_mem_cons.mpr ⟨rfl, (List.forall_mem_cons.mpr ⟨rfl, (List.forall_mem_cons.mpr ⟨rfl, (List.forall_mem_cons.mpr ⟨rfl, (List.forall_mem_cons.mpr ⟨rfl, (List.forall_mem_cons.mpr ⟨rfl, (List.forall_mem_cons.mpr ⟨rfl, (fun _ h => nomatch h)⟩)⟩)⟩)⟩)⟩)⟩)⟩) (par_150 hst h0 h8 hty hg h1 h2 hA01 ho h7 hQ2 hQ mi y m d T p9 1 hp9 hy hm hd hT hmi (Or.inr rfl) ⟨fun g => absurd g (by decide), fun _ y' m' d' T' g => by have g5 := (k2 ⟨y', m', d', T', g⟩).1; omega⟩))
      | (have g9 : (p9 : Int) < ty := (by omega)
         exact v_lof [(0, .ref z), (1, .int (iI i)), (2, .int (iI mi)), (3, .int (iI y)), (4, .int (iI m)), (5, .int (iI d)), (6, .long (lI T))] (List.forall_mem_cons.mpr ⟨rfl, (List.forall_mem_cons.mpr ⟨rfl, (List.forall_mem_cons.mpr ⟨rfl, (List.forall_mem_cons.mpr ⟨rfl, (List.forall_mem_cons.mpr ⟨rfl, (List.forall_mem_cons.mpr ⟨rfl, (List.forall_mem_cons.mpr ⟨rfl, (fun _ h => nomatch h)⟩)⟩)⟩)⟩)⟩)⟩)⟩) (par_150 hst h0 h8 hty hg h1 h2 hA01 ho h7 hQ2 hQ mi y m d T p9 1 hp9 hy hm hd hT hmi (Or.inr rfl) ⟨fun g => absurd g (by decide), fun _ y' m' d' T' g => by have g5 := (k2 ⟨y', m', d', T', g⟩).2.1; omega⟩))
      | (have g9 : rd = 0 ∧ mi = 1 := (by omega)
         exact v_lof [(0, .ref z), (1, .int (iI i)), (2, .int (iI mi)), (3, .int (iI y)), (4, .int (iI m)), (5, .int (iI d)), (6, .long (lI T))] (List.forall_mem_cons.mpr ⟨rfl, (List.forall_mem_cons.mpr ⟨rfl, (List.forall_mem_cons.mpr ⟨rfl, (List.forall_mem_cons.mpr ⟨rfl, (List.forall_mem_cons.mpr ⟨rfl, (List.forall_mem_cons.mpr ⟨rfl, (List.forall_mem_cons.mpr ⟨rfl, (fun _ h => nomatch h)⟩)⟩)⟩)⟩)⟩)⟩)⟩) (par_150 hst h0 h8 hty hg h1 h2 hA01 ho h7 hQ2 hQ mi y m d T p9 1 hp9 hy hm hd hT hmi (Or.inr rfl) ⟨fun g => absurd g (by decide), fun _ y' m' d' T' g => by have g5 := (k2 ⟨y', m', d', T', g⟩).2.2; rw [if_pos (by omega)] at g5; rcases ed9 with g8 | g8; (omega); (exact g8.1 g5)⟩))
      | (have g9 : rd = 0 ∧ mi = 0 := (by omega)
         exact v_lof [(0, .ref z), (1, .int (iI i)), (2, .int (iI mi)), (3, .int (iI y)), (4, .int (iI m)), (5, .int (iI d)), (6, .long (lI T))] (List.forall_mem_cons.mpr ⟨rfl, (List.forall_mem_cons.mpr ⟨rfl, (List.forall_mem_cons.mpr ⟨rfl, (List.forall_mem_cons.mpr ⟨rfl, (List.forall_mem_cons.mpr ⟨rfl, (List.forall_mem_cons.mpr ⟨rfl, (List.forall_mem_cons.mpr ⟨rfl, (fun _ h => nomatch h)⟩)⟩)⟩)⟩)⟩)⟩)⟩) (par_150 hst h0 h8 hty hg h1 h2 hA01 ho h7 hQ2 hQ mi y m d T p9 1 hp9 hy hm hd hT hmi (Or.inr rfl) ⟨fun g => absurd g (by decide), fun _ y' m' d' T' g => by have g5 := (k2 ⟨y', m', d', T', g⟩).2.2; rw [if_neg (by omega)] at g5; rcases ed9 with g8 | g8; (omega); (exact g8.1 g5)⟩))
    · refine v_iload_n dX7_parse_120 rfl ?_
      refine v_if_eq 130 dX7_parse_121 (fun h_121 => ?_) (fun h_121 => ?_)
      · refine v_iload_n dX7_parse_130 rfl ?_
        refine v_i2l dX7_parse_131 ?_
        refine v_iload dX7_parse_132 rfl ?_
        refine v_iload dX7_parse_134 rfl ?_
        refine v_S3 (rm' := rX7_isDate) dX7_parse_136 km_X7_124 ks_X7_isDate kz_X7 mk_X7_isDate rfl ⟨Nat.le_of_ble_eq_true rfl, Nat.le_of_ble_eq_true rfl⟩ ⟨Nat.le_of_ble_eq_true rfl, Nat.le_of_ble_eq_true rfl⟩ (Nat.le_of_ble_eq_true rfl) ?_
        refine s_X7_isDate hst (fun rd ed9 => ?_)
        refine v_if_ne 146 dX7_parse_139 (fun h_139 => ?_) (fun h_139 => ?_)
        · refine v_iconst dX7_parse_146 ?_
          refine v_put dX7_parse_147 f_X7_260 (by exact aup_s) rfl rfl (Nat.le_of_ble_eq_true rfl) ?_
          try rw [aup_up]
          first
          | (exfalso; omega)
          | (have g9 : (w9 = 0 ∧ ty ≤ (p9 : Int)) ∧ rd = 1 ∧ mi = 1 := (by omega)
             have g4 : isDt (-y) m d := (by rcases ed9 with g8 | g8; (exact g8.1); (exfalso; omega))
             have g6 : isDt (if mi = 1 then -y else y) m d := (by rw [if_pos (by omega)]; exact g4)
             exact v_lof [(0, .ref z), (1, .int (iI i)), (2, .int (iI mi)), (3, .int (iI y)), (4, .int (iI m)), (5, .int (iI d)), (6, .long (lI T))] (List.forall_mem_cons.mpr ⟨rfl, (List.forall_mem_cons.mpr ⟨rfl, (List.forall_mem_cons.mpr ⟨rfl, (List.forall_mem_cons.mpr ⟨rfl, (List.forall_mem_cons.mpr ⟨rfl, (List.forall_mem_cons.mpr ⟨rfl, (List.forall_mem_cons.mpr ⟨rfl, (fun _ h => nomatch h)⟩)⟩)⟩)⟩)⟩)⟩)⟩) (par_150 hst h0 h8 hty hg h1 h2 hA01 ho h7 hQ2 hQ mi y m d T p9 0 hp9 hy hm hd hT hmi (Or.inl rfl) ⟨fun _ => ⟨k1 ⟨g9.1.1, g9.1.2, g6⟩, by have g5 := g6; unfold isDt at g5; exact ⟨g5.2.2.1, g5.2.2.2.1⟩⟩, fun g => absurd g (by decide)⟩))
          | (have g9 : (w9 = 0 ∧ ty ≤ (p9 : Int)) ∧ rd = 1 ∧ mi = 0 := (by omega)
             have g4 : isDt y m d := (by rcases ed9 with g8 | g8; (exact g8.1); (exfalso; omega))
             have g6 : isDt (if mi = 1 then -y else y) m d := (by rw [if_neg (by omega)]; exact g4)
             exact v_lof [(0, .ref z), (1, .int (iI i)), (2, .int (iI mi)), (3, .int (iI y)), (4, .int (iI m)), (5, .int (iI d)), (6, .long (lI T))] (List.forall_mem_cons.mpr ⟨rfl, (List.forall_mem_cons.mpr ⟨rfl, (List.forall_mem_cons.mpr ⟨rfl, (List.forall_mem_cons.mpr ⟨rfl, (List.forall_mem_cons.mpr ⟨rfl, (List.forall_mem_cons.mpr ⟨rfl, (List.forall_mem_cons.mpr ⟨rfl, (fun _ h => nomatch h)⟩)⟩)⟩)⟩)⟩)⟩)⟩) (par_150 hst h0 h8 hty hg h1 h2 hA01 ho h7 hQ2 hQ mi y m d T p9 0 hp9 hy hm hd hT hmi (Or.inl rfl) ⟨fun _ => ⟨k1 ⟨g9.1.1, g9.1.2, g6⟩, by have g5 := g6; unfold isDt at g5; exact ⟨g5.2.2.1, g5.2.2.2.1⟩⟩, fun g => absurd g (by decide)⟩))
          | (have g9 : w9 = 1 := (by omega)
             exact v_lof [(0, .ref z), (1, .int (iI i)), (2, .int (iI mi)), (3, .int (iI y)), (4, .int (iI m)), (5, .int (iI d)), (6, .long (lI T))] (List.forall_mem_cons.mpr ⟨rfl, (List.forall_mem_cons.mpr ⟨rfl, (List.forall_mem_cons.mpr ⟨rfl, (List.forall_mem_cons.mpr ⟨rfl, (List.forall_mem_cons.mpr ⟨rfl, (List.forall_mem_cons.mpr ⟨rfl, (List.forall_mem_cons.mpr ⟨rfl, (fun _ h => nomatch h)⟩)⟩)⟩)⟩)⟩)⟩)⟩) (par_150 hst h0 h8 hty hg h1 h2 hA01 ho h7 hQ2 hQ mi y m d T p9 1 hp9 hy hm hd hT hmi (Or.inr rfl) ⟨fun g => absurd g (by decide), fun _ y' m' d' T' g => by have g5 := (k2 ⟨y', m', d', T', g⟩).1; omega⟩))
          | (have g9 : (p9 : Int) < ty := (by omega)
             exact v_lof [(0, .ref z), (1, .int (iI i)), (2, .int (iI mi)), (3, .int (iI y)), (4, .int (iI m)), (5, .int (iI d)), (6, .long (lI T))] (List.forall_mem_cons.mpr ⟨rfl, (List.forall_mem_cons.mpr ⟨rfl, (List.forall_mem_cons.mpr ⟨rfl, (List.forall_mem_cons.mpr ⟨rfl, (List.forall_mem_cons.mpr ⟨rfl, (List.forall_mem_cons.mpr ⟨rfl, (List.forall_mem_cons.mpr ⟨rfl, (fun _ h => nomatch h)⟩)⟩)⟩)⟩)⟩)⟩)⟩) (par_150 hst h0 h8 hty hg h1 h2 hA01 ho h7 hQ2 hQ mi y m d T p9 1 hp9 hy hm hd hT hmi (Or.inr rfl) ⟨fun g => absurd g (by decide), fun _ y' m' d' T' g => by have g5 := (k2 ⟨y', m', d', T', g⟩).2.1; omega⟩))
          | (have g9 : rd = 0 ∧ mi = 1 := (by omega)
             exact v_lof [(0, .ref z), (1, .int (iI i)), (2, .int (iI mi)), (3, .int (iI y)), (4, .int (iI m)), (5, .int (iI d)), (6, .long (lI T))] (List.forall_mem_cons.mpr ⟨rfl, (List.forall_mem_cons.mpr ⟨rfl, (List.forall_mem_cons.mpr ⟨rfl, (List.forall_mem_cons.mpr ⟨rfl, (List.forall_mem_cons.mpr ⟨rfl, (List.forall_mem_cons.mpr ⟨rfl, (List.forall_mem_cons.mpr ⟨rfl, (fun _ h => nomatch h)⟩)⟩)⟩)⟩)⟩)⟩)⟩) (par_150 hst h0 h8 hty hg h1 h2 hA01 ho h7 hQ2 hQ mi y m d T p9 1 hp9 hy hm hd hT hmi (Or.inr rfl) ⟨fun g => absurd g (by decide), fun _ y' m' d' T' g => by have g5 := (k2 ⟨y', m', d', T', g⟩).2.2; rw [if_pos (by omega)] at g5; rcases ed9 with g8 | g8; (omega); (exact g8.1 g5)⟩))
          | (have g9 : rd = 0 ∧ mi = 0 := (by omega)
             exact v_lof [(0, .ref z), (1, .int (iI i)), (2, .int (iI mi)), (3, .int (iI y)), (4, .int (iI m)), (5, .int (iI d)), (6, .long (lI T))] (List.forall_mem_cons.mpr ⟨rfl, (List.forall_mem_cons.mpr ⟨rfl, (List.forall_mem_cons.mpr ⟨rfl, (List.forall_mem_cons.mpr ⟨rfl, (List.forall_mem_cons.mpr ⟨rfl, (List.forall_mem_cons.mpr ⟨rfl, (List.forall_mem_cons.mpr ⟨rfl, (fun _ h => nomatch h)⟩)⟩)⟩)⟩)⟩)⟩)⟩) (par_150 hst h0 h8 hty hg h1 h2 hA01 ho h7 hQ2 hQ mi y m d T p9 1 hp9 hy hm hd hT hmi (Or.inr rfl) ⟨fun g => absurd g (by decide), fun _ y' m' d' T' g => by have g5 := (k2 ⟨y', m', d', T', g⟩).2.2; rw [if_neg (by omega)] at g5; rcases ed9 with g8 | g8; (omega); (exact g8.1 g5)⟩))
        · refine v_iconst dX7_parse_142 ?_
          refine v_goto 147 dX7_parse_143 ?_
          refine v_put dX7_parse_147 f_X7_260 (by exact aup_s) rfl rfl (Nat.le_of_ble_eq_true rfl) ?_
          try rw [aup_up]
          first
          | (exfalso; omega)
          | (have g9 : (w9 = 0 ∧ ty ≤ (p9 : Int)) ∧ rd = 1 ∧ mi = 1 := (by omega)
             have g4 : isDt (-y) m d := (by rcases ed9 with g8 | g8; (exact g8.1); (exfalso; omega))
             have g6 : isDt (if mi = 1 then -y else y) m d := (by rw [if_pos (by omega)]; exact g4)
             exact v_lof [(0, .ref z), (1, .int (iI i)), (2, .int (iI mi)), (3, .int (iI y)), (4, .int (iI m)), (5, .int (iI d)), (6, .long (lI T))] (List.forall_mem_cons.mpr ⟨rfl, (List.forall_mem_cons.mpr ⟨rfl, (List.forall_mem_cons.mpr ⟨rfl, (List.forall_mem_cons.mpr ⟨rfl, (List.forall_mem_cons.mpr ⟨rfl, (List.forall_mem_cons.mpr ⟨rfl, (List.forall_mem_cons.mpr ⟨rfl, (fun _ h => nomatch h)⟩)⟩)⟩)⟩)⟩)⟩)⟩) (par_150 hst h0 h8 hty hg h1 h2 hA01 ho h7 hQ2 hQ mi y m d T p9 0 hp9 hy hm hd hT hmi (Or.inl rfl) ⟨fun _ => ⟨k1 ⟨g9.1.1, g9.1.2, g6⟩, by have g5 := g6; unfold isDt at g5; exact ⟨g5.2.2.1, g5.2.2.2.1⟩⟩, fun g => absurd g (by decide)⟩))
          | (have g9 : (w9 = 0 ∧ ty ≤ (p9 : Int)) ∧ rd = 1 ∧ mi = 0 := (by omega)
             have g4 : isDt y m d := (by rcases ed9 with g8 | g8; (exact g8.1); (exfalso; omega))
             have g6 : isDt (if mi = 1 then -y else y) m d := (by rw [if_neg (by omega)]; exact g4)
             exact v_lof [(0, .ref z), (1, .int (iI i)), (2, .int (iI mi)), (3, .int (iI y)), (4, .int (iI m)), (5, .int (iI d)), (6, .long (lI T))] (List.forall_mem_cons.mpr ⟨rfl, (List.forall_mem_cons.mpr ⟨rfl, (List.forall_mem_cons.mpr ⟨rfl, (List.forall_mem_cons.mpr ⟨rfl, (List.forall_mem_cons.mpr ⟨rfl, (List.forall_mem_cons.mpr ⟨rfl, (List.forall_mem_cons.mpr ⟨rfl, (fun _ h => nomatch h)⟩)⟩)⟩)⟩)⟩)⟩)⟩) (par_150 hst h0 h8 hty hg h1 h2 hA01 ho h7 hQ2 hQ mi y m d T p9 0 hp9 hy hm hd hT hmi (Or.inl rfl) ⟨fun _ => ⟨k1 ⟨g9.1.1, g9.1.2, g6⟩, by have g5 := g6; unfold isDt at g5; exact ⟨g5.2.2.1, g5.2.2.2.1⟩⟩, fun g => absurd g (by decide)⟩))
          | (have g9 : w9 = 1 := (by omega)
             exact v_lof [(0, .ref z), (1, .int (iI i)), (2, .int (iI mi)), (3, .int (iI y)), (4, .int (iI m)), (5, .int (iI d)), (6, .long (lI T))] (List.forall_mem_cons.mpr ⟨rfl, (List.forall_mem_cons.mpr ⟨rfl, (List.forall_mem_cons.mpr ⟨rfl, (List.forall_mem_cons.mpr ⟨rfl, (List.forall_mem_cons.mpr ⟨rfl, (List.forall_mem_cons.mpr ⟨rfl, (List.forall_mem_cons.mpr ⟨rfl, (fun _ h => nomatch h)⟩)⟩)⟩)⟩)⟩)⟩)⟩) (par_150 hst h0 h8 hty hg h1 h2 hA01 ho h7 hQ2 hQ mi y m d T p9 1 hp9 hy hm hd hT hmi (Or.inr rfl) ⟨fun g => absurd g (by decide), fun _ y' m' d' T' g => by have g5 := (k2 ⟨y', m', d', T', g⟩).1; omega⟩))
          | (have g9 : (p9 : Int) < ty := (by omega)
             exact v_lof [(0, .ref z), (1, .int (iI i)), (2, .int (iI mi)), (3, .int (iI y)), (4, .int (iI m)), (5, .int (iI d)), (6, .long (lI T))] (List.forall_mem_cons.mpr ⟨rfl, (List.forall_mem_cons.mpr ⟨rfl, (List.forall_mem_cons.mpr ⟨rfl, (List.forall_mem_cons.mpr ⟨rfl, (List.forall_mem_cons.mpr ⟨rfl, (List.forall_mem_cons.mpr ⟨rfl, (List.forall_mem_cons.mpr ⟨rfl, (fun _ h => nomatch h)⟩)⟩)⟩)⟩)⟩)⟩)⟩) (par_150 hst h0 h8 hty hg h1 h2 hA01 ho h7 hQ2 hQ mi y m d T p9 1 hp9 hy hm hd hT hmi (Or.inr rfl) ⟨fun g => absurd g (by decide), fun _ y' m' d' T' g => by have g5 := (k2 ⟨y', m', d', T', g⟩).2.1; omega⟩))
          | (have g9 : rd = 0 ∧ mi = 1 := (by omega)
             exact v_lof [(0, .ref z), (1, .int (iI i)), (2, .int (iI mi)), (3, .int (iI y)), (4, .int (iI m)), (5, .int (iI d)), (6, .long (lI T))] (List.forall_mem_cons.mpr ⟨rfl, (List.forall_mem_cons.mpr ⟨rfl, (List.forall_mem_cons.mpr ⟨rfl, (List.forall_mem_cons.mpr ⟨rfl, (List.forall_mem_cons.mpr ⟨rfl, (List.forall_mem_cons.mpr ⟨rfl, (List.forall_mem_cons.mpr ⟨rfl, (fun _ h => nomatch h)⟩)⟩)⟩)⟩)⟩)⟩)⟩) (par_150 hst h0 h8 hty hg h1 h2 hA01 ho h7 hQ2 hQ mi y m d T p9 1 hp9 hy hm hd hT hmi (Or.inr rfl) ⟨fun g => absurd g (by decide), fun _ y' m' d' T' g => by have g5 := (k2 ⟨y', m', d', T', g⟩).2.2; rw [if_pos (by omega)] at g5; rcases ed9 with g8 | g8; (omega); (exact g8.1 g5)⟩))
          | (have g9 : rd = 0 ∧ mi = 0 := (by omega)
             exact v_lof [(0, .ref z), (1, .int (iI i)), (2, .int (iI mi)), (3, .int (iI y)), (4, .int (iI m)), (5, .int (iI d)), (6, .long (lI T))] (List.forall_mem_cons.mpr ⟨rfl, (List.forall_mem_cons.mpr ⟨rfl, (List.forall_mem_cons.mpr ⟨rfl, (List.forall_mem_cons.mpr ⟨rfl, (List.forall_mem_cons.mpr ⟨rfl, (List.forall_mem_cons.mpr ⟨rfl, (List.forall_mem_cons.mpr ⟨rfl, (fun _ h => nomatch h)⟩)⟩)⟩)⟩)⟩)⟩)⟩) (par_150 hst h0 h8 hty hg h1 h2 hA01 ho h7 hQ2 hQ mi y m d T p9 1 hp9 hy hm hd hT hmi (Or.inr rfl) ⟨fun g => absurd g (by decide), fun _ y' m' d' T' g => by have g5 := (k2 ⟨y', m', d', T', g⟩).2.2; rw [if_neg (by omega)] at g5; rcases ed9 with g8 | g8; (omega); (exact g8.1 g5)⟩))
      · refine v_iload_n dX7_parse_124 rfl ?_
        refine v_ineg dX7_parse_125 ?_
        refine v_i2l dX7_parse_126 ?_
        refine v_goto 132 dX7_parse_127 ?_
        refine v_iload dX7_parse_132 rfl ?_
        refine v_iload dX7_parse_134 rfl ?_
        refine v_S3 (rm' := rX7_isDate) dX7_parse_136 km_X7_124 ks_X7_isDate kz_X7 mk_X7_isDate rfl ⟨Nat.le_of_ble_eq_true rfl, Nat.le_of_ble_eq_true rfl⟩ ⟨Nat.le_of_ble_eq_true rfl, Nat.le_of_ble_eq_true rfl⟩ (Nat.le_of_ble_eq_true rfl) ?_
        refine s_X7_isDate hst (fun rd ed9 => ?_)
        refine v_if_ne 146 dX7_parse_139 (fun h_139 => ?_) (fun h_139 => ?_)
        · refine v_iconst dX7_parse_146 ?_
          refine v_put dX7_parse_147 f_X7_260 (by exact aup_s) rfl rfl (Nat.le_of_ble_eq_true rfl) ?_
          try rw [aup_up]
          first
          | (exfalso; omega)
          | (have g9 : (w9 = 0 ∧ ty ≤ (p9 : Int)) ∧ rd = 1 ∧ mi = 1 := (by omega)
             have g4 : isDt (-y) m d := (by rcases ed9 with g8 | g8; (exact g8.1); (exfalso; omega))
             have g6 : isDt (if mi = 1 then -y else y) m d := (by rw [if_pos (by omega)]; exact g4)
             exact v_lof [(0, .ref z), (1, .int (iI i)), (2, .int (iI mi)), (3, .int (iI y)), (4, .int (iI m)), (5, .int (iI d)), (6, .long (lI T))] (List.forall_mem_cons.mpr ⟨rfl, (List.forall_mem_cons.mpr ⟨rfl, (List.forall_mem_cons.mpr ⟨rfl, (List.forall_mem_cons.mpr ⟨rfl, (List.forall_mem_cons.mpr ⟨rfl, (List.forall_mem_cons.mpr ⟨rfl, (List.forall_mem_cons.mpr ⟨rfl, (fun _ h => nomatch h)⟩)⟩)⟩)⟩)⟩)⟩)⟩) (par_150 hst h0 h8 hty hg h1 h2 hA01 ho h7 hQ2 hQ mi y m d T p9 0 hp9 hy hm hd hT hmi (Or.inl rfl) ⟨fun _ => ⟨k1 ⟨g9.1.1, g9.1.2, g6⟩, by have g5 := g6; unfold isDt at g5; exact ⟨g5.2.2.1, g5.2.2.2.1⟩⟩, fun g => absurd g (by decide)⟩))
          | (have g9 : (w9 = 0 ∧ ty ≤ (p9 : Int)) ∧ rd = 1 ∧ mi = 0 := (by omega)
             have g4 : isDt y m d := (by rcases ed9 with g8 | g8; (exact g8.1); (exfalso; omega))
             have g6 : isDt (if mi = 1 then -y else y) m d := (by rw [if_neg (by omega)]; exact g4)
             exact v_lof [(0, .ref z), (1, .int (iI i)), (2, .int (iI mi)), (3, .int (iI y)), (4, .int (iI m)), (5, .int (iI d)), (6, .long (lI T))] (List.forall_mem_cons.mpr ⟨rfl, (List.forall_mem_cons.mpr ⟨rfl, (List.forall_mem_cons.mpr ⟨rfl, (List.forall_mem_cons.mpr ⟨rfl, (List.forall_mem_cons.mpr ⟨rfl, (List.forall_mem_cons.mpr ⟨rfl, (List.forall_mem_cons.mpr ⟨rfl, (fun _ h => nomatch h)⟩)⟩)⟩)⟩)⟩)⟩)⟩) (par_150 hst h0 h8 hty hg h1 h2 hA01 ho h7 hQ2 hQ mi y m d T p9 0 hp9 hy hm hd hT hmi (Or.inl rfl) ⟨fun _ => ⟨k1 ⟨g9.1.1, g9.1.2, g6⟩, by have g5 := g6; unfold isDt at g5; exact ⟨g5.2.2.1, g5.2.2.2.1⟩⟩, fun g => absurd g (by decide)⟩))
          | (have g9 : w9 = 1 := (by omega)
             exact v_lof [(0, .ref z), (1, .int (iI i)), (2, .int (iI mi)), (3, .int (iI y)), (4, .int (iI m)), (5, .int (iI d)), (6, .long (lI T))] (List.forall_mem_cons.mpr ⟨rfl, (List.forall_mem_cons.mpr ⟨rfl, (List.forall_mem_cons.mpr ⟨rfl, (List.forall_mem_cons.mpr ⟨rfl, (List.forall_mem_cons.mpr ⟨rfl, (List.forall_mem_cons.mpr ⟨rfl, (List.forall_mem_cons.mpr ⟨rfl, (fun _ h => nomatch h)⟩)⟩)⟩)⟩)⟩)⟩)⟩) (par_150 hst h0 h8 hty hg h1 h2 hA01 ho h7 hQ2 hQ mi y m d T p9 1 hp9 hy hm hd hT hmi (Or.inr rfl) ⟨fun g => absurd g (by decide), fun _ y' m' d' T' g => by have g5 := (k2 ⟨y', m', d', T', g⟩).1; omega⟩))
          | (have g9 : (p9 : Int) < ty := (by omega)
             exact v_lof [(0, .ref z), (1, .int (iI i)), (2, .int (iI mi)), (3, .int (iI y)), (4, .int (iI m)), (5, .int (iI d)), (6, .long (lI T))] (List.forall_mem_cons.mpr ⟨rfl, (List.forall_mem_cons.mpr ⟨rfl, (List.forall_mem_cons.mpr ⟨rfl, (List.forall_mem_cons.mpr ⟨rfl, (List.forall_mem_cons.mpr ⟨rfl, (List.forall_mem_cons.mpr ⟨rfl, (List.forall_mem_cons.mpr ⟨rfl, (fun _ h => nomatch h)⟩)⟩)⟩)⟩)⟩)⟩)⟩) (par_150 hst h0 h8 hty hg h1 h2 hA01 ho h7 hQ2 hQ mi y m d T p9 1 hp9 hy hm hd hT hmi (Or.inr rfl) ⟨fun g => absurd g (by decide), fun _ y' m' d' T' g => by have g5 := (k2 ⟨y', m', d', T', g⟩).2.1; omega⟩))
          | (have g9 : rd = 0 ∧ mi = 1 := (by omega)
             exact v_lof [(0, .ref z), (1, .int (iI i)), (2, .int (iI mi)), (3, .int (iI y)), (4, .int (iI m)), (5, .int (iI d)), (6, .long (lI T))] (List.forall_mem_cons.mpr ⟨rfl, (List.forall_mem_cons.mpr ⟨rfl, (List.forall_mem_cons.mpr ⟨rfl, (List.forall_mem_cons.mpr ⟨rfl, (List.forall_mem_cons.mpr ⟨rfl, (List.forall_mem_cons.mpr ⟨rfl, (List.forall_mem_cons.mpr ⟨rfl, (fun _ h => nomatch h)⟩)⟩)⟩)⟩)⟩)⟩)⟩) (par_150 hst h0 h8 hty hg h1 h2 hA01 ho h7 hQ2 hQ mi y m d T p9 1 hp9 hy hm hd hT hmi (Or.inr rfl) ⟨fun g => absurd g (by decide), fun _ y' m' d' T' g => by have g5 := (k2 ⟨y', m', d', T', g⟩).2.2; rw [if_pos (by omega)] at g5; rcases ed9 with g8 | g8; (omega); (exact g8.1 g5)⟩))
          | (have g9 : rd = 0 ∧ mi = 0 := (by omega)
             exact v_lof [(0, .ref z), (1, .int (iI i)), (2, .int (iI mi)), (3, .int (iI y)), (4, .int (iI m)), (5, .int (iI d)), (6, .long (lI T))] (List.forall_mem_cons.mpr ⟨rfl, (List.forall_mem_cons.mpr ⟨rfl, (List.forall_mem_cons.mpr ⟨rfl, (List.forall_mem_cons.mpr ⟨rfl, (List.forall_mem_cons.mpr ⟨rfl, (List.forall_mem_cons.mpr ⟨rfl, (List.forall_mem_cons.mpr ⟨rfl, (fun _ h => nomatch h)⟩)⟩)⟩)⟩)⟩)⟩)⟩) (par_150 hst h0 h8 hty hg h1 h2 hA01 ho h7 hQ2 hQ mi y m d T p9 1 hp9 hy hm hd hT hmi (Or.inr rfl) ⟨fun g => absurd g (by decide), fun _ y' m' d' T' g => by have g5 := (k2 ⟨y', m', d', T', g⟩).2.2; rw [if_neg (by omega)] at g5; rcases ed9 with g8 | g8; (omega); (exact g8.1 g5)⟩))
        · refine v_iconst dX7_parse_142 ?_
          refine v_goto 147 dX7_parse_143 ?_
          refine v_put dX7_parse_147 f_X7_260 (by exact aup_s) rfl rfl (Nat.le_of_ble_eq_true rfl) ?_
          try rw [aup_up]
          first
          | (exfalso; omega)
          | (have g9 : (w9 = 0 ∧ ty ≤ (p9 : Int)) ∧ rd = 1 ∧ mi = 1 := (by omega)
             have g4 : isDt (-y) m d := (by rcases ed9 with g8 | g8; (exact g8.1); (exfalso; omega))
             have g6 : isDt (if mi = 1 then -y else y) m d := (by rw [if_pos (by omega)]; exact g4)
             exact v_lof [(0, .ref z), (1, .int (iI i)), (2, .int (iI mi)), (3, .int (iI y)), (4, .int (iI m)), (5, .int (iI d)), (6, .long (lI T))] (List.forall_mem_cons.mpr ⟨rfl, (List.forall_mem_cons.mpr ⟨rfl, (List.forall_mem_cons.mpr ⟨rfl, (List.forall_mem_cons.mpr ⟨rfl, (List.forall_mem_cons.mpr ⟨rfl, (List.forall_mem_cons.mpr ⟨rfl, (List.forall_mem_cons.mpr ⟨rfl, (fun _ h => nomatch h)⟩)⟩)⟩)⟩)⟩)⟩)⟩) (par_150 hst h0 h8 hty hg h1 h2 hA01 ho h7 hQ2 hQ mi y m d T p9 0 hp9 hy hm hd hT hmi (Or.inl rfl) ⟨fun _ => ⟨k1 ⟨g9.1.1, g9.1.2, g6⟩, by have g5 := g6; unfold isDt at g5; exact ⟨g5.2.2.1, g5.2.2.2.1⟩⟩, fun g => absurd g (by decide)⟩))
          | (have g9 : (w9 = 0 ∧ ty ≤ (p9 : Int)) ∧ rd = 1 ∧ mi = 0 := (by omega)
             have g4 : isDt y m d := (by rcases ed9 with g8 | g8; (exact g8.1); (exfalso; omega))
             have g6 : isDt (if mi = 1 then -y else y) m d := (by rw [if_neg (by omega)]; exact g4)
             exact v_lof [(0, .ref z), (1, .int (iI i)), (2, .int (iI mi)), (3, .int (iI y)), (4, .int (iI m)), (5, .int (iI d)), (6, .long (lI T))] (List.forall_mem_cons.mpr ⟨rfl, (List.forall_mem_cons.mpr ⟨rfl, (List.forall_mem_cons.mpr ⟨rfl, (List.forall_mem_cons.mpr ⟨rfl, (List.forall_mem_cons.mpr ⟨rfl, (List.forall_mem_cons.mpr ⟨rfl, (List.forall_mem_cons.mpr ⟨rfl, (fun _ h => nomatch h)⟩)⟩)⟩)⟩)⟩)⟩)⟩) (par_150 hst h0 h8 hty hg h1 h2 hA01 ho h7 hQ2 hQ mi y m d T p9 0 hp9 hy hm hd hT hmi (Or.inl rfl) ⟨fun _ => ⟨k1 ⟨g9.1.1, g9.1.2, g6⟩, by have g5 := g6; unfold isDt at g5; exact ⟨g5.2.2.1, g5.2.2.2.1⟩⟩, fun g => absurd g (by decide)⟩))
          | (have g9 : w9 = 1 := (by omega)
             exact v_lof [(0, .ref z), (1, .int (iI i)), (2, .int (iI mi)), (3, .int (iI y)), (4, .int (iI m)), (5, .int (iI d)), (6, .long (lI T))] (List.forall_mem_cons.mpr ⟨rfl, (List.forall_mem_cons.mpr ⟨rfl, (List.forall_mem_cons.mpr ⟨rfl, (List.forall_mem_cons.mpr ⟨rfl, (List.forall_mem_cons.mpr ⟨rfl, (List.forall_mem_cons.mpr ⟨rfl, (List.forall_mem_cons.mpr ⟨rfl, (fun _ h => nomatch h)⟩)⟩)⟩)⟩)⟩)⟩)⟩) (par_150 hst h0 h8 hty hg h1 h2 hA01 ho h7 hQ2 hQ mi y m d T p9 1 hp9 hy hm hd hT hmi (Or.inr rfl) ⟨fun g => absurd g (by decide), fun _ y' m' d' T' g => by have g5 := (k2 ⟨y', m', d', T', g⟩).1; omega⟩))
          | (have g9 : (p9 : Int) < ty := (by omega)
             exact v_lof [(0, .ref z), (1, .int (iI i)), (2, .int (iI mi)), (3, .int (iI y)), (4, .int (iI m)), (5, .int (iI d)), (6, .long (lI T))] (List.forall_mem_cons.mpr ⟨rfl, (List.forall_mem_cons.mpr ⟨rfl, (List.forall_mem_cons.mpr ⟨rfl, (List.forall_mem_cons.mpr ⟨rfl, (List.forall_mem_cons.mpr ⟨rfl, (List.forall_mem_cons.mpr ⟨rfl, (List.forall_mem_cons.mpr ⟨rfl, (fun _ h => nomatch h)⟩)⟩)⟩)⟩)⟩)⟩)⟩) (par_150 hst h0 h8 hty hg h1 h2 hA01 ho h7 hQ2 hQ mi y m d T p9 1 hp9 hy hm hd hT hmi (Or.inr rfl) ⟨fun g => absurd g (by decide), fun _ y' m' d' T' g => by have g5 := (k2 ⟨y', m', d', T', g⟩).2.1; omega⟩))
          | (have g9 : rd = 0 ∧ mi = 1 := (by omega)
             exact v_lof [(0, .ref z), (1, .int (iI i)), (2, .int (iI mi)), (3, .int (iI y)), (4, .int (iI m)), (5, .int (iI d)), (6, .long (lI T))] (List.forall_mem_cons.mpr ⟨rfl, (List.forall_mem_cons.mpr ⟨rfl, (List.forall_mem_cons.mpr ⟨rfl, (List.forall_mem_cons.mpr ⟨rfl, (List.forall_mem_cons.mpr ⟨rfl, (List.forall_mem_cons.mpr ⟨rfl, (List.forall_mem_cons.mpr ⟨rfl, (fun _ h => nomatch h)⟩)⟩)⟩)⟩)⟩)⟩)⟩) (par_150 hst h0 h8 hty hg h1 h2 hA01 ho h7 hQ2 hQ mi y m d T p9 1 hp9 hy hm hd hT hmi (Or.inr rfl) ⟨fun g => absurd g (by decide), fun _ y' m' d' T' g => by have g5 := (k2 ⟨y', m', d', T', g⟩).2.2; rw [if_pos (by omega)] at g5; rcases ed9 with g8 | g8; (omega); (exact g8.1 g5)⟩))
          | (have g9 : rd = 0 ∧ mi = 0 := (by omega)
             exact v_lof [(0, .ref z), (1, .int (iI i)), (2, .int (iI mi)), (3, .int (iI y)), (4, .int (iI m)), (5, .int (iI d)), (6, .long (lI T))] (List.forall_mem_cons.mpr ⟨rfl, (List.forall_mem_cons.mpr ⟨rfl, (List.forall_mem_cons.mpr ⟨rfl, (List.forall_mem_cons.mpr ⟨rfl, (List.forall_mem_cons.mpr ⟨rfl, (List.forall_mem_cons.mpr ⟨rfl, (List.forall_mem_cons.mpr ⟨rfl, (fun _ h => nomatch h)⟩)⟩)⟩)⟩)⟩)⟩)⟩) (par_150 hst h0 h8 hty hg h1 h2 hA01 ho h7 hQ2 hQ mi y m d T p9 1 hp9 hy hm hd hT hmi (Or.inr rfl) ⟨fun g => absurd g (by decide), fun _ y' m' d' T' g => by have g5 := (k2 ⟨y', m', d', T', g⟩).2.2; rw [if_neg (by omega)] at g5; rcases ed9 with g8 | g8; (omega); (exact g8.1 g5)⟩))
