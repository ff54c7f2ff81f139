theorem tiA {g : Nat → Int} {ty wr w1 w2 w3 h mi : Int} {q p1 p2 p3 : Nat} (e1 : ((w1 = wr ∧ ((48 ≤ nx g ty (q + 1) ∧ nx g ty (q + 1) ≤ 57) ∧ (48 ≤ nx g ty (q + 1 + 1) ∧ nx g ty (q + 1 + 1) ≤ 57)) ∧ h = n2 g ty (q + 1) ∧ p1 = q + 1 + 1 + 1) ∨ (w1 = 1 ∧ ¬ ((48 ≤ nx g ty (q + 1) ∧ nx g ty (q + 1) ≤ 57) ∧ (48 ≤ nx g ty (q + 1 + 1) ∧ nx g ty (q + 1 + 1) ≤ 57))))) (e2 : ((w2 = w1 ∧ nx g ty p1 = 58 ∧ p2 = p1 + 1) ∨ (w2 = 1 ∧ nx g ty p1 ≠ 58 ∧ p2 = p1))) (e3 : ((w3 = w2 ∧ ((48 ≤ nx g ty (p2) ∧ nx g ty (p2) ≤ 57) ∧ (48 ≤ nx g ty (p2 + 1) ∧ nx g ty (p2 + 1) ≤ 57)) ∧ mi = n2 g ty p2 ∧ p3 = p2 + 1 + 1) ∨ (w3 = 1 ∧ ¬ ((48 ≤ nx g ty (p2) ∧ nx g ty (p2) ≤ 57) ∧ (48 ≤ nx g ty (p2 + 1) ∧ nx g ty (p2 + 1) ≤ 57))))) (hwr : wr = 0 ∨ wr = 1) : (w3 = 0 → wr = 0 ∧ (((48 ≤ nx g ty (q + 1) ∧ nx g ty (q + 1) ≤ 57) ∧ (48 ≤ nx g ty (q + 1 + 1) ∧ nx g ty (q + 1 + 1) ≤ 57)) ∧ nx g ty (q + 1 + 1 + 1) = 58 ∧ ((48 ≤ nx g ty (q + 1 + 1 + 1 + 1) ∧ nx g ty (q + 1 + 1 + 1 + 1) ≤ 57) ∧ (48 ≤ nx g ty (q + 1 + 1 + 1 + 1 + 1) ∧ nx g ty (q + 1 + 1 + 1 + 1 + 1) ≤ 57))) ∧ h = n2 g ty (q + 1) ∧ mi = n2 g ty (q + 1 + 1 + 1 + 1) ∧ p3 = q + 1 + 1 + 1 + 1 + 1 + 1) ∧ (wr = 0 → (((48 ≤ nx g ty (q + 1) ∧ nx g ty (q + 1) ≤ 57) ∧ (48 ≤ nx g ty (q + 1 + 1) ∧ nx g ty (q + 1 + 1) ≤ 57)) ∧ nx g ty (q + 1 + 1 + 1) = 58 ∧ ((48 ≤ nx g ty (q + 1 + 1 + 1 + 1) ∧ nx g ty (q + 1 + 1 + 1 + 1) ≤ 57) ∧ (48 ≤ nx g ty (q + 1 + 1 + 1 + 1 + 1) ∧ nx g ty (q + 1 + 1 + 1 + 1 + 1) ≤ 57))) → w3 = 0 ∧ h = n2 g ty (q + 1) ∧ mi = n2 g ty (q + 1 + 1 + 1 + 1) ∧ p3 = q + 1 + 1 + 1 + 1 + 1 + 1) := by
  rcases e1 with ⟨a1, a2, a3, a4⟩ | ⟨a1, a2⟩
  · subst a4
    rcases e2 with ⟨b1, b2, b3⟩ | ⟨b1, b2, b3⟩
    · subst b3
      rcases e3 with ⟨c1, c2, c3, c4⟩ | ⟨c1, c2⟩
      · exact ⟨fun h => ⟨by omega, ⟨a2, b2, c2⟩, a3, c3, c4⟩, fun h h2 => ⟨by omega, a3, c3, c4⟩⟩
      · exact ⟨fun h => by omega, fun h h2 => absurd h2.2.2 c2⟩
    · exact ⟨fun h => by omega, fun h h2 => absurd h2.2.1 b2⟩
  · exact ⟨fun h => by omega, fun h h2 => absurd h2.1 a2⟩
theorem n2_0 {g : Nat → Int} {ty : Int} {p : Nat} (h : ((48 ≤ nx g ty (p) ∧ nx g ty (p) ≤ 57) ∧ (48 ≤ nx g ty (p + 1) ∧ nx g ty (p + 1) ≤ 57))) : 0 ≤ n2 g ty p := by
  unfold n2
  omega
theorem ti0 {g : Nat → Int} {ty wr w1 w2 w3 h mi : Int} {q p1 p2 p3 : Nat} (e1 : ((w1 = wr ∧ ((48 ≤ nx g ty (q + 1) ∧ nx g ty (q + 1) ≤ 57) ∧ (48 ≤ nx g ty (q + 1 + 1) ∧ nx g ty (q + 1 + 1) ≤ 57)) ∧ h = n2 g ty (q + 1) ∧ p1 = q + 1 + 1 + 1) ∨ (w1 = 1 ∧ ¬ ((48 ≤ nx g ty (q + 1) ∧ nx g ty (q + 1) ≤ 57) ∧ (48 ≤ nx g ty (q + 1 + 1) ∧ nx g ty (q + 1 + 1) ≤ 57))))) (e2 : ((w2 = w1 ∧ nx g ty p1 = 58 ∧ p2 = p1 + 1) ∨ (w2 = 1 ∧ nx g ty p1 ≠ 58 ∧ p2 = p1))) (e3 : ((w3 = w2 ∧ ((48 ≤ nx g ty (p2) ∧ nx g ty (p2) ≤ 57) ∧ (48 ≤ nx g ty (p2 + 1) ∧ nx g ty (p2 + 1) ≤ 57)) ∧ mi = n2 g ty p2 ∧ p3 = p2 + 1 + 1) ∨ (w3 = 1 ∧ ¬ ((48 ≤ nx g ty (p2) ∧ nx g ty (p2) ≤ 57) ∧ (48 ≤ nx g ty (p2 + 1) ∧ nx g ty (p2 + 1) ≤ 57))))) (hwr : wr = 0 ∨ wr = 1) (hT : nx g ty q = 84) (hx : nx g ty p3 ≠ 58) : ((w3 = 0 ∧ h ≤ 23 ∧ mi ≤ 59 ∧ (0 : Int) ≤ 59 ∧ ty ≤ ((p3 : Nat) : Int)) → wr = 0 ∧ ∃ p'' : Nat, TO g ty q ((3600 * h + 60 * mi + (0 : Int)) * 1000000000 + 0) p'' ∧ ty ≤ (p'' : Int)) ∧ ((wr = 0 ∧ ∃ (T'' : Int) (p'' : Nat), TO g ty q T'' p'' ∧ ty ≤ (p'' : Int)) → w3 = 0 ∧ h ≤ 23 ∧ mi ≤ 59 ∧ (0 : Int) ≤ 59 ∧ ty ≤ ((p3 : Nat) : Int)) := by
  obtain ⟨t1, t2⟩ := tiA e1 e2 e3 hwr
  constructor
  · rintro ⟨a1, a2, a3, a4, a5⟩
    obtain ⟨b1, ⟨b2, b3, b4⟩, b5, b6, b7⟩ := t1 a1
    subst b5 b6 b7
    exact ⟨b1, _, ⟨⟨hT, b2⟩, ⟨b3, b4⟩, a2, a3, Or.inl ⟨a5, by omega, rfl⟩⟩, a5⟩
  · rintro ⟨a1, T'', p'', ⟨⟨_, b2⟩, ⟨b3, b4⟩, b5, b6, b7⟩, a3⟩
    obtain ⟨c1, c2, c3, c4⟩ := t2 a1 ⟨b2, b3, b4⟩
    subst c2 c3 c4
    rcases b7 with ⟨d1, d2, d3⟩ | ⟨d1, ⟨d2, d3⟩, d4⟩
    · exact ⟨c1, b5, b6, by omega, d1⟩
    · exact absurd d2 hx
theorem ti1 {g : Nat → Int} {ty wr w1 w2 w3 h mi : Int} {q p1 p2 p3 : Nat} {w5 se : Int} {p5 : Nat} (e1 : ((w1 = wr ∧ ((48 ≤ nx g ty (q + 1) ∧ nx g ty (q + 1) ≤ 57) ∧ (48 ≤ nx g ty (q + 1 + 1) ∧ nx g ty (q + 1 + 1) ≤ 57)) ∧ h = n2 g ty (q + 1) ∧ p1 = q + 1 + 1 + 1) ∨ (w1 = 1 ∧ ¬ ((48 ≤ nx g ty (q + 1) ∧ nx g ty (q + 1) ≤ 57) ∧ (48 ≤ nx g ty (q + 1 + 1) ∧ nx g ty (q + 1 + 1) ≤ 57))))) (e2 : ((w2 = w1 ∧ nx g ty p1 = 58 ∧ p2 = p1 + 1) ∨ (w2 = 1 ∧ nx g ty p1 ≠ 58 ∧ p2 = p1))) (e3 : ((w3 = w2 ∧ ((48 ≤ nx g ty (p2) ∧ nx g ty (p2) ≤ 57) ∧ (48 ≤ nx g ty (p2 + 1) ∧ nx g ty (p2 + 1) ≤ 57)) ∧ mi = n2 g ty p2 ∧ p3 = p2 + 1 + 1) ∨ (w3 = 1 ∧ ¬ ((48 ≤ nx g ty (p2) ∧ nx g ty (p2) ≤ 57) ∧ (48 ≤ nx g ty (p2 + 1) ∧ nx g ty (p2 + 1) ≤ 57))))) (hwr : wr = 0 ∨ wr = 1) (hT : nx g ty q = 84) (hx : nx g ty p3 = 58) (e5 : ((w5 = w3 ∧ ((48 ≤ nx g ty (p3 + 1) ∧ nx g ty (p3 + 1) ≤ 57) ∧ (48 ≤ nx g ty (p3 + 1 + 1) ∧ nx g ty (p3 + 1 + 1) ≤ 57)) ∧ se = n2 g ty (p3 + 1) ∧ p5 = p3 + 1 + 1 + 1) ∨ (w5 = 1 ∧ ¬ ((48 ≤ nx g ty (p3 + 1) ∧ nx g ty (p3 + 1) ≤ 57) ∧ (48 ≤ nx g ty (p3 + 1 + 1) ∧ nx g ty (p3 + 1 + 1) ≤ 57))))) (hy : nx g ty p5 ≠ 46) : ((w5 = 0 ∧ h ≤ 23 ∧ mi ≤ 59 ∧ se ≤ 59 ∧ ty ≤ ((p5 : Nat) : Int)) → wr = 0 ∧ ∃ p'' : Nat, TO g ty q ((3600 * h + 60 * mi + se) * 1000000000 + 0) p'' ∧ ty ≤ (p'' : Int)) ∧ ((wr = 0 ∧ ∃ (T'' : Int) (p'' : Nat), TO g ty q T'' p'' ∧ ty ≤ (p'' : Int)) → w5 = 0 ∧ h ≤ 23 ∧ mi ≤ 59 ∧ se ≤ 59 ∧ ty ≤ ((p5 : Nat) : Int)) := by
  obtain ⟨t1, t2⟩ := tiA e1 e2 e3 hwr
  have hxl := nx_c g ty p3
  constructor
  · rintro ⟨a1, a2, a3, a4, a5⟩
    rcases e5 with ⟨f1, f2, f3, f4⟩ | ⟨f1, f2⟩
    · obtain ⟨b1, ⟨b2, b3, b4⟩, b5, b6, b7⟩ := t1 (by omega)
      subst b5 b6 b7 f3 f4
      exact ⟨b1, _, ⟨⟨hT, b2⟩, ⟨b3, b4⟩, a2, a3, Or.inr ⟨by omega, ⟨hx, f2⟩, a4, Or.inl ⟨a5, by omega, rfl⟩⟩⟩, a5⟩
    · omega
  · rintro ⟨a1, T'', p'', ⟨⟨_, b2⟩, ⟨b3, b4⟩, b5, b6, b7⟩, a3⟩
    obtain ⟨c1, c2, c3, c4⟩ := t2 a1 ⟨b2, b3, b4⟩
    subst c2 c3 c4
    rcases b7 with ⟨d1, d2, d3⟩ | ⟨d1, ⟨d2, d3⟩, d4, d5⟩
    · exfalso; omega
    · rcases e5 with ⟨f1, f2, f3, f4⟩ | ⟨f1, f2⟩
      · subst f3 f4
        rcases d5 with ⟨g1, g2, g3⟩ | ⟨g1, g2, g3⟩
        · exact ⟨by omega, b5, b6, d4, g1⟩
        · exact absurd g2 hy
      · exact absurd d3 f2
theorem ti2 {g : Nat → Int} {ty wr w1 w2 w3 h mi : Int} {q p1 p2 p3 : Nat} {w5 se w7 w8 n mn : Int} {p5 p8 : Nat} (e1 : ((w1 = wr ∧ ((48 ≤ nx g ty (q + 1) ∧ nx g ty (q + 1) ≤ 57) ∧ (48 ≤ nx g ty (q + 1 + 1) ∧ nx g ty (q + 1 + 1) ≤ 57)) ∧ h = n2 g ty (q + 1) ∧ p1 = q + 1 + 1 + 1) ∨ (w1 = 1 ∧ ¬ ((48 ≤ nx g ty (q + 1) ∧ nx g ty (q + 1) ≤ 57) ∧ (48 ≤ nx g ty (q + 1 + 1) ∧ nx g ty (q + 1 + 1) ≤ 57))))) (e2 : ((w2 = w1 ∧ nx g ty p1 = 58 ∧ p2 = p1 + 1) ∨ (w2 = 1 ∧ nx g ty p1 ≠ 58 ∧ p2 = p1))) (e3 : ((w3 = w2 ∧ ((48 ≤ nx g ty (p2) ∧ nx g ty (p2) ≤ 57) ∧ (48 ≤ nx g ty (p2 + 1) ∧ nx g ty (p2 + 1) ≤ 57)) ∧ mi = n2 g ty p2 ∧ p3 = p2 + 1 + 1) ∨ (w3 = 1 ∧ ¬ ((48 ≤ nx g ty (p2) ∧ nx g ty (p2) ≤ 57) ∧ (48 ≤ nx g ty (p2 + 1) ∧ nx g ty (p2 + 1) ≤ 57))))) (hwr : wr = 0 ∨ wr = 1) (hT : nx g ty q = 84) (hx : nx g ty p3 = 58) (e5 : ((w5 = w3 ∧ ((48 ≤ nx g ty (p3 + 1) ∧ nx g ty (p3 + 1) ≤ 57) ∧ (48 ≤ nx g ty (p3 + 1 + 1) ∧ nx g ty (p3 + 1 + 1) ≤ 57)) ∧ se = n2 g ty (p3 + 1) ∧ p5 = p3 + 1 + 1 + 1) ∨ (w5 = 1 ∧ ¬ ((48 ≤ nx g ty (p3 + 1) ∧ nx g ty (p3 + 1) ≤ 57) ∧ (48 ≤ nx g ty (p3 + 1 + 1) ∧ nx g ty (p3 + 1 + 1) ≤ 57))))) (hy : nx g ty p5 = 46) (hmn : mn = ty - ((p5 + 1 : Nat) : Int)) (h7 : (w7 = 0 ∧ w5 = 0 ∧ 1 ≤ mn ∧ mn ≤ 9) ∨ (w7 = 1 ∧ ¬ (w5 = 0 ∧ 1 ≤ mn ∧ mn ≤ 9))) (hw8 : w8 = 0 ∨ w8 = 1) (hF : FI g ty (p5 + 1) mn w7 9 n p8 w8) : ((w8 = 0 ∧ h ≤ 23 ∧ mi ≤ 59 ∧ se ≤ 59 ∧ ty ≤ ((p8 : Nat) : Int)) → wr = 0 ∧ ∃ p'' : Nat, TO g ty q ((3600 * h + 60 * mi + se) * 1000000000 + n) p'' ∧ ty ≤ (p'' : Int)) ∧ ((wr = 0 ∧ ∃ (T'' : Int) (p'' : Nat), TO g ty q T'' p'' ∧ ty ≤ (p'' : Int)) → w8 = 0 ∧ h ≤ 23 ∧ mi ≤ 59 ∧ se ≤ 59 ∧ ty ≤ ((p8 : Nat) : Int)) := by
  obtain ⟨t1, t2⟩ := tiA e1 e2 e3 hwr
  have hxl := nx_c g ty p3
  have hyl := nx_c g ty p5
  constructor
  · rintro ⟨a1, a2, a3, a4, a5⟩
    obtain ⟨k1, k2, k3, k4⟩ := FI_e1 hmn (by omega) hF a1
    rcases e5 with ⟨f1, f2, f3, f4⟩ | ⟨f1, f2⟩
    · obtain ⟨b1, ⟨b2, b3, b4⟩, b5, b6, b7⟩ := t1 (by omega)
      subst b5 b6 b7 f3 f4 k3
      exact ⟨b1, _, ⟨⟨hT, b2⟩, ⟨b3, b4⟩, a2, a3, Or.inr ⟨by omega, ⟨hx, f2⟩, a4, Or.inr ⟨by omega, hy, k2, by omega, rfl⟩⟩⟩, k4⟩
    · omega
  · rintro ⟨a1, T'', p'', ⟨⟨_, b2⟩, ⟨b3, b4⟩, b5, b6, b7⟩, a3⟩
    obtain ⟨c1, c2, c3, c4⟩ := t2 a1 ⟨b2, b3, b4⟩
    subst c2 c3 c4
    rcases b7 with ⟨d1, d2, d3⟩ | ⟨d1, ⟨d2, d3⟩, d4, d5⟩
    · exfalso; omega
    · rcases e5 with ⟨f1, f2, f3, f4⟩ | ⟨f1, f2⟩
      · subst f3 f4
        rcases d5 with ⟨g1, g2, g3⟩ | ⟨g1, g2, g3, g4, g5⟩
        · exfalso; omega
        · subst g5
          have hq0 := nx_c g ty (q + 1 + 1 + 1 + 1 + 1 + 1 + 1 + 1 + 1 + 1)
          have hup := fps_up (g := g) (L := ty) (p := q + 1 + 1 + 1 + 1 + 1 + 1 + 1 + 1 + 1 + 1) 9
          obtain ⟨m1, m2⟩ := FI_e2 hmn hF (by omega) a3
          exact ⟨m1, b5, b6, d4, m2⟩
      · exact absurd d3 f2
def OPQ (p : Prop) : Prop := p
set_option maxRecDepth 100000 in
set_option maxHeartbeats 1000000 in
theorem ti_129 {l : Launch} {G : GG} {w : AH} {Q : Option Value → AH → Prop} {X : String → AH → Prop} (hst : l.stackTraces = false) {z : Nat} {A : Nat → Nat} {th yq mq dq ty wr sz : Int} {p : Nat} {g : Nat → Int} (h0 : w z = some (mdC A th yq mq dq ty (p : Int) wr sz)) (h8 : w (A 8) = some (aiA G 30 g)) (hty : 0 ≤ ty ∧ ty ≤ 30) (hp : p ≤ 30) (hwr : wr = 0 ∨ wr = 1) (hg : ∀ k, 0 ≤ g k ∧ g k ≤ 65535) {q : Nat} (hq : p = q + 1) (hT : nx g ty q = 84) (hQ : ∀ (T : Int) (p' : Nat) (wr' : Int), p' ≤ 30 → (0 ≤ T ∧ T ≤ 1000000000000000) → (wr' = 0 ∨ wr' = 1) → ((wr' = 0 ∧ ty ≤ (p' : Int)) → wr = 0 ∧ ∃ p'' : Nat, TO g ty q T p'' ∧ ty ≤ (p'' : Int)) → ((wr = 0 ∧ ∃ (T'' : Int) (p'' : Nat), TO g ty q T'' p'' ∧ ty ≤ (p'' : Int)) → wr' = 0 ∧ ty ≤ (p' : Int)) → Q (some (.long (lI T))) (aup w z (mdC A th yq mq dq ty ((p' : Nat) : Int) (wr') sz))) : ∀ (h mi se n : Int) (p9 : Nat) (w9 : Int), (0 ≤ h ∧ h ≤ 99) → (0 ≤ mi ∧ mi ≤ 99) → (0 ≤ se ∧ se ≤ 99) → (0 ≤ n ∧ n ≤ 999999999) → p9 ≤ 30 → (w9 = 0 ∨ w9 = 1) → OPQ ((w9 = 0 ∧ h ≤ 23 ∧ mi ≤ 59 ∧ se ≤ 59 ∧ ty ≤ ((p9 : Nat) : Int)) → wr = 0 ∧ ∃ p'' : Nat, TO g ty q ((3600 * h + 60 * mi + se) * 1000000000 + n) p'' ∧ ty ≤ (p'' : Int)) → OPQ ((wr = 0 ∧ ∃ (T'' : Int) (p'' : Nat), TO g ty q T'' p'' ∧ ty ≤ (p'' : Int)) → w9 = 0 ∧ h ≤ 23 ∧ mi ≤ 59 ∧ se ≤ 59 ∧ ty ≤ ((p9 : Nat) : Int)) → V l G mX7_timeIn rX7_timeIn Q X 129 (lof [(0, .ref z), (1, .int (iI h)), (2, .int (iI mi)), (3, .int (iI se)), (4, .long (lI n))]) [] (aup w z (mdC A th yq mq dq ty ((p9 : Nat) : Int) (w9) sz)) 0 0 := by
  intro h mi se n p9 w9 a1 a2 a3 a4 hp9 hw9 k1 k2
  refine v_aload_n dX7_timeIn_129 rfl ?_
  refine v_aload_n dX7_timeIn_130 rfl ?_
  refine v_get dX7_timeIn_131 f_X7_260 (by exact aup_s) rfl ?_
  refine v_if_ne 155 dX7_timeIn_134 (fun h_134 => ?_) (fun h_134 => ?_)
  · refine v_iconst dX7_timeIn_155 ?_
    refine v_goto 160 dX7_timeIn_156 ?_
    refine v_put dX7_timeIn_160 f_X7_260 (by exact aup_s) rfl rfl (Nat.le_of_ble_eq_true rfl) ?_
    try rw [aup_up]
    refine v_ldc2 (3600) dX7_timeIn_163 kl_X7_282 ?_
    refine v_iload_n dX7_timeIn_166 rfl ?_
    refine v_i2l dX7_timeIn_167 ?_
    refine v_lmul dX7_timeIn_168 ?_
    refine v_ldc2 (60) dX7_timeIn_169 kl_X7_150 ?_
    refine v_iload_n dX7_timeIn_172 rfl ?_
    refine v_i2l dX7_timeIn_173 ?_
    refine v_lmul dX7_timeIn_174 ?_
    refine v_ladd dX7_timeIn_175 ?_
    refine v_iload_n dX7_timeIn_176 rfl ?_
    refine v_i2l dX7_timeIn_177 ?_
    refine v_ladd dX7_timeIn_178 ?_
    refine v_ldc2 (1000000000) dX7_timeIn_179 kl_X7_134 ?_
    refine v_lmul dX7_timeIn_182 ?_
    refine v_lload dX7_timeIn_183 rfl ?_
    refine v_ladd dX7_timeIn_185 ?_
    exact v_lret dX7_timeIn_186 rfl (by first | (have g9 : w9 = 0 ∧ h ≤ 23 ∧ mi ≤ 59 ∧ se ≤ 59 := (by omega); exact hQ _ p9 0 hp9 (by omega) (Or.inl rfl) (fun g => k1 ⟨g9.1, g9.2.1, g9.2.2.1, g9.2.2.2, g.2⟩) (fun g => ⟨rfl, (k2 g).2.2.2.2⟩)) | (have g9 : ¬ (w9 = 0 ∧ h ≤ 23 ∧ mi ≤ 59 ∧ se ≤ 59) := (by omega); exact hQ _ p9 1 hp9 (by omega) (Or.inr rfl) (fun g => absurd g.1 (by omega)) (fun g => absurd (k2 g) (fun g8 => g9 ⟨g8.1, g8.2.1, g8.2.2.1, g8.2.2.2.1⟩))))
  · refine v_iload_n dX7_timeIn_137 rfl ?_
    refine v_bipush dX7_timeIn_138 ?_
    refine v_icmp_gt 155 dX7_timeIn_140 (fun h_140 => ?_) (fun h_140 => ?_)
    · refine v_iconst dX7_timeIn_155 ?_
      refine v_goto 160 dX7_timeIn_156 ?_
      refine v_put dX7_timeIn_160 f_X7_260 (by exact aup_s) rfl rfl (Nat.le_of_ble_eq_true rfl) ?_
      try rw [aup_up]
      refine v_ldc2 (3600) dX7_timeIn_163 kl_X7_282 ?_
      refine v_iload_n dX7_timeIn_166 rfl ?_
      refine v_i2l dX7_timeIn_167 ?_
      refine v_lmul dX7_timeIn_168 ?_
      refine v_ldc2 (60) dX7_timeIn_169 kl_X7_150 ?_
      refine v_iload_n dX7_timeIn_172 rfl ?_
      refine v_i2l dX7_timeIn_173 ?_
      refine v_lmul dX7_timeIn_174 ?_
      refine v_ladd dX7_timeIn_175 ?_
      refine v_iload_n dX7_timeIn_176 rfl ?_
      refine v_i2l dX7_timeIn_177 ?_
      refine v_ladd dX7_timeIn_178 ?_
      refine v_ldc2 (1000000000) dX7_timeIn_179 kl_X7_134 ?_
      refine v_lmul dX7_timeIn_182 ?_
      refine v_lload dX7_timeIn_183 rfl ?_
      refine v_ladd dX7_timeIn_185 ?_
      exact v_lret dX7_timeIn_186 rfl (by first | (have g9 : w9 = 0 ∧ h ≤ 23 ∧ mi ≤ 59 ∧ se ≤ 59 := (by omega); exact hQ _ p9 0 hp9 (by omega) (Or.inl rfl) (fun g => k1 ⟨g9.1, g9.2.1, g9.2.2.1, g9.2.2.2, g.2⟩) (fun g => ⟨rfl, (k2 g).2.2.2.2⟩)) | (have g9 : ¬ (w9 = 0 ∧ h ≤ 23 ∧ mi ≤ 59 ∧ se ≤ 59) := (by omega); exact hQ _ p9 1 hp9 (by omega) (Or.inr rfl) (fun g => absurd g.1 (by omega)) (fun g => absurd (k2 g) (fun g8 => g9 ⟨g8.1, g8.2.1, g8.2.2.1, g8.2.2.2.1⟩))))
    · refine v_iload_n dX7_timeIn_143 rfl ?_
      refine v_bipush dX7_timeIn_144 ?_
      refine v_icmp_gt 155 dX7_timeIn_146 (fun h_146 => ?_) (fun h_146 => ?_)
      · refine v_iconst dX7_timeIn_155 ?_
        refine v_goto 160 dX7_timeIn_156 ?_
        refine v_put dX7_timeIn_160 f_X7_260 (by exact aup_s) rfl rfl (Nat.le_of_ble_eq_true rfl) ?_
        try rw [aup_up]
        refine v_ldc2 (3600) dX7_timeIn_163 kl_X7_282 ?_
        refine v_iload_n dX7_timeIn_166 rfl ?_
        refine v_i2l dX7_timeIn_167 ?_
        refine v_lmul dX7_timeIn_168 ?_
        refine v_ldc2 (60) dX7_timeIn_169 kl_X7_150 ?_
        refine v_iload_n dX7_timeIn_172 rfl ?_
        refine v_i2l dX7_timeIn_173 ?_
        refine v_lmul dX7_timeIn_174 ?_
        refine v_ladd dX7_timeIn_175 ?_
        refine v_iload_n dX7_timeIn_176 rfl ?_
        refine v_i2l dX7_timeIn_177 ?_
        refine v_ladd dX7_timeIn_178 ?_
        refine v_ldc2 (1000000000) dX7_timeIn_179 kl_X7_134 ?_
        refine v_lmul dX7_timeIn_182 ?_
        refine v_lload dX7_timeIn_183 rfl ?_
        refine v_ladd dX7_timeIn_185 ?_
        exact v_lret dX7_timeIn_186 rfl (by first | (have g9 : w9 = 0 ∧ h ≤ 23 ∧ mi ≤ 59 ∧ se ≤ 59 := (by omega); exact hQ _ p9 0 hp9 (by omega) (Or.inl rfl) (fun g => k1 ⟨g9.1, g9.2.1, g9.2.2.1, g9.2.2.2, g.2⟩) (fun g => ⟨rfl, (k2 g).2.2.2.2⟩)) | (have g9 : ¬ (w9 = 0 ∧ h ≤ 23 ∧ mi ≤ 59 ∧ se ≤ 59) := (by omega); exact hQ _ p9 1 hp9 (by omega) (Or.inr rfl) (fun g => absurd g.1 (by omega)) (fun g => absurd (k2 g) (fun g8 => g9 ⟨g8.1, g8.2.1, g8.2.2.1, g8.2.2.2.1⟩))))
      · refine v_iload_n dX7_timeIn_149 rfl ?_
        refine v_bipush dX7_timeIn_150 ?_
        refine v_icmp_le 159 dX7_timeIn_152 (fun h_152 => ?_) (fun h_152 => ?_)
        · refine v_iconst dX7_timeIn_159 ?_
          refine v_put dX7_timeIn_160 f_X7_260 (by exact aup_s) rfl rfl (Nat.le_of_ble_eq_true rfl) ?_
          try rw [aup_up]
          refine v_ldc2 (3600) dX7_timeIn_163 kl_X7_282 ?_
          refine v_iload_n dX7_timeIn_166 rfl ?_
          refine v_i2l dX7_timeIn_167 ?_
          refine v_lmul dX7_timeIn_168 ?_
          refine v_ldc2 (60) dX7_timeIn_169 kl_X7_150 ?_
          refine v_iload_n dX7_timeIn_172 rfl ?_
          refine v_i2l dX7_timeIn_173 ?_
          refine v_lmul dX7_timeIn_174 ?_
          refine v_ladd dX7_timeIn_175 ?_
          refine v_iload_n dX7_timeIn_176 rfl ?_
          refine v_i2l dX7_timeIn_177 ?_
          refine v_ladd dX7_timeIn_178 ?_
          refine v_ldc2 (1000000000) dX7_timeIn_179 kl_X7_134 ?_
          refine v_lmul dX7_timeIn_182 ?_
          refine v_lload dX7_timeIn_183 rfl ?_
          refine v_ladd dX7_timeIn_185 ?_
          exact v_lret dX7_timeIn_186 rfl (by first | (have g9 : w9 = 0 ∧ h ≤ 23 ∧ mi ≤ 59 ∧ se ≤ 59 := (by omega); exact hQ _ p9 0 hp9 (by omega) (Or.inl rfl) (fun g => k1 ⟨g9.1, g9.2.1, g9.2.2.1, g9.2.2.2, g.2⟩) (fun g => ⟨rfl, (k2 g).2.2.2.2⟩)) | (have g9 : ¬ (w9 = 0 ∧ h ≤ 23 ∧ mi ≤ 59 ∧ se ≤ 59) := (by omega); exact hQ _ p9 1 hp9 (by omega) (Or.inr rfl) (fun g => absurd g.1 (by omega)) (fun g => absurd (k2 g) (fun g8 => g9 ⟨g8.1, g8.2.1, g8.2.2.1, g8.2.2.2.1⟩))))
        · refine v_iconst dX7_timeIn_155 ?_
          refine v_goto 160 dX7_timeIn_156 ?_
          refine v_put dX7_timeIn_160 f_X7_260 (by exact aup_s) rfl rfl (Nat.le_of_ble_eq_true rfl) ?_
          try rw [aup_up]
          refine v_ldc2 (3600) dX7_timeIn_163 kl_X7_282 ?_
          refine v_iload_n dX7_timeIn_166 rfl ?_
          refine v_i2l dX7_timeIn_167 ?_
          refine v_lmul dX7_timeIn_168 ?_
          refine v_ldc2 (60) dX7_timeIn_169 kl_X7_150 ?_
          refine v_iload_n dX7_timeIn_172 rfl ?_
          refine v_i2l dX7_timeIn_173 ?_
          refine v_lmul dX7_timeIn_174 ?_
          refine v_ladd dX7_timeIn_175 ?_
          refine v_iload_n dX7_timeIn_176 rfl ?_
          refine v_i2l dX7_timeIn_177 ?_
          refine v_ladd dX7_timeIn_178 ?_
          refine v_ldc2 (1000000000) dX7_timeIn_179 kl_X7_134 ?_
          refine v_lmul dX7_timeIn_182 ?_
          refine v_lload dX7_timeIn_183 rfl ?_
          refine v_ladd dX7_timeIn_185 ?_
          exact v_lret dX7_timeIn_186 rfl (by first | (have g9 : w9 = 0 ∧ h ≤ 23 ∧ mi ≤ 59 ∧ se ≤ 59 := (by omega); exact hQ _ p9 0 hp9 (by omega) (Or.inl rfl) (fun g => k1 ⟨g9.1, g9.2.1, g9.2.2.1, g9.2.2.2, g.2⟩) (fun g => ⟨rfl, (k2 g).2.2.2.2⟩)) | (have g9 : ¬ (w9 = 0 ∧ h ≤ 23 ∧ mi ≤ 59 ∧ se ≤ 59) := (by omega); exact hQ _ p9 1 hp9 (by omega) (Or.inr rfl) (fun g => absurd g.1 (by omega)) (fun g => absurd (k2 g) (fun g8 => g9 ⟨g8.1, g8.2.1, g8.2.2.1, g8.2.2.2.1⟩))))
set_option maxRecDepth 100000 in
set_option maxHeartbeats 4000000 in
theorem s_X7_timeIn {l : Launch} {G : GG} {w : AH} {Q : Option Value → AH → Prop} {X : String → AH → Prop} (hst : l.stackTraces = false) {z : Nat} {A : Nat → Nat} {th yq mq dq ty wr sz : Int} {p : Nat} {g : Nat → Int} (h0 : w z = some (mdC A th yq mq dq ty (p : Int) wr sz)) (h8 : w (A 8) = some (aiA G 30 g)) (hty : 0 ≤ ty ∧ ty ≤ 30) (hp : p ≤ 30) (hwr : wr = 0 ∨ wr = 1) (hg : ∀ k, 0 ≤ g k ∧ g k ≤ 65535) {q : Nat} (hq : p = q + 1) (hT : nx g ty q = 84) (hQ : ∀ (T : Int) (p' : Nat) (wr' : Int), p' ≤ 30 → (0 ≤ T ∧ T ≤ 1000000000000000) → (wr' = 0 ∨ wr' = 1) → ((wr' = 0 ∧ ty ≤ (p' : Int)) → wr = 0 ∧ ∃ p'' : Nat, TO g ty q T p'' ∧ ty ≤ (p'' : Int)) → ((wr = 0 ∧ ∃ (T'' : Int) (p'' : Nat), TO g ty q T'' p'' ∧ ty ≤ (p'' : Int)) → wr' = 0 ∧ ty ≤ (p' : Int)) → Q (some (.long (lI T))) (aup w z (mdC A th yq mq dq ty ((p' : Nat) : Int) (wr') sz))) : Ct l G mX7_timeIn rX7_timeIn [.ref z] w Q X := by
  have nz8 : A 8 ≠ z := fun e => ne_of h0 h8 mdai e.symm
  refine ct_of hst mk_X7_timeIn (Nat.le_of_ble_eq_true rfl) ?_
  refine v_aload_n dX7_timeIn_0 rfl ?_
  refine v_iconst dX7_timeIn_1 ?_
  refine v_V1 (rm' := rX7_digits) (RX7, TX7, 18) dX7_timeIn_2 km_X7_268 kn_X7_digits kv_X7_digits kz_X7 mk_X7_digits rfl rfl (by exact h0) ⟨Nat.le_of_ble_eq_true rfl, Nat.le_of_ble_eq_true rfl⟩ ⟨Nat.le_of_ble_eq_true rfl, Nat.le_of_ble_eq_true rfl⟩ (Nat.le_of_ble_eq_true rfl) ?_
  refine s_dig2 hst h0 h8 hty hp hwr hg (fun h p1 w1 e1 hh hp1 hw1 => ?_)
  rw [hq] at e1
  refine v_istore_n dX7_timeIn_5 (by decide) ?_
  refine v_aload_n dX7_timeIn_6 rfl ?_
  refine v_bipush dX7_timeIn_7 ?_
  refine v_V1 (rm' := rX7_want) (RX7, TX7, 18) dX7_timeIn_9 km_X7_272 kn_X7_want kv_X7_want kz_X7 mk_X7_want rfl rfl (by exact aup_s) ⟨Nat.le_of_ble_eq_true rfl, Nat.le_of_ble_eq_true rfl⟩ ⟨Nat.le_of_ble_eq_true rfl, Nat.le_of_ble_eq_true rfl⟩ (Nat.le_of_ble_eq_true rfl) ?_
  refine s_X7_want hst aup_s ((aup_n nz8).trans h8) hty hp1 hw1 hg (by omega) (fun p2 w2 e2 hp2 hw2 => ?_)
  rw [aup_up]
  refine v_aload_n dX7_timeIn_12 rfl ?_
  refine v_iconst dX7_timeIn_13 ?_
  refine v_V1 (rm' := rX7_digits) (RX7, TX7, 18) dX7_timeIn_14 km_X7_268 kn_X7_digits kv_X7_digits kz_X7 mk_X7_digits rfl rfl (by exact aup_s) ⟨Nat.le_of_ble_eq_true rfl, Nat.le_of_ble_eq_true rfl⟩ ⟨Nat.le_of_ble_eq_true rfl, Nat.le_of_ble_eq_true rfl⟩ (Nat.le_of_ble_eq_true rfl) ?_
  refine s_dig2 hst aup_s ((aup_n nz8).trans h8) hty hp2 hw2 hg (fun mi p3 w3 e3 hmi hp3 hw3 => ?_)
  rw [aup_up]
  refine v_istore_n dX7_timeIn_17 (by decide) ?_
  refine v_iconst dX7_timeIn_18 ?_
  refine v_istore_n dX7_timeIn_19 (by decide) ?_
  refine v_lconst0 dX7_timeIn_20 ?_
  refine v_lstore dX7_timeIn_21 (by decide) ?_
  refine v_aload_n dX7_timeIn_23 rfl ?_
  refine v_bipush dX7_timeIn_24 ?_
  refine v_V1 (rm' := rX7_eat) (RX7, TX7, 18) dX7_timeIn_26 km_X7_257 kn_X7_eat kv_X7_eat kz_X7 mk_X7_eat rfl rfl (by exact aup_s) ⟨Nat.le_of_ble_eq_true rfl, Nat.le_of_ble_eq_true rfl⟩ ⟨Nat.le_of_ble_eq_true rfl, Nat.le_of_ble_eq_true rfl⟩ (Nat.le_of_ble_eq_true rfl) ?_
  refine s_X7_eat hst aup_s ((aup_n nz8).trans h8) hty hp3 hw3 hg (by omega) (fun i1 p4 e4 hp4 => ?_)
  rw [aup_up]
  refine v_if_eq 129 dX7_timeIn_29 (fun h_29 => ?_) (fun h_29 => ?_)
  · first
    | (have e4b : i1 = 0 ∧ nx g ty p3 ≠ 58 ∧ p4 = p3 := (by rcases e4 with g9 | g9; (exfalso; omega); exact g9)
       obtain ⟨e4c, e4d, e4e⟩ := e4b
       subst e4e
       obtain ⟨k1, k2⟩ := ti0 e1 e2 e3 hwr hT e4d
       exact v_lof [(0, .ref z), (1, .int (iI h)), (2, .int (iI mi)), (3, .int (iI 0)), (4, .long (lI 0))] (List.forall_mem_cons.mpr ⟨rfl, (List.forall_mem_cons.mpr ⟨rfl, (List.forall_mem_cons.mpr ⟨rfl, (List.forall_mem_cons.mpr ⟨rfl, (List.forall_mem_cons.mpr ⟨rfl, (fun _ h => nomatch h)⟩)⟩)⟩)⟩)⟩) (ti_129 hst h0 h8 hty hp hwr hg hq hT hQ h mi 0 0 _ w3 hh hmi (by omega) (by omega) hp4 hw3 k1 k2))
    | (have e6b : i2 = 0 ∧ nx g ty p5 ≠ 46 ∧ p6 = p5 := (by rcases e6 with g9 | g9; (exfalso; omega); exact g9)
       obtain ⟨e6c, e6d, e6e⟩ := e6b
       subst e6e
       obtain ⟨k1, k2⟩ := ti1 e1 e2 e3 hwr hT e4d e5 e6d
       exact v_lof [(0, .ref z), (1, .int (iI h)), (2, .int (iI mi)), (3, .int (iI se)), (4, .long (lI 0))] (List.forall_mem_cons.mpr ⟨rfl, (List.forall_mem_cons.mpr ⟨rfl, (List.forall_mem_cons.mpr ⟨rfl, (List.forall_mem_cons.mpr ⟨rfl, (List.forall_mem_cons.mpr ⟨rfl, (fun _ h => nomatch h)⟩)⟩)⟩)⟩)⟩) (ti_129 hst h0 h8 hty hp hwr hg hq hT hQ h mi se 0 _ w5 hh hmi hse (by omega) hp6 hw5 k1 k2))
  · refine v_aload_n dX7_timeIn_32 rfl ?_
    refine v_iconst dX7_timeIn_33 ?_
    refine v_V1 (rm' := rX7_digits) (RX7, TX7, 18) dX7_timeIn_34 km_X7_268 kn_X7_digits kv_X7_digits kz_X7 mk_X7_digits rfl rfl (by exact aup_s) ⟨Nat.le_of_ble_eq_true rfl, Nat.le_of_ble_eq_true rfl⟩ ⟨Nat.le_of_ble_eq_true rfl, Nat.le_of_ble_eq_true rfl⟩ (Nat.le_of_ble_eq_true rfl) ?_
    have e4b : i1 = 1 ∧ nx g ty p3 = 58 ∧ p4 = p3 + 1 := (by rcases e4 with g9 | g9; exact g9; (exfalso; omega))
    obtain ⟨e4c, e4d, e4e⟩ := e4b
    subst e4e
    refine s_dig2 hst aup_s ((aup_n nz8).trans h8) hty hp4 hw3 hg (fun se p5 w5 e5 hse hp5 hw5 => ?_)
    rw [aup_up]
    refine v_istore_n dX7_timeIn_37 (by decide) ?_
    refine v_aload_n dX7_timeIn_38 rfl ?_
    refine v_bipush dX7_timeIn_39 ?_
    refine v_V1 (rm' := rX7_eat) (RX7, TX7, 18) dX7_timeIn_41 km_X7_257 kn_X7_eat kv_X7_eat kz_X7 mk_X7_eat rfl rfl (by exact aup_s) ⟨Nat.le_of_ble_eq_true rfl, Nat.le_of_ble_eq_true rfl⟩ ⟨Nat.le_of_ble_eq_true rfl, Nat.le_of_ble_eq_true rfl⟩ (Nat.le_of_ble_eq_true rfl) ?_
    refine s_X7_eat hst aup_s ((aup_n nz8).trans h8) hty hp5 hw5 hg (by omega) (fun i2 p6 e6 hp6 => ?_)
    rw [aup_up]
    refine v_if_eq 129 dX7_timeIn_44 (fun h_44 => ?_) (fun h_44 => ?_)
    · first
      | (have e4b : i1 = 0 ∧ nx g ty p3 ≠ 58 ∧ p4 = p3 := (by rcases e4 with g9 | g9; (exfalso; omega); exact g9)
         obtain ⟨e4c, e4d, e4e⟩ := e4b
         subst e4e
         obtain ⟨k1, k2⟩ := ti0 e1 e2 e3 hwr hT e4d
         exact v_lof [(0, .ref z), (1, .int (iI h)), (2, .int (iI mi)), (3, .int (iI 0)), (4, .long (lI 0))] (List.forall_mem_cons.mpr ⟨rfl, (List.forall_mem_cons.mpr ⟨rfl, (List.forall_mem_cons.mpr ⟨rfl, (List.forall_mem_cons.mpr ⟨rfl, (List.forall_mem_cons.mpr ⟨rfl, (fun _ h => nomatch h)⟩)⟩)⟩)⟩)⟩) (ti_129 hst h0 h8 hty hp hwr hg hq hT hQ h mi 0 0 _ w3 hh hmi (by omega) (by omega) hp4 hw3 k1 k2))
      | (have e6b : i2 = 0 ∧ nx g ty p5 ≠ 46 ∧ p6 = p5 := (by rcases e6 with g9 | g9; (exfalso; omega); exact g9)
         obtain ⟨e6c, e6d, e6e⟩ := e6b
         subst e6e
         obtain ⟨k1, k2⟩ := ti1 e1 e2 e3 hwr hT e4d e5 e6d
         exact v_lof [(0, .ref z), (1, .int (iI h)), (2, .int (iI mi)), (3, .int (iI se)), (4, .long (lI 0))] (List.forall_mem_cons.mpr ⟨rfl, (List.forall_mem_cons.mpr ⟨rfl, (List.forall_mem_cons.mpr ⟨rfl, (List.forall_mem_cons.mpr ⟨rfl, (List.forall_mem_cons.mpr ⟨rfl, (fun _ h => nomatch h)⟩)⟩)⟩)⟩)⟩) (ti_129 hst h0 h8 hty hp hwr hg hq hT hQ h mi se 0 _ w5 hh hmi hse (by omega) hp6 hw5 k1 k2))
    · have e6b : i2 = 1 ∧ nx g ty p5 = 46 ∧ p6 = p5 + 1 := (by rcases e6 with g9 | g9; exact g9; (exfalso; omega))
      obtain ⟨e6c, e6d, e6e⟩ := e6b
      subst e6e
      refine v_aload_n dX7_timeIn_47 rfl ?_
      refine v_get dX7_timeIn_48 f_X7_251 (by exact aup_s) rfl ?_
      refine v_aload_n dX7_timeIn_51 rfl ?_
      refine v_get dX7_timeIn_52 f_X7_254 (by exact aup_s) rfl ?_
      refine v_isub dX7_timeIn_55 ?_
      refine v_istore dX7_timeIn_56 (by decide) ?_
      refine v_aload_n dX7_timeIn_58 rfl ?_
      refine v_aload_n dX7_timeIn_59 rfl ?_
      refine v_get dX7_timeIn_60 f_X7_260 (by exact aup_s) rfl ?_
      refine v_if_ne 79 dX7_timeIn_63 (fun h_63 => ?_) (fun h_63 => ?_)
      · refine v_iconst dX7_timeIn_79 ?_
        refine v_goto 84 dX7_timeIn_80 ?_
        refine v_put dX7_timeIn_84 f_X7_260 (by exact aup_s) rfl rfl (Nat.le_of_ble_eq_true rfl) ?_
        try rw [aup_up]
        refine v_iconst dX7_timeIn_87 ?_
        refine v_istore dX7_timeIn_88 (by decide) ?_
        first
        | (exfalso; omega)
        | (have g7 : ((0 : Int) = 0 ∧ w5 = 0 ∧ 1 ≤ ty - ((p5 + 1 : Nat) : Int) ∧ ty - ((p5 + 1 : Nat) : Int) ≤ 9) ∨ ((0 : Int) = 1 ∧ ¬ (w5 = 0 ∧ 1 ≤ ty - ((p5 + 1 : Nat) : Int) ∧ ty - ((p5 + 1 : Nat) : Int) ≤ 9)) := (by omega)
           exact v_lof [(0, .ref z), (1, .int (iI h)), (2, .int (iI mi)), (3, .int (iI se)), (4, .long (lI (0))), (6, .int (iI (ty - ((p5 + 1 : Nat) : Int)))), (7, .int (iI (((0 : Nat) : Int))))] (List.forall_mem_cons.mpr ⟨rfl, (List.forall_mem_cons.mpr ⟨rfl, (List.forall_mem_cons.mpr ⟨rfl, (List.forall_mem_cons.mpr ⟨rfl, (List.forall_mem_cons.mpr ⟨rfl, (List.forall_mem_cons.mpr ⟨rfl, (List.forall_mem_cons.mpr ⟨rfl, (fun _ h => nomatch h)⟩)⟩)⟩)⟩)⟩)⟩)⟩) (frac_loop hst nz8 h8 hty hg hp6 rfl (w7 := 0) (fun n p8 w8 hF hn hp8 hw8 => ti_129 hst h0 h8 hty hp hwr hg hq hT hQ h mi se n p8 w8 hh hmi hse hn hp8 hw8 (ti2 e1 e2 e3 hwr hT e4d e5 e6d rfl g7 hw8 hF).1 (ti2 e1 e2 e3 hwr hT e4d e5 e6d rfl g7 hw8 hF).2) 9 0 0 (p5 + 1) 0 (by omega) (by omega) hp6 (by omega) (by decide) (Or.inr ⟨rfl, rfl, rfl, rfl, Or.inl ⟨by omega, rfl⟩⟩)))
        | (have g7 : ((1 : Int) = 0 ∧ w5 = 0 ∧ 1 ≤ ty - ((p5 + 1 : Nat) : Int) ∧ ty - ((p5 + 1 : Nat) : Int) ≤ 9) ∨ ((1 : Int) = 1 ∧ ¬ (w5 = 0 ∧ 1 ≤ ty - ((p5 + 1 : Nat) : Int) ∧ ty - ((p5 + 1 : Nat) : Int) ≤ 9)) := (by omega)
           exact v_lof [(0, .ref z), (1, .int (iI h)), (2, .int (iI mi)), (3, .int (iI se)), (4, .long (lI (0))), (6, .int (iI (ty - ((p5 + 1 : Nat) : Int)))), (7, .int (iI (((0 : Nat) : Int))))] (List.forall_mem_cons.mpr ⟨rfl, (List.forall_mem_cons.mpr ⟨rfl, (List.forall_mem_cons.mpr ⟨rfl, (List.forall_mem_cons.mpr ⟨rfl, (List.forall_mem_cons.mpr ⟨rfl, (List.forall_mem_cons.mpr ⟨rfl, (List.forall_mem_cons.mpr ⟨rfl, (fun _ h => nomatch h)⟩)⟩)⟩)⟩)⟩)⟩)⟩) (frac_loop hst nz8 h8 hty hg hp6 rfl (w7 := 1) (fun n p8 w8 hF hn hp8 hw8 => ti_129 hst h0 h8 hty hp hwr hg hq hT hQ h mi se n p8 w8 hh hmi hse hn hp8 hw8 (ti2 e1 e2 e3 hwr hT e4d e5 e6d rfl g7 hw8 hF).1 (ti2 e1 e2 e3 hwr hT e4d e5 e6d rfl g7 hw8 hF).2) 9 0 0 (p5 + 1) 1 (by omega) (by omega) hp6 (by omega) (by decide) (Or.inl ⟨rfl, Or.inl rfl⟩)))
      · refine v_iload dX7_timeIn_66 rfl ?_
        refine v_iconst dX7_timeIn_68 ?_
        refine v_icmp_lt 79 dX7_timeIn_69 (fun h_69 => ?_) (fun h_69 => ?_)
        · refine v_iconst dX7_timeIn_79 ?_
          refine v_goto 84 dX7_timeIn_80 ?_
          refine v_put dX7_timeIn_84 f_X7_260 (by exact aup_s) rfl rfl (Nat.le_of_ble_eq_true rfl) ?_
          try rw [aup_up]
          refine v_iconst dX7_timeIn_87 ?_
          refine v_istore dX7_timeIn_88 (by decide) ?_
          first
          | (exfalso; omega)
          | (have g7 : ((0 : Int) = 0 ∧ w5 = 0 ∧ 1 ≤ ty - ((p5 + 1 : Nat) : Int) ∧ ty - ((p5 + 1 : Nat) : Int) ≤ 9) ∨ ((0 : Int) = 1 ∧ ¬ (w5 = 0 ∧ 1 ≤ ty - ((p5 + 1 : Nat) : Int) ∧ ty - ((p5 + 1 : Nat) : Int) ≤ 9)) := (by omega)
             exact v_lof [(0, .ref z), (1, .int (iI h)), (2, .int (iI mi)), (3, .int (iI se)), (4, .long (lI (0))), (6, .int (iI (ty - ((p5 + 1 : Nat) : Int)))), (7, .int (iI (((0 : Nat) : Int))))] (List.forall_mem_cons.mpr ⟨rfl, (List.forall_mem_cons.mpr ⟨rfl, (List.forall_mem_cons.mpr ⟨rfl, (List.forall_mem_cons.mpr ⟨rfl, (List.forall_mem_cons.mpr ⟨rfl, (List.forall_mem_cons.mpr ⟨rfl, (List.forall_mem_cons.mpr ⟨rfl, (fun _ h => nomatch h)⟩)⟩)⟩)⟩)⟩)⟩)⟩) (frac_loop hst nz8 h8 hty hg hp6 rfl (w7 := 0) (fun n p8 w8 hF hn hp8 hw8 => ti_129 hst h0 h8 hty hp hwr hg hq hT hQ h mi se n p8 w8 hh hmi hse hn hp8 hw8 (ti2 e1 e2 e3 hwr hT e4d e5 e6d rfl g7 hw8 hF).1 (ti2 e1 e2 e3 hwr hT e4d e5 e6d rfl g7 hw8 hF).2) 9 0 0 (p5 + 1) 0 (by omega) (by omega) hp6 (by omega) (by decide) (Or.inr ⟨rfl, rfl, rfl, rfl, Or.inl ⟨by omega, rfl⟩⟩)))
          | (have g7 : ((1 : Int) = 0 ∧ w5 = 0 ∧ 1 ≤ ty - ((p5 + 1 : Nat) : Int) ∧ ty - ((p5 + 1 : Nat) : Int) ≤ 9) ∨ ((1 : Int) = 1 ∧ ¬ (w5 = 0 ∧ 1 ≤ ty - ((p5 + 1 : Nat) : Int) ∧ ty - ((p5 + 1 : Nat) : Int) ≤ 9)) := (by omega)
             exact v_lof [(0, .ref z), (1, .int (iI h)), (2, .int (iI mi)), (3, .int (iI se)), (4, .long (lI (0))), (6, .int (iI (ty - ((p5 + 1 : Nat) : Int)))), (7, .int (iI (((0 : Nat) : Int))))] (List.forall_mem_cons.mpr ⟨rfl, (List.forall_mem_cons.mpr ⟨rfl, (List.forall_mem_cons.mpr ⟨rfl, (List.forall_mem_cons.mpr ⟨rfl, (List.forall_mem_cons.mpr ⟨rfl, (List.forall_mem_cons.mpr ⟨rfl, (List.forall_mem_cons.mpr ⟨rfl, (fun _ h => nomatch h)⟩)⟩)⟩)⟩)⟩)⟩)⟩) (frac_loop hst nz8 h8 hty hg hp6 rfl (w7 := 1) (fun n p8 w8 hF hn hp8 hw8 => ti_129 hst h0 h8 hty hp hwr hg hq hT hQ h mi se n p8 w8 hh hmi hse hn hp8 hw8 (ti2 e1 e2 e3 hwr hT e4d e5 e6d rfl g7 hw8 hF).1 (ti2 e1 e2 e3 hwr hT e4d e5 e6d rfl g7 hw8 hF).2) 9 0 0 (p5 + 1) 1 (by omega) (by omega) hp6 (by omega) (by decide) (Or.inl ⟨rfl, Or.inl rfl⟩)))
        · refine v_iload dX7_timeIn_72 rfl ?_
          refine v_bipush dX7_timeIn_74 ?_
          refine v_icmp_le 83 dX7_timeIn_76 (fun h_76 => ?_) (fun h_76 => ?_)
          · refine v_iconst dX7_timeIn_83 ?_
            refine v_put dX7_timeIn_84 f_X7_260 (by exact aup_s) rfl rfl (Nat.le_of_ble_eq_true rfl) ?_
            try rw [aup_up]
            refine v_iconst dX7_timeIn_87 ?_
            refine v_istore dX7_timeIn_88 (by decide) ?_
            first
            | (exfalso; omega)
            | (have g7 : ((0 : Int) = 0 ∧ w5 = 0 ∧ 1 ≤ ty - ((p5 + 1 : Nat) : Int) ∧ ty - ((p5 + 1 : Nat) : Int) ≤ 9) ∨ ((0 : Int) = 1 ∧ ¬ (w5 = 0 ∧ 1 ≤ ty - ((p5 + 1 : Nat) : Int) ∧ ty - ((p5 + 1 : Nat) : Int) ≤ 9)) := (by omega)
               exact v_lof [(0, .ref z), (1, .int (iI h)), (2, .int (iI mi)), (3, .int (iI se)), (4, .long (lI (0))), (6, .int (iI (ty - ((p5 + 1 : Nat) : Int)))), (7, .int (iI (((0 : Nat) : Int))))] (List.forall_mem_cons.mpr ⟨rfl, (List.forall_mem_cons.mpr ⟨rfl, (List.forall_mem_cons.mpr ⟨rfl, (List.forall_mem_cons.mpr ⟨rfl, (List.forall_mem_cons.mpr ⟨rfl, (List.forall_mem_cons.mpr ⟨rfl, (List.forall_mem_cons.mpr ⟨rfl, (fun _ h => nomatch h)⟩)⟩)⟩)⟩)⟩)⟩)⟩) (frac_loop hst nz8 h8 hty hg hp6 rfl (w7 := 0) (fun n p8 w8 hF hn hp8 hw8 => ti_129 hst h0 h8 hty hp hwr hg hq hT hQ h mi se n p8 w8 hh hmi hse hn hp8 hw8 (ti2 e1 e2 e3 hwr hT e4d e5 e6d rfl g7 hw8 hF).1 (ti2 e1 e2 e3 hwr hT e4d e5 e6d rfl g7 hw8 hF).2) 9 0 0 (p5 + 1) 0 (by omega) (by omega) hp6 (by omega) (by decide) (Or.inr ⟨rfl, rfl, rfl, rfl, Or.inl ⟨by omega, rfl⟩⟩)))
            | (have g7 : ((1 : Int) = 0 ∧ w5 = 0 ∧ 1 ≤ ty - ((p5 + 1 : Nat) : Int) ∧ ty - ((p5 + 1 : Nat) : Int) ≤ 9) ∨ ((1 : Int) = 1 ∧ ¬ (w5 = 0 ∧ 1 ≤ ty - ((p5 + 1 : Nat) : Int) ∧ ty - ((p5 + 1 : Nat) : Int) ≤ 9)) := (by omega)
               exact v_lof [(0, .ref z), (1, .int (iI h)), (2, .int (iI mi)), (3, .int (iI se)), (4, .long (lI (0))), (6, .int (iI (ty - ((p5 + 1 : Nat) : Int)))), (7, .int (iI (((0 : Nat) : Int))))] (List.forall_mem_cons.mpr ⟨rfl, (List.forall_mem_cons.mpr ⟨rfl, (List.forall_mem_cons.mpr ⟨rfl, (List.forall_mem_cons.mpr ⟨rfl, (List.forall_mem_cons.mpr ⟨rfl, (List.forall_mem_cons.mpr ⟨rfl, (List.forall_mem_cons.mpr ⟨rfl, (fun _ h => nomatch h)⟩)⟩)⟩)⟩)⟩)⟩)⟩) (frac_loop hst nz8 h8 hty hg hp6 rfl (w7 := 1) (fun n p8 w8 hF hn hp8 hw8 => ti_129 hst h0 h8 hty hp hwr hg hq hT hQ h mi se n p8 w8 hh hmi hse hn hp8 hw8 (ti2 e1 e2 e3 hwr hT e4d e5 e6d rfl g7 hw8 hF).1 (ti2 e1 e2 e3 hwr hT e4d e5 e6d rfl g7 hw8 hF).2) 9 0 0 (p5 + 1) 1 (by omega) (by omega) hp6 (by omega) (by decide) (Or.inl ⟨rfl, Or.inl rfl⟩)))
          · refine v_iconst dX7_timeIn_79 ?_
            refine v_goto 84 dX7_timeIn_80 ?_
            refine v_put dX7_timeIn_84 f_X7_260 (by exact aup_s) rfl rfl (Nat.le_of_ble_eq_true rfl) ?_
            try rw [aup_up]
            refine v_iconst dX7_timeIn_87 ?_
            refine v_istore dX7_timeIn_88 (by decide) ?_
            first
            | (exfalso; omega)
            | (have g7 : ((0 : Int) = 0 ∧ w5 = 0 ∧ 1 ≤ ty - ((p5 + 1 : Nat) : Int) ∧ ty - ((p5 + 1 : Nat) : Int) ≤ 9) ∨ ((0 : Int) = 1 ∧ ¬ (w5 = 0 ∧ 1 ≤ ty - ((p5 + 1 : Nat) : Int) ∧ ty - ((p5 + 1 : Nat) : Int) ≤ 9)) := (by omega)
               exact v_lof [(0, .ref z), (1, .int (iI h)), (2, .int (iI mi)), (3, .int (iI se)), (4, .long (lI (0))), (6, .int (iI (ty - ((p5 + 1 : Nat) : Int)))), (7, .int (iI (((0 : Nat) : Int))))] (List.forall_mem_cons.mpr ⟨rfl, (List.forall_mem_cons.mpr ⟨rfl, (List.forall_mem_cons.mpr ⟨rfl, (List.forall_mem_cons.mpr ⟨rfl, (List.forall_mem_cons.mpr ⟨rfl, (List.forall_mem_cons.mpr ⟨rfl, (List.forall_mem_cons.mpr ⟨rfl, (fun _ h => nomatch h)⟩)⟩)⟩)⟩)⟩)⟩)⟩) (frac_loop hst nz8 h8 hty hg hp6 rfl (w7 := 0) (fun n p8 w8 hF hn hp8 hw8 => ti_129 hst h0 h8 hty hp hwr hg hq hT hQ h mi se n p8 w8 hh hmi hse hn hp8 hw8 (ti2 e1 e2 e3 hwr hT e4d e5 e6d rfl g7 hw8 hF).1 (ti2 e1 e2 e3 hwr hT e4d e5 e6d rfl g7 hw8 hF).2) 9 0 0 (p5 + 1) 0 (by omega) (by omega) hp6 (by omega) (by decide) (Or.inr ⟨rfl, rfl, rfl, rfl, Or.inl ⟨by omega, rfl⟩⟩)))
            | (have g7 : ((1 : Int) = 0 ∧ w5 = 0 ∧ 1 ≤ ty - ((p5 + 1 : Nat) : Int) ∧ ty - ((p5 + 1 : Nat) : Int) ≤ 9) ∨ ((1 : Int) = 1 ∧ ¬ (w5 = 0 ∧ 1 ≤ ty - ((p5 + 1 : Nat) : Int) ∧ ty - ((p5 + 1 : Nat) : Int) ≤ 9)) := (by omega)
               exact v_lof [(0, .ref z), (1, .int (iI h)), (2, .int (iI mi)), (3, .int (iI se)), (4, .long (lI (0))), (6, .int (iI (ty - ((p5 + 1 : Nat) : Int)))), (7, .int (iI (((0 : Nat) : Int))))] (List.forall_mem_cons.mpr ⟨rfl, (List.forall_mem_cons.mpr ⟨rfl, (List.forall_mem_cons.mpr ⟨rfl, (List.forall_mem_cons.mpr ⟨rfl, (List.forall_mem_cons.mpr ⟨rfl, (List.forall_mem_cons.mpr ⟨rfl, (List.forall_mem_cons.mpr ⟨rfl, (fun _ h => nomatch h)⟩)⟩)⟩)⟩)⟩)⟩)⟩) (frac_loop hst nz8 h8 hty hg hp6 rfl (w7 := 1) (fun n p8 w8 hF hn hp8 hw8 => ti_129 hst h0 h8 hty hp hwr hg hq hT hQ h mi se n p8 w8 hh hmi hse hn hp8 hw8 (ti2 e1 e2 e3 hwr hT e4d e5 e6d rfl g7 hw8 hF).1 (ti2 e1 e2 e3 hwr hT e4d e5 e6d rfl g7 hw8 hF).2) 9 0 0 (p5 + 1) 1 (by omega) (by omega) hp6 (by omega) (by decide) (Or.inl ⟨rfl, Or.inl rfl⟩)))
