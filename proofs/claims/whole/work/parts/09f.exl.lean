def EXL (w w' : AH) (L : List (Nat × va_E)) : Prop := (∀ (k a : Nat) (e : va_E), L[k]? = some (a, e) → w' a = some e ∧ w a = none) ∧ (∀ (i j a : Nat) (e e' : va_E), L[i]? = some (a, e) → L[j]? = some (a, e') → i = j) ∧ (∀ q : Nat, (∀ (k : Nat) (e : va_E), L[k]? ≠ some (q, e)) → w' q = w q)
theorem EXL.nil {w : AH} : EXL w w [] := ⟨fun k a e h => by simp at h, fun i j a e e' h => by simp at h, fun q _ => rfl⟩
theorem EXL.get {w w' : AH} {L : List (Nat × va_E)} (h : EXL w w' L) (k : Nat) {a : Nat} {e : va_E} (hk : L[k]? = some (a, e)) : w' a = some e := (h.1 k a e hk).1
theorem EXL.fresh {w w' : AH} {L : List (Nat × va_E)} (h : EXL w w' L) {a : Nat} (ha : w' a = none) : (∀ (k : Nat) (e : va_E), L[k]? ≠ some (a, e)) ∧ w a = none := by
  have h1 : ∀ (k : Nat) (e : va_E), L[k]? ≠ some (a, e) := by
    intro k e hk
    have := (h.1 k a e hk).1
    rw [ha] at this
    cases this
  exact ⟨h1, (h.2.2 a h1).symm.trans ha⟩
theorem gAp {L : List (Nat × va_E)} {x : Nat × va_E} {k : Nat} {y : Nat × va_E} (h : (L ++ [x])[k]? = some y) : L[k]? = some y ∨ (k = L.length ∧ y = x) := by
  rcases Nat.lt_trichotomy k L.length with h1 | h1 | h1
  · left
    rw [List.getElem?_append_left h1] at h
    exact h
  · right
    subst h1
    rw [List.getElem?_append_right (Nat.le_refl _), Nat.sub_self] at h
    exact ⟨rfl, (Option.some.inj h).symm⟩
  · rw [List.getElem?_append_right (Nat.le_of_lt h1)] at h
    rw [show k - L.length = (k - L.length - 1) + 1 by omega] at h
    simp at h
theorem gSet {L : List (Nat × va_E)} {x : Nat × va_E} {j k : Nat} {y : Nat × va_E} (h : (L.set j x)[k]? = some y) : (k = j ∧ y = x ∧ j < L.length) ∨ (k ≠ j ∧ L[k]? = some y) := by
  by_cases e : k = j
  · subst e
    left
    rw [List.getElem?_set] at h
    simp at h
    by_cases hl : k < L.length
    · simp [hl] at h
      exact ⟨rfl, h.symm, hl⟩
    · simp [hl] at h
  · right
    rw [List.getElem?_set] at h
    rw [if_neg (fun q => e q.symm)] at h
    exact ⟨e, h⟩
theorem EXL.new {w w' : AH} {L : List (Nat × va_E)} (h : EXL w w' L) {a : Nat} {e : va_E} (ha : w' a = none) : EXL w (aup w' a e) (L ++ [(a, e)]) := by
  obtain ⟨f1, f2⟩ := h.fresh ha
  refine ⟨fun k b e2 hk => ?_, fun i j b e2 e3 hi hj => ?_, fun q hq => ?_⟩
  · rcases gAp hk with h1 | ⟨h1, h2⟩
    · have hb : b ≠ a := fun q => f1 k e2 (q ▸ h1)
      rw [aup_n hb]
      exact h.1 k b e2 h1
    · cases h2
      exact ⟨aup_s, f2⟩
  · rcases gAp hi with h1 | ⟨h1, h2⟩
    · rcases gAp hj with h3 | ⟨h3, h4⟩
      · exact h.2.1 i j b e2 e3 h1 h3
      · cases h4
        exact absurd h1 (f1 i e2)
    · cases h2
      rcases gAp hj with h3 | ⟨h3, h4⟩
      · exact absurd h3 (f1 j e3)
      · rw [h1, h3]
  · have hqa : q ≠ a := by
      intro e4
      subst e4
      refine hq L.length e ?_
      rw [List.getElem?_append_right (Nat.le_refl _), Nat.sub_self]
      rfl
    rw [aup_n hqa]
    refine h.2.2 q (fun k e2 hk => hq k e2 ?_)
    have hl : k < L.length := (List.getElem?_eq_some_iff.mp hk).1
    rw [List.getElem?_append_left hl]
    exact hk
theorem EXL.put {w w' : AH} {L : List (Nat × va_E)} (h : EXL w w' L) {k a : Nat} {e e' : va_E} (hk : L[k]? = some (a, e)) : EXL w (aup w' a e') (L.set k (a, e')) := by
  refine ⟨fun j b e2 hj => ?_, fun i j b e2 e3 hi hj => ?_, fun q hq => ?_⟩
  · rcases gSet hj with ⟨h1, h2, h3⟩ | ⟨h1, h2⟩
    · cases h2
      exact ⟨aup_s, (h.1 k a e hk).2⟩
    · have hb : b ≠ a := fun q => h1 (h.2.1 j k a e2 e (q ▸ h2) hk)
      rw [aup_n hb]
      exact h.1 j b e2 h2
  · rcases gSet hi with ⟨h1, h2, h3⟩ | ⟨h1, h2⟩
    · cases h2
      rcases gSet hj with ⟨h4, h5, h6⟩ | ⟨h4, h5⟩
      · rw [h1, h4]
      · rw [h1]
        exact h.2.1 k j a e e3 hk h5
    · rcases gSet hj with ⟨h4, h5, h6⟩ | ⟨h4, h5⟩
      · cases h5
        rw [h4]
        exact h.2.1 i k a e2 e h2 hk
      · exact h.2.1 i j b e2 e3 h2 h5
  · have hl : k < L.length := (List.getElem?_eq_some_iff.mp hk).1
    have hqa : q ≠ a := by
      intro e4
      subst e4
      refine hq k e' ?_
      rw [List.getElem?_set]
      simp [hl]
    rw [aup_n hqa]
    refine h.2.2 q (fun j e2 hj => hq j e2 ?_)
    have hjk : j ≠ k := by
      intro e5
      subst e5
      rw [hk] at hj
      cases hj
      exact hqa rfl
    rw [List.getElem?_set, if_neg (fun q => hjk q.symm)]
    exact hj
theorem EXL.base {w w' : AH} {L : List (Nat × va_E)} (h : EXL w w' L) {z : Nat} {e0 e : va_E} (hz : w z = some e0) : EXL (aup w z e) (aup w' z e) L := by
  have hn : ∀ (k : Nat) (e2 : va_E), L[k]? ≠ some (z, e2) := by
    intro k e2 hk
    have := (h.1 k z e2 hk).2
    rw [hz] at this
    cases this
  refine ⟨fun k b e2 hk => ?_, h.2.1, fun q hq => ?_⟩
  · have hb : b ≠ z := fun q => hn k e2 (q ▸ hk)
    rw [aup_n hb, aup_n hb]
    exact h.1 k b e2 hk
  · by_cases e1 : q = z
    · rw [e1, aup_s, aup_s]
    · rw [aup_n e1, aup_n e1]
      exact h.2.2 q hq
theorem EXL.bz {w w' : AH} {L : List (Nat × va_E)} (h : EXL w w' L) {z : Nat} {e0 : va_E} (hz : w z = some e0) : w' z = some e0 := by
  rw [← hz]
  refine h.2.2 z (fun k e2 hk => ?_)
  have := (h.1 k z e2 hk).2
  rw [hz] at this
  cases this
theorem EXL.trans {w0 w1 w2 : AH} {L N : List (Nat × va_E)} (h : EXL w0 w1 L) (g : EXL w1 w2 N) : EXL w0 w2 (L ++ N) := by
  have hap : ∀ (k : Nat) (y : Nat × va_E), (L ++ N)[k]? = some y → (k < L.length ∧ L[k]? = some y) ∨ (L.length ≤ k ∧ N[k - L.length]? = some y) := by
    intro k y hk
    rcases Nat.lt_or_ge k L.length with h1 | h1
    · left
      rw [List.getElem?_append_left h1] at hk
      exact ⟨h1, hk⟩
    · right
      rw [List.getElem?_append_right h1] at hk
      exact ⟨h1, hk⟩
  refine ⟨fun k b e2 hk => ?_, fun i j b e2 e3 hi hj => ?_, fun q hq => ?_⟩
  · rcases hap k _ hk with ⟨h1, h2⟩ | ⟨h1, h2⟩
    · obtain ⟨a1, a2⟩ := h.1 k b e2 h2
      refine ⟨?_, a2⟩
      rw [← a1]
      refine g.2.2 b (fun j e3 hj => ?_)
      have := (g.1 j b e3 hj).2
      rw [a1] at this
      cases this
    · obtain ⟨a1, a2⟩ := g.1 _ b e2 h2
      exact ⟨a1, (h.fresh a2).2⟩
  · rcases hap i _ hi with ⟨h1, h2⟩ | ⟨h1, h2⟩
    · rcases hap j _ hj with ⟨h3, h4⟩ | ⟨h3, h4⟩
      · exact h.2.1 i j b e2 e3 h2 h4
      · exact absurd h2 ((h.fresh (g.1 _ b e3 h4).2).1 i e2)
    · rcases hap j _ hj with ⟨h3, h4⟩ | ⟨h3, h4⟩
      · exact absurd h4 ((h.fresh (g.1 _ b e2 h2).2).1 j e3)
      · have := g.2.1 _ _ b e2 e3 h2 h4
        omega
  · have h1 : w2 q = w1 q := by
      refine g.2.2 q (fun k e2 hk => hq (L.length + k) e2 ?_)
      rw [List.getElem?_append_right (Nat.le_add_right _ _), Nat.add_sub_cancel_left]
      exact hk
    rw [h1]
    refine h.2.2 q (fun k e2 hk => hq k e2 ?_)
    rw [List.getElem?_append_left (List.getElem?_eq_some_iff.mp hk).1]
    exact hk
theorem v_hx {l : Launch} {G : GG} {M : MI} {rm : Room} {Q : Option Value → AH → Prop} {X : String → AH → Prop} {pc : Nat} {lv : Nat → Option Value} {st : List Value} {w w' : AH} {kc ks : Nat} (h : ∀ H : Heap, HW G w H → HW G w' H) (k : V l G M rm Q X pc lv st w' kc ks) : V l G M rm Q X pc lv st w kc ks := by
  intro p e s m args below meth c C H locs ls hl hW hS
  exact k p e s m args below meth c C H locs ls hl (h H hW) hS
theorem hw_ar {G : GG} {w : AH} {a t n : Nat} {f f' : Nat → Option Nat} (ha : w a = some (arA G t n f)) (hf : ∀ j, j < n → f j = f' j) (H : Heap) (h : HW G w H) : HW G (aup w a (arA G t n f')) H := by
  refine ⟨h.1, h.2.1, fun b e he => ?_⟩
  by_cases hb : b = a
  · subst hb
    rw [aup_s] at he
    cases he
    obtain ⟨g1, g2⟩ := h.2.2 b _ ha
    refine ⟨g1, ?_⟩
    unfold va_at arA at g2 ⊢
    show H[b]? = some (vp_cell _ _)
    have g3 : H[b]? = some (vp_cell (G.dT t) (n, .inr (.inr (.inr (.inr f))))) := g2
    rw [g3]
    refine congrArg some ?_
    rw [vp_cell_q, vp_cell_q]
    unfold arrV
    have hfe : (fun j : Fin n => va_rf (f j.val)) = (fun j : Fin n => va_rf (f' j.val)) := funext (fun j => by rw [hf j.val j.isLt])
    show ({ cls := G.dT t, slots := Array.ofFn (n := n) (fun j : Fin n => va_rf (f j.val)), vm := .none } : Cell) = { cls := G.dT t, slots := Array.ofFn (n := n) (fun j : Fin n => va_rf (f' j.val)), vm := .none }
    rw [hfe]
  · rw [aup_n hb] at he
    exact h.2.2 b e he
