def TE (g : Nat → Int) (L : Int) (p : Nat) (T : Int) : Prop := (L ≤ (p : Int) ∧ T = 0) ∨ ((p : Int) < L ∧ ∃ p' : Nat, TO g L p T p' ∧ L ≤ (p' : Int))
def isDt (y m d : Int) : Prop := (-9999 ≤ y ∧ y ≤ 9999 ∧ 1 ≤ m ∧ m ≤ 12 ∧ 1 ≤ d ∧ d ≤ lenM y m)
def PB (g : Nat → Int) (L : Int) (s : Nat) (v m d : Int) : Prop := ((48 ≤ nx g L (s) ∧ nx g L (s) ≤ 57) ∧ (48 ≤ nx g L (s + 1) ∧ nx g L (s + 1) ≤ 57) ∧ (48 ≤ nx g L (s + 1 + 1) ∧ nx g L (s + 1 + 1) ≤ 57) ∧ (48 ≤ nx g L (s + 1 + 1 + 1) ∧ nx g L (s + 1 + 1 + 1) ≤ 57)) ∧ v = n4 g L s ∧ (nx g L (s + 1 + 1 + 1 + 1) = 45 ∧ ((48 ≤ nx g L (s + 1 + 1 + 1 + 1 + 1) ∧ nx g L (s + 1 + 1 + 1 + 1 + 1) ≤ 57) ∧ (48 ≤ nx g L (s + 1 + 1 + 1 + 1 + 1 + 1) ∧ nx g L (s + 1 + 1 + 1 + 1 + 1 + 1) ≤ 57))) ∧ m = n2 g L (s + 1 + 1 + 1 + 1 + 1) ∧ (nx g L (s + 1 + 1 + 1 + 1 + 1 + 1 + 1) = 45 ∧ ((48 ≤ nx g L (s + 1 + 1 + 1 + 1 + 1 + 1 + 1 + 1) ∧ nx g L (s + 1 + 1 + 1 + 1 + 1 + 1 + 1 + 1) ≤ 57) ∧ (48 ≤ nx g L (s + 1 + 1 + 1 + 1 + 1 + 1 + 1 + 1 + 1) ∧ nx g L (s + 1 + 1 + 1 + 1 + 1 + 1 + 1 + 1 + 1) ≤ 57))) ∧ d = n2 g L (s + 1 + 1 + 1 + 1 + 1 + 1 + 1 + 1)
def PO (g : Nat → Int) (L : Int) (o : Nat) (y m d T : Int) : Prop := (nx g L (o) = 45 ∧ PB g L (o + 1) (-y) m d ∧ y ≠ 0 ∧ isDt y m d ∧ TE g L (o + 1 + 1 + 1 + 1 + 1 + 1 + 1 + 1 + 1 + 1 + 1) T) ∨ (nx g L (o) ≠ 45 ∧ PB g L o y m d ∧ isDt y m d ∧ TE g L (o + 1 + 1 + 1 + 1 + 1 + 1 + 1 + 1 + 1 + 1) T)
theorem n2_rng {g : Nat → Int} {L : Int} {p : Nat} (h : (48 ≤ nx g L p ∧ nx g L p ≤ 57) ∧ (48 ≤ nx g L (p + 1) ∧ nx g L (p + 1) ≤ 57)) : 0 ≤ n2 g L p ∧ ((p + 1 : Nat) : Int) < L := by
  have h1 := nx_c g L (p + 1)
  unfold n2
  omega
theorem TO_rng {g : Nat → Int} {L T : Int} {p p' : Nat} (hL : 0 ≤ L ∧ L ≤ 30) (h : TO g L p T p') : 0 ≤ T ∧ T ≤ 86399999999999 ∧ p' ≤ 30 := by
  unfold TO at h
  obtain ⟨⟨-, c1⟩, ⟨-, c2⟩, a, b, h⟩ := h
  have r1 := n2_rng c1
  have r2 := n2_rng c2
  clear c1 c2
  rcases h with ⟨-, e2, e3⟩ | ⟨-, ⟨-, c3⟩, c, h⟩
  · omega
  · have r3 := n2_rng c3
    clear c3
    rcases h with ⟨-, e2, e3⟩ | ⟨-, -, c4, e2, e3⟩
    · omega
    · have h9 := fvs_rng (g := g) (L := L) (p := p + 1 + 1 + 1 + 1 + 1 + 1 + 1 + 1 + 1 + 1) 9 (by omega)
      have h8 : (10 : Int) ^ 9 = 1000000000 := by decide
      have h7 := nx_c g L (p + 1 + 1 + 1 + 1 + 1 + 1 + 1 + 1 + 1 + 1)
      have hle := fps_le (g := g) hL.2 (show p + 1 + 1 + 1 + 1 + 1 + 1 + 1 + 1 + 1 + 1 ≤ 30 by omega) 9
      clear h7 c4
      omega
theorem TO_fun {g : Nat → Int} {L T T' : Int} {p p' p'' : Nat} (h : TO g L p T p') (h' : TO g L p T' p'') : T = T' ∧ p' = p'' := by
  unfold TO at h h'
  obtain ⟨-, -, -, -, h⟩ := h
  obtain ⟨-, -, -, -, h'⟩ := h'
  rcases h with ⟨a1, a2, a3⟩ | ⟨a1, -, -, h⟩ <;> rcases h' with ⟨b1, b2, b3⟩ | ⟨b1, -, -, h'⟩
  · exact ⟨a2.trans b2.symm, a3.trans b3.symm⟩
  · exact absurd a1 (Int.not_le.mpr b1)
  · exact absurd b1 (Int.not_le.mpr a1)
  · rcases h with ⟨a1, a2, a3⟩ | ⟨a1, -, -, a2, a3⟩ <;> rcases h' with ⟨b1, b2, b3⟩ | ⟨b1, -, -, b2, b3⟩
    · exact ⟨a2.trans b2.symm, a3.trans b3.symm⟩
    · exact absurd a1 (Int.not_le.mpr b1)
    · exact absurd b1 (Int.not_le.mpr a1)
    · exact ⟨a2.trans b2.symm, a3.trans b3.symm⟩
theorem TE_fun {g : Nat → Int} {L T T' : Int} {p : Nat} (h : TE g L p T) (h' : TE g L p T') : T = T' := by
  unfold TE at h h'
  rcases h with h | ⟨h, q, h2, -⟩ <;> rcases h' with k | ⟨k, r, k2, -⟩
  · exact h.2.trans k.2.symm
  · exact absurd h.1 (Int.not_le.mpr k)
  · exact absurd k.1 (Int.not_le.mpr h)
  · exact (TO_fun h2 k2).1
theorem PB_fun {g : Nat → Int} {L v m d v' m' d' : Int} {s : Nat} (h : PB g L s v m d) (h' : PB g L s v' m' d') : v = v' ∧ m = m' ∧ d = d' := by
  unfold PB at h h'
  obtain ⟨-, a, -, b, -, c⟩ := h
  obtain ⟨-, a', -, b', -, c'⟩ := h'
  exact ⟨a.trans a'.symm, b.trans b'.symm, c.trans c'.symm⟩
theorem PO_fun {o : Nat} {g : Nat → Int} {L y m d T y' m' d' T' : Int} (h : PO g L o y m d T) (h' : PO g L o y' m' d' T') : y = y' ∧ m = m' ∧ d = d' ∧ T = T' := by
  unfold PO at h h'
  rcases h with ⟨a, b, -, -, c⟩ | ⟨a, b, -, c⟩ <;> rcases h' with ⟨a', b', -, -, c'⟩ | ⟨a', b', -, c'⟩
  · have h1 := TE_fun c c'
    have h2 := PB_fun b b'
    exact ⟨by omega, h2.2.1, h2.2.2, h1⟩
  · exact absurd a a'
  · exact absurd a' a
  · have h1 := TE_fun c c'
    have h2 := PB_fun b b'
    exact ⟨h2.1, h2.2.1, h2.2.2, h1⟩
theorem PO_rng {o : Nat} {g : Nat → Int} {L y m d T : Int} (hL : 0 ≤ L ∧ L ≤ 30) (h : PO g L o y m d T) : isDt y m d ∧ 0 ≤ T ∧ T ≤ 86399999999999 := by
  unfold PO TE at h
  rcases h with ⟨-, -, -, c, d⟩ | ⟨-, -, c, d⟩
  · refine ⟨c, ?_⟩
    rcases d with d | ⟨-, q, e, -⟩
    · omega
    · have := TO_rng hL e
      omega
  · refine ⟨c, ?_⟩
    rcases d with d | ⟨-, q, e, -⟩
    · omega
    · have := TO_rng hL e
      omega
