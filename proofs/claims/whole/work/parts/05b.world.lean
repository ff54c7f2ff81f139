abbrev AH : Type := Nat → Option va_E
def ah0 : AH := fun _ => none
def aup (w : AH) (a : Nat) (e : va_E) : AH := fun q => if q = a then some e else w q
theorem aup_s {w : AH} {a : Nat} {e : va_E} : aup w a e a = some e := if_pos rfl
theorem aup_n {w : AH} {a q : Nat} {e : va_E} (h : q ≠ a) : aup w a e q = w q := if_neg h
theorem aup_up {w : AH} {a : Nat} {e e' : va_E} : aup (aup w a e) a e' = aup w a e' := by
  funext q
  by_cases h : q = a
  · rw [h, aup_s, aup_s]
  · rw [aup_n h, aup_n h, aup_n h]
abbrev GG : Type := va_G × (Nat → ClassId) × Heap × (Nat → Nat) × (Nat × Nat × (Nat → Int32))
abbrev GG.D (G : GG) : va_G := G.1
abbrev GG.dT (G : GG) : Nat → ClassId := G.2.1
abbrev GG.H0 (G : GG) : Heap := G.2.2.1
abbrev GG.sa (G : GG) : Nat → Nat := G.2.2.2.1
abbrev GG.scr (G : GG) : Nat × Nat × (Nat → Int32) := G.2.2.2.2
def tysL : List FieldType := [.int, .long, .double, .char, .object "TimeDesk$Stamp", .object "TimeDesk$Zone", .object "TimeDesk$Rule"]
def tysG (G : GG) : List (ClassId × FieldType) := [(G.dT 0, .int), (G.dT 1, .long), (G.dT 2, .double), (G.dT 3, .char), (G.dT 4, .object "TimeDesk$Stamp"), (G.dT 5, .object "TimeDesk$Zone"), (G.dT 6, .object "TimeDesk$Rule")]
def HW (G : GG) (w : AH) (H : Heap) : Prop :=
  G.H0.size ≤ H.size ∧ (∀ q : Nat, q < G.H0.size → H[q]? = G.H0[q]?) ∧ ∀ (a : Nat) (e : va_E), w a = some e → G.H0.size ≤ a ∧ va_at G.D vwCl (a, e) H
theorem HW.at {G : GG} {w : AH} {H : Heap} (h : HW G w H) {a : Nat} {e : va_E} (he : w a = some e) : va_P G.D vwCl [(a, e)] H := by
  intro k q hq
  match k, hq with
  | 0, hq => cases hq; exact (h.2.2 a e he).2
  | k + 1, hq => simp at hq
theorem HW.put {G : GG} {w : AH} {H H1 : Heap} (h : HW G w H) {a : Nat} {e0 e : va_E} (he : w a = some e0) (ha : va_at G.D vwCl (a, e) H1) (hz : H1.size = H.size) (ho : ∀ q : Nat, q ≠ a → H1[q]? = H[q]?) : HW G (aup w a e) H1 := by
  have hb := (h.2.2 a e0 he).1
  refine ⟨by rw [hz]; exact h.1, fun q hq => ?_, fun b f hf => ?_⟩
  · rw [ho q (by omega)]; exact h.2.1 q hq
  · by_cases hab : b = a
    · subst hab
      rw [aup_s] at hf
      cases hf
      exact ⟨hb, ha⟩
    · rw [aup_n hab] at hf
      exact ⟨(h.2.2 b f hf).1, (h.2.2 b f hf).2.kept (ho b hab)⟩
theorem HW.new {G : GG} {w : AH} {H H1 : Heap} (h : HW G w H) {e : va_E} (ha : va_at G.D vwCl (H.size, e) H1) (hz : H1.size = H.size + 1) (ho : ∀ q : Nat, q < H.size → H1[q]? = H[q]?) : HW G (aup w H.size e) H1 ∧ w H.size = none := by
  have hn : w H.size = none := by
    cases hc : w H.size with
    | none => rfl
    | some f => exact absurd ((h.2.2 _ f hc).2.lt) (Nat.lt_irrefl _)
  refine ⟨⟨by rw [hz]; exact Nat.le_succ_of_le h.1, fun q hq => ?_, fun b f hf => ?_⟩, hn⟩
  · rw [ho q (Nat.lt_of_lt_of_le hq h.1)]; exact h.2.1 q hq
  · by_cases hab : b = H.size
    · subst hab
      rw [aup_s] at hf
      cases hf
      exact ⟨h.1, ha⟩
    · rw [aup_n hab] at hf
      have hl := (h.2.2 b f hf).2.lt
      exact ⟨(h.2.2 b f hf).1, (h.2.2 b f hf).2.kept (ho b hl)⟩
theorem HW.grown {G : GG} {w : AH} {H H1 : Heap} (h : HW G w H) (hz : H.size ≤ H1.size) (ho : ∀ q : Nat, q < H.size → H1[q]? = H[q]?) : HW G w H1 := by
  refine ⟨Nat.le_trans h.1 hz, fun q hq => ?_, fun b f hf => ?_⟩
  · rw [ho q (Nat.lt_of_lt_of_le hq h.1)]; exact h.2.1 q hq
  · have hl := (h.2.2 b f hf).2.lt
    exact ⟨(h.2.2 b f hf).1, (h.2.2 b f hf).2.kept (ho b hl)⟩
def strL : List (String × Nat × String) := [(RX6, 281, "no such slot"), (RX6, 51, "no such date"), (RX6, 64, "no such time"), (RX6, 76, "no such field"), (RX6, 90, "no such field to set"), (RX6, 99, "the value is none of the field's"), (RX6, 104, "no such unit"), (RX6, 112, "no date there"), (RX6, 143, "more nanoseconds than a long holds"), (RX6, 150, "no such part of a span"), (RX6, 173, "no such day or way to it"), (RX6, 220, "no such zone or moment"), (RX6, 226, "no such zone"), (RX6, 240, "no such moment"), (RX6, 267, "the line is no text of a date"), (RX6, 269, "no character is before the first")]
def exL : List String := ["java/lang/IndexOutOfBoundsException", "java/lang/IllegalArgumentException", "java/lang/UnsupportedOperationException", "java/lang/ArithmeticException"]
def ncL : List (String × String) := [("java/lang/IndexOutOfBoundsException", "java/lang/IllegalArgumentException"), ("java/lang/IndexOutOfBoundsException", "java/lang/UnsupportedOperationException"), ("java/lang/IndexOutOfBoundsException", "java/lang/ArithmeticException"), ("java/lang/IllegalArgumentException", "java/lang/IndexOutOfBoundsException"), ("java/lang/IllegalArgumentException", "java/lang/UnsupportedOperationException"), ("java/lang/IllegalArgumentException", "java/lang/ArithmeticException"), ("java/lang/UnsupportedOperationException", "java/lang/IndexOutOfBoundsException"), ("java/lang/UnsupportedOperationException", "java/lang/IllegalArgumentException"), ("java/lang/UnsupportedOperationException", "java/lang/ArithmeticException"), ("java/lang/ArithmeticException", "java/lang/IndexOutOfBoundsException"), ("java/lang/ArithmeticException", "java/lang/IllegalArgumentException"), ("java/lang/ArithmeticException", "java/lang/UnsupportedOperationException")]
def KN (G : GG) (U : State) : Prop :=
  (∀ (c : Cond), TG c → ∀ a : Array Value, c.before a U = true) ∧ va_K G.D vwCl (tysG G) U ∧
  (vx_Zq Bundle.tN "UNASSIGNED_STACK" Bundle.steD (fun q => G.H0.size ≤ q) U G.H0 ∧ vx_Zq Bundle.tN "SUPPRESSED_SENTINEL" Bundle.listD (fun q => G.H0.size ≤ q) U G.H0) ∧
  (∀ (k : Nat) (q : String × Nat × String), strL[k]? = some q → vk_R q.1 q.2.1 q.2.2 (G.sa k) U) ∧
  (∀ q ∈ ncL, va_Nc q.1 q.2 U) ∧
  (va_AO "TimeDesk$Stamp" U ∧ va_AO "TimeDesk$Zone" U ∧ va_AO "TimeDesk$Rule" U) ∧ (va_X G.scr.1 G.scr.2.1 G.scr.2.2 U G.H0 ∧ G.scr.1 < G.H0.size)
theorem okW_at {s U : State} (hW : s.WarmedH U.vm) {c : Cond} (hc : okW c = true) {a b : Array Value} (h : c.before a s = true) : c.before b U = true := by
  by_cases hg : goodWord c = true
  · exact word_at hW (good_of_word hg) h
  · cases c <;> first | exact absurd hc hg | skip
    · exact (va_Nw.warmF hW (va_Nw.of rfl h)).use rfl
    · exact (va_Nw.warmD hW (va_Nw.of rfl h)).use rfl
    · exact (va_Nw.warmC hW (va_Nw.of rfl h)).use rfl
theorem KN.warm {G : GG} {s U : State} (hW : s.WarmedH U.vm) (h : KN G s) : KN G U := by
  obtain ⟨h1, h2, ⟨h3, h4⟩, h5, h6, ⟨h8, h9, h10⟩, h11, h12⟩ := h
  exact ⟨fun c hc a => okW_at hW hc.2 (h1 c hc a), va_K.moved hW.alike h2, ⟨h3.moved hW.alike, h4.moved hW.alike⟩, fun k q hq => vk_R.warm hW (h5 k q hq),
    fun q hq => (h6 q hq).moved hW.alike, ⟨h8.moved hW.alike, h9.moved hW.alike, h10.moved hW.alike⟩, h11.moved hW.alike, h12⟩
theorem KN.same {G : GG} {s U : State} (hv : U.vm = s.vm) (h : KN G s) : KN G U := h.warm (by rw [hv]; exact State.WarmedH.refl s)

abbrev MI : Type := String × MethodName × ByteArray × Nat × Option FieldType × List (Nat × Nat × Nat × Nat)
abbrev MI.own (M : MI) : String := M.1
abbrev MI.y (M : MI) : MethodName := M.2.1
abbrev MI.cc (M : MI) : ByteArray := M.2.2.1
abbrev MI.mL (M : MI) : Nat := M.2.2.2.1
abbrev MI.ret (M : MI) : Option FieldType := M.2.2.2.2.1
abbrev MI.hh (M : MI) : List (Nat × Nat × Nat × Nat) := M.2.2.2.2.2
def MI.cd (M : MI) : Cond := match M.hh with
  | [] => .code M.y M.cc M.mL M.ret
  | h => .codeWith M.y M.cc M.mL M.ret h
def QC (G : GG) (Q : Option Value → AH → Prop) : Array Value → State → Outcome → State → Prop := fun _ _ o t => ∃ v w, o = .returned v ∧ Q v w ∧ HW G w t.heap
def XC (G : GG) (X : String → AH → Prop) : String → State → State → Prop := fun E _ t => ∃ w, X E w ∧ HW G w t.heap
def FR (G : GG) : Addr → Prop := fun q => G.H0.size ≤ q
def Ct (l : Launch) (G : GG) (M : MI) (rm : Room) (vs : List Value) (w : AH) (Q : Option Value → AH → Prop) (X : String → AH → Prop) : Prop :=
  vx_Met l M.y [M.cd] rm (fun a U => a = vs.toArray ∧ KN G U ∧ HW G w U.heap) (QC G Q) (XC G X) rm.cells rm.slots (FR G)
def CX (l : Launch) (G : GG) (M : MI) (p : Program) (s : State) (m : MethodId) (meth : Method) (c : Code) : Prop :=
  p.tables.exec = Jvm.exec ∧ c.code = M.cc ∧ c.maxLocals = M.mL ∧ meth.sig.returnType = M.ret ∧ s.vm.findClass M.own = some m.cls ∧ meth.locks = false ∧ meth.name = M.y.name ∧
  c.exceptionTable.toList = tableOf M.hh ∧ KN G s ∧ (G.H0.size ≤ s.heap.size ∧ ∀ q : Nat, q < G.H0.size → s.heap[q]? = G.H0[q]?) ∧ l.stackTraces = false
def LV (ls : Array Slot) (n : Nat) (lv : Nat → Option Value) : Prop := ls.size = n ∧ lv_wf ls ∧ ∀ (i : Nat) (v : Value), lv i = some v → ls[i]? = some (.val v)
def V (l : Launch) (G : GG) (M : MI) (rm : Room) (Q : Option Value → AH → Prop) (X : String → AH → Prop) (pc : Nat) (lv : Nat → Option Value) (st : List Value) (w : AH) (kc ks : Nat) : Prop :=
  ∀ (p : Program) (e : Env) (s : State) (m : MethodId) (args : Array Value) (below : List Frame) (meth : Method) (c : Code), CX l G M p s m meth c →
    ∀ (H : Heap) (locs : List Loc) (ls : Array Slot), LV ls M.mL lv → HW G w H → (∀ z ∈ locs, G.H0.size ≤ z.base) →
      W p l e rm s m args below meth c H locs kc ks (vx_MQ below (QC G Q) (XC G X) args s rm.cells rm.slots (FR G)) (F0 m pc ls st)
def VX (l : Launch) (G : GG) (M : MI) (rm : Room) (Q : Option Value → AH → Prop) (X : String → AH → Prop) (pc : Nat) (lv : Nat → Option Value) (E : String) (w : AH) (kc ks : Nat) : Prop :=
  ∀ (p : Program) (e : Env) (s : State) (m : MethodId) (args : Array Value) (below : List Frame) (meth : Method) (c : Code), CX l G M p s m meth c →
    ∀ (H : Heap) (locs : List Loc) (ls : Array Slot) (rest : List Value) (q : Addr) (ce : Cell), LV ls M.mL lv → HW G w H → (∀ z ∈ locs, G.H0.size ≤ z.base) → H[q]? = some ce → ce.vm = .none → s.vm.findClass E = some ce.cls →
      vx_W p l e rm s m args below meth c H locs kc ks (vx_MQ below (QC G Q) (XC G X) args s rm.cells rm.slots (FR G)) (F0 m pc ls rest) q
