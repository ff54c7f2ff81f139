section RC0
variable {e : Env} {f : JFrame} {a : Addr} {cell : Cell}
theorem fh_row {Q : Handler → Pre} {E : CtlPost} {d : Bool} {acts : List Action} {S : State} {x : ExceptionTableEntry} {t : List ExceptionTableEntry} {k : ClassId} (hx : covers x f.pc = true) (h0 : x.catchType ≠ 0) (hl : S.vm.ClassLinks e.platform f.method.cls x.catchType k) (hcell : S.heap[a]? = some cell) (hobj : ∀ j, cell.vm ≠ .statics j) (h1 : ∃ c1, S.vm.classes[cell.cls]? = some c1) (h2 : ∃ c1, S.vm.classes[k]? = some c1) :
    wp (findHandler.go f a (x :: t)) Q E e d acts S ↔ if S.vm.assignable cell.cls k = true then Q (.found x.handlerPc) d acts (S.setVm (S.vm.noted f.method.cls x.catchType (.cls k))) else wp (findHandler.go f a t) Q E e d acts (S.setVm (S.vm.noted f.method.cls x.catchType (.cls k))) := by
  have L := (Vm.Alike.refl S.vm).noted f.method.cls x.catchType (.cls k)
  obtain ⟨u1, u2⟩ := (resolveClass_links e.toSetting hl).op (op := VmOp.resolveClass f.method.cls x.catchType) rfl
  obtain ⟨c1, h1⟩ := h1
  obtain ⟨c2, h2⟩ := h2
  obtain ⟨c3, h3, -⟩ := L.2.2 _ _ h1
  obtain ⟨c4, h4, -⟩ := L.2.2 _ _ h2
  have hq : (S.vm.noted f.method.cls x.catchType (.cls k)).assignable cell.cls k = S.vm.assignable cell.cls k := by rw [L.assignable]
  simp only [covers] at hx
  cases hb : S.vm.assignable cell.cls k with
  | true =>
    rw [hb] at hq
    simp [findHandler.go, hx, h0, u1, u2, hcell, hobj, h3, h4, hq, VmOp.dirties, VmOp.acts]
  | false =>
    rw [hb] at hq
    simp [findHandler.go, hx, h0, u1, u2, hcell, hobj, h3, h4, hq, VmOp.dirties, VmOp.acts]
theorem fh_warm {s0 S : State} {d0 j : Nat} {k : ClassId} (hw : s0.WarmedH S.vm) (hl : s0.vm.ClassLinks e.platform d0 j k) : S.vm.ClassLinks e.platform d0 j k ∧ (∃ c1, S.vm.classes[k]? = some c1) ∧ s0.WarmedH (S.vm.noted d0 j (.cls k)) := by
  obtain ⟨dk, _, _, kt, hd, _, _, _, _, hkt, _, ho⟩ := hl.here
  obtain ⟨c2, g2, -⟩ := hw.alike.2.2 _ _ hkt
  exact ⟨hw.classLinks hl, ⟨c2, g2⟩, hw.noted hd ho (State.rightAt_cls hl)⟩
theorem fh_go {s0 : State} (hobj : ∀ j, cell.vm ≠ .statics j) (hk : ∃ c1, s0.vm.classes[cell.cls]? = some c1) {x : ExceptionTableEntry} {suf : List ExceptionTableEntry} (hx : covers x f.pc = true) (h0 : x.catchType ≠ 0) {kx : ClassId} (hl : s0.vm.ClassLinks e.platform f.method.cls x.catchType kx) (hfit : s0.vm.assignable cell.cls kx = true) :
    ∀ (pre : List ExceptionTableEntry) (S : State), s0.WarmedH S.vm → S.heap[a]? = some cell → (∀ y ∈ pre, covers y f.pc = false ∨ (y.catchType ≠ 0 ∧ ∃ k, s0.vm.ClassLinks e.platform f.method.cls y.catchType k ∧ s0.vm.assignable cell.cls k = false)) →
      ∃ v : Vm, s0.WarmedH v ∧ ∀ (Q : Handler → Pre) (E : CtlPost) (d : Bool) (acts : List Action), wp (findHandler.go f a (pre ++ x :: suf)) Q E e d acts S ↔ Q (.found x.handlerPc) d acts (S.setVm v) := by
  obtain ⟨c0, hk⟩ := hk
  intro pre
  induction pre with
  | nil =>
    intro S hw hc _
    obtain ⟨g1, g2, g3⟩ := fh_warm hw hl
    obtain ⟨c1, hc1, -⟩ := hw.alike.2.2 _ _ hk
    refine ⟨_, g3, fun Q E d acts => ?_⟩
    rw [List.nil_append, fh_row hx h0 g1 hc hobj ⟨c1, hc1⟩ g2, if_pos (by rw [hw.alike.assignable]; exact hfit)]
  | cons y ys ih =>
    intro S hw hc hp
    have hr := fun z hz => hp z (List.mem_cons_of_mem _ hz)
    obtain ⟨c1, hc1, -⟩ := hw.alike.2.2 _ _ hk
    by_cases hy : covers y f.pc = true
    · rcases hp y List.mem_cons_self with h | ⟨hy0, k, hlk, hno⟩
      · rw [hy] at h
        cases h
      · obtain ⟨g1, g2, g3⟩ := fh_warm hw hlk
        obtain ⟨v, hv, hq⟩ := ih (S.setVm (S.vm.noted f.method.cls y.catchType (.cls k))) g3 hc hr
        refine ⟨v, hv, fun Q E d acts => ?_⟩
        rw [List.cons_append, fh_row hy hy0 g1 hc hobj ⟨c1, hc1⟩ g2, if_neg (by rw [hw.alike.assignable, hno]; decide)]
        exact hq Q E d acts
    · obtain ⟨v, hv, hq⟩ := ih S hw hc hr
      refine ⟨v, hv, fun Q E d acts => ?_⟩
      rw [List.cons_append, Jvm.W.findHandler_go_skip (by simpa using hy)]
      exact hq Q E d acts
theorem fh_step {tb : Tables} {T : State} {g : JFrame} {c : Code} {below : List Frame} (h : At T g.method c below) {pc : Nat} {v : Vm} (hf : ∀ (Q : Handler → Pre) (E : CtlPost) (d : Bool) (acts : List Action), wp (findHandler g a) Q E e d acts ((T.setTop g).pushFrame (.throwing a)) ↔ Q (.found pc) d acts (((T.setTop g).pushFrame (.throwing a)).setVm v)) :
    Steps tb e below ((T.setTop g).pushFrame (.throwing a)) ((T.setVm v).setTop { g with pc := pc, stack := [.ref a] }) := by
  obtain ⟨h1, h2⟩ := h.throwing a
  refine Steps.head h1 h2 ?_
  have hs : ∀ r : List Frame, (stepThrowing e ((T.setTop g).pushFrame (.throwing a)) a (.java g :: r)).Is ((((T.setTop g).pushFrame (.throwing a)).setVm v).setFrames (.java { g with pc := pc, stack := [.ref a] } :: r)) [] := by
    intro r
    simp only [stepThrowing, searchFrame, vmDo]
    generalize hr : Sem.go _ e false [] ((T.setTop g).pushFrame (.throwing a)) = res
    obtain ⟨as, rfl, ha⟩ := Sem.eq_ok_of hr (a := Handler.found pc) (s' := ((T.setTop g).pushFrame (.throwing a)).setVm v) (acts' := []) (by simp [hf _ _ _ _])
    exact ⟨rfl, ha⟩
  rw [stepThread_throwing (frames_entered h.top _), (hs _).1]
  obtain ⟨g0, hg⟩ := Option.isSome_iff_exists.mp h.top
  obtain ⟨r, hr⟩ := State.topJava?_eq_some.mp hg
  have hr2 : (T.setVm v).frames = .java g0 :: r := hr
  rw [State.setTop_of_frames _ hr2, hr, List.tail_cons, State.setTop_of_frames _ hr]
  have hz : ∀ (A C : List Frame), ((T.setFrames A).setVm v).setFrames C = (T.setVm v).setFrames C := by
    intro A C
    have h9 : (T.setFrames A).setVm v = (T.setVm v).setFrames A := rfl
    rw [h9, State.setFrames_setFrames]
  rw [State.pushFrame, State.setFrames_setFrames, hz]
  exact Steps.refl _
end RC0
section RC
variable {p : Program} {l : Launch} {e : Env} {R : Room} {s : State} {m : MethodId} {args : Array Value} {below : List Frame} {meth : Method} {c : Code} {H : Heap} {locs : List Loc} {cells slots : Nat} {Q : State → Prop} {pc : Nat} {ls : Array Slot} {rest : List Value}
theorem fh_catch {own name : String} {E : String} {ce : Cell} {q : Addr} (hown : s.vm.findClass own = some m.cls) (pre : List ExceptionTableEntry) (x : ExceptionTableEntry) (suf : List ExceptionTableEntry) (hsplit : c.exceptionTable.toList = pre ++ x :: suf)
    (hpass : ∀ z ∈ pre, z.catchType ≠ 0 ∧ ∃ nm : String, (Cond.classLink own z.catchType nm).before args s = true ∧ va_Nc E nm s) (hx : covers x pc = true) (h0 : x.catchType ≠ 0)
    (hlink : (Cond.classLink own x.catchType name).before args s = true) (hcast : (Cond.castable E name).before args s = true) (hcell : H[q]? = some ce) (hv : ce.vm = .none) (hcl : s.vm.findClass E = some ce.cls)
    (kk : W p l e R s m args below meth c H locs cells slots Q (F0 m x.handlerPc ls [.ref q])) : vx_W p l e R s m args below meth c H locs cells slots Q (F0 m pc ls rest) q := by
  intro T hT X
  have hpl : e.platform.magicAccessors = ({} : Platform).magicAccessors := by rw [X.admits.platform]
  obtain ⟨c3, c4, hc3, hc4, hasg⟩ := Cond.castable_spec hcast
  cases Option.some.inj (hc3.symm.trans hcl)
  obtain ⟨c5, hc5, hl5⟩ := Cond.classLink_spec hown hlink e.platform hpl
  cases Option.some.inj (hc4.symm.trans hc5)
  have hk : ∃ c1, s.vm.classes[ce.cls]? = some c1 := by
    obtain ⟨k9, h9, -⟩ := Vm.findClass_spec hcl
    exact ⟨k9, h9⟩
  have hobj : ∀ j, ce.vm ≠ .statics j := VmData.ne_statics_of (by rw [hv]; rfl)
  obtain ⟨v, hw, hq⟩ := fh_go (e := e) (f := F0 m pc ls rest) (a := q) (cell := ce) (s0 := s) (suf := suf) hobj hk hx h0 hl5 hasg pre ((T.setTop (F0 m pc ls rest)).pushFrame (.throwing q)) X.warmed (by show T.heap[q]? = some ce; rw [hT]; exact hcell) (fun z hz => by
    obtain ⟨hz0, nm, hl1, a8, b8, n1, n2, n3⟩ := hpass z hz
    obtain ⟨c6, hc6, hcl6⟩ := Cond.classLink_spec hown hl1 e.platform hpl
    cases Option.some.inj (n1.symm.trans hcl)
    cases Option.some.inj (n2.symm.trans hc6)
    exact Or.inr ⟨hz0, _, hcl6, n3⟩)
  have hm9 : ((T.setTop (F0 m pc ls rest)).pushFrame (.throwing q)).vm.method? m = some meth := X.method'
  have st : Steps p.tables e below ((T.setTop (F0 m pc ls rest)).pushFrame (.throwing q)) ((T.setVm v).setTop { (F0 m pc ls rest) with pc := x.handlerPc, stack := [.ref q] }) := fh_step X.here (fun Q E d acts => by
    rw [Jvm.W.findHandler_eq hm9 X.code, hsplit]
    exact hq Q E d acts)
  obtain ⟨t, a1, b1⟩ := kk (T.setVm v) hT (X.noted hw)
  exact ⟨t, st.trans a1, b1⟩
end RC
section VT
variable {l : Launch} {G : GG} {M : MI} {rm : Room} {Q : Option Value → AH → Prop} {X : String → AH → Prop} {pc : Nat} {lv : Nat → Option Value} {w : AH} {kc ks : Nat}
theorem vx_take {E : String} (pre : List (Nat × Nat × Nat × Nat)) (x : Nat × Nat × Nat × Nat) (suf : List (Nat × Nat × Nat × Nat)) (hh : M.hh = pre ++ x :: suf) (hpass : ∀ z ∈ pre, z.2.2.2 ≠ 0 ∧ ∃ n : String, TG (.classLink M.own z.2.2.2 n) ∧ (E, n) ∈ ncL) (hx : covers (⟨x.1, x.2.1, x.2.2.1, x.2.2.2⟩ : ExceptionTableEntry) pc = true) (h0 : x.2.2.2 ≠ 0)
    (hl : TG (.classLink M.own x.2.2.2 E)) (hc : TG (.castable E E)) (kk : ∀ q : Addr, V l G M rm Q X x.2.2.1 lv [.ref q] w kc ks) : VX l G M rm Q X pc lv E w kc ks := by
  intro p e s m args below meth c C H locs ls rest q ce hlv hW hS hcell hv hcl
  have ht : c.exceptionTable.toList = tableOf M.hh := C.2.2.2.2.2.2.2.1
  refine fh_catch C.own (tableOf pre) (⟨x.1, x.2.1, x.2.2.1, x.2.2.2⟩ : ExceptionTableEntry) (tableOf suf) (by rw [ht, hh]; simp [tableOf]) (fun z hz => ?_) hx h0 (C.kn.1 _ hl args) (C.kn.1 _ hc args) hcell hv hcl (kk q p e s m args below meth c C H locs ls hlv hW hS)
  unfold tableOf at hz
  obtain ⟨y, hy, rfl⟩ := List.mem_map.mp hz
  obtain ⟨g0, n, g1, g2⟩ := hpass y hy
  exact ⟨g0, n, C.kn.1 _ g1 args, C.kn.2.2.2.2.1 (E, n) g2⟩
end VT
