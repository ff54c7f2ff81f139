section VN
variable {l : Launch} {G : GG} {M : MI} {rm : Room} {Q : Option Value → AH → Prop} {X : String → AH → Prop} {pc : Nat} {lv : Nat → Option Value} {st : List Value} {w : AH} {kc ks : Nat}
theorem v_new {ix ci N : Nat} {C0 : String} {T : u_T} {ty : Nat → FieldType} {fs : List Value} (hd : decode M.cc pc = .ok (.new ix, 3)) (hl0 : TG (.classLink M.own ix C0)) (hi0 : TG (.instantiable C0 N)) (hz0 : TG (.initialized C0)) (hck : CK ci C0 T ty N) (hfs : ∀ j, j < N → defaultValue (ty j) = vp_V fs j)
    (kk : ∀ a : Nat, w a = none → V l G M rm Q X (pc + 3) lv (.ref a :: st) (aup w a (.inr (ci, fs))) (kc + 1) (ks + N)) (h1 : kc + 1 ≤ rm.cells := by decide) (h2 : ks + N ≤ rm.slots := by decide) : V l G M rm Q X pc lv st w kc ks := by
  intro p e s m args below meth c C H locs ls hl hW hS
  have hts : ∀ z ∈ u_ws C0 T N, z.before args s = true := fun z hz => C.kn.1 z (hck.2.1 z hz) args
  have hKn := C.kn.2.1.1 ci _ hck.1
  refine W.newcK C.1 C.2.1 C.own (C.kn.1 _ hl0 args) (C.kn.1 _ hi0 args) (C.kn.1 _ hz0 args) rfl hd h1 h2 hKn.2.1 rfl fun H1 kC hkC e1 z1 o1 => ?_
  obtain ⟨hW1, hnone⟩ := hW.new (e := .inr (ci, fs)) ⟨_, hck.1, (u_born ty hts (fun _ h => h) hKn hkC e1 hck.2.2.1).to hfs⟩ z1 o1
  exact kk H.size hnone p e s m args below meth c C H1 locs ls hl hW1 hS
theorem arr_id {U : State} {cA cB : ClassId} {t : FieldType} (hp : ∀ C, t ≠ .object C) (h : va_RA U cA t) (h2 : U.vm.findClass ("[" ++ t.toString) = some cB) : cB = cA := by
  have h3 : U.vm.findClass ("[" ++ t.toString) = some cA := by
    cases t <;> first | exact h | exact absurd rfl (hp _)
  exact Option.some.inj (h2.symm.trans h3)
theorem v_newi {z : Int} {n : Nat} (hd : decode M.cc pc = .ok (.newarray .int, 2)) (ha : TG (.arrayClass .int)) (hn : z = (n : Int)) (kk : ∀ a : Nat, w a = none → V l G M rm Q X (pc + 2) lv (.ref a :: st) (aup w a (aiA G n (fun _ => 0))) (kc + 1) (ks + n)) (hb : n ≤ 1000 := by decide) (h1 : kc + 1 ≤ rm.cells := by decide) (h2 : ks + n ≤ rm.slots := by decide) : V l G M rm Q X pc lv (.int (iI z) :: st) w kc ks := by
  subst hn
  intro p e s m args below meth c C H locs ls hl hW hS
  refine va_newaK C.1 C.2.1 (atype := .int) (C.kn.1 _ ha args) rfl hd rfl (N := n) (fun q => ?_) ?_ (by show n * 4 ≤ _; omega) h1 h2 rfl fun H1 cA e1 z1 o1 hAr hNm => ?_
  · rw [iI_0, iI_lt (by omega) (by omega)] at q; omega
  · rw [clampI (by omega)]; omega
  have hcA : cA = G.dT 0 := arr_id (t := .int) (fun _ h => by cases h) (C.kn.2.1.2 0 _ rfl).2 hNm
  subst hcA
  obtain ⟨hW1, hnone⟩ := hW.new (e := aiA G n (fun _ => 0)) (by unfold va_at aiA; show H1[H.size]? = some (vp_cell _ _); rw [e1, vp_cell_i]; rfl) z1 o1
  exact kk H.size hnone p e s m args below meth c C H1 locs ls hl hW1 hS
theorem v_newc {z : Int} {n : Nat} (hd : decode M.cc pc = .ok (.newarray .char, 2)) (ha : TG (.arrayClass .char)) (hn : z = (n : Int)) (kk : ∀ a : Nat, w a = none → V l G M rm Q X (pc + 2) lv (.ref a :: st) (aup w a (acA G n (fun _ => 0))) (kc + 1) (ks + n)) (hb : n ≤ 1000 := by decide) (h1 : kc + 1 ≤ rm.cells := by decide) (h2 : ks + n ≤ rm.slots := by decide) : V l G M rm Q X pc lv (.int (iI z) :: st) w kc ks := by
  subst hn
  intro p e s m args below meth c C H locs ls hl hW hS
  refine va_newaK C.1 C.2.1 (atype := .char) (C.kn.1 _ ha args) rfl hd rfl (N := n) (fun q => ?_) ?_ (by show n * 2 ≤ _; omega) h1 h2 rfl fun H1 cA e1 z1 o1 hAr hNm => ?_
  · rw [iI_0, iI_lt (by omega) (by omega)] at q; omega
  · rw [clampI (by omega)]; omega
  have hcA : cA = G.dT 3 := arr_id (t := .char) (fun _ h => by cases h) (C.kn.2.1.2 3 _ rfl).2 hNm
  subst hcA
  obtain ⟨hW1, hnone⟩ := hW.new (e := acA G n (fun _ => 0)) (by unfold va_at acA; show H1[H.size]? = some (vp_cell _ _); rw [e1, vp_cell_i]; rfl) z1 o1
  exact kk H.size hnone p e s m args below meth c C H1 locs ls hl hW1 hS
theorem v_newl {z : Int} {n : Nat} (hd : decode M.cc pc = .ok (.newarray .long, 2)) (ha : TG (.arrayClass .long)) (hn : z = (n : Int)) (kk : ∀ a : Nat, w a = none → V l G M rm Q X (pc + 2) lv (.ref a :: st) (aup w a (alA G n (fun _ => 0))) (kc + 1) (ks + n)) (hb : n ≤ 1000 := by decide) (h1 : kc + 1 ≤ rm.cells := by decide) (h2 : ks + n ≤ rm.slots := by decide) : V l G M rm Q X pc lv (.int (iI z) :: st) w kc ks := by
  subst hn
  intro p e s m args below meth c C H locs ls hl hW hS
  refine va_newaK C.1 C.2.1 (atype := .long) (C.kn.1 _ ha args) rfl hd rfl (N := n) (fun q => ?_) ?_ (by show n * 8 ≤ _; omega) h1 h2 rfl fun H1 cA e1 z1 o1 hAr hNm => ?_
  · rw [iI_0, iI_lt (by omega) (by omega)] at q; omega
  · rw [clampI (by omega)]; omega
  have hcA : cA = G.dT 1 := arr_id (t := .long) (fun _ h => by cases h) (C.kn.2.1.2 1 _ rfl).2 hNm
  subst hcA
  obtain ⟨hW1, hnone⟩ := hW.new (e := alA G n (fun _ => 0)) (by unfold va_at alA; show H1[H.size]? = some (vp_cell _ _); rw [e1, vp_cell_l]; rfl) z1 o1
  exact kk H.size hnone p e s m args below meth c C H1 locs ls hl hW1 hS
theorem v_newd {z : Int} {n : Nat} (hd : decode M.cc pc = .ok (.newarray .double, 2)) (ha : TG (.arrayClass .double)) (hn : z = (n : Int)) (kk : ∀ a : Nat, w a = none → V l G M rm Q X (pc + 2) lv (.ref a :: st) (aup w a (adA G n (fun _ => 0))) (kc + 1) (ks + n)) (hb : n ≤ 1000 := by decide) (h1 : kc + 1 ≤ rm.cells := by decide) (h2 : ks + n ≤ rm.slots := by decide) : V l G M rm Q X pc lv (.int (iI z) :: st) w kc ks := by
  subst hn
  intro p e s m args below meth c C H locs ls hl hW hS
  refine va_newaK C.1 C.2.1 (atype := .double) (C.kn.1 _ ha args) rfl hd rfl (N := n) (fun q => ?_) ?_ (by show n * 8 ≤ _; omega) h1 h2 rfl fun H1 cA e1 z1 o1 hAr hNm => ?_
  · rw [iI_0, iI_lt (by omega) (by omega)] at q; omega
  · rw [clampI (by omega)]; omega
  have hcA : cA = G.dT 2 := arr_id (t := .double) (fun _ h => by cases h) (C.kn.2.1.2 2 _ rfl).2 hNm
  subst hcA
  obtain ⟨hW1, hnone⟩ := hW.new (e := adA G n (fun _ => 0)) (by unfold va_at adA; show H1[H.size]? = some (vp_cell _ _); rw [e1, vp_cell_d]; rfl) z1 o1
  exact kk H.size hnone p e s m args below meth c C H1 locs ls hl hW1 hS
theorem v_newq {z : Int} {n ix t : Nat} {C0 : String} (hd : decode M.cc pc = .ok (.anewarray ix, 3)) (hl0 : TG (.classLink M.own ix C0)) (hao : ∀ U, KN G U → va_AO C0 U) (ht : ∀ G : GG, (tysG G)[t]? = some (G.dT t, .object C0)) (hn : z = (n : Int)) (kk : ∀ a : Nat, w a = none → V l G M rm Q X (pc + 3) lv (.ref a :: st) (aup w a (arA G t n (fun _ => none))) (kc + 1) (ks + n)) (hb : n ≤ 1000 := by decide) (h1 : kc + 1 ≤ rm.cells := by decide) (h2 : ks + n ≤ rm.slots := by decide) : V l G M rm Q X pc lv (.int (iI z) :: st) w kc ks := by
  subst hn
  intro p e s m args below meth c C H locs ls hl hW hS
  have hcl : (iI (n : Int)).toNatClampNeg = n := by rw [clampI (by omega)]; omega
  refine W.anew C.1 C.2.1 C.own (C.kn.1 _ hl0 args) (va_AO.use (hao s C.kn)) rfl hd rfl (fun q => ?_) (by rw [hcl]; omega) h1 (by rw [hcl]; exact h2) fun cA kA comp f1 f2 f3 f4 => ?_
  · rw [iI_0, iI_lt (by omega) (by omega)] at q; omega
  rw [hcl]
  have hcA : cA = G.dT t := by
    obtain ⟨kA', comp', g1, g2, g3, g4⟩ := (C.kn.2.1.2 t _ (ht G)).2
    exact Option.some.inj (f1.symm.trans g4)
  subst hcA
  generalize hH1 : H.push ({ cls := G.dT t, slots := Array.replicate n .null, vm := .none } : Cell) = H1
  have z1 : H1.size = H.size + 1 := by rw [← hH1, Array.size_push]
  have e1 : H1[H.size]? = some (arrV (G.dT t) n (fun _ => .null)) := by rw [← hH1, Array.getElem?_push_size, ← arrV_new]
  have o1 : ∀ q : Nat, q < H.size → H1[q]? = H[q]? := fun q hq => by rw [← hH1, Array.getElem?_push, if_neg (Nat.ne_of_lt hq)]
  obtain ⟨hW1, hnone⟩ := hW.new (e := arA G t n (fun _ => none)) (by unfold va_at arA; show H1[H.size]? = some (vp_cell _ _); rw [e1, vp_cell_q]; rfl) z1 o1
  exact kk H.size hnone p e s m args below meth c C H1 locs ls hl hW1 hS
theorem v_aast {a t n ci y : Nat} {fs : List Value} {f : Nat → Option Nat} {i : Int} {r : vw_C} (hd : decode M.cc pc = .ok (.aastore, 1)) (ht : ∀ G : GG, (tysG G)[t]? = some (G.dT t, .object r.1)) (hc : vwCl[ci]? = some r) (hw : w a = some (arA G t n f)) (hy : w y = some (.inr (ci, fs))) (kk : V l G M rm Q X (pc + 1) lv st (aup w a (arA G t n (fup f i.toNat (some y)))) kc ks) (hi : 0 ≤ i ∧ i < n := by omega) (hr : i ≤ 2147483647 := by omega) : V l G M rm Q X pc lv (.ref y :: .int (iI i) :: .ref a :: st) w kc ks := by
  intro p e s m args below meth c C H locs ls hl hW hS
  obtain ⟨r', hr', cellV, g1, g2, g3, -⟩ := (hW.2.2 y _ hy).2
  have hcls := (C.kn.2.1.1 ci r hc).2
  obtain ⟨kA, comp, k1, k2, k3, -⟩ := (C.kn.2.1.2 t _ (ht G)).2
  have hcomp : comp = G.D.1 ci := Option.some.inj (k3.symm.trans hcls.1)
  subst hcomp
  obtain ⟨kC, hkC, -⟩ := hcls.2
  have hin := inI hi hr (G.dT t) (fun j => va_rf (f j))
  refine W.aast C.1 C.2.1 (hW.2.2 a _ hw).2 (fun q h => by cases h) (fun h => by cases h) k1 k2 rfl hkC ⟨fun q => hin (Or.inl q), Nat.not_le.mp fun q => hin (Or.inr q)⟩ g1 (fun q h => by rw [g3] at h; cases h) (by rw [g2]; exact hkC) (by rw [g2]; exact va_assign hcls) rfl rfl hd fun H1 e1 z1 oq => ?_
  refine kk p e s m args below meth c C H1 _ ls hl (hW.put hw ?_ z1 oq) (locs_add hS (hW.2.2 a _ hw).1)
  unfold va_at arA
  show H1[a]? = some (vp_cell _ _)
  rw [e1, clampI ⟨hi.1, hr⟩]
  rw [vp_cell_q, vp_cell_q, arrV_store]
  congr 2
  funext q
  by_cases hq : q = i.toNat
  · subst hq; simp [updV, fup, va_rf]
  · simp [updV, fup, hq]
theorem v_objInit {a ix : Nat} (hd : decode M.cc pc = .ok (.invokespecial ix, 3)) (hk1 : TG (.methodLink M.own ix objectInit)) (hk2 : TG (.instanceMethod objectInit)) (hk3 : TG (.code objectInit ⟨#[0xb1]⟩ 1 none)) (kk : V l G M rm Q X (pc + 3) lv st w kc ks) (h1 : 1 ≤ rm.frames := by decide) (h2 : (st.map fun v => v.category).sum + 12 ≤ rm.locals := by decide) : V l G M rm Q X pc lv (.ref a :: st) w kc ks := by
  intro p e s m args below meth c C H locs ls hl hW hS
  refine W.objInit C.1 C.2.1 C.own (C.kn.1 _ hk1 args) (C.kn.1 _ hk2 args) (C.kn.1 _ hk3 args) rfl (by rw [C.2.2.1]; exact hl.1) rfl hd h1 (by simpa using h2) ?_
  exact kk p e s m args below meth c C H locs ls hl hW hS

def MK (M : MI) (n : Nat) : Prop := TG M.cd ∧ (M.y.cls ≠ "java/lang/invoke/MethodHandle" ∧ M.y.cls ≠ "java/lang/invoke/VarHandle" ∧ (parseMethodDescriptor M.y.desc).map (fun d => d.parameters.length) = some n) ∧ plainFor M.y = true ∧ M.own = M.y.cls
theorem ct_of {vs : List Value} {n : Nat} (hst : l.stackTraces = false) (hmk : MK M n) (hn : (lg_sl vs).length ≤ M.mL) (k : V l G M rm Q X 0 (lof (lv_args 0 vs)) [] w 0 0) : Ct l G M rm vs w Q X := by
  obtain ⟨own, y, cc, mL, ret, hh⟩ := M
  have main : ∀ (p : Program) (e : Env) (s : State) (m : MethodId) (args : Array Value) (below : List Frame) (meth : Method) (c : Code) (s₁ : State), BodyLoose p l y (headSpec [MI.cd (own, y, cc, mL, ret, hh)] rm) cc mL ret e s m args below meth c s₁ → c.maxLocals = mL → c.exceptionTable.toList = tableOf hh → (args = vs.toArray ∧ KN G s ∧ HW G w s.heap) →
      W p l e (headSpec [MI.cd (own, y, cc, mL, ret, hh)] rm).room s m args below meth c s.heap [] 0 0 (vx_MQ below (QC G Q) (XC G X) args s rm.cells rm.slots (FR G)) (entryFrame m args mL) := by
    intro p e s m args below meth c s₁ B hml htab hv
    obtain ⟨rfl, hK, hW⟩ := hv
    have hl := lv_entry vs (n := mL) hn
    rw [lg_entry_eq]
    generalize (lg_sl vs ++ List.replicate (mL - (lg_sl vs).length) Slot.unset).toArray = ls at hl ⊢
    have hown : s.vm.findClass own = some m.cls := by
      have h9 := findClass_of_methodNamed B.named
      rw [show own = y.cls from hmk.2.2.2]
      exact h9
    exact k p e s m vs.toArray below meth c ⟨B.exec, B.bytes, hml, B.returns, hown, B.notSynchronized, (name_of_methodNamed B.named B.method).1, htab, hK, ⟨hW.1, hW.2.1⟩, hst⟩ s.heap [] ls
      ⟨hl.1, hl.2.1, fun i v hv => hl.2.2 (i, v) (by
        have : ∀ (L : List (Nat × Value)), lof L i = some v → (i, v) ∈ L := by
          intro L
          induction L with
          | nil => intro h; cases h
          | cons a r ih =>
            obtain ⟨j, u⟩ := a
            intro h
            by_cases e9 : i = j
            · subst e9
              have h0 : lof ((i, u) :: r) i = some u := if_pos rfl
              rw [h0] at h
              rw [← (Option.some.inj h : u = v)]
              exact List.mem_cons_self
            · have h0 : lof ((j, u) :: r) i = lof r i := if_neg e9
              rw [h0] at h
              exact List.mem_cons_of_mem _ (ih h)
        exact this _ hv)⟩ hW (fun z hz => nomatch hz)
  cases hh with
  | nil =>
    refine MetFree.of_bodySF (code := cc) (maxLocals := mL) (ret := ret) hmk.2.2.1 ?_ ?_
    · intro args s m h hn
      obtain ⟨meth, c, h1, h2, h3, h4, h5, h6, -, -⟩ := Cond.code_spec hn (atoms_spec (ws := [MI.cd (own, y, cc, mL, ret, [])]) h _ List.mem_cons_self)
      exact ⟨meth, c, h1, h2, h3, h4, h5, h6⟩
    · intro p e s m args below meth c s₁ B hml hv _
      have hh0 : s₁.heap = s.heap := by rw [B.state]; rfl
      have ht : c.exceptionTable.toList = tableOf [] := by
        obtain ⟨meth9, c9, h1, h2, -, -, -, -, h7, -⟩ := Cond.code_spec B.named (atoms_spec (ws := [MI.cd (own, y, cc, mL, ret, [])]) B.pre _ List.mem_cons_self)
        cases Option.some.inj (h1.symm.trans B.method)
        cases Option.some.inj (h2.symm.trans (Stand.of_body B).code)
        rw [Array.isEmpty_iff.mp h7]
        rfl
      obtain ⟨t, a1, o, b1, b2, b3⟩ := main p e s m args below meth c s₁ B hml ht hv s₁ hh0 (Stand.of_body B)
      exact ⟨t, o, a1, b1, b2, b3⟩
  | cons h0 hr =>
    refine MetFree.of_bodySF (code := cc) (maxLocals := mL) (ret := ret) hmk.2.2.1 ?_ ?_
    · intro args s m h hn
      obtain ⟨m9, meth, c, hn9, h1, h2, h3, h4, -, h5, h6, -⟩ := Cond.codeWith_spec (atoms_spec (ws := [MI.cd (own, y, cc, mL, ret, h0 :: hr)]) h _ List.mem_cons_self)
      cases hn.symm.trans hn9
      exact ⟨meth, c, h1, h2, h3, h4, h5, h6⟩
    · intro p e s m args below meth c s₁ B hml hv _
      have hh0 : s₁.heap = s.heap := by rw [B.state]; rfl
      obtain ⟨t, a1, o, b1, b2, b3⟩ := main p e s m args below meth c s₁ B hml (vx_table (x := y) B (atoms_spec (ws := [MI.cd (own, y, cc, mL, ret, h0 :: hr)]) B.pre _ List.mem_cons_self)) hv s₁ hh0 (Stand.of_body B)
      exact ⟨t, o, a1, b1, b2, b3⟩
abbrev psh (v : Option Value) (st : List Value) : List Value := match v with
  | some x => x :: st
  | none => st
theorem psh_eq (v : Option Value) (st : List Value) : v.toList ++ st = psh v st := by cases v <;> rfl
theorem v_ran {p : Program} {e : Env} {s : State} {m : MethodId} {args : Array Value} {below : List Frame} {meth : Method} {c : Code} {H : Heap} {locs : List Loc} {ls : Array Slot} {mc ms : Nat} {st0 rest : List Value} {aa : Array Value} {Q' : Option Value → AH → Prop} {X' : String → AH → Prop}
    (hr : vx_Run p l e rm s m args below meth c H locs kc ks mc ms (F0 m pc ls st0) rest (QC G Q' aa) (XC G X') (FR G)) (C : CX l G M p s m meth c) (hl : LV ls M.mL lv) (hS : ∀ z ∈ locs, G.H0.size ≤ z.base)
    (kq : ∀ v w', Q' v w' → V l G M rm Q X (pc + 3) lv (psh v rest) w' (kc + mc) (ks + ms)) (kx : ∀ E w', X' E w' → VX l G M rm Q X pc lv E w' (kc + mc) (ks + ms)) :
    W p l e rm s m args below meth c H locs kc ks (vx_MQ below (QC G Q) (XC G X) args s rm.cells rm.slots (FR G)) (F0 m pc ls st0) := by
  intro T hT XX
  have hS2 : ∀ L : List Loc, (∀ q ∈ L, FR G q.base) → ∀ z ∈ locs ++ L, G.H0.size ≤ z.base := fun L hL z hz => (List.mem_append.mp hz).elim (hS z) (hL z)
  rcases hr T hT XX with ⟨v, st₀, t, T', L, h0, X1, hL, e1, e2, ⟨v', w', hv, hq, hH⟩, st9⟩ | ⟨q, st₀, t, T', L, E, ce, h0, X1, hL, e1, e2, ⟨w', hx, hH⟩, hce, hcv, hcl, st9⟩
  · cases hv
    have k2 := kq v w' hq p e s m args below meth c C T'.heap (locs ++ L) ls hl (by rw [e1]; exact hH) (hS2 L hL)
    rw [← psh_eq] at k2
    obtain ⟨t2, a1, b1⟩ := k2 T' rfl X1
    exact ⟨t2, st9 t2 a1, b1⟩
  · obtain ⟨t2, a1, b1⟩ := kx E w' hx p e s m args below meth c C T'.heap (locs ++ L) ls rest q ce hl (by rw [e1]; exact hH) (hS2 L hL) (by rw [e1]; exact hce) hcv hcl T' rfl X1
    exact ⟨t2, st9.trans a1, b1⟩
theorem blind {vs : List Value} {w : AH} : FrameBlind (fun a U => a = vs.toArray ∧ KN G U ∧ HW G w U.heap) := fun a U g mk h => ⟨h.1, KN.same (s := U) (U := U.calling g mk a) rfl h.2.1, h.2.2⟩
theorem cd_warm {M' : MI} {s : State} (hK : KN G s) (h : TG M'.cd) : ∀ w ∈ [M'.cd], ∀ (a' : Array Value) (U : State), s.WarmedH U.vm → w.before a' U = true := fun w hw a' U hWm => by
  rw [List.mem_singleton.mp hw]
  exact okW_at hWm h.2 (hK.1 _ h #[])
theorem v_callS {ix n : Nat} {M' : MI} {rm' : Room} (As rest : List Value) (hd : decode M.cc pc = .ok (.invokestatic ix, 3)) (hk1 : TG (.methodLink M.own ix M'.y)) (hk2 : TG (.static M'.y)) (hk3 : TG (.initialized M'.y.cls)) (hmk : MK M' n) (hh : M'.hh = []) (hn : As.length = n)
    (hrm : rm'.frames + 1 ≤ rm.frames ∧ 8 + (M'.mL + 11) + rm'.locals ≤ rm.locals) (hf : kc + rm'.cells ≤ rm.cells ∧ ks + rm'.slots ≤ rm.slots) (hrest : (rest.map fun v => v.category).sum ≤ 8)
    (hc : Ct l G M' rm' As w (fun v w' => V l G M rm Q X (pc + 3) lv (psh v rest) w' (kc + rm'.cells) (ks + rm'.slots)) (fun E w' => VX l G M rm Q X pc lv E w' (kc + rm'.cells) (ks + rm'.slots))) : V l G M rm Q X pc lv (As.reverse ++ rest) w kc ks := by
  obtain ⟨own', y', cc', mL', ret', hh'⟩ := M'
  subst hh
  intro p e s m args below meth c C H locs ls hl hW hS
  have K := C.kn
  exact v_ran (vx_runS (bytes := cc') (maxL := mL') (ret := ret') (n := n) (Ts := []) (rest := rest) ⟨C.1, C.2.1, C.2.2.1, C.own, fun _ h => nomatch h⟩ hc
    ⟨⟨rfl, rfl, hrm.1, hrm.2, cd_warm K hmk.1, List.mem_cons_self, K.1 _ hmk.1 args, K.1 _ hk3 args, ⟨hmk.2.1.1, hmk.2.1.2.1⟩, fun sig h => by have h2 := hmk.2.1.2.2; rw [h] at h2; exact (Option.some.inj h2).symm, K.1 _ hk1 args⟩, K.1 _ hk2 args⟩
    ⟨blind, fun U hU hWm => ⟨rfl, K.warm hWm, by rw [hU]; exact hW⟩⟩ rfl hn hl.1 rfl (lv_room hrest) hd hf) C hl hS (fun _ _ h => h) (fun _ _ h => h)
theorem v_callSW {ix n : Nat} {M' : MI} {rm' : Room} {h0 : Nat × Nat × Nat × Nat} {hr0 : List (Nat × Nat × Nat × Nat)} (As rest : List Value) (hd : decode M.cc pc = .ok (.invokestatic ix, 3)) (hk1 : TG (.methodLink M.own ix M'.y)) (hk2 : TG (.static M'.y)) (hk3 : TG (.initialized M'.y.cls)) (hmk : MK M' n) (hh : M'.hh = h0 :: hr0) (hn : As.length = n)
    (hrm : rm'.frames + 1 ≤ rm.frames ∧ 8 + (M'.mL + 11) + rm'.locals ≤ rm.locals) (hf : kc + rm'.cells ≤ rm.cells ∧ ks + rm'.slots ≤ rm.slots) (hrest : (rest.map fun v => v.category).sum ≤ 8)
    (hc : Ct l G M' rm' As w (fun v w' => V l G M rm Q X (pc + 3) lv (psh v rest) w' (kc + rm'.cells) (ks + rm'.slots)) (fun E w' => VX l G M rm Q X pc lv E w' (kc + rm'.cells) (ks + rm'.slots))) : V l G M rm Q X pc lv (As.reverse ++ rest) w kc ks := by
  obtain ⟨own', y', cc', mL', ret', hh'⟩ := M'
  have hh2 : hh' = h0 :: hr0 := hh
  subst hh2
  intro p e s m args below meth c C H locs ls hl hW hS
  have K := C.kn
  exact v_ran (vx_runSX (hh := h0 :: hr0) (bytes := cc') (maxL := mL') (ret := ret') (n := n) (Ts := []) (rest := rest) ⟨C.1, C.2.1, C.2.2.1, C.own, fun _ h => nomatch h⟩ hc
    ⟨⟨rfl, rfl, hrm.1, hrm.2, cd_warm K hmk.1, List.mem_cons_self⟩, K.1 _ hmk.1 args, K.1 _ hk3 args, ⟨hmk.2.1.1, hmk.2.1.2.1⟩, fun sig h => by have h2 := hmk.2.1.2.2; rw [h] at h2; exact (Option.some.inj h2).symm, K.1 _ hk1 args, K.1 _ hk2 args⟩
    ⟨blind, fun U hU hWm => ⟨rfl, K.warm hWm, by rw [hU]; exact hW⟩⟩ rfl hn hl.1 rfl (lv_room hrest) hd hf) C hl hS (fun _ _ h => h) (fun _ _ h => h)
theorem v_callV {ix n ci b : Nat} {fs : List Value} {q : vw_C} {M' : MI} {rm' : Room} (As rest : List Value) (hd : decode M.cc pc = .ok (.invokevirtual ix, 3)) (hk1 : TG (.methodLink M.own ix M'.y)) (hk2 : TG (.instanceMethod M'.y)) (hk3 : TG (.selects q.1 M'.y M'.y)) (hk4 : TG (.initialized M'.y.cls)) (hmk : MK M' n) (hh : M'.hh = []) (hq : vwCl[ci]? = some q) (hw : w b = some (.inr (ci, fs))) (hn : As.length = n)
    (hrm : rm'.frames + 1 ≤ rm.frames ∧ 8 + (M'.mL + 11) + rm'.locals ≤ rm.locals) (hf : kc + rm'.cells ≤ rm.cells ∧ ks + rm'.slots ≤ rm.slots) (hrest : (rest.map fun v => v.category).sum ≤ 8)
    (hc : Ct l G M' rm' (.ref b :: As) w (fun v w' => V l G M rm Q X (pc + 3) lv (psh v rest) w' (kc + rm'.cells) (ks + rm'.slots)) (fun E w' => VX l G M rm Q X pc lv E w' (kc + rm'.cells) (ks + rm'.slots))) : V l G M rm Q X pc lv (As.reverse ++ .ref b :: rest) w kc ks := by
  obtain ⟨own', y', cc', mL', ret', hh'⟩ := M'
  subst hh
  intro p e s m args below meth c C H locs ls hl hW hS
  have K := C.kn
  exact v_ran (vx_runV (C := q.1) (bytes := cc') (maxL := mL') (ret := ret') (n := n) (Ts := []) (rest := rest) ⟨C.1, C.2.1, C.2.2.1, C.own, fun _ h => nomatch h⟩ hc
    ⟨⟨rfl, rfl, hrm.1, hrm.2, cd_warm K hmk.1, List.mem_cons_self, K.1 _ hmk.1 args, K.1 _ hk4 args, ⟨hmk.2.1.1, hmk.2.1.2.1⟩, fun sig h => by have h2 := hmk.2.1.2.2; rw [h] at h2; exact (Option.some.inj h2).symm, K.1 _ hk1 args⟩, K.1 _ hk2 args, K.1 _ hk3 args⟩
    ⟨blind, va_recv K.2.1 (hW.at hw) (q0 := 0) hq rfl, fun U hU hWm => ⟨rfl, K.warm hWm, by rw [hU]; exact hW⟩⟩ rfl hn hl.1 rfl (lv_room hrest) hd hf) C hl hS (fun _ _ h => h) (fun _ _ h => h)
theorem met_of {M' : MI} {rm' : Room} {vs : List Value} {Q' : Option Value → AH → Prop} (h : Ct l G M' rm' vs w Q' (fun _ _ => False)) : Met l M'.y [M'.cd] rm' (fun a U => a = vs.toArray ∧ KN G U ∧ HW G w U.heap) (QC G Q') rm'.cells rm'.slots (FR G) := by
  intro p e ha hc hk s m args below hf happ hP hK
  obtain ⟨n, o, h1, h2, h3, h4⟩ := h p e ha hc hk s m args below hf happ hP hK
  refine ⟨n, o, h1, h2, h3, ?_⟩
  rcases h4 with h4 | ⟨q, rfl, E, ce, L, ⟨w', hx, -⟩, -⟩
  · exact h4
  · exact hx.elim
theorem v_callI {ix n b : Nat} {M' : MI} {rm' : Room} (As rest : List Value) (hd : decode M.cc pc = .ok (.invokespecial ix, 3)) (hk1 : TG (.methodLink M.own ix M'.y)) (hk2 : TG (.instanceMethod M'.y)) (hk4 : TG (.initialized M'.y.cls)) (hmk : MK M' n) (hh : M'.hh = []) (hret : M'.ret = none) (hy : M'.y.name = "<init>") (hn : As.length = n)
    (hrm : rm'.frames + 1 ≤ rm.frames ∧ 8 + (M'.mL + 11) + rm'.locals ≤ rm.locals) (hf : kc + rm'.cells ≤ rm.cells ∧ ks + rm'.slots ≤ rm.slots) (hrest : (rest.map fun v => v.category).sum ≤ 8)
    (hc : Ct l G M' rm' (.ref b :: As) w (fun v w' => V l G M rm Q X (pc + 3) lv (psh v rest) w' (kc + rm'.cells) (ks + rm'.slots)) (fun _ _ => False)) : V l G M rm Q X pc lv (As.reverse ++ .ref b :: rest) w kc ks := by
  obtain ⟨own', y', cc', mL', ret', hh'⟩ := M'
  subst hh
  have hret2 : ret' = none := hret
  subst hret2
  intro p e s m args below meth c C H locs ls hl hW hS
  have K := C.kn
  have hr := va_runI (g := F0 m pc ls (As.reverse ++ .ref b :: rest)) (H := H) (locs := locs) (cells := kc) (slots := ks) (R := rm) (below := below) (meth := meth) (e := e) (bytes := cc') (maxL := mL') (n := n) (Ts := []) (b := b) (As := As) (rest := rest) ⟨C.1, C.2.1, C.2.2.1, C.own, fun _ h => nomatch h⟩ (met_of hc)
    ⟨⟨rfl, rfl, hrm.1, hrm.2, cd_warm K hmk.1, List.mem_cons_self, K.1 _ hmk.1 args, K.1 _ hk4 args, ⟨hmk.2.1.1, hmk.2.1.2.1⟩, fun sig h => by have h2 := hmk.2.1.2.2; rw [h] at h2; exact (Option.some.inj h2).symm, K.1 _ hk1 args⟩, hy, K.1 _ hk2 args⟩
    ⟨blind, fun U hU hWm => ⟨rfl, K.warm hWm, by rw [hU]; exact hW⟩⟩ rfl hn hl.1 rfl (lv_room hrest) hd hf
  intro T hT XX
  obtain ⟨v, st₀, t, T', L, h0, X1, hL, e1, e2, ⟨v', w', hv, hq, hH⟩, st9⟩ := hr T hT XX
  cases hv
  have k2 := hq p e s m args below meth c C T'.heap (locs ++ L) ls hl (by rw [e1]; exact hH) (fun z hz => (List.mem_append.mp hz).elim (hS z) (hL z))
  rw [← psh_eq] at k2
  obtain ⟨t2, a1, b1⟩ := k2 T' rfl X1
  exact ⟨t2, st9 t2 a1, b1⟩

theorem vx_leave {E : String} (hh : M.hh = []) (hx : X E w) (h1 : kc ≤ rm.cells := by decide) (h2 : ks ≤ rm.slots := by decide) : VX l G M rm Q X pc lv E w kc ks := by
  intro p e s m args below meth c C H locs ls rest q ce hl hW hS hcell hv hcl
  refine vx_out (fun z hz => ?_) C.2.2.2.2.2.1 hcell hv hcl (fun t ht _ => ⟨w, hx, by rw [ht]; exact hW⟩) hS h1 h2
  rw [C.2.2.2.2.2.2.2.1, hh] at hz
  cases hz
def TW (own : String) (ic : Nat) (cls : String) : Prop := (∀ c ∈ vx_atS own ic cls ["java/lang/RuntimeException", "java/lang/Exception"], TG c)
theorem v_throwS {E text : String} {ik is ic sk : Nat} (hd0 : decode M.cc pc = .ok (.new ik, 3)) (hd3 : decode M.cc (pc + 3) = .ok (.dup, 1)) (hd4 : decode M.cc (pc + 4) = .ok (.ldc is, 2)) (hd6 : decode M.cc (pc + 6) = .ok (.invokespecial ic, 3)) (hd9 : decode M.cc (pc + 9) = .ok (.athrow, 1))
    (hh : M.hh = []) (hk1 : TG (.classLink M.own ik E)) (hk2 : TG (.initialized E)) (hat : TW M.own ic E) (hfit : Bundle.fit E = true) (hsk : strL[sk]? = some (M.own, is, text)) (hx : X E w)
    (h1 : 5 < rm.frames := by decide) (h2 : (st.map fun v => v.category).sum + 82 ≤ rm.locals := by decide) (h3 : kc + 1 ≤ rm.cells := by decide) (h4 : ks + 6 ≤ rm.slots := by decide) : V l G M rm Q X pc lv st w kc ks := by
  intro p e s m args below meth c C H locs ls hl hW hS
  have K := C.kn
  have hHs := C.2.2.2.2.2.2.2.2.2.1
  have hA : ∀ q : Nat, q < G.H0.size → ¬ (fun q => G.H0.size ≤ q) q → s.heap[q]? = G.H0[q]? := fun q hq _ => hHs.2 q hq
  have hot : ∀ c : Cond, TG c → vx_ot c = true := fun c hc => by
    unfold vx_ot
    have := hc.2
    cases c <;> simp_all [okW, goodWord, Cond.onTables]
  intro T hT XX
  have hsz : s.heap.size ≤ H.size := by rw [← hT]; exact XX.same.2.1
  refine vx_throwS (A := fun q => G.H0.size ≤ q) C.1 C.2.1 C.2.2.2.2.2.2.2.2.2.2 C.own hfit (by decide +kernel) (K.1 _ hk1 args) (K.1 _ hk2 args) (K.2.2.2.1 sk _ hsk) (fun c hc => K.1 c (hat c hc) args) (fun c hc => ?_) (K.2.2.1.1.kept hA) (K.2.2.1.2.kept hA)
    ⟨hsz, fun q hq hnq => ?_, hS⟩ (by rw [C.2.2.1]; exact hl.1) hd0 hd3 hd4 hd6 hd9 (fun z hz => ?_) (by show 2 + 3 < rm.frames; omega) (by show _ + (13 * (2 + 1) + 43) ≤ rm.locals; omega) h3 h4 C.2.2.2.2.2.1 (fun t _ hz ho => ⟨w, hx, hW.grown hz ho⟩) hS h3 h4 T hT XX
  · rcases List.mem_cons.mp hc with rfl | hc
    · exact hot _ hk1
    · rcases List.mem_cons.mp hc with rfl | hc
      · exact hot _ hk2
      · exact hot _ (hat c hc)
  · have hq2 : q < G.H0.size := Nat.not_le.mp hnq
    rw [hW.2.1 q hq2, hHs.2 q hq2]
  · rw [C.2.2.2.2.2.2.2.1, hh] at hz
    cases hz
end VN
