section VH
variable {l : Launch} {G : GG} {M : MI} {rm : Room} {Q : Option Value → AH → Prop} {X : String → AH → Prop} {pc : Nat} {lv : Nat → Option Value} {st : List Value} {w : AH} {kc ks : Nat}
theorem CX.kn {p : Program} {s : State} {m : MethodId} {meth : Method} {c : Code} (C : CX l G M p s m meth c) : KN G s := C.2.2.2.2.2.2.2.2.1
theorem CX.own {p : Program} {s : State} {m : MethodId} {meth : Method} {c : Code} (C : CX l G M p s m meth c) : s.vm.findClass M.own = some m.cls := C.2.2.2.2.1
def CK (ci : Nat) (C : String) (T : u_T) (ty : Nat → FieldType) (N : Nat) : Prop :=
  vwCl[ci]? = some (C, T, N) ∧ (∀ c ∈ u_ws C T N, TG c) ∧ (∀ k, k < N → parseFieldDescriptor (T k).2.2.1 = some (ty k)) ∧ (∀ a, a < N → ∀ b, b < N → a ≠ b → (T a).2.1 ≠ (T b).2.1)
def FL (own : String) (ix ci k : Nat) (t : FieldType) (fin : Bool) : Prop := ∃ (C : String) (T : u_T) (ty : Nat → FieldType) (N : Nat), CK ci C T ty N ∧ k < N ∧ (T k).1 = C ∧ ty k = t ∧ (T k).2.2.2 = fin ∧ TG (.fieldLink own ix C (T k).2.1 (T k).2.2.1)
def FN (own : String) (ix ci k : Nat) : Prop := ∃ (C : String) (T : u_T) (ty : Nat → FieldType) (N : Nat) (host : String), CK ci C T ty N ∧ k < N ∧ (T k).1 = C ∧ TG (.fieldLinkNest own ix C (T k).2.1 (T k).2.2.1 host)
theorem v_get {ix ci k a : Nat} {fs : List Value} {x : Value} {t : FieldType} {fin : Bool} (hd : decode M.cc pc = .ok (.getfield ix, 3)) (hf : FL M.own ix ci k t fin) (hw : w a = some (.inr (ci, fs))) (hx : fs[k]? = some x) (kk : V l G M rm Q X (pc + 3) lv (x :: st) w kc ks) : V l G M rm Q X pc lv (.ref a :: st) w kc ks := by
  intro p e s m args below meth c C H locs ls hl hW hS
  obtain ⟨C', T, ty, N, hck, hk, hT, -, -, hlink⟩ := hf
  have hts : ∀ z ∈ u_ws C' T N, z.before args s = true := fun z hz => C.kn.1 z (hck.2.1 z hz) args
  exact va_get C.1 C.2.1 hts (fun _ h => h) C.own C.kn.2.1 (hW.at hw) 0 rfl hck.1 k hk (C.kn.1 _ hlink args) (fun x hx => by rw [hT] at hx; exact hx) hx hd (kk p e s m args below meth c C H locs ls hl hW hS)
theorem v_getN {ix ci k a : Nat} {fs : List Value} {x : Value} (hd : decode M.cc pc = .ok (.getfield ix, 3)) (hf : FN M.own ix ci k) (hw : w a = some (.inr (ci, fs))) (hx : fs[k]? = some x) (kk : V l G M rm Q X (pc + 3) lv (x :: st) w kc ks) : V l G M rm Q X pc lv (.ref a :: st) w kc ks := by
  intro p e s m args below meth c C H locs ls hl hW hS
  obtain ⟨C', T, ty, N, host, hck, hk, hT, hlink⟩ := hf
  have hts : ∀ z ∈ u_ws C' T N, z.before args s = true := fun z hz => C.kn.1 z (hck.2.1 z hz) args
  exact va_getN C.1 C.2.1 hts (fun _ h => h) C.own C.kn.2.1 (hW.at hw) 0 rfl hck.1 k hk (C.kn.1 _ hlink args) (fun x hx => by rw [hT] at hx; exact hx) hx hd (kk p e s m args below meth c C H locs ls hl hW hS)
theorem v_put {ix ci k a : Nat} {fs : List Value} {x : Value} {t : FieldType} (hd : decode M.cc pc = .ok (.putfield ix, 3)) (hf : FL M.own ix ci k t false) (hw : w a = some (.inr (ci, fs))) (hn : narrow t x = x) (hfit : fits t x = true) (hlen : k < fs.length) (kk : V l G M rm Q X (pc + 3) lv st (aup w a (.inr (ci, fs.set k x))) kc ks) : V l G M rm Q X pc lv (x :: .ref a :: st) w kc ks := by
  intro p e s m args below meth c C H locs ls hl hW hS
  obtain ⟨C', T, ty, N, hck, hk, hT, ht, hfin, hlink⟩ := hf
  subst ht
  have hts : ∀ z ∈ u_ws C' T N, z.before args s = true := fun z hz => C.kn.1 z (hck.2.1 z hz) args
  have hK := C.kn.2.1
  have hap := va_apart (own := M.own) hts (fun _ h => h) ty hck.2.2.1 hck.2.2.2 hK hck.1
  obtain ⟨hb0, r, h1, cell, q1, q2, q3, q4⟩ := hW.2.2 a _ hw
  have hr : r = (C', T, N) := Option.some.inj (h1.symm.trans hck.1)
  subst hr
  obtain ⟨hSl, hfc, kC, hkC, hkind⟩ := hK.1 ci _ hck.1
  obtain ⟨cf, kf, fi, f, hi, hsl⟩ := hSl k hk
  have hlay := hts _ (u_in_lay hk)
  unfold u_lay at hlay
  rw [if_neg (by rw [hfin]; decide)] at hlay
  have hst := (u_facts hfc hkC (u_lays hts (fun _ h => h) hk) hi).1
  have h6 := u_store hfc hkC hkind hlay hi (hck.2.2.1 k hk) hn hfit
  have hi' : s.fieldFound? C' (T k).2.1 (T k).2.2.1 = some (cf, kf, fi, f) := by rw [hT] at hi; exact hi
  refine W.putK C.1 C.2.1 (f := f) ⟨C.own, C.kn.1 _ hlink args, ⟨_, _, _, hi'⟩, hst⟩ (by rw [q2]; exact h6) q1 q3 (by rw [hsl]; exact k2_hasslot (q4 k hk)) rfl rfl hd fun H' e1 e2 e3 => ?_
  rw [hsl] at e1 ⊢
  refine kk p e s m args below meth c C H' _ ls hl (hW.put hw ⟨_, hck.1, t_OB.to (V := updV (vp_V fs) k x) ⟨_, e1, q2, q3, t_set q4 hap hk x⟩ (fun j _ => vp_updV_set hlen x j)⟩ e2 e3) (fun z hz => ?_)
  rcases List.mem_append.mp hz with h | h
  · exact hS z h
  · rw [List.mem_singleton.mp h]; exact hb0
theorem v_putF {ix ci k a : Nat} {fs : List Value} {x : Value} {t : FieldType} (hd : decode M.cc pc = .ok (.putfield ix, 3)) (hf : FL M.own ix ci k t true) (hini : M.y.name = "<init>") (hdecl : ∀ q : vw_C, vwCl[ci]? = some q → q.1 = M.own) (hw : w a = some (.inr (ci, fs))) (hn : narrow t x = x) (hfit : fits t x = true) (hlen : k < fs.length) (kk : V l G M rm Q X (pc + 3) lv st (aup w a (.inr (ci, fs.set k x))) kc ks) : V l G M rm Q X pc lv (x :: .ref a :: st) w kc ks := by
  intro p e s m args below meth c C H locs ls hl hW hS
  obtain ⟨C', T, ty, N, hck, hk, hT, ht, hfin, hlink⟩ := hf
  subst ht
  have hts : ∀ z ∈ u_ws C' T N, z.before args s = true := fun z hz => C.kn.1 z (hck.2.1 z hz) args
  have hK := C.kn.2.1
  have hap := va_apart (own := M.own) hts (fun _ h => h) ty hck.2.2.1 hck.2.2.2 hK hck.1
  obtain ⟨hb0, r, h1, cell, q1, q2, q3, q4⟩ := hW.2.2 a _ hw
  have hr : r = (C', T, N) := Option.some.inj (h1.symm.trans hck.1)
  subst hr
  obtain ⟨hSl, hfc, kC, hkC, hkind⟩ := hK.1 ci _ hck.1
  obtain ⟨cf, kf, fi, f, hi, hsl⟩ := hSl k hk
  have hlay := hts _ (u_in_lay hk)
  unfold u_lay at hlay
  rw [if_pos hfin] at hlay
  have hst := (u_facts hfc hkC (u_lays hts (fun _ h => h) hk) hi).1
  have hcf : m.cls = cf := by
    obtain ⟨_, _, c', _, _, _, -, -, hf', -, -, -, hown2, -⟩ := Cond.laysFinal_spec hlay
    have e1 : c' = cf := by have := hi.symm.trans hf'; simp at this; exact this.1.symm
    have hde : C' = M.own := hdecl _ hck.1
    rw [hT, hde] at hown2
    rw [← e1]; exact Option.some.inj (C.own.symm.trans hown2)
  have h6 := u_fits hfc hkC hkind (Or.inr hlay) hi (hck.2.2.1 k hk) hn hfit
  have hi' : s.fieldFound? C' (T k).2.1 (T k).2.2.1 = some (cf, kf, fi, f) := by rw [hT] at hi; exact hi
  refine W.putFinK C.1 C.2.1 C.own (C.kn.1 _ hlink args) hi' hst hcf (C.2.2.2.2.2.2.1.trans hini) (by rw [q2]; exact h6) q1 q3 (by rw [hsl]; exact k2_hasslot (q4 k hk)) rfl rfl hd fun H' e1 e2 e3 => ?_
  rw [hsl] at e1 ⊢
  refine kk p e s m args below meth c C H' _ ls hl (hW.put hw ⟨_, hck.1, t_OB.to (V := updV (vp_V fs) k x) ⟨_, e1, q2, q3, t_set q4 hap hk x⟩ (fun j _ => vp_updV_set hlen x j)⟩ e2 e3) (fun z hz => ?_)
  rcases List.mem_append.mp hz with h | h
  · exact hS z h
  · rw [List.mem_singleton.mp h]; exact hb0
theorem locs_add {a i : Nat} {locs : List Loc} (hS : ∀ z ∈ locs, G.H0.size ≤ z.base) (h : G.H0.size ≤ a) : ∀ z ∈ locs ++ [(⟨a, i⟩ : Loc)], G.H0.size ≤ z.base := fun z hz => by
  rcases List.mem_append.mp hz with h1 | h1
  · exact hS z h1
  · rw [List.mem_singleton.mp h1]; exact h
def gup (g : Nat → Int) (k : Nat) (z : Int) : Nat → Int := fun j => if j = k then z else g j
def aiA (G : GG) (n : Nat) (g : Nat → Int) : va_E := .inl (G.dT 0, n, .inl (fun j => iI (g j)))
def alA (G : GG) (n : Nat) (g : Nat → Int) : va_E := .inl (G.dT 1, n, .inr (.inl (fun j => lI (g j))))
def adA (G : GG) (n : Nat) (f : Nat → UInt64) : va_E := .inl (G.dT 2, n, .inr (.inr (.inr (.inl f))))
def acA (G : GG) (n : Nat) (g : Nat → Int) : va_E := .inl (G.dT 3, n, .inl (fun j => iI (g j)))
def arA (G : GG) (t n : Nat) (f : Nat → Option Nat) : va_E := .inl (G.dT t, n, .inr (.inr (.inr (.inr f))))
theorem v_iald {a n : Nat} {g : Nat → Int} {i : Int} (hd : decode M.cc pc = .ok (.iaload, 1)) (hw : w a = some (aiA G n g)) (kk : V l G M rm Q X (pc + 1) lv (.int (iI (g i.toNat)) :: st) w kc ks) (hi : 0 ≤ i ∧ i < n := by omega) (hr : i ≤ 2147483647 := by omega) : V l G M rm Q X pc lv (.int (iI i) :: .ref a :: st) w kc ks := by
  intro p e s m args below meth c C H locs ls hl hW hS
  refine va_iald C.1 C.2.1 C.kn.2.1 (hW.at hw) 0 0 rfl rfl (vp_inI hi hr) hd ?_
  rw [clampI ⟨hi.1, hr⟩]
  exact kk p e s m args below meth c C H locs ls hl hW hS
theorem v_cald {a n : Nat} {g : Nat → Int} {i : Int} (hd : decode M.cc pc = .ok (.caload, 1)) (hw : w a = some (acA G n g)) (kk : V l G M rm Q X (pc + 1) lv (.int (iI (g i.toNat)) :: st) w kc ks) (hi : 0 ≤ i ∧ i < n := by omega) (hr : i ≤ 2147483647 := by omega) : V l G M rm Q X pc lv (.int (iI i) :: .ref a :: st) w kc ks := by
  intro p e s m args below meth c C H locs ls hl hW hS
  refine va_cald C.1 C.2.1 C.kn.2.1 (hW.at hw) 0 3 rfl rfl (vp_inI hi hr) hd ?_
  rw [clampI ⟨hi.1, hr⟩]
  exact kk p e s m args below meth c C H locs ls hl hW hS
theorem v_lald {a n : Nat} {g : Nat → Int} {i : Int} (hd : decode M.cc pc = .ok (.laload, 1)) (hw : w a = some (alA G n g)) (kk : V l G M rm Q X (pc + 1) lv (.long (lI (g i.toNat)) :: st) w kc ks) (hi : 0 ≤ i ∧ i < n := by omega) (hr : i ≤ 2147483647 := by omega) : V l G M rm Q X pc lv (.int (iI i) :: .ref a :: st) w kc ks := by
  intro p e s m args below meth c C H locs ls hl hW hS
  refine va_lald C.1 C.2.1 C.kn.2.1 (hW.at hw) 0 1 rfl rfl (vp_inI hi hr) hd ?_
  rw [clampI ⟨hi.1, hr⟩]
  exact kk p e s m args below meth c C H locs ls hl hW hS
theorem v_dald {a n : Nat} {f : Nat → UInt64} {i : Int} (hd : decode M.cc pc = .ok (.daload, 1)) (hw : w a = some (adA G n f)) (kk : V l G M rm Q X (pc + 1) lv (.double (f i.toNat) :: st) w kc ks) (hi : 0 ≤ i ∧ i < n := by omega) (hr : i ≤ 2147483647 := by omega) : V l G M rm Q X pc lv (.int (iI i) :: .ref a :: st) w kc ks := by
  intro p e s m args below meth c C H locs ls hl hW hS
  refine va_dald C.1 C.2.1 C.kn.2.1 (hW.at hw) 0 2 rfl rfl (vp_inI hi hr) hd ?_
  rw [clampI ⟨hi.1, hr⟩]
  exact kk p e s m args below meth c C H locs ls hl hW hS
theorem v_aald {a t n y : Nat} {C0 : String} {f : Nat → Option Nat} {i : Int} (hd : decode M.cc pc = .ok (.aaload, 1)) (ht : ∀ G : GG, (tysG G)[t]? = some (G.dT t, .object C0)) (hw : w a = some (arA G t n f)) (hf : f i.toNat = some y) (kk : V l G M rm Q X (pc + 1) lv (.ref y :: st) w kc ks) (hi : 0 ≤ i ∧ i < n := by omega) (hr : i ≤ 2147483647 := by omega) : V l G M rm Q X pc lv (.int (iI i) :: .ref a :: st) w kc ks := by
  intro p e s m args below meth c C H locs ls hl hW hS
  refine va_aldq C.1 C.2.1 C.kn.2.1 (hW.at hw) 0 t rfl (ht G) (vp_inI hi hr) hd ?_
  rw [clampI ⟨hi.1, hr⟩, hf]
  exact kk p e s m args below meth c C H locs ls hl hW hS
theorem inI {i : Int} {n : Nat} (hi : 0 ≤ i ∧ i < n) (hr : i ≤ 2147483647) (cA : ClassId) (f : Nat → Value) : ¬ (iI i < 0 ∨ (arrV cA n f).slots.size ≤ (iI i).toNatClampNeg) := by
  rw [arrV_size]
  exact vp_inI hi hr
theorem v_iast {a n : Nat} {g : Nat → Int} {i z : Int} (hd : decode M.cc pc = .ok (.iastore, 1)) (hw : w a = some (aiA G n g)) (kk : V l G M rm Q X (pc + 1) lv st (aup w a (aiA G n (gup g i.toNat z))) kc ks) (hi : 0 ≤ i ∧ i < n := by omega) (hr : i ≤ 2147483647 := by omega) : V l G M rm Q X pc lv (.int (iI z) :: .int (iI i) :: .ref a :: st) w kc ks := by
  intro p e s m args below meth c C H locs ls hl hW hS
  refine W.iast C.1 C.2.1 (hW.2.2 a _ hw).2 ((C.kn.2.1.2 0 _ rfl).1 n (fun j => .int (iI (g j)))) (fun q => by cases q) (inI hi hr _ _) rfl rfl hd fun H1 e1 z1 oq => ?_
  refine kk p e s m args below meth c C H1 _ ls hl (hW.put hw ?_ z1 oq) (locs_add hS (hW.2.2 a _ hw).1)
  unfold va_at aiA
  show H1[a]? = some (vp_cell _ _)
  rw [e1, clampI ⟨hi.1, hr⟩]
  rw [vp_cell_i, vp_cell_i, arrV_store]
  congr 2
  funext q
  by_cases hq : q = i.toNat
  · subst hq; simp [updV, gup]
  · simp [updV, gup, hq]
theorem v_last {a n : Nat} {g : Nat → Int} {i z : Int} (hd : decode M.cc pc = .ok (.lastore, 1)) (hw : w a = some (alA G n g)) (kk : V l G M rm Q X (pc + 1) lv st (aup w a (alA G n (gup g i.toNat z))) kc ks) (hi : 0 ≤ i ∧ i < n := by omega) (hr : i ≤ 2147483647 := by omega) : V l G M rm Q X pc lv (.long (lI z) :: .int (iI i) :: .ref a :: st) w kc ks := by
  intro p e s m args below meth c C H locs ls hl hW hS
  refine W.last C.1 C.2.1 (hW.2.2 a _ hw).2 ((C.kn.2.1.2 1 _ rfl).1 n (fun j => .long (lI (g j)))) (fun q => by cases q) (inI hi hr _ _) rfl rfl hd fun H1 e1 z1 oq => ?_
  refine kk p e s m args below meth c C H1 _ ls hl (hW.put hw ?_ z1 oq) (locs_add hS (hW.2.2 a _ hw).1)
  unfold va_at alA
  show H1[a]? = some (vp_cell _ _)
  rw [e1, clampI ⟨hi.1, hr⟩]
  rw [vp_cell_l, vp_cell_l, arrV_store]
  congr 2
  funext q
  by_cases hq : q = i.toNat
  · subst hq; simp [updV, gup]
  · simp [updV, gup, hq]
def fup {α : Type} (g : Nat → α) (k : Nat) (z : α) : Nat → α := fun j => if j = k then z else g j
theorem v_dast {a n : Nat} {f : Nat → UInt64} {i : Int} {x : UInt64} (hd : decode M.cc pc = .ok (.dastore, 1)) (hw : w a = some (adA G n f)) (kk : V l G M rm Q X (pc + 1) lv st (aup w a (adA G n (fup f i.toNat x))) kc ks) (hi : 0 ≤ i ∧ i < n := by omega) (hr : i ≤ 2147483647 := by omega) : V l G M rm Q X pc lv (.double x :: .int (iI i) :: .ref a :: st) w kc ks := by
  intro p e s m args below meth c C H locs ls hl hW hS
  refine W.dast C.1 C.2.1 (hW.2.2 a _ hw).2 ((C.kn.2.1.2 2 _ rfl).1 n (fun j => .double (f j))) (fun q => by cases q) (inI hi hr _ _) rfl rfl hd fun H1 e1 z1 oq => ?_
  refine kk p e s m args below meth c C H1 _ ls hl (hW.put hw ?_ z1 oq) (locs_add hS (hW.2.2 a _ hw).1)
  unfold va_at adA
  show H1[a]? = some (vp_cell _ _)
  rw [e1, clampI ⟨hi.1, hr⟩]
  rw [vp_cell_d, vp_cell_d, arrV_store]
  congr 2
  funext q
  by_cases hq : q = i.toNat
  · subst hq; simp [updV, fup]
  · simp [updV, fup, hq]
theorem iI_n (k : Nat) : iI (k : Int) = nI k := Int32.ofInt_eq_ofNat
theorem nar_char {z : Int} (h : 0 ≤ z ∧ z ≤ 65535) : narrow .char (.int (iI z)) = .int (iI z) := by
  obtain ⟨k, rfl⟩ := Int.eq_ofNat_of_zero_le h.1
  rw [iI_n]
  exact (pk_charN (by omega)).1
theorem v_cast {a n : Nat} {g : Nat → Int} {i z : Int} (hd : decode M.cc pc = .ok (.castore, 1)) (hw : w a = some (acA G n g)) (kk : V l G M rm Q X (pc + 1) lv st (aup w a (acA G n (gup g i.toNat z))) kc ks) (hz : 0 ≤ z ∧ z ≤ 65535 := by omega) (hi : 0 ≤ i ∧ i < n := by omega) (hr : i ≤ 2147483647 := by omega) : V l G M rm Q X pc lv (.int (iI z) :: .int (iI i) :: .ref a :: st) w kc ks := by
  intro p e s m args below meth c C H locs ls hl hW hS
  refine W.cast C.1 C.2.1 (hW.2.2 a _ hw).2 ((C.kn.2.1.2 3 _ rfl).1 n (fun j => .int (iI (g j)))) (fun q => by cases q) (inI hi hr _ _) rfl rfl hd fun H1 e1 z1 oq => ?_
  refine kk p e s m args below meth c C H1 _ ls hl (hW.put hw ?_ z1 oq) (locs_add hS (hW.2.2 a _ hw).1)
  unfold va_at acA
  show H1[a]? = some (vp_cell _ _)
  rw [e1, clampI ⟨hi.1, hr⟩, nar_char hz]
  rw [vp_cell_i, vp_cell_i, arrV_store]
  congr 2
  funext q
  by_cases hq : q = i.toNat
  · subst hq; simp [updV, gup]
  · simp [updV, gup, hq]
theorem v_slen (hd : decode M.cc pc = .ok (.arraylength, 1)) (kk : V l G M rm Q X (pc + 1) lv (.int (iI (G.scr.2.1 : Nat)) :: st) w kc ks) : V l G M rm Q X pc lv (.ref G.scr.1 :: st) w kc ks := by
  intro p e s m args below meth c C H locs ls hl hW hS
  obtain ⟨hX, hlt⟩ := C.kn.2.2.2.2.2.2
  have hSS : va_S (fun q => G.H0.size ≤ q) G.H0 H locs := ⟨hW.1, fun q h1 _ => hW.2.1 q h1, hS⟩
  refine va_slen C.1 C.2.1 hX hlt (Nat.not_le.mpr hlt) hSS hd ?_
  have h0 : Int32.ofNat G.scr.2.1 = iI (G.scr.2.1 : Nat) := Int32.ofInt_eq_ofNat.symm
  rw [h0]
  exact kk p e s m args below meth c C H locs ls hl hW hS
theorem v_sld {i : Int} (hd : decode M.cc pc = .ok (.iaload, 1)) (kk : V l G M rm Q X (pc + 1) lv (.int (G.scr.2.2 i.toNat) :: st) w kc ks) (hi : 0 ≤ i ∧ i < G.scr.2.1 := by omega) (hr : i ≤ 2147483647 := by omega) : V l G M rm Q X pc lv (.int (iI i) :: .ref G.scr.1 :: st) w kc ks := by
  intro p e s m args below meth c C H locs ls hl hW hS
  obtain ⟨hX, hlt⟩ := C.kn.2.2.2.2.2.2
  have hSS : va_S (fun q => G.H0.size ≤ q) G.H0 H locs := ⟨hW.1, fun q h1 _ => hW.2.1 q h1, hS⟩
  refine va_sld C.1 C.2.1 hX hlt (Nat.not_le.mpr hlt) hSS (vp_inI hi hr) hd ?_
  rw [clampI ⟨hi.1, hr⟩]
  exact kk p e s m args below meth c C H locs ls hl hW hS
end VH
