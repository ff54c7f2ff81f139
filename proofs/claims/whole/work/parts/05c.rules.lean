section VR
variable {l : Launch} {G : GG} {M : MI} {rm : Room} {Q : Option Value → AH → Prop} {X : String → AH → Prop} {pc : Nat} {lv : Nat → Option Value} {st : List Value} {w : AH} {kc ks : Nat}
theorem LV.at {ls : Array Slot} {n : Nat} (h : LV ls n lv) {i : Nat} {v : Value} (hi : lv i = some v) : ls[i]? = some (.val v) := h.2.2 i v hi
def lvl (lv : Nat → Option Value) (n : Nat) : List (Nat × Value) := (List.range n).filterMap (fun i => (lv i).map (fun v => (i, v)))
theorem lvl_mem {n i : Nat} {v : Value} : (i, v) ∈ lvl lv n ↔ i < n ∧ lv i = some v := by
  unfold lvl
  rw [List.mem_filterMap]
  constructor
  · rintro ⟨j, hj, h⟩
    cases hv : lv j with
    | none => rw [hv] at h; cases h
    | some x =>
      rw [hv] at h
      cases h
      exact ⟨List.mem_range.mp hj, hv⟩
  · rintro ⟨h1, h2⟩
    exact ⟨i, List.mem_range.mpr h1, by rw [h2]; rfl⟩
theorem LV.list {ls : Array Slot} {n : Nat} (h : LV ls n lv) : lv_has ls n (lvl lv n) := ⟨h.1, h.2.1, fun q hq => h.2.2 q.1 q.2 (lvl_mem.mp hq).2⟩
theorem LV.lt {ls : Array Slot} {n : Nat} (h : LV ls n lv) {i : Nat} {v : Value} (hi : lv i = some v) : i < n := by
  have := (Array.getElem?_eq_some_iff.mp (h.2.2 i v hi)).1
  rw [h.1] at this
  exact this
def c2 (v : Value) : Bool := v.category == 2
def ls1 (lv : Nat → Option Value) (i : Nat) (x : Value) : Nat → Option Value := fun j => if j = i then some x else if j + 1 = i then (match lv j with | some v => bif c2 v then none else some v | none => none) else lv j
def ls2 (lv : Nat → Option Value) (i : Nat) (x : Value) : Nat → Option Value := fun j => if j = i then some x else if j = i + 1 then none else if j + 1 = i then (match lv j with | some v => bif c2 v then none else some v | none => none) else lv j
theorem LV.st1 {ls ls' : Array Slot} {n i : Nat} {x : Value} (h : LV ls n lv) (h' : lv_has ls' n ((i, x) :: (lvl lv n).filter (fun q => !(q.1 == i) && !(q.1 + 1 == i && q.2.category == 2)))) : LV ls' n (ls1 lv i x) := by
  refine ⟨h'.1, h'.2.1, fun j v hj => ?_⟩
  unfold ls1 at hj
  by_cases e1 : j = i
  · rw [if_pos e1] at hj
    cases hj
    exact h'.2.2 (j, x) (by rw [e1]; exact List.mem_cons_self)
  · rw [if_neg e1] at hj
    by_cases e2 : j + 1 = i
    · rw [if_pos e2] at hj
      cases hv : lv j with
      | none => rw [hv] at hj; cases hj
      | some u =>
        rw [hv] at hj
        simp only at hj
        cases hc : c2 u with
        | true => rw [hc] at hj; cases hj
        | false =>
          rw [hc] at hj
          rw [← (Option.some.inj hj : u = v)]
          refine h'.2.2 (j, u) (List.mem_cons_of_mem _ (List.mem_filter.mpr ⟨lvl_mem.mpr ⟨h.lt hv, hv⟩, ?_⟩))
          unfold c2 at hc
          simp [e1, hc]
    · rw [if_neg e2] at hj
      refine h'.2.2 (j, v) (List.mem_cons_of_mem _ (List.mem_filter.mpr ⟨lvl_mem.mpr ⟨h.lt hj, hj⟩, ?_⟩))
      simp [e1, e2]
theorem LV.st2 {ls ls' : Array Slot} {n i : Nat} {x : Value} (h : LV ls n lv) (h' : lv_has ls' n ((i, x) :: (lvl lv n).filter (fun q => !(q.1 == i) && (!(q.1 == i + 1) && !(q.1 + 1 == i && q.2.category == 2))))) : LV ls' n (ls2 lv i x) := by
  refine ⟨h'.1, h'.2.1, fun j v hj => ?_⟩
  unfold ls2 at hj
  by_cases e1 : j = i
  · rw [if_pos e1] at hj
    cases hj
    exact h'.2.2 (j, x) (by rw [e1]; exact List.mem_cons_self)
  · rw [if_neg e1] at hj
    by_cases e3 : j = i + 1
    · rw [if_pos e3] at hj; cases hj
    · rw [if_neg e3] at hj
      by_cases e2 : j + 1 = i
      · rw [if_pos e2] at hj
        cases hv : lv j with
        | none => rw [hv] at hj; cases hj
        | some u =>
          rw [hv] at hj
          simp only at hj
          cases hc : c2 u with
          | true => rw [hc] at hj; cases hj
          | false =>
            rw [hc] at hj
            rw [← (Option.some.inj hj : u = v)]
            refine h'.2.2 (j, u) (List.mem_cons_of_mem _ (List.mem_filter.mpr ⟨lvl_mem.mpr ⟨h.lt hv, hv⟩, ?_⟩))
            unfold c2 at hc
            simp [e1, e3, hc]
      · rw [if_neg e2] at hj
        refine h'.2.2 (j, v) (List.mem_cons_of_mem _ (List.mem_filter.mpr ⟨lvl_mem.mpr ⟨h.lt hj, hj⟩, ?_⟩))
        simp [e1, e2, e3]
def lof : List (Nat × Value) → Nat → Option Value
  | [], _ => none
  | (i, v) :: r, j => if j = i then some v else lof r j
theorem lof_le {L : List (Nat × Value)} {lv : Nat → Option Value} (h : ∀ q ∈ L, lv q.1 = some q.2) : ∀ (i : Nat) (v : Value), lof L i = some v → lv i = some v := by
  induction L with
  | nil => intro i v hv; cases hv
  | cons a r ih =>
    intro i v hv
    obtain ⟨j, u⟩ := a
    by_cases e : i = j
    · subst e
      have h0 : lof ((i, u) :: r) i = some u := if_pos rfl
      rw [h0] at hv
      rw [← (Option.some.inj hv : u = v)]
      exact h (i, u) List.mem_cons_self
    · have h0 : lof ((j, u) :: r) i = lof r i := if_neg e
      rw [h0] at hv
      exact ih (fun q hq => h q (List.mem_cons_of_mem _ hq)) i v hv
theorem v_lv {lv' : Nat → Option Value} (h : ∀ (i : Nat) (v : Value), lv' i = some v → lv i = some v) (k : V l G M rm Q X pc lv' st w kc ks) : V l G M rm Q X pc lv st w kc ks :=
  fun p e s m args below meth c C H locs ls hl hW hS => k p e s m args below meth c C H locs ls ⟨hl.1, hl.2.1, fun i v hv => hl.2.2 i v (h i v hv)⟩ hW hS
theorem v_lof (L : List (Nat × Value)) (h : ∀ q ∈ L, lv q.1 = some q.2) (k : V l G M rm Q X pc (lof L) st w kc ks) : V l G M rm Q X pc lv st w kc ks := v_lv (lof_le h) k
theorem v_widen {kc' ks' : Nat} (h1 : kc ≤ kc') (h2 : ks ≤ ks') (k : V l G M rm Q X pc lv st w kc' ks') : V l G M rm Q X pc lv st w kc ks :=
  fun p e s m args below meth c C H locs ls hl hW hS => W.widen h1 h2 (k p e s m args below meth c C H locs ls hl hW hS)

theorem v_iconst {n : Int} (hd : decode M.cc pc = .ok (.iconst n, 1)) (k : V l G M rm Q X (pc + 1) (lv) (.int (iI n) :: st) (w) (kc) (ks)) : V l G M rm Q X (pc) (lv) (st) (w) (kc) (ks) := by
  intro p e s m args below meth c C H locs ls hl hW hS
  exact lv_iconst C.1 C.2.1 hd rfl (k p e s m args below meth c C H locs ls hl hW hS)
theorem v_bipush {n : Int} (hd : decode M.cc pc = .ok (.bipush n, 2)) (k : V l G M rm Q X (pc + 2) (lv) (.int (iI n) :: st) (w) (kc) (ks)) (hv : (Int8.ofInt n).toInt32 = iI n := by decide +kernel) : V l G M rm Q X (pc) (lv) (st) (w) (kc) (ks) := by
  intro p e s m args below meth c C H locs ls hl hW hS
  exact lv_bipush C.1 C.2.1 hd hv (k p e s m args below meth c C H locs ls hl hW hS)
theorem v_sipush {n : Int} (hd : decode M.cc pc = .ok (.sipush n, 3)) (k : V l G M rm Q X (pc + 3) (lv) (.int (iI n) :: st) (w) (kc) (ks)) (hv : (Int16.ofInt n).toInt32 = iI n := by decide +kernel) : V l G M rm Q X (pc) (lv) (st) (w) (kc) (ks) := by
  intro p e s m args below meth c C H locs ls hl hW hS
  exact lv_sipush C.1 C.2.1 hd hv (k p e s m args below meth c C H locs ls hl hW hS)
theorem v_lconst {n : Fin 2} (hd : decode M.cc pc = .ok (.lconst n, 1)) (k : V l G M rm Q X (pc + 1) (lv) (.long (lI (n : Nat)) :: st) (w) (kc) (ks)) : V l G M rm Q X (pc) (lv) (st) (w) (kc) (ks) := by
  intro p e s m args below meth c C H locs ls hl hW hS
  exact lv_lconst C.1 C.2.1 hd rfl (k p e s m args below meth c C H locs ls hl hW hS)
theorem v_ldc2 {ix : Nat} {x : Int64} (z : Int) (hd : decode M.cc pc = .ok (.ldc2_w ix, 3)) (hk : TG (.constantLong M.own ix x)) (k : V l G M rm Q X (pc + 3) (lv) (.long (lI z) :: st) (w) (kc) (ks)) (hx : x = lI z := by decide +kernel) : V l G M rm Q X (pc) (lv) (st) (w) (kc) (ks) := by
  intro p e s m args below meth c C H locs ls hl hW hS
  subst hx
  exact lv_ldc2 C.1 C.2.1 C.2.2.2.2.1 (C.2.2.2.2.2.2.2.2.1.1 _ hk args) hd (k p e s m args below meth c C H locs ls hl hW hS)
theorem v_ldci {ix : Nat} {x : Int32} (z : Int) (hd : decode M.cc pc = .ok (.ldc ix, 2)) (hk : TG (.constant M.own ix x)) (k : V l G M rm Q X (pc + 2) (lv) (.int (iI z) :: st) (w) (kc) (ks)) (hx : x = iI z := by decide +kernel) : V l G M rm Q X (pc) (lv) (st) (w) (kc) (ks) := by
  intro p e s m args below meth c C H locs ls hl hW hS
  subst hx
  exact lv_ldc C.1 C.2.1 C.2.2.2.2.1 (C.2.2.2.2.2.2.2.2.1.1 _ hk args) hd (k p e s m args below meth c C H locs ls hl hW hS)
theorem v_ldc2d {ix : Nat} {x : UInt64} (hd : decode M.cc pc = .ok (.ldc2_w ix, 3)) (hk : TG (.constantDouble M.own ix x)) (k : V l G M rm Q X (pc + 3) (lv) (.double x :: st) (w) (kc) (ks)) : V l G M rm Q X (pc) (lv) (st) (w) (kc) (ks) := by
  intro p e s m args below meth c C H locs ls hl hW hS
  exact lv_ldc2d C.1 C.2.1 C.2.2.2.2.1 (C.2.2.2.2.2.2.2.2.1.1 _ hk args) hd (k p e s m args below meth c C H locs ls hl hW hS)
theorem v_iload_n {i : Fin 4} {x : Int32} (hd : decode M.cc pc = .ok (.iload_n i, 1)) (hi : lv (i : Nat) = some (.int x)) (k : V l G M rm Q X (pc + 1) (lv) (.int x :: st) (w) (kc) (ks)) : V l G M rm Q X (pc) (lv) (st) (w) (kc) (ks) := by
  intro p e s m args below meth c C H locs ls hl hW hS
  exact lv_iload_n C.1 C.2.1 hd rfl (hl.at hi) (k p e s m args below meth c C H locs ls hl hW hS)
theorem v_iload {i : Nat} {x : Int32} (hd : decode M.cc pc = .ok (.iload i, 2)) (hi : lv i = some (.int x)) (k : V l G M rm Q X (pc + 2) (lv) (.int x :: st) (w) (kc) (ks)) : V l G M rm Q X (pc) (lv) (st) (w) (kc) (ks) := by
  intro p e s m args below meth c C H locs ls hl hW hS
  exact lv_iload C.1 C.2.1 hd (hl.at hi) (k p e s m args below meth c C H locs ls hl hW hS)
theorem v_lload_n {i : Fin 4} {x : Int64} (hd : decode M.cc pc = .ok (.lload_n i, 1)) (hi : lv (i : Nat) = some (.long x)) (k : V l G M rm Q X (pc + 1) (lv) (.long x :: st) (w) (kc) (ks)) : V l G M rm Q X (pc) (lv) (st) (w) (kc) (ks) := by
  intro p e s m args below meth c C H locs ls hl hW hS
  exact lv_lload_n C.1 C.2.1 hd rfl (hl.at hi) (k p e s m args below meth c C H locs ls hl hW hS)
theorem v_lload {i : Nat} {x : Int64} (hd : decode M.cc pc = .ok (.lload i, 2)) (hi : lv i = some (.long x)) (k : V l G M rm Q X (pc + 2) (lv) (.long x :: st) (w) (kc) (ks)) : V l G M rm Q X (pc) (lv) (st) (w) (kc) (ks) := by
  intro p e s m args below meth c C H locs ls hl hW hS
  exact lv_lload C.1 C.2.1 hd (hl.at hi) (k p e s m args below meth c C H locs ls hl hW hS)
theorem v_dload_n {i : Fin 4} {x : UInt64} (hd : decode M.cc pc = .ok (.dload_n i, 1)) (hi : lv (i : Nat) = some (.double x)) (k : V l G M rm Q X (pc + 1) (lv) (.double x :: st) (w) (kc) (ks)) : V l G M rm Q X (pc) (lv) (st) (w) (kc) (ks) := by
  intro p e s m args below meth c C H locs ls hl hW hS
  exact lv_dload_n C.1 C.2.1 hd rfl (hl.at hi) (k p e s m args below meth c C H locs ls hl hW hS)
theorem v_dload {i : Nat} {x : UInt64} (hd : decode M.cc pc = .ok (.dload i, 2)) (hi : lv i = some (.double x)) (k : V l G M rm Q X (pc + 2) (lv) (.double x :: st) (w) (kc) (ks)) : V l G M rm Q X (pc) (lv) (st) (w) (kc) (ks) := by
  intro p e s m args below meth c C H locs ls hl hW hS
  exact lv_dload C.1 C.2.1 hd (hl.at hi) (k p e s m args below meth c C H locs ls hl hW hS)
theorem v_aload_n {i : Fin 4} {x : Nat} (hd : decode M.cc pc = .ok (.aload_n i, 1)) (hi : lv (i : Nat) = some (.ref x)) (k : V l G M rm Q X (pc + 1) (lv) (.ref x :: st) (w) (kc) (ks)) : V l G M rm Q X (pc) (lv) (st) (w) (kc) (ks) := by
  intro p e s m args below meth c C H locs ls hl hW hS
  exact lv_aload_n C.1 C.2.1 hd rfl (hl.at hi) (k p e s m args below meth c C H locs ls hl hW hS)
theorem v_aload {i : Nat} {x : Nat} (hd : decode M.cc pc = .ok (.aload i, 2)) (hi : lv i = some (.ref x)) (k : V l G M rm Q X (pc + 2) (lv) (.ref x :: st) (w) (kc) (ks)) : V l G M rm Q X (pc) (lv) (st) (w) (kc) (ks) := by
  intro p e s m args below meth c C H locs ls hl hW hS
  exact lv_aload C.1 C.2.1 hd (hl.at hi) (k p e s m args below meth c C H locs ls hl hW hS)
theorem v_istore {i : Nat} {x : Int32} (hd : decode M.cc pc = .ok (.istore i, 2)) (hn : i < M.mL) (k : V l G M rm Q X (pc + 2) (ls1 lv i (.int x)) (st) (w) (kc) (ks)) : V l G M rm Q X (pc) (lv) (.int x :: st) (w) (kc) (ks) := by
  intro p e s m args below meth c C H locs ls hl hW hS
  exact lv_istore C.1 C.2.1 hd hl.list hn rfl (fun ls' hl' => k p e s m args below meth c C H locs ls' (hl.st1 hl') hW hS)
theorem v_istore_n {i : Fin 4} {x : Int32} (hd : decode M.cc pc = .ok (.istore_n i, 1)) (hn : (i : Nat) < M.mL) (k : V l G M rm Q X (pc + 1) (ls1 lv (i : Nat) (.int x)) (st) (w) (kc) (ks)) : V l G M rm Q X (pc) (lv) (.int x :: st) (w) (kc) (ks) := by
  intro p e s m args below meth c C H locs ls hl hW hS
  exact lv_istore_n C.1 C.2.1 hd rfl hl.list hn rfl (fun ls' hl' => k p e s m args below meth c C H locs ls' (hl.st1 hl') hW hS)
theorem v_lstore {i : Nat} {x : Int64} (hd : decode M.cc pc = .ok (.lstore i, 2)) (hn : i + 1 < M.mL) (k : V l G M rm Q X (pc + 2) (ls2 lv i (.long x)) (st) (w) (kc) (ks)) : V l G M rm Q X (pc) (lv) (.long x :: st) (w) (kc) (ks) := by
  intro p e s m args below meth c C H locs ls hl hW hS
  exact lv_lstore C.1 C.2.1 hd hl.list hn rfl (fun ls' hl' => k p e s m args below meth c C H locs ls' (hl.st2 hl') hW hS)
theorem v_lstore_n {i : Fin 4} {x : Int64} (hd : decode M.cc pc = .ok (.lstore_n i, 1)) (hn : (i : Nat) + 1 < M.mL) (k : V l G M rm Q X (pc + 1) (ls2 lv (i : Nat) (.long x)) (st) (w) (kc) (ks)) : V l G M rm Q X (pc) (lv) (.long x :: st) (w) (kc) (ks) := by
  intro p e s m args below meth c C H locs ls hl hW hS
  exact lv_lstore_n C.1 C.2.1 hd rfl hl.list hn rfl (fun ls' hl' => k p e s m args below meth c C H locs ls' (hl.st2 hl') hW hS)
theorem v_dstore {i : Nat} {x : UInt64} (hd : decode M.cc pc = .ok (.dstore i, 2)) (hn : i + 1 < M.mL) (k : V l G M rm Q X (pc + 2) (ls2 lv i (.double x)) (st) (w) (kc) (ks)) : V l G M rm Q X (pc) (lv) (.double x :: st) (w) (kc) (ks) := by
  intro p e s m args below meth c C H locs ls hl hW hS
  exact lv_dstore C.1 C.2.1 hd hl.list hn rfl (fun ls' hl' => k p e s m args below meth c C H locs ls' (hl.st2 hl') hW hS)
theorem v_astore {i : Nat} {x : Nat} (hd : decode M.cc pc = .ok (.astore i, 2)) (hn : i < M.mL) (k : V l G M rm Q X (pc + 2) (ls1 lv i (.ref x)) (st) (w) (kc) (ks)) : V l G M rm Q X (pc) (lv) (.ref x :: st) (w) (kc) (ks) := by
  intro p e s m args below meth c C H locs ls hl hW hS
  exact lv_astore C.1 C.2.1 hd hl.list hn rfl (fun ls' hl' => k p e s m args below meth c C H locs ls' (hl.st1 hl') hW hS)
theorem v_astore_n {i : Fin 4} {x : Nat} (hd : decode M.cc pc = .ok (.astore_n i, 1)) (hn : (i : Nat) < M.mL) (k : V l G M rm Q X (pc + 1) (ls1 lv (i : Nat) (.ref x)) (st) (w) (kc) (ks)) : V l G M rm Q X (pc) (lv) (.ref x :: st) (w) (kc) (ks) := by
  intro p e s m args below meth c C H locs ls hl hW hS
  exact lv_astore_n C.1 C.2.1 hd rfl hl.list hn rfl (fun ls' hl' => k p e s m args below meth c C H locs ls' (hl.st1 hl') hW hS)
theorem v_iinc {i : Nat} {n a : Int} (hd : decode M.cc pc = .ok (.iinc i n, 3)) (hi : lv i = some (.int (iI a))) (k : V l G M rm Q X (pc + 3) (ls1 lv i (.int (iI (a + n)))) (st) (w) (kc) (ks)) : V l G M rm Q X (pc) (lv) (st) (w) (kc) (ks) := by
  intro p e s m args below meth c C H locs ls hl hW hS
  have hm : (i, Value.int (iI a)) ∈ lvl lv M.mL := lvl_mem.mpr ⟨hl.lt hi, hi⟩
  obtain ⟨j, hj⟩ := List.getElem?_of_mem hm
  exact lv_iinc C.1 C.2.1 hd hl.list hj (iI_add a n) (hl.lt hi) rfl (fun ls' hl' => k p e s m args below meth c C H locs ls' (hl.st1 hl') hW hS)
theorem v_iadd {a b : Int} (hd : decode M.cc pc = .ok (.iadd, 1)) (k : V l G M rm Q X (pc + 1) (lv) (.int (iI (a + b)) :: st) (w) (kc) (ks)) : V l G M rm Q X (pc) (lv) (.int (iI b) :: .int (iI a) :: st) (w) (kc) (ks) := by
  intro p e s m args below meth c C H locs ls hl hW hS
  refine lv_iadd C.1 C.2.1 hd ?_
  rw [iI_add]
  exact k p e s m args below meth c C H locs ls hl hW hS
theorem v_isub {a b : Int} (hd : decode M.cc pc = .ok (.isub, 1)) (k : V l G M rm Q X (pc + 1) (lv) (.int (iI (a - b)) :: st) (w) (kc) (ks)) : V l G M rm Q X (pc) (lv) (.int (iI b) :: .int (iI a) :: st) (w) (kc) (ks) := by
  intro p e s m args below meth c C H locs ls hl hW hS
  refine lv_isub C.1 C.2.1 hd ?_
  rw [iI_sub]
  exact k p e s m args below meth c C H locs ls hl hW hS
theorem v_imul {a b : Int} (hd : decode M.cc pc = .ok (.imul, 1)) (k : V l G M rm Q X (pc + 1) (lv) (.int (iI (a * b)) :: st) (w) (kc) (ks)) : V l G M rm Q X (pc) (lv) (.int (iI b) :: .int (iI a) :: st) (w) (kc) (ks) := by
  intro p e s m args below meth c C H locs ls hl hW hS
  refine lv_imul C.1 C.2.1 hd ?_
  rw [iI_mul]
  exact k p e s m args below meth c C H locs ls hl hW hS
theorem v_idiv {a b : Int} (hd : decode M.cc pc = .ok (.idiv, 1)) (k : V l G M rm Q X (pc + 1) (lv) (.int (iI (a.tdiv b)) :: st) (w) (kc) (ks)) (h0 : b ≠ 0 := by omega) (ha : -2147483648 ≤ a ∧ a ≤ 2147483647 := by omega) (hb : -2147483648 ≤ b ∧ b ≤ 2147483647 := by omega) : V l G M rm Q X (pc) (lv) (.int (iI b) :: .int (iI a) :: st) (w) (kc) (ks) := by
  intro p e s m args below meth c C H locs ls hl hW hS
  refine lv_idiv C.1 C.2.1 hd (fun q => h0 ((iI_eq hb (by omega)).mp (q.trans (by decide +kernel : (0 : Int32) = iI 0)))) ?_
  rw [iI_div ha hb]
  exact k p e s m args below meth c C H locs ls hl hW hS
theorem v_irem {a b : Int} (hd : decode M.cc pc = .ok (.irem, 1)) (k : V l G M rm Q X (pc + 1) (lv) (.int (iI (a.tmod b)) :: st) (w) (kc) (ks)) (h0 : b ≠ 0 := by omega) (ha : -2147483648 ≤ a ∧ a ≤ 2147483647 := by omega) (hb : -2147483648 ≤ b ∧ b ≤ 2147483647 := by omega) : V l G M rm Q X (pc) (lv) (.int (iI b) :: .int (iI a) :: st) (w) (kc) (ks) := by
  intro p e s m args below meth c C H locs ls hl hW hS
  refine lv_irem C.1 C.2.1 hd (fun q => h0 ((iI_eq hb (by omega)).mp (q.trans (by decide +kernel : (0 : Int32) = iI 0)))) ?_
  rw [iI_rem ha hb]
  exact k p e s m args below meth c C H locs ls hl hW hS
theorem v_ineg {a : Int} (hd : decode M.cc pc = .ok (.ineg, 1)) (k : V l G M rm Q X (pc + 1) (lv) (.int (iI (-a)) :: st) (w) (kc) (ks)) : V l G M rm Q X (pc) (lv) (.int (iI a) :: st) (w) (kc) (ks) := by
  intro p e s m args below meth c C H locs ls hl hW hS
  refine lv_ineg C.1 C.2.1 hd ?_
  rw [iI_neg]
  exact k p e s m args below meth c C H locs ls hl hW hS
theorem v_ladd {a b : Int} (hd : decode M.cc pc = .ok (.ladd, 1)) (k : V l G M rm Q X (pc + 1) (lv) (.long (lI (a + b)) :: st) (w) (kc) (ks)) : V l G M rm Q X (pc) (lv) (.long (lI b) :: .long (lI a) :: st) (w) (kc) (ks) := by
  intro p e s m args below meth c C H locs ls hl hW hS
  refine lv_ladd C.1 C.2.1 hd ?_
  rw [lI_add]
  exact k p e s m args below meth c C H locs ls hl hW hS
theorem v_lsub {a b : Int} (hd : decode M.cc pc = .ok (.lsub, 1)) (k : V l G M rm Q X (pc + 1) (lv) (.long (lI (a - b)) :: st) (w) (kc) (ks)) : V l G M rm Q X (pc) (lv) (.long (lI b) :: .long (lI a) :: st) (w) (kc) (ks) := by
  intro p e s m args below meth c C H locs ls hl hW hS
  refine lv_lsub C.1 C.2.1 hd ?_
  rw [lI_sub]
  exact k p e s m args below meth c C H locs ls hl hW hS
theorem v_lmul {a b : Int} (hd : decode M.cc pc = .ok (.lmul, 1)) (k : V l G M rm Q X (pc + 1) (lv) (.long (lI (a * b)) :: st) (w) (kc) (ks)) : V l G M rm Q X (pc) (lv) (.long (lI b) :: .long (lI a) :: st) (w) (kc) (ks) := by
  intro p e s m args below meth c C H locs ls hl hW hS
  refine lv_lmul C.1 C.2.1 hd ?_
  rw [lI_mul]
  exact k p e s m args below meth c C H locs ls hl hW hS
theorem v_ldiv {a b : Int} (hd : decode M.cc pc = .ok (.ldiv, 1)) (k : V l G M rm Q X (pc + 1) (lv) (.long (lI (a.tdiv b)) :: st) (w) (kc) (ks)) (h0 : b ≠ 0 := by omega) (ha : -9223372036854775808 ≤ a ∧ a ≤ 9223372036854775807 := by omega) (hb : -9223372036854775808 ≤ b ∧ b ≤ 9223372036854775807 := by omega) : V l G M rm Q X (pc) (lv) (.long (lI b) :: .long (lI a) :: st) (w) (kc) (ks) := by
  intro p e s m args below meth c C H locs ls hl hW hS
  refine lv_ldiv C.1 C.2.1 hd (fun q => h0 ((lI_eq hb (by omega)).mp (q.trans (by decide +kernel : (0 : Int64) = lI 0)))) ?_
  rw [lI_div ha hb]
  exact k p e s m args below meth c C H locs ls hl hW hS
theorem v_lrem {a b : Int} (hd : decode M.cc pc = .ok (.lrem, 1)) (k : V l G M rm Q X (pc + 1) (lv) (.long (lI (a.tmod b)) :: st) (w) (kc) (ks)) (h0 : b ≠ 0 := by omega) (ha : -9223372036854775808 ≤ a ∧ a ≤ 9223372036854775807 := by omega) (hb : -9223372036854775808 ≤ b ∧ b ≤ 9223372036854775807 := by omega) : V l G M rm Q X (pc) (lv) (.long (lI b) :: .long (lI a) :: st) (w) (kc) (ks) := by
  intro p e s m args below meth c C H locs ls hl hW hS
  refine lv_lrem C.1 C.2.1 hd (fun q => h0 ((lI_eq hb (by omega)).mp (q.trans (by decide +kernel : (0 : Int64) = lI 0)))) ?_
  rw [lI_rem ha hb]
  exact k p e s m args below meth c C H locs ls hl hW hS
theorem v_lneg {a : Int} (hd : decode M.cc pc = .ok (.lneg, 1)) (k : V l G M rm Q X (pc + 1) (lv) (.long (lI (-a)) :: st) (w) (kc) (ks)) : V l G M rm Q X (pc) (lv) (.long (lI a) :: st) (w) (kc) (ks) := by
  intro p e s m args below meth c C H locs ls hl hW hS
  refine lv_lneg C.1 C.2.1 hd ?_
  rw [lI_neg]
  exact k p e s m args below meth c C H locs ls hl hW hS
theorem v_iand {x y : Int32} (hd : decode M.cc pc = .ok (.iand, 1)) (k : V l G M rm Q X (pc + 1) (lv) (.int (x &&& y) :: st) (w) (kc) (ks)) : V l G M rm Q X (pc) (lv) (.int y :: .int x :: st) (w) (kc) (ks) := by
  intro p e s m args below meth c C H locs ls hl hW hS
  exact lv_iand C.1 C.2.1 hd (k p e s m args below meth c C H locs ls hl hW hS)
theorem v_land {x y : Int64} (hd : decode M.cc pc = .ok (.land, 1)) (k : V l G M rm Q X (pc + 1) (lv) (.long (x &&& y) :: st) (w) (kc) (ks)) : V l G M rm Q X (pc) (lv) (.long y :: .long x :: st) (w) (kc) (ks) := by
  intro p e s m args below meth c C H locs ls hl hW hS
  exact lv_land C.1 C.2.1 hd (k p e s m args below meth c C H locs ls hl hW hS)
theorem v_ior {x y : Int32} (hd : decode M.cc pc = .ok (.ior, 1)) (k : V l G M rm Q X (pc + 1) (lv) (.int (x ||| y) :: st) (w) (kc) (ks)) : V l G M rm Q X (pc) (lv) (.int y :: .int x :: st) (w) (kc) (ks) := by
  intro p e s m args below meth c C H locs ls hl hW hS
  exact lv_ior C.1 C.2.1 hd (k p e s m args below meth c C H locs ls hl hW hS)
theorem v_lor {x y : Int64} (hd : decode M.cc pc = .ok (.lor, 1)) (k : V l G M rm Q X (pc + 1) (lv) (.long (x ||| y) :: st) (w) (kc) (ks)) : V l G M rm Q X (pc) (lv) (.long y :: .long x :: st) (w) (kc) (ks) := by
  intro p e s m args below meth c C H locs ls hl hW hS
  exact lv_lor C.1 C.2.1 hd (k p e s m args below meth c C H locs ls hl hW hS)
theorem v_ixor {x y : Int32} (hd : decode M.cc pc = .ok (.ixor, 1)) (k : V l G M rm Q X (pc + 1) (lv) (.int (x ^^^ y) :: st) (w) (kc) (ks)) : V l G M rm Q X (pc) (lv) (.int y :: .int x :: st) (w) (kc) (ks) := by
  intro p e s m args below meth c C H locs ls hl hW hS
  exact lv_ixor C.1 C.2.1 hd (k p e s m args below meth c C H locs ls hl hW hS)
theorem v_lxor {x y : Int64} (hd : decode M.cc pc = .ok (.lxor, 1)) (k : V l G M rm Q X (pc + 1) (lv) (.long (x ^^^ y) :: st) (w) (kc) (ks)) : V l G M rm Q X (pc) (lv) (.long y :: .long x :: st) (w) (kc) (ks) := by
  intro p e s m args below meth c C H locs ls hl hW hS
  exact lv_lxor C.1 C.2.1 hd (k p e s m args below meth c C H locs ls hl hW hS)
theorem v_lshl {x : Int64} {y : Int32} (hd : decode M.cc pc = .ok (.lshl, 1)) (k : V l G M rm Q X (pc + 1) (lv) (.long (x <<< (y.toInt64 &&& 63)) :: st) (w) (kc) (ks)) : V l G M rm Q X (pc) (lv) (.int y :: .long x :: st) (w) (kc) (ks) := by
  intro p e s m args below meth c C H locs ls hl hW hS
  exact lv_lshl C.1 C.2.1 hd rfl (k p e s m args below meth c C H locs ls hl hW hS)
theorem v_i2l {a : Int} (hd : decode M.cc pc = .ok (.i2l, 1)) (k : V l G M rm Q X (pc + 1) (lv) (.long (lI a) :: st) (w) (kc) (ks)) (ha : -2147483648 ≤ a ∧ a ≤ 2147483647 := by omega) : V l G M rm Q X (pc) (lv) (.int (iI a) :: st) (w) (kc) (ks) := by
  intro p e s m args below meth c C H locs ls hl hW hS
  exact lv_i2l C.1 C.2.1 hd (iI_l ha) (k p e s m args below meth c C H locs ls hl hW hS)
theorem v_l2i {a : Int} (hd : decode M.cc pc = .ok (.l2i, 1)) (k : V l G M rm Q X (pc + 1) (lv) (.int (iI a) :: st) (w) (kc) (ks)) : V l G M rm Q X (pc) (lv) (.long (lI a) :: st) (w) (kc) (ks) := by
  intro p e s m args below meth c C H locs ls hl hW hS
  exact lv_l2i C.1 C.2.1 hd (lI_i a) (k p e s m args below meth c C H locs ls hl hW hS)
theorem v_i2c {x : Int32} (hd : decode M.cc pc = .ok (.i2c, 1)) (k : V l G M rm Q X (pc + 1) (lv) (.int ((x.toUInt32 % 65536).toInt32) :: st) (w) (kc) (ks)) : V l G M rm Q X (pc) (lv) (.int x :: st) (w) (kc) (ks) := by
  intro p e s m args below meth c C H locs ls hl hW hS
  exact lv_i2c C.1 C.2.1 hd rfl (k p e s m args below meth c C H locs ls hl hW hS)
theorem v_l2d {x : Int64} (hd : decode M.cc pc = .ok (.l2d, 1)) (k : V l G M rm Q X (pc + 1) (lv) (.double (FP.l2d x) :: st) (w) (kc) (ks)) : V l G M rm Q X (pc) (lv) (.long x :: st) (w) (kc) (ks) := by
  intro p e s m args below meth c C H locs ls hl hW hS
  exact lv_l2d C.1 C.2.1 hd (k p e s m args below meth c C H locs ls hl hW hS)
theorem v_dadd {x y : UInt64} (hd : decode M.cc pc = .ok (.dadd, 1)) (hn : vf_n64 (FP.dadd x y)) (k : V l G M rm Q X (pc + 1) (lv) (.double (FP.dadd x y) :: st) (w) (kc) (ks)) : V l G M rm Q X (pc) (lv) (.double y :: .double x :: st) (w) (kc) (ks) := by
  intro p e s m args below meth c C H locs ls hl hW hS
  exact lv_dadd C.1 C.2.1 hd hn (k p e s m args below meth c C H locs ls hl hW hS)
theorem v_ddiv {x y : UInt64} (hd : decode M.cc pc = .ok (.ddiv, 1)) (hn : vf_n64 (FP.ddiv x y)) (k : V l G M rm Q X (pc + 1) (lv) (.double (FP.ddiv x y) :: st) (w) (kc) (ks)) : V l G M rm Q X (pc) (lv) (.double y :: .double x :: st) (w) (kc) (ks) := by
  intro p e s m args below meth c C H locs ls hl hW hS
  exact lv_ddiv C.1 C.2.1 hd hn (k p e s m args below meth c C H locs ls hl hW hS)
theorem v_dup {x : Value} (hd : decode M.cc pc = .ok (.dup, 1)) (hx : x.category = 1) (k : V l G M rm Q X (pc + 1) (lv) (x :: x :: st) (w) (kc) (ks)) : V l G M rm Q X (pc) (lv) (x :: st) (w) (kc) (ks) := by
  intro p e s m args below meth c C H locs ls hl hW hS
  exact lv_dup C.1 C.2.1 hd hx (k p e s m args below meth c C H locs ls hl hW hS)
theorem v_pop {x : Value} (hd : decode M.cc pc = .ok (.pop, 1)) (hx : x.category = 1) (k : V l G M rm Q X (pc + 1) (lv) (st) (w) (kc) (ks)) : V l G M rm Q X (pc) (lv) (x :: st) (w) (kc) (ks) := by
  intro p e s m args below meth c C H locs ls hl hW hS
  exact lv_pop C.1 C.2.1 hd hx (k p e s m args below meth c C H locs ls hl hW hS)
theorem v_dup2 {x y : Value} (hd : decode M.cc pc = .ok (.dup2, 1)) (hx : x.category = 1) (hy : y.category = 1) (k : V l G M rm Q X (pc + 1) (lv) (x :: y :: x :: y :: st) (w) (kc) (ks)) : V l G M rm Q X (pc) (lv) (x :: y :: st) (w) (kc) (ks) := by
  intro p e s m args below meth c C H locs ls hl hW hS
  exact lv_dup2_11 C.1 C.2.1 hd hx hy (k p e s m args below meth c C H locs ls hl hW hS)
theorem v_dup2L {x : Value} (hd : decode M.cc pc = .ok (.dup2, 1)) (hx : x.category = 2) (k : V l G M rm Q X (pc + 1) (lv) (x :: x :: st) (w) (kc) (ks)) : V l G M rm Q X (pc) (lv) (x :: st) (w) (kc) (ks) := by
  intro p e s m args below meth c C H locs ls hl hW hS
  exact lv_dup2_2 C.1 C.2.1 hd hx (k p e s m args below meth c C H locs ls hl hW hS)
theorem v_icmp_eq {a b : Int} {off : Int} (tgt : Nat) (hd : decode M.cc pc = .ok (.if_icmp .eq off, 3)) (kt : a = b → V l G M rm Q X (tgt) (lv) (st) (w) (kc) (ks)) (kf : a ≠ b → V l G M rm Q X (pc + 3) (lv) (st) (w) (kc) (ks)) (ht : (pc : Int) + off = (tgt : Int) := by decide) (ha : -2147483648 ≤ a ∧ a ≤ 2147483647 := by omega) (hb : -2147483648 ≤ b ∧ b ≤ 2147483647 := by omega) : V l G M rm Q X (pc) (lv) (.int (iI b) :: .int (iI a) :: st) (w) (kc) (ks) := by
  intro p e s m args below meth c C H locs ls hl hW hS
  exact lv_icmp_eq (tgt := tgt) C.1 C.2.1 hd ht (fun q => kt ((iI_eq ha hb).mp q) p e s m args below meth c C H locs ls hl hW hS) (fun q => kf (fun z => q ((iI_eq ha hb).mpr z)) p e s m args below meth c C H locs ls hl hW hS)
theorem v_if_eq {a : Int} {off : Int} (tgt : Nat) (hd : decode M.cc pc = .ok (.ifCond .eq off, 3)) (kt : a = 0 → V l G M rm Q X (tgt) (lv) (st) (w) (kc) (ks)) (kf : a ≠ 0 → V l G M rm Q X (pc + 3) (lv) (st) (w) (kc) (ks)) (ht : (pc : Int) + off = (tgt : Int) := by decide) (ha : -2147483648 ≤ a ∧ a ≤ 2147483647 := by omega) : V l G M rm Q X (pc) (lv) (.int (iI a) :: st) (w) (kc) (ks) := by
  intro p e s m args below meth c C H locs ls hl hW hS
  have hb : -2147483648 ≤ (0 : Int) ∧ (0 : Int) ≤ 2147483647 := by omega
  refine lv_if_eq (tgt := tgt) C.1 C.2.1 hd ht (fun q => ?_) (fun q => ?_)
  · rw [iI_0] at q
    exact kt ((iI_eq ha hb).mp q) p e s m args below meth c C H locs ls hl hW hS
  · rw [iI_0] at q
    exact kf (fun z => q ((iI_eq ha hb).mpr z)) p e s m args below meth c C H locs ls hl hW hS
theorem v_lif_eq {a b : Int} {off : Int} (tgt : Nat) (hd1 : decode M.cc pc = .ok (.lcmp, 1)) (hd : decode M.cc (pc + 1) = .ok (.ifCond .eq off, 3)) (kt : a = b → V l G M rm Q X (tgt) (lv) (st) (w) (kc) (ks)) (kf : a ≠ b → V l G M rm Q X (pc + 4) (lv) (st) (w) (kc) (ks)) (ht : ((pc + 1 : Nat) : Int) + off = (tgt : Int) := by decide) (ha : -9223372036854775808 ≤ a ∧ a ≤ 9223372036854775807 := by omega) (hb : -9223372036854775808 ≤ b ∧ b ≤ 9223372036854775807 := by omega) : V l G M rm Q X (pc) (lv) (.long (lI b) :: .long (lI a) :: st) (w) (kc) (ks) := by
  intro p e s m args below meth c C H locs ls hl hW hS
  refine W.lcmp C.1 C.2.1 hd1 ?_
  rw [lg_cmp_I ha hb]
  obtain ⟨z, hz⟩ : ∃ z : Int, z = (if b < a then 1 else if a = b then 0 else -1) := ⟨_, rfl⟩
  rw [← hz]
  have hz1 : (z = 1 ∧ b < a) ∨ (z = 0 ∧ a = b) ∨ (z = -1 ∧ a < b) := by
    by_cases h1 : b < a
    · rw [if_pos h1] at hz; exact Or.inl ⟨hz, h1⟩
    · rw [if_neg h1] at hz
      by_cases h2 : a = b
      · rw [if_pos h2] at hz; exact Or.inr (Or.inl ⟨hz, h2⟩)
      · rw [if_neg h2] at hz; exact Or.inr (Or.inr ⟨hz, by omega⟩)
  refine v_if_eq (M := M) (pc := pc + 1) tgt hd (fun q => kt (by omega)) (fun q => kf (by omega)) ht (by omega) p e s m args below meth c C H locs ls hl hW hS
theorem v_icmp_ne {a b : Int} {off : Int} (tgt : Nat) (hd : decode M.cc pc = .ok (.if_icmp .ne off, 3)) (kt : a ≠ b → V l G M rm Q X (tgt) (lv) (st) (w) (kc) (ks)) (kf : a = b → V l G M rm Q X (pc + 3) (lv) (st) (w) (kc) (ks)) (ht : (pc : Int) + off = (tgt : Int) := by decide) (ha : -2147483648 ≤ a ∧ a ≤ 2147483647 := by omega) (hb : -2147483648 ≤ b ∧ b ≤ 2147483647 := by omega) : V l G M rm Q X (pc) (lv) (.int (iI b) :: .int (iI a) :: st) (w) (kc) (ks) := by
  intro p e s m args below meth c C H locs ls hl hW hS
  exact lv_icmp_ne (tgt := tgt) C.1 C.2.1 hd ht (fun q => kt (fun z => q ((iI_eq ha hb).mpr z)) p e s m args below meth c C H locs ls hl hW hS) (fun q => kf ((iI_eq ha hb).mp q) p e s m args below meth c C H locs ls hl hW hS)
theorem v_if_ne {a : Int} {off : Int} (tgt : Nat) (hd : decode M.cc pc = .ok (.ifCond .ne off, 3)) (kt : a ≠ 0 → V l G M rm Q X (tgt) (lv) (st) (w) (kc) (ks)) (kf : a = 0 → V l G M rm Q X (pc + 3) (lv) (st) (w) (kc) (ks)) (ht : (pc : Int) + off = (tgt : Int) := by decide) (ha : -2147483648 ≤ a ∧ a ≤ 2147483647 := by omega) : V l G M rm Q X (pc) (lv) (.int (iI a) :: st) (w) (kc) (ks) := by
  intro p e s m args below meth c C H locs ls hl hW hS
  have hb : -2147483648 ≤ (0 : Int) ∧ (0 : Int) ≤ 2147483647 := by omega
  refine lv_if_ne (tgt := tgt) C.1 C.2.1 hd ht (fun q => ?_) (fun q => ?_)
  · rw [iI_0] at q
    exact kt (fun z => q ((iI_eq ha hb).mpr z)) p e s m args below meth c C H locs ls hl hW hS
  · rw [iI_0] at q
    exact kf ((iI_eq ha hb).mp q) p e s m args below meth c C H locs ls hl hW hS
theorem v_lif_ne {a b : Int} {off : Int} (tgt : Nat) (hd1 : decode M.cc pc = .ok (.lcmp, 1)) (hd : decode M.cc (pc + 1) = .ok (.ifCond .ne off, 3)) (kt : a ≠ b → V l G M rm Q X (tgt) (lv) (st) (w) (kc) (ks)) (kf : a = b → V l G M rm Q X (pc + 4) (lv) (st) (w) (kc) (ks)) (ht : ((pc + 1 : Nat) : Int) + off = (tgt : Int) := by decide) (ha : -9223372036854775808 ≤ a ∧ a ≤ 9223372036854775807 := by omega) (hb : -9223372036854775808 ≤ b ∧ b ≤ 9223372036854775807 := by omega) : V l G M rm Q X (pc) (lv) (.long (lI b) :: .long (lI a) :: st) (w) (kc) (ks) := by
  intro p e s m args below meth c C H locs ls hl hW hS
  refine W.lcmp C.1 C.2.1 hd1 ?_
  rw [lg_cmp_I ha hb]
  obtain ⟨z, hz⟩ : ∃ z : Int, z = (if b < a then 1 else if a = b then 0 else -1) := ⟨_, rfl⟩
  rw [← hz]
  have hz1 : (z = 1 ∧ b < a) ∨ (z = 0 ∧ a = b) ∨ (z = -1 ∧ a < b) := by
    by_cases h1 : b < a
    · rw [if_pos h1] at hz; exact Or.inl ⟨hz, h1⟩
    · rw [if_neg h1] at hz
      by_cases h2 : a = b
      · rw [if_pos h2] at hz; exact Or.inr (Or.inl ⟨hz, h2⟩)
      · rw [if_neg h2] at hz; exact Or.inr (Or.inr ⟨hz, by omega⟩)
  refine v_if_ne (M := M) (pc := pc + 1) tgt hd (fun q => kt (by omega)) (fun q => kf (by omega)) ht (by omega) p e s m args below meth c C H locs ls hl hW hS
theorem v_icmp_lt {a b : Int} {off : Int} (tgt : Nat) (hd : decode M.cc pc = .ok (.if_icmp .lt off, 3)) (kt : a < b → V l G M rm Q X (tgt) (lv) (st) (w) (kc) (ks)) (kf : b ≤ a → V l G M rm Q X (pc + 3) (lv) (st) (w) (kc) (ks)) (ht : (pc : Int) + off = (tgt : Int) := by decide) (ha : -2147483648 ≤ a ∧ a ≤ 2147483647 := by omega) (hb : -2147483648 ≤ b ∧ b ≤ 2147483647 := by omega) : V l G M rm Q X (pc) (lv) (.int (iI b) :: .int (iI a) :: st) (w) (kc) (ks) := by
  intro p e s m args below meth c C H locs ls hl hW hS
  exact lv_icmp_lt (tgt := tgt) C.1 C.2.1 hd ht (fun q => kt ((iI_lt ha hb).mp q) p e s m args below meth c C H locs ls hl hW hS) (fun q => kf (Int.not_lt.mp (fun z => q ((iI_lt ha hb).mpr z))) p e s m args below meth c C H locs ls hl hW hS)
theorem v_if_lt {a : Int} {off : Int} (tgt : Nat) (hd : decode M.cc pc = .ok (.ifCond .lt off, 3)) (kt : a < 0 → V l G M rm Q X (tgt) (lv) (st) (w) (kc) (ks)) (kf : 0 ≤ a → V l G M rm Q X (pc + 3) (lv) (st) (w) (kc) (ks)) (ht : (pc : Int) + off = (tgt : Int) := by decide) (ha : -2147483648 ≤ a ∧ a ≤ 2147483647 := by omega) : V l G M rm Q X (pc) (lv) (.int (iI a) :: st) (w) (kc) (ks) := by
  intro p e s m args below meth c C H locs ls hl hW hS
  have hb : -2147483648 ≤ (0 : Int) ∧ (0 : Int) ≤ 2147483647 := by omega
  refine lv_if_lt (tgt := tgt) C.1 C.2.1 hd ht (fun q => ?_) (fun q => ?_)
  · rw [iI_0] at q
    exact kt ((iI_lt ha hb).mp q) p e s m args below meth c C H locs ls hl hW hS
  · rw [iI_0] at q
    exact kf (Int.not_lt.mp (fun z => q ((iI_lt ha hb).mpr z))) p e s m args below meth c C H locs ls hl hW hS
theorem v_lif_lt {a b : Int} {off : Int} (tgt : Nat) (hd1 : decode M.cc pc = .ok (.lcmp, 1)) (hd : decode M.cc (pc + 1) = .ok (.ifCond .lt off, 3)) (kt : a < b → V l G M rm Q X (tgt) (lv) (st) (w) (kc) (ks)) (kf : b ≤ a → V l G M rm Q X (pc + 4) (lv) (st) (w) (kc) (ks)) (ht : ((pc + 1 : Nat) : Int) + off = (tgt : Int) := by decide) (ha : -9223372036854775808 ≤ a ∧ a ≤ 9223372036854775807 := by omega) (hb : -9223372036854775808 ≤ b ∧ b ≤ 9223372036854775807 := by omega) : V l G M rm Q X (pc) (lv) (.long (lI b) :: .long (lI a) :: st) (w) (kc) (ks) := by
  intro p e s m args below meth c C H locs ls hl hW hS
  refine W.lcmp C.1 C.2.1 hd1 ?_
  rw [lg_cmp_I ha hb]
  obtain ⟨z, hz⟩ : ∃ z : Int, z = (if b < a then 1 else if a = b then 0 else -1) := ⟨_, rfl⟩
  rw [← hz]
  have hz1 : (z = 1 ∧ b < a) ∨ (z = 0 ∧ a = b) ∨ (z = -1 ∧ a < b) := by
    by_cases h1 : b < a
    · rw [if_pos h1] at hz; exact Or.inl ⟨hz, h1⟩
    · rw [if_neg h1] at hz
      by_cases h2 : a = b
      · rw [if_pos h2] at hz; exact Or.inr (Or.inl ⟨hz, h2⟩)
      · rw [if_neg h2] at hz; exact Or.inr (Or.inr ⟨hz, by omega⟩)
  refine v_if_lt (M := M) (pc := pc + 1) tgt hd (fun q => kt (by omega)) (fun q => kf (by omega)) ht (by omega) p e s m args below meth c C H locs ls hl hW hS
theorem v_icmp_ge {a b : Int} {off : Int} (tgt : Nat) (hd : decode M.cc pc = .ok (.if_icmp .ge off, 3)) (kt : b ≤ a → V l G M rm Q X (tgt) (lv) (st) (w) (kc) (ks)) (kf : a < b → V l G M rm Q X (pc + 3) (lv) (st) (w) (kc) (ks)) (ht : (pc : Int) + off = (tgt : Int) := by decide) (ha : -2147483648 ≤ a ∧ a ≤ 2147483647 := by omega) (hb : -2147483648 ≤ b ∧ b ≤ 2147483647 := by omega) : V l G M rm Q X (pc) (lv) (.int (iI b) :: .int (iI a) :: st) (w) (kc) (ks) := by
  intro p e s m args below meth c C H locs ls hl hW hS
  exact lv_icmp_ge (tgt := tgt) C.1 C.2.1 hd ht (fun q => kt ((iI_le hb ha).mp q) p e s m args below meth c C H locs ls hl hW hS) (fun q => kf (Int.not_le.mp (fun z => q ((iI_le hb ha).mpr z))) p e s m args below meth c C H locs ls hl hW hS)
theorem v_if_ge {a : Int} {off : Int} (tgt : Nat) (hd : decode M.cc pc = .ok (.ifCond .ge off, 3)) (kt : 0 ≤ a → V l G M rm Q X (tgt) (lv) (st) (w) (kc) (ks)) (kf : a < 0 → V l G M rm Q X (pc + 3) (lv) (st) (w) (kc) (ks)) (ht : (pc : Int) + off = (tgt : Int) := by decide) (ha : -2147483648 ≤ a ∧ a ≤ 2147483647 := by omega) : V l G M rm Q X (pc) (lv) (.int (iI a) :: st) (w) (kc) (ks) := by
  intro p e s m args below meth c C H locs ls hl hW hS
  have hb : -2147483648 ≤ (0 : Int) ∧ (0 : Int) ≤ 2147483647 := by omega
  refine lv_if_ge (tgt := tgt) C.1 C.2.1 hd ht (fun q => ?_) (fun q => ?_)
  · rw [iI_0] at q
    exact kt ((iI_le hb ha).mp q) p e s m args below meth c C H locs ls hl hW hS
  · rw [iI_0] at q
    exact kf (Int.not_le.mp (fun z => q ((iI_le hb ha).mpr z))) p e s m args below meth c C H locs ls hl hW hS
theorem v_lif_ge {a b : Int} {off : Int} (tgt : Nat) (hd1 : decode M.cc pc = .ok (.lcmp, 1)) (hd : decode M.cc (pc + 1) = .ok (.ifCond .ge off, 3)) (kt : b ≤ a → V l G M rm Q X (tgt) (lv) (st) (w) (kc) (ks)) (kf : a < b → V l G M rm Q X (pc + 4) (lv) (st) (w) (kc) (ks)) (ht : ((pc + 1 : Nat) : Int) + off = (tgt : Int) := by decide) (ha : -9223372036854775808 ≤ a ∧ a ≤ 9223372036854775807 := by omega) (hb : -9223372036854775808 ≤ b ∧ b ≤ 9223372036854775807 := by omega) : V l G M rm Q X (pc) (lv) (.long (lI b) :: .long (lI a) :: st) (w) (kc) (ks) := by
  intro p e s m args below meth c C H locs ls hl hW hS
  refine W.lcmp C.1 C.2.1 hd1 ?_
  rw [lg_cmp_I ha hb]
  obtain ⟨z, hz⟩ : ∃ z : Int, z = (if b < a then 1 else if a = b then 0 else -1) := ⟨_, rfl⟩
  rw [← hz]
  have hz1 : (z = 1 ∧ b < a) ∨ (z = 0 ∧ a = b) ∨ (z = -1 ∧ a < b) := by
    by_cases h1 : b < a
    · rw [if_pos h1] at hz; exact Or.inl ⟨hz, h1⟩
    · rw [if_neg h1] at hz
      by_cases h2 : a = b
      · rw [if_pos h2] at hz; exact Or.inr (Or.inl ⟨hz, h2⟩)
      · rw [if_neg h2] at hz; exact Or.inr (Or.inr ⟨hz, by omega⟩)
  refine v_if_ge (M := M) (pc := pc + 1) tgt hd (fun q => kt (by omega)) (fun q => kf (by omega)) ht (by omega) p e s m args below meth c C H locs ls hl hW hS
theorem v_icmp_gt {a b : Int} {off : Int} (tgt : Nat) (hd : decode M.cc pc = .ok (.if_icmp .gt off, 3)) (kt : b < a → V l G M rm Q X (tgt) (lv) (st) (w) (kc) (ks)) (kf : a ≤ b → V l G M rm Q X (pc + 3) (lv) (st) (w) (kc) (ks)) (ht : (pc : Int) + off = (tgt : Int) := by decide) (ha : -2147483648 ≤ a ∧ a ≤ 2147483647 := by omega) (hb : -2147483648 ≤ b ∧ b ≤ 2147483647 := by omega) : V l G M rm Q X (pc) (lv) (.int (iI b) :: .int (iI a) :: st) (w) (kc) (ks) := by
  intro p e s m args below meth c C H locs ls hl hW hS
  exact lv_icmp_gt (tgt := tgt) C.1 C.2.1 hd ht (fun q => kt ((iI_lt hb ha).mp q) p e s m args below meth c C H locs ls hl hW hS) (fun q => kf (Int.not_lt.mp (fun z => q ((iI_lt hb ha).mpr z))) p e s m args below meth c C H locs ls hl hW hS)
theorem v_if_gt {a : Int} {off : Int} (tgt : Nat) (hd : decode M.cc pc = .ok (.ifCond .gt off, 3)) (kt : 0 < a → V l G M rm Q X (tgt) (lv) (st) (w) (kc) (ks)) (kf : a ≤ 0 → V l G M rm Q X (pc + 3) (lv) (st) (w) (kc) (ks)) (ht : (pc : Int) + off = (tgt : Int) := by decide) (ha : -2147483648 ≤ a ∧ a ≤ 2147483647 := by omega) : V l G M rm Q X (pc) (lv) (.int (iI a) :: st) (w) (kc) (ks) := by
  intro p e s m args below meth c C H locs ls hl hW hS
  have hb : -2147483648 ≤ (0 : Int) ∧ (0 : Int) ≤ 2147483647 := by omega
  refine lv_if_gt (tgt := tgt) C.1 C.2.1 hd ht (fun q => ?_) (fun q => ?_)
  · rw [iI_0] at q
    exact kt ((iI_lt hb ha).mp q) p e s m args below meth c C H locs ls hl hW hS
  · rw [iI_0] at q
    exact kf (Int.not_lt.mp (fun z => q ((iI_lt hb ha).mpr z))) p e s m args below meth c C H locs ls hl hW hS
theorem v_lif_gt {a b : Int} {off : Int} (tgt : Nat) (hd1 : decode M.cc pc = .ok (.lcmp, 1)) (hd : decode M.cc (pc + 1) = .ok (.ifCond .gt off, 3)) (kt : b < a → V l G M rm Q X (tgt) (lv) (st) (w) (kc) (ks)) (kf : a ≤ b → V l G M rm Q X (pc + 4) (lv) (st) (w) (kc) (ks)) (ht : ((pc + 1 : Nat) : Int) + off = (tgt : Int) := by decide) (ha : -9223372036854775808 ≤ a ∧ a ≤ 9223372036854775807 := by omega) (hb : -9223372036854775808 ≤ b ∧ b ≤ 9223372036854775807 := by omega) : V l G M rm Q X (pc) (lv) (.long (lI b) :: .long (lI a) :: st) (w) (kc) (ks) := by
  intro p e s m args below meth c C H locs ls hl hW hS
  refine W.lcmp C.1 C.2.1 hd1 ?_
  rw [lg_cmp_I ha hb]
  obtain ⟨z, hz⟩ : ∃ z : Int, z = (if b < a then 1 else if a = b then 0 else -1) := ⟨_, rfl⟩
  rw [← hz]
  have hz1 : (z = 1 ∧ b < a) ∨ (z = 0 ∧ a = b) ∨ (z = -1 ∧ a < b) := by
    by_cases h1 : b < a
    · rw [if_pos h1] at hz; exact Or.inl ⟨hz, h1⟩
    · rw [if_neg h1] at hz
      by_cases h2 : a = b
      · rw [if_pos h2] at hz; exact Or.inr (Or.inl ⟨hz, h2⟩)
      · rw [if_neg h2] at hz; exact Or.inr (Or.inr ⟨hz, by omega⟩)
  refine v_if_gt (M := M) (pc := pc + 1) tgt hd (fun q => kt (by omega)) (fun q => kf (by omega)) ht (by omega) p e s m args below meth c C H locs ls hl hW hS
theorem v_icmp_le {a b : Int} {off : Int} (tgt : Nat) (hd : decode M.cc pc = .ok (.if_icmp .le off, 3)) (kt : a ≤ b → V l G M rm Q X (tgt) (lv) (st) (w) (kc) (ks)) (kf : b < a → V l G M rm Q X (pc + 3) (lv) (st) (w) (kc) (ks)) (ht : (pc : Int) + off = (tgt : Int) := by decide) (ha : -2147483648 ≤ a ∧ a ≤ 2147483647 := by omega) (hb : -2147483648 ≤ b ∧ b ≤ 2147483647 := by omega) : V l G M rm Q X (pc) (lv) (.int (iI b) :: .int (iI a) :: st) (w) (kc) (ks) := by
  intro p e s m args below meth c C H locs ls hl hW hS
  exact lv_icmp_le (tgt := tgt) C.1 C.2.1 hd ht (fun q => kt ((iI_le ha hb).mp q) p e s m args below meth c C H locs ls hl hW hS) (fun q => kf (Int.not_le.mp (fun z => q ((iI_le ha hb).mpr z))) p e s m args below meth c C H locs ls hl hW hS)
theorem v_if_le {a : Int} {off : Int} (tgt : Nat) (hd : decode M.cc pc = .ok (.ifCond .le off, 3)) (kt : a ≤ 0 → V l G M rm Q X (tgt) (lv) (st) (w) (kc) (ks)) (kf : 0 < a → V l G M rm Q X (pc + 3) (lv) (st) (w) (kc) (ks)) (ht : (pc : Int) + off = (tgt : Int) := by decide) (ha : -2147483648 ≤ a ∧ a ≤ 2147483647 := by omega) : V l G M rm Q X (pc) (lv) (.int (iI a) :: st) (w) (kc) (ks) := by
  intro p e s m args below meth c C H locs ls hl hW hS
  have hb : -2147483648 ≤ (0 : Int) ∧ (0 : Int) ≤ 2147483647 := by omega
  refine lv_if_le (tgt := tgt) C.1 C.2.1 hd ht (fun q => ?_) (fun q => ?_)
  · rw [iI_0] at q
    exact kt ((iI_le ha hb).mp q) p e s m args below meth c C H locs ls hl hW hS
  · rw [iI_0] at q
    exact kf (Int.not_le.mp (fun z => q ((iI_le ha hb).mpr z))) p e s m args below meth c C H locs ls hl hW hS
theorem v_lif_le {a b : Int} {off : Int} (tgt : Nat) (hd1 : decode M.cc pc = .ok (.lcmp, 1)) (hd : decode M.cc (pc + 1) = .ok (.ifCond .le off, 3)) (kt : a ≤ b → V l G M rm Q X (tgt) (lv) (st) (w) (kc) (ks)) (kf : b < a → V l G M rm Q X (pc + 4) (lv) (st) (w) (kc) (ks)) (ht : ((pc + 1 : Nat) : Int) + off = (tgt : Int) := by decide) (ha : -9223372036854775808 ≤ a ∧ a ≤ 9223372036854775807 := by omega) (hb : -9223372036854775808 ≤ b ∧ b ≤ 9223372036854775807 := by omega) : V l G M rm Q X (pc) (lv) (.long (lI b) :: .long (lI a) :: st) (w) (kc) (ks) := by
  intro p e s m args below meth c C H locs ls hl hW hS
  refine W.lcmp C.1 C.2.1 hd1 ?_
  rw [lg_cmp_I ha hb]
  obtain ⟨z, hz⟩ : ∃ z : Int, z = (if b < a then 1 else if a = b then 0 else -1) := ⟨_, rfl⟩
  rw [← hz]
  have hz1 : (z = 1 ∧ b < a) ∨ (z = 0 ∧ a = b) ∨ (z = -1 ∧ a < b) := by
    by_cases h1 : b < a
    · rw [if_pos h1] at hz; exact Or.inl ⟨hz, h1⟩
    · rw [if_neg h1] at hz
      by_cases h2 : a = b
      · rw [if_pos h2] at hz; exact Or.inr (Or.inl ⟨hz, h2⟩)
      · rw [if_neg h2] at hz; exact Or.inr (Or.inr ⟨hz, by omega⟩)
  refine v_if_le (M := M) (pc := pc + 1) tgt hd (fun q => kt (by omega)) (fun q => kf (by omega)) ht (by omega) p e s m args below meth c C H locs ls hl hW hS
theorem v_goto {off : Int} (tgt : Nat) (hd : decode M.cc pc = .ok (.goto off, 3)) (k : V l G M rm Q X (tgt) (lv) (st) (w) (kc) (ks)) (ht : (pc : Int) + off = (tgt : Int) := by decide) : V l G M rm Q X (pc) (lv) (st) (w) (kc) (ks) := by
  intro p e s m args below meth c C H locs ls hl hW hS
  exact lv_goto (tgt := tgt) C.1 C.2.1 hd ht (k p e s m args below meth c C H locs ls hl hW hS)
theorem v_tabIn {dflt lo hi : Int} {offs : Array Int} {len : Nat} {a off : Int} (tgt : Nat) (hd : decode M.cc pc = .ok (.tableswitch dflt lo hi offs, len)) (ho : offs[(a - lo).toNat]? = some off) (k : V l G M rm Q X (tgt) (lv) (st) (w) (kc) (ks)) (ht : (pc : Int) + off = (tgt : Int) := by decide) (h1 : lo ≤ a := by omega) (h2 : a ≤ hi := by omega) (ha : -2147483648 ≤ a ∧ a ≤ 2147483647 := by omega) : V l G M rm Q X (pc) (lv) (.int (iI a) :: st) (w) (kc) (ks) := by
  intro p e s m args below meth c C H locs ls hl hW hS
  exact lv_tableIn (tgt := tgt) C.1 C.2.1 hd (by rw [iI_toInt ha]; omega) (by rw [iI_toInt ha]; omega) (by rw [iI_toInt ha]; exact ho) ht (k p e s m args below meth c C H locs ls hl hW hS)
theorem v_tabOut {dflt lo hi : Int} {offs : Array Int} {len : Nat} {a : Int} (tgt : Nat) (hd : decode M.cc pc = .ok (.tableswitch dflt lo hi offs, len)) (k : V l G M rm Q X (tgt) (lv) (st) (w) (kc) (ks)) (ht : (pc : Int) + dflt = (tgt : Int) := by decide) (h1 : a < lo ∨ hi < a := by omega) (ha : -2147483648 ≤ a ∧ a ≤ 2147483647 := by omega) : V l G M rm Q X (pc) (lv) (.int (iI a) :: st) (w) (kc) (ks) := by
  intro p e s m args below meth c C H locs ls hl hW hS
  exact lv_tableOut (tgt := tgt) C.1 C.2.1 hd (by rw [iI_toInt ha]; exact h1) ht (k p e s m args below meth c C H locs ls hl hW hS)
theorem v_topi {x : Int32} (k : ∀ a : Int, x = iI a → -2147483648 ≤ a ∧ a ≤ 2147483647 → V l G M rm Q X (pc) (lv) (.int (iI a) :: st) (w) (kc) (ks)) : V l G M rm Q X (pc) (lv) (.int x :: st) (w) (kc) (ks) := by
  have h := k x.toInt (iI_of x) (i_rng x)
  rw [← iI_of x] at h
  exact h
theorem v_topl {x : Int64} (k : ∀ a : Int, x = lI a → -9223372036854775808 ≤ a ∧ a ≤ 9223372036854775807 → V l G M rm Q X (pc) (lv) (.long (lI a) :: st) (w) (kc) (ks)) : V l G M rm Q X (pc) (lv) (.long x :: st) (w) (kc) (ks) := by
  have h := k x.toInt (lI_of x) (l_rng x)
  rw [← lI_of x] at h
  exact h
theorem v_iret {x : Int32} (hd : decode M.cc pc = .ok (.ireturn, 1)) (hr : M.ret = some .int) (hq : Q (some (.int x)) w) (h1 : kc ≤ rm.cells := by decide) (h2 : ks ≤ rm.slots := by decide) : V l G M rm Q X (pc) (lv) ([.int x]) (w) (kc) (ks) := by
  intro p e s m args below meth c C H locs ls hl hW hS
  exact W.widen h1 h2 (vx_ret (W.iret C.1 C.2.1 (C.2.2.2.1.trans hr) (fun t ht _ => ⟨_, w, rfl, hq, by rw [ht]; exact hW⟩) hS hd C.2.2.2.2.2.1))
theorem v_zret {a : Int} (hd : decode M.cc pc = .ok (.ireturn, 1)) (hr : M.ret = some .boolean) (hq : Q (some (.int (iI a))) w) (ha : a = 0 ∨ a = 1) (h1 : kc ≤ rm.cells := by decide) (h2 : ks ≤ rm.slots := by decide) : V l G M rm Q X (pc) (lv) ([.int (iI a)]) (w) (kc) (ks) := by
  intro p e s m args below meth c C H locs ls hl hW hS
  exact W.widen h1 h2 (vx_ret (W.zret C.1 C.2.1 (C.2.2.2.1.trans hr) (by rcases ha with rfl | rfl <;> decide +kernel) (fun t ht _ => ⟨_, w, rfl, hq, by rw [ht]; exact hW⟩) hS hd C.2.2.2.2.2.1))
theorem v_cret {x : Int32} (hd : decode M.cc pc = .ok (.ireturn, 1)) (hr : M.ret = some .char) (hq : Q (some (.int x)) w) (hx : narrow .char (.int x) = .int x) (h1 : kc ≤ rm.cells := by decide) (h2 : ks ≤ rm.slots := by decide) : V l G M rm Q X (pc) (lv) ([.int x]) (w) (kc) (ks) := by
  intro p e s m args below meth c C H locs ls hl hW hS
  exact W.widen h1 h2 (vx_ret (W.zret C.1 C.2.1 (C.2.2.2.1.trans hr) hx (fun t ht _ => ⟨_, w, rfl, hq, by rw [ht]; exact hW⟩) hS hd C.2.2.2.2.2.1))
theorem v_lret {x : Int64} (hd : decode M.cc pc = .ok (.lreturn, 1)) (hr : M.ret = some .long) (hq : Q (some (.long x)) w) (h1 : kc ≤ rm.cells := by decide) (h2 : ks ≤ rm.slots := by decide) : V l G M rm Q X (pc) (lv) ([.long x]) (w) (kc) (ks) := by
  intro p e s m args below meth c C H locs ls hl hW hS
  exact W.widen h1 h2 (vx_ret (W.lret C.1 C.2.1 (C.2.2.2.1.trans hr) (fun t ht _ => ⟨_, w, rfl, hq, by rw [ht]; exact hW⟩) hS hd C.2.2.2.2.2.1))
theorem v_dret {x : UInt64} (hd : decode M.cc pc = .ok (.dreturn, 1)) (hr : M.ret = some .double) (hq : Q (some (.double x)) w) (h1 : kc ≤ rm.cells := by decide) (h2 : ks ≤ rm.slots := by decide) : V l G M rm Q X (pc) (lv) ([.double x]) (w) (kc) (ks) := by
  intro p e s m args below meth c C H locs ls hl hW hS
  exact W.widen h1 h2 (vx_ret (W.dret C.1 C.2.1 (C.2.2.2.1.trans hr) (fun t ht _ => ⟨_, w, rfl, hq, by rw [ht]; exact hW⟩) hS hd C.2.2.2.2.2.1))
theorem v_vret (hd : decode M.cc pc = .ok (.return_, 1)) (hr : M.ret = none) (hq : Q none w) (h1 : kc ≤ rm.cells := by decide) (h2 : ks ≤ rm.slots := by decide) : V l G M rm Q X (pc) (lv) ([]) (w) (kc) (ks) := by
  intro p e s m args below meth c C H locs ls hl hW hS
  exact W.widen h1 h2 (vx_ret (W.vret C.1 C.2.1 (C.2.2.2.1.trans hr) (fun t ht _ => ⟨_, w, rfl, hq, by rw [ht]; exact hW⟩) hS hd C.2.2.2.2.2.1))
theorem v_aret {x : Nat} {n : String} (hd : decode M.cc pc = .ok (.areturn, 1)) (hr : M.ret = some (.object n)) (hq : Q (some (.ref x)) w) (h1 : kc ≤ rm.cells := by decide) (h2 : ks ≤ rm.slots := by decide) : V l G M rm Q X (pc) (lv) ([.ref x]) (w) (kc) (ks) := by
  intro p e s m args below meth c C H locs ls hl hW hS
  exact W.widen h1 h2 (vx_ret (W.aret C.1 C.2.1 (C.2.2.2.1.trans hr) (Or.inl ⟨_, rfl⟩) (Or.inr ⟨_, rfl⟩) (fun t ht _ => ⟨_, w, rfl, hq, by rw [ht]; exact hW⟩) hS hd C.2.2.2.2.2.1))
end VR
