def fgd (d : FP.Core.Datum) : Prop := (∃ s, d = .inf s) ∨ ∃ s c q, d = .fin s c q ∧ c < 9007199254740992 ∧ (-1074 : Int) ≤ q ∧ q ≤ 971
def ffn (d : FP.Core.Datum) (b : Int) : Prop := ∃ s c q, d = .fin s c q ∧ c < 9007199254740992 ∧ (-1074 : Int) ≤ q ∧ q ≤ b
theorem fb1 : FP.Core.b64.tails = 4503599627370496 := by decide
theorem fb2 : FP.Core.b64.exps = 2048 := by decide
theorem fb3 : FP.Core.b64.qmin = -1074 := by decide
theorem fb4 : FP.Core.b64.qmax = 971 := by decide
theorem fb5 : 2 ^ FP.Core.b64.p = 9007199254740992 := by decide
theorem f_asm {s : Bool} {e t : Nat} (he : e ≤ 2047) (ht : t < 4503599627370496) : ∃ n : Nat, FP.Core.assemble FP.Core.b64 s e t = n ∧ n < 18446744073709551616 ∧ n % 9223372036854775808 = e * 4503599627370496 + t ∧ n / 4503599627370496 % 2048 = e ∧ n % 4503599627370496 = t := by
  refine ⟨_, rfl, ?_⟩
  unfold FP.Core.assemble
  rw [fb1, fb2]
  cases s
  · show (0 * 2048 + e) * 4503599627370496 + t < _ ∧ ((0 * 2048 + e) * 4503599627370496 + t) % _ = _ ∧ ((0 * 2048 + e) * 4503599627370496 + t) / _ % _ = _ ∧ ((0 * 2048 + e) * 4503599627370496 + t) % _ = _
    omega
  · show (1 * 2048 + e) * 4503599627370496 + t < _ ∧ ((1 * 2048 + e) * 4503599627370496 + t) % _ = _ ∧ ((1 * 2048 + e) * 4503599627370496 + t) / _ % _ = _ ∧ ((1 * 2048 + e) * 4503599627370496 + t) % _ = _
    omega
theorem f_vf {n : Nat} (h : n < 18446744073709551616) (h2 : n % 9223372036854775808 ≤ 9218868437227405312) : vf_n64 (UInt64.ofNat n) := by
  unfold vf_n64
  rw [UInt64.le_iff_toNat_le, UInt64.toNat_and, UInt64.toNat_ofNat_of_lt' (by exact h)]
  show n &&& (2 ^ 63 - 1) ≤ 9218868437227405312
  rw [Nat.and_two_pow_sub_one_eq_mod]
  exact h2
theorem f_enc {d : FP.Core.Datum} (h : fgd d) : vf_n64 (UInt64.ofNat (FP.Core.encode FP.Core.b64 d)) ∧ fgd (FP.Core.decode FP.Core.b64 (UInt64.ofNat (FP.Core.encode FP.Core.b64 d)).toNat) := by
  rcases h with ⟨s, h⟩ | ⟨s, c, q, h, hc, hq, hq2⟩
  · subst h
    obtain ⟨n, e1, e2, e3, e4, e5⟩ := f_asm (s := s) (e := 2047) (t := 0) (by omega) (by omega)
    have e0 : FP.Core.encode FP.Core.b64 (.inf s) = n := e1
    rw [e0]
    refine ⟨f_vf e2 (by omega), ?_⟩
    rw [UInt64.toNat_ofNat_of_lt' (by exact e2)]
    unfold FP.Core.decode FP.Core.fieldE FP.Core.fieldT
    rw [fb1, fb2, e4, e5, if_pos rfl, if_pos rfl]
    exact Or.inl ⟨_, rfl⟩
  · subst h
    by_cases hs : c < 4503599627370496
    · obtain ⟨n, e1, e2, e3, e4, e5⟩ := f_asm (s := s) (e := 0) (t := c) (by omega) hs
      have e0 : FP.Core.encode FP.Core.b64 (.fin s c q) = n := by
        show (if c < FP.Core.b64.tails then _ else _) = n
        rw [if_pos (by rw [fb1]; exact hs)]
        exact e1
      rw [e0]
      refine ⟨f_vf e2 (by omega), ?_⟩
      rw [UInt64.toNat_ofNat_of_lt' (by exact e2)]
      unfold FP.Core.decode FP.Core.fieldE FP.Core.fieldT
      rw [fb1, fb2, e4, e5, fb3, if_neg (by decide), if_pos rfl]
      exact Or.inr ⟨_, _, _, rfl, hc, by omega, by omega⟩
    · obtain ⟨n, e1, e2, e3, e4, e5⟩ := f_asm (s := s) (e := (q - -1074).toNat + 1) (t := c - 4503599627370496) (by omega) (by omega)
      have e0 : FP.Core.encode FP.Core.b64 (.fin s c q) = n := by
        show (if c < FP.Core.b64.tails then _ else _) = n
        rw [if_neg (by rw [fb1]; exact hs), fb1, fb3]
        exact e1
      rw [e0]
      refine ⟨f_vf e2 (by omega), ?_⟩
      rw [UInt64.toNat_ofNat_of_lt' (by exact e2)]
      unfold FP.Core.decode FP.Core.fieldE FP.Core.fieldT
      rw [fb1, fb2, e4, e5, fb3, if_neg (by omega), if_neg (by omega)]
      exact Or.inr ⟨_, _, _, rfl, by omega, by omega, by omega⟩
theorem f_encF {d : FP.Core.Datum} {b : Int} (h : ffn d b) (hb : -1074 ≤ b ∧ b ≤ 971) : ffn (FP.Core.decode FP.Core.b64 (UInt64.ofNat (FP.Core.encode FP.Core.b64 d)).toNat) b := by
  obtain ⟨s, c, q, h, hc, hq, hq2⟩ := h
  subst h
  by_cases hs : c < 4503599627370496
  · obtain ⟨n, e1, e2, e3, e4, e5⟩ := f_asm (s := s) (e := 0) (t := c) (by omega) hs
    have e0 : FP.Core.encode FP.Core.b64 (.fin s c q) = n := by
      show (if c < FP.Core.b64.tails then _ else _) = n
      rw [if_pos (by rw [fb1]; exact hs)]
      exact e1
    rw [e0, UInt64.toNat_ofNat_of_lt' (by exact e2)]
    unfold FP.Core.decode FP.Core.fieldE FP.Core.fieldT
    rw [fb1, fb2, e4, e5, fb3, if_neg (by decide), if_pos rfl]
    exact ⟨_, _, _, rfl, hc, by omega, by omega⟩
  · obtain ⟨n, e1, e2, e3, e4, e5⟩ := f_asm (s := s) (e := (q - -1074).toNat + 1) (t := c - 4503599627370496) (by omega) (by omega)
    have e0 : FP.Core.encode FP.Core.b64 (.fin s c q) = n := by
      show (if c < FP.Core.b64.tails then _ else _) = n
      rw [if_neg (by rw [fb1]; exact hs), fb1, fb3]
      exact e1
    rw [e0, UInt64.toNat_ofNat_of_lt' (by exact e2)]
    unfold FP.Core.decode FP.Core.fieldE FP.Core.fieldT
    rw [fb1, fb2, e4, e5, fb3, if_neg (by omega), if_neg (by omega)]
    exact ⟨_, _, _, rfl, by omega, by omega, by omega⟩
theorem f_bound {s : Bool} {c : Nat} {q : Int} (hc : c < 9007199254740992) (hq : -1074 ≤ q) : fgd (FP.Core.bound FP.Core.b64 s c q) := by
  unfold FP.Core.bound
  rw [fb4]
  split
  · rename_i h
    exact Or.inr ⟨_, _, _, rfl, hc, hq, h⟩
  · exact Or.inl ⟨_, rfl⟩
theorem f_settle {s : Bool} {c : Nat} {q : Int} (hq : -1074 ≤ q) : fgd (FP.Core.settle FP.Core.b64 s c q) := by
  unfold FP.Core.settle
  rw [fb5, fb1]
  split
  · rename_i h
    exact f_bound h hq
  · exact f_bound (by omega) (by omega)
theorem f_settleF {s : Bool} {c : Nat} {q b : Int} (hq : -1074 ≤ q) (hb : q < b) (hb2 : b ≤ 971) : ffn (FP.Core.settle FP.Core.b64 s c q) b := by
  unfold FP.Core.settle FP.Core.bound
  rw [fb5, fb1, fb4]
  split
  · rename_i h
    rw [if_pos (by omega)]
    exact ⟨_, _, _, rfl, h, hq, by omega⟩
  · rw [if_pos (by omega)]
    exact ⟨_, _, _, rfl, by omega, by omega, by omega⟩
theorem f_quant {num den : Nat} {e : Int} : -1074 ≤ FP.Core.quantum FP.Core.b64 num den e := by
  unfold FP.Core.quantum
  rw [fb3]
  exact Int.le_max_left _ _
theorem f_rr {s : Bool} {num den : Nat} {e : Int} : fgd (FP.Core.roundRatio FP.Core.b64 s num den e) := by
  unfold FP.Core.roundRatio FP.Core.roundAt
  split
  · rw [fb3]
    exact Or.inr ⟨_, _, _, rfl, by omega, by omega, by omega⟩
  · exact f_settle f_quant
theorem f_lead {num den : Nat} {b : Nat} (hn : num.log2 ≤ b + den.log2) : FP.Core.leading num den ≤ b := by
  unfold FP.Core.leading
  simp only []
  split <;> omega
theorem f_rrF {s : Bool} {num den : Nat} {e b : Int} {k : Nat} (hk : num.log2 ≤ k + den.log2) (hb : -1074 < b ∧ b ≤ 971) (he : k + e - 52 < b) : ffn (FP.Core.roundRatio FP.Core.b64 s num den e) b := by
  unfold FP.Core.roundRatio FP.Core.roundAt
  split
  · rw [fb3]
    exact ⟨_, _, _, rfl, by omega, by omega, by omega⟩
  · refine f_settleF f_quant ?_ hb.2
    unfold FP.Core.quantum
    rw [fb3]
    have h1 := f_lead hk
    have h2 : ((FP.Core.b64.p : Nat) : Int) = 53 := by decide
    rw [h2]
    rcases Int.le_total (-1074) (FP.Core.leading num den + e - (53 - 1)) with g | g
    · rw [Int.max_eq_right g]; omega
    · rw [Int.max_eq_left g]; omega
theorem f_log {n k : Nat} (h : n < 2 ^ (k + 1)) : n.log2 ≤ k := by
  rcases Nat.eq_zero_or_pos n with h0 | h0
  · subst h0; exact Nat.zero_le _
  · exact Nat.le_of_lt_succ ((Nat.log2_lt (by omega)).mpr h)
theorem f_l2d {x : Int64} : ffn (FP.Core.decode FP.Core.b64 (FP.l2d x).toNat) 20 := by
  refine f_encF (d := FP.Core.round FP.Core.b64 (FP.Core.ofInt x.toInt)) ?_ (by omega)
  show ffn (FP.Core.roundRatio FP.Core.b64 _ x.toInt.natAbs 1 0) 20
  have h1 := Int64.toInt_lt x
  have h2 := Int64.le_toInt x
  refine f_rrF (k := 63) ?_ (by omega) (by omega)
  refine Nat.le_trans (f_log (k := 63) ?_) (by omega)
  have : (2 : Nat) ^ (63 + 1) = 18446744073709551616 := by decide
  omega
theorem f_c1 : ∃ s c q, FP.Core.decode FP.Core.b64 (4702495533095190528 : UInt64).toNat = .fin s c q := ⟨false, 5241121747763200, -31, by decide +kernel⟩
theorem f_c2 : FP.Core.decode FP.Core.b64 (4815374002031689728 : UInt64).toNat = .fin false 5529600000000000 (-6) := by decide +kernel
theorem f_sum {a b : FP.Core.Datum} (ha : fgd a) (hb : ∃ s c q, b = .fin s c q) : fgd (FP.Core.round FP.Core.b64 (FP.Core.exactSum a b)) := by
  obtain ⟨s', c', q', rfl⟩ := hb
  rcases ha with ⟨s, h⟩ | ⟨s, c, q, h, _⟩
  · subst h
    exact Or.inl ⟨s, rfl⟩
  · subst h
    exact f_rr
theorem f_j1 {x : Int64} : vf_n64 (FP.dadd (FP.l2d x) 4702495533095190528) ∧ fgd (FP.Core.decode FP.Core.b64 (FP.dadd (FP.l2d x) 4702495533095190528).toNat) := by
  obtain ⟨s, c, q, h, hc, h1, h2⟩ := f_l2d (x := x)
  exact f_enc (f_sum (by rw [h]; exact Or.inr ⟨s, c, q, rfl, hc, h1, by omega⟩) f_c1)
theorem f_j2 {x : Int64} : vf_n64 (FP.ddiv (FP.l2d x) 4815374002031689728) ∧ ffn (FP.Core.decode FP.Core.b64 (FP.ddiv (FP.l2d x) 4815374002031689728).toNat) 900 := by
  obtain ⟨s, c, q, h, hc, h1, h2⟩ := f_l2d (x := x)
  have hq : ffn (FP.Core.quotient FP.Core.b64 (FP.Core.decode FP.Core.b64 (FP.l2d x).toNat) (FP.Core.decode FP.Core.b64 (4815374002031689728 : UInt64).toNat)) 900 := by
    rw [h, f_c2]
    show ffn (if (5529600000000000 : Nat) = 0 then (if c = 0 then .nan else .inf (s != false)) else FP.Core.roundRatio FP.Core.b64 (s != false) c 5529600000000000 (q - -6)) 900
    rw [if_neg (by decide)]
    refine f_rrF (k := 0) ?_ (by omega) (by omega)
    have h3 : (5529600000000000 : Nat).log2 = 52 := by decide +kernel
    rw [h3]
    exact f_log (k := 52) hc
  have hg : fgd (FP.Core.quotient FP.Core.b64 (FP.Core.decode FP.Core.b64 (FP.l2d x).toNat) (FP.Core.decode FP.Core.b64 (4815374002031689728 : UInt64).toNat)) := by
    obtain ⟨a, b, d, e, e1, e2, e3⟩ := hq
    exact Or.inr ⟨a, b, d, e, e1, e2, by omega⟩
  exact ⟨(f_enc hg).1, f_encF hq (by omega)⟩
def jD (e n : Int) : UInt64 := FP.dadd (FP.dadd (FP.l2d (lI e)) 4702495533095190528) (FP.ddiv (FP.l2d (lI n)) 4815374002031689728)
theorem f_j3 {x y : Int64} : vf_n64 (FP.dadd (FP.dadd (FP.l2d x) 4702495533095190528) (FP.ddiv (FP.l2d y) 4815374002031689728)) ∧ fgd (FP.Core.decode FP.Core.b64 (FP.dadd (FP.dadd (FP.l2d x) 4702495533095190528) (FP.ddiv (FP.l2d y) 4815374002031689728)).toNat) := by
  obtain ⟨s, c, q, h, hc, h1, h2⟩ := (f_j2 (x := y)).2
  exact f_enc (f_sum f_j1.2 ⟨s, c, q, h⟩)
theorem f_cmp {v : UInt64} (h : fgd (FP.Core.decode FP.Core.b64 v.toNat)) : FP.dcmp v v = some .eq := by
  show FP.Core.order (FP.Core.decode FP.Core.b64 v.toNat) (FP.Core.decode FP.Core.b64 v.toNat) = some .eq
  rcases h with ⟨s, h⟩ | ⟨s, c, q, h, _⟩
  · rw [h]
    show some (compare _ _) = _
    rw [Int.compare_eq_eq.mpr rfl]
  · rw [h]
    show some (compare _ _) = _
    rw [Int.compare_eq_eq.mpr rfl]
theorem jD_cmp (e n : Int) : FP.dcmp (jD e n) (jD e n) = some .eq := f_cmp f_j3.2
