theorem st_all {L : List (String × Nat × String)} {s : State} {cur : ClassId} {a : Array Value} (hc : s.vm.findClass RX6 = some cur) (h : ∀ q ∈ L, q.1 = RX6 ∧ (Cond.stringRef q.1 q.2.1 q.2.2).before a s = true) : ∃ sa : Nat → Nat, ∀ (k : Nat) (q : String × Nat × String), L[k]? = some q → vk_R q.1 q.2.1 q.2.2 (sa k) s := by
  have key : ∀ k : Nat, ∃ b : Nat, ∀ q : String × Nat × String, L[k]? = some q → vk_R q.1 q.2.1 q.2.2 b s := by
    intro k
    cases hq : L[k]? with
    | none => exact ⟨0, fun q h => by cases h⟩
    | some q =>
      obtain ⟨h1, h2⟩ := h q (List.mem_of_getElem? hq)
      obtain ⟨_, _, _, b, _, _, _, _, _, h3⟩ := Cond.stringRef_spec (cls := q.1) (index := q.2.1) (text := q.2.2) (by rw [h1]; exact hc) h2
      exact ⟨b, fun q' hq' => by cases hq'; exact vk_R.of h2 h3⟩
  exact Classical.axiomOfChoice key
theorem mm_str : ∀ q ∈ strL, q.1 = RX6 ∧ Cond.stringRef q.1 q.2.1 q.2.2 ∈ lw_tbl := by decide +kernel
theorem mm_nc : ∀ q ∈ ncL, Cond.not (.castable q.1 q.2) ∈ flatC (Jvm.Cond.and given_1 narrow_1) := by decide +kernel
theorem mm_zu : Cond.isRef (.static Bundle.tN "UNASSIGNED_STACK" Bundle.steD) ∈ flatC (Jvm.Cond.and given_1 narrow_1) := by decide +kernel
theorem mm_zs : Cond.isRef (.static Bundle.tN "SUPPRESSED_SENTINEL" Bundle.listD) ∈ flatC (Jvm.Cond.and given_1 narrow_1) := by decide +kernel
theorem mm_lu : Cond.laysStatic Bundle.tN "UNASSIGNED_STACK" Bundle.steD ∈ lw_tbl := by decide +kernel
theorem mm_ls : Cond.laysStatic Bundle.tN "SUPPRESSED_SENTINEL" Bundle.listD ∈ lw_tbl := by decide +kernel
theorem mm_it : Cond.initialized Bundle.tN ∈ lw_tbl := by decide +kernel
theorem mm_o4 : Cond.arrayOver (.object "TimeDesk$Stamp") ∈ lw_tbl := by decide +kernel
theorem mm_o5 : Cond.arrayOver (.object "TimeDesk$Zone") ∈ lw_tbl := by decide +kernel
theorem mm_o6 : Cond.arrayOver (.object "TimeDesk$Rule") ∈ lw_tbl := by decide +kernel
theorem ar_p {s : State} {t : FieldType} {a : Array Value} (hp : ∀ C, t ≠ .object C) (h : (Cond.arrayClass t).before a s = true) : ∃ d : ClassId, ArrOfT s d t ∧ va_RA s d t := by
  obtain ⟨d, k, p, f, g, e⟩ := Cond.arrayClass_spec h
  refine ⟨d, fun n z => ⟨fun k h => (by cases h), k, g, p, e⟩, ?_⟩
  cases t <;> first | exact f | exact absurd rfl (hp _)
theorem ar_o {s : State} {C : String} {a : Array Value} (h : (Cond.arrayOver (.object C)).before a s = true) : ∃ d : ClassId, ArrOfT s d (.object C) ∧ va_RA s d (.object C) := by
  obtain ⟨p, d, k, q1, q2, q3, q4, q5⟩ := Cond.arrayOver_spec h
  exact ⟨d, fun N z => ⟨(fun k h => by cases h), k, q3, p, q4⟩, k, p, q3, q4, q1, q5⟩
set_option maxRecDepth 100000 in
set_option maxHeartbeats 4000000 in
theorem kn_start {s : State} {b L : Nat} {xs : Nat → Int32} (hts : ∀ w ∈ lw_tbl, w.before #[Value.ref b] s = true) (hX : va_X b L xs s s.heap) (hbl : b < s.heap.size) (hgv : (Jvm.Cond.and given_1 narrow_1).before #[Value.ref b] s = true) : ∃ G : GG, KN G s ∧ G.H0 = s.heap ∧ G.scr = (b, L, xs) := by
  have h1 : ∀ c : Cond, TG c → ∀ a : Array Value, c.before a s = true := fun c hc a => okW_at (State.WarmedH.refl s) hc.2 (hts c hc.1)
  have hs := flat_of_before _ hgv
  obtain ⟨c0, i0, k0⟩ := u_known (C := RX1) (T := TX1) (N := 3) (n := 3) hts (fun w hw => (ck_X1.2.1 w hw).1) (hts _ kx_X1.1)
  obtain ⟨c1, i1, k1⟩ := u_known (C := RX2) (T := TX2) (N := 2) (n := 2) hts (fun w hw => (ck_X2.2.1 w hw).1) (hts _ kx_X2.1)
  obtain ⟨c2, i2, k2⟩ := u_known (C := RX3) (T := TX3) (N := 5) (n := 5) hts (fun w hw => (ck_X3.2.1 w hw).1) (hts _ kx_X3.1)
  obtain ⟨c3, i3, k3⟩ := u_known (C := RX4) (T := TX4) (N := 4) (n := 4) hts (fun w hw => (ck_X4.2.1 w hw).1) (hts _ kx_X4.1)
  obtain ⟨c4, i4, k4⟩ := u_known (C := RX5) (T := TX5) (N := 6) (n := 6) hts (fun w hw => (ck_X5.2.1 w hw).1) (hts _ kx_X5.1)
  obtain ⟨c5, i5, k5⟩ := u_known (C := RX6) (T := TX6) (N := 4) (n := 4) hts (fun w hw => (ck_X6.2.1 w hw).1) (hts _ kx_X6.1)
  obtain ⟨c6, i6, k6⟩ := u_known (C := RX7) (T := TX7) (N := 18) (n := 18) hts (fun w hw => (ck_X7.2.1 w hw).1) (hts _ kx_X7.1)
  obtain ⟨D, hD⟩ : ∃ D : va_G, ∀ (k : Nat) (q : vw_C), vwCl[k]? = some q → u_Kn s q.1 q.2.1 q.2.2 (D.1 k) (D.2 k) := by
    refine ⟨(fun k => if k = 0 then c0 else if k = 1 then c1 else if k = 2 then c2 else if k = 3 then c3 else if k = 4 then c4 else if k = 5 then c5 else c6, fun k => if k = 0 then i0 else if k = 1 then i1 else if k = 2 then i2 else if k = 3 then i3 else if k = 4 then i4 else if k = 5 then i5 else i6), ?_⟩
    intro k q hq
    match k, hq with
    | 0, hq => cases hq; exact k0
    | 1, hq => cases hq; exact k1
    | 2, hq => cases hq; exact k2
    | 3, hq => cases hq; exact k3
    | 4, hq => cases hq; exact k4
    | 5, hq => cases hq; exact k5
    | 6, hq => cases hq; exact k6
    | (k + 7), hq => simp [vwCl] at hq
  obtain ⟨d0, a0⟩ := ar_p (t := .int) (fun C h => by cases h) (h1 _ ka_87 #[])
  obtain ⟨d1, a1⟩ := ar_p (t := .long) (fun C h => by cases h) (h1 _ ka_86 #[])
  obtain ⟨d2, a2⟩ := ar_p (t := .double) (fun C h => by cases h) (h1 _ ka_1115 #[])
  obtain ⟨d3, a3⟩ := ar_p (t := .char) (fun C h => by cases h) (h1 _ ka_123 #[])
  obtain ⟨d4, a4⟩ := ar_o (hts _ mm_o4)
  obtain ⟨d5, a5⟩ := ar_o (hts _ mm_o5)
  obtain ⟨d6, a6⟩ := ar_o (hts _ mm_o6)
  obtain ⟨sa, hsa⟩ := st_all (L := strL) (hD 5 _ rfl).2.1 (fun q hq => ⟨(mm_str q hq).1, hts _ (mm_str q hq).2⟩)
  refine ⟨(D, fun k => if k = 0 then d0 else if k = 1 then d1 else if k = 2 then d2 else if k = 3 then d3 else if k = 4 then d4 else if k = 5 then d5 else d6, s.heap, sa, (b, L, xs)), ⟨h1, ⟨hD, ?_⟩, ⟨?_, ?_⟩, hsa, fun q hq => va_Nc.of (hs _ (mm_nc q hq)), ⟨va_AO.of (hts _ mm_o4), va_AO.of (hts _ mm_o5), va_AO.of (hts _ mm_o6)⟩, hX, hbl⟩, rfl, rfl⟩
  · intro k q hq
    match k, hq with
    | 0, hq => cases hq; exact a0
    | 1, hq => cases hq; exact a1
    | 2, hq => cases hq; exact a2
    | 3, hq => cases hq; exact a3
    | 4, hq => cases hq; exact a4
    | 5, hq => cases hq; exact a5
    | 6, hq => cases hq; exact a6
    | (k + 7), hq => simp [tysG] at hq
  · exact vx_Zqof (hts _ mm_lu) (hts _ mm_it) (hs _ mm_zu) (fun a ha => Nat.not_le.mpr ha)
  · exact vx_Zqof (hts _ mm_ls) (hts _ mm_it) (hs _ mm_zs) (fun a ha => Nat.not_le.mpr ha)
