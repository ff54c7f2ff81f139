theorem v_throwW {l : Launch} {G : GG} {M : MI} {rm : Room} {Q : Option Value → AH → Prop} {X : String → AH → Prop} {pc : Nat} {lv : Nat → Option Value} {st : List Value} {w : AH} {kc ks : Nat} {E text : String} {ik is ic sk : Nat} (hd0 : decode M.cc pc = .ok (.new ik, 3)) (hd3 : decode M.cc (pc + 3) = .ok (.dup, 1)) (hd4 : decode M.cc (pc + 4) = .ok (.ldc_w is, 3)) (hd7 : decode M.cc (pc + 7) = .ok (.invokespecial ic, 3)) (hd10 : decode M.cc (pc + 10) = .ok (.athrow, 1))
    (hh : M.hh = []) (hk1 : TG (.classLink M.own ik E)) (hk2 : TG (.initialized E)) (hat : TW M.own ic E) (hfit : Bundle.fit E = true) (hsk : strL[sk]? = some (M.own, is, text)) (hx : X E w)
    (h1 : 5 < rm.frames := by decide) (h2 : (st.map fun v => v.category).sum + 82 ≤ rm.locals := by decide) (h3 : kc + 1 ≤ rm.cells := by decide) (h4 : ks + 6 ≤ rm.slots := by decide) : V l G M rm Q X pc lv st w kc ks := by
  intro p e s m args below meth c C H locs ls hl hW hS
  have K := C.kn
  have hHs := C.2.2.2.2.2.2.2.2.2.1
  have hA : ∀ q : Nat, q < G.H0.size → ¬ (fun q => G.H0.size ≤ q) q → s.heap[q]? = G.H0[q]? := fun q hq _ => hHs.2 q hq
  have hot : ∀ c : Cond, TG c → vx_ot c = true := fun c hc => by
    unfold vx_ot
    have := hc.2
    cases c <;> simp_all [okW, goodWord, Cond.onTables]
  intro T hT XX
  have hsz : s.heap.size ≤ H.size := by rw [← hT]; exact XX.same.2.1
  refine vx_throwSW (A := fun q => G.H0.size ≤ q) C.1 C.2.1 C.2.2.2.2.2.2.2.2.2.2 C.own hfit (by decide +kernel) (K.1 _ hk1 args) (K.1 _ hk2 args) (K.2.2.2.1 sk _ hsk) (fun c hc => K.1 c (hat c hc) args) (fun c hc => ?_) (K.2.2.1.1.kept hA) (K.2.2.1.2.kept hA)
    ⟨hsz, fun q hq hnq => ?_, hS⟩ (by rw [C.2.2.1]; exact hl.1) hd0 hd3 hd4 hd7 hd10 (fun z hz => ?_) (by show 2 + 3 < rm.frames; omega) (by show _ + (13 * (2 + 1) + 43) ≤ rm.locals; omega) h3 h4 C.2.2.2.2.2.1 (fun t _ hz ho => ⟨w, hx, hW.grown hz ho⟩) hS h3 h4 T hT XX
  · rcases List.mem_cons.mp hc with rfl | hc
    · exact hot _ hk1
    · rcases List.mem_cons.mp hc with rfl | hc
      · exact hot _ hk2
      · exact hot _ (hat c hc)
  · have hq2 : q < G.H0.size := Nat.not_le.mp hnq
    rw [hW.2.1 q hq2, hHs.2 q hq2]
  · rw [C.2.2.2.2.2.2.2.1, hh] at hz
    cases hz
theorem v_ldcwi {l : Launch} {G : GG} {M : MI} {rm : Room} {Q : Option Value → AH → Prop} {X : String → AH → Prop} {pc : Nat} {lv : Nat → Option Value} {st : List Value} {w : AH} {kc ks : Nat} {ix : Nat} {x : Int32} (z : Int) (hd : decode M.cc pc = .ok (.ldc_w ix, 3)) (hk : TG (.constant M.own ix x)) (k : V l G M rm Q X (pc + 3) lv (.int (iI z) :: st) w kc ks) (hx : x = iI z := by decide +kernel) : V l G M rm Q X pc lv st w kc ks := by
  intro p e s m args below meth c C H locs ls hl hW hS
  subst hx
  exact lv_ldcw C.1 C.2.1 C.2.2.2.2.1 (C.2.2.2.2.2.2.2.2.1.1 _ hk args) hd (k p e s m args below meth c C H locs ls hl hW hS)
theorem tw_53 : TW RX6 53 "java/lang/IllegalArgumentException" := fun c hc => ⟨(by decide +kernel : ∀ c ∈ vx_atS RX6 53 "java/lang/IllegalArgumentException" ["java/lang/RuntimeException", "java/lang/Exception"], c ∈ lw_tbl) c hc, (by decide +kernel : ∀ c ∈ vx_atS RX6 53 "java/lang/IllegalArgumentException" ["java/lang/RuntimeException", "java/lang/Exception"], okW c = true) c hc⟩
theorem tw_78 : TW RX6 78 "java/lang/UnsupportedOperationException" := fun c hc => ⟨(by decide +kernel : ∀ c ∈ vx_atS RX6 78 "java/lang/UnsupportedOperationException" ["java/lang/RuntimeException", "java/lang/Exception"], c ∈ lw_tbl) c hc, (by decide +kernel : ∀ c ∈ vx_atS RX6 78 "java/lang/UnsupportedOperationException" ["java/lang/RuntimeException", "java/lang/Exception"], okW c = true) c hc⟩
theorem tw_114 : TW RX6 114 "java/lang/ArithmeticException" := fun c hc => ⟨(by decide +kernel : ∀ c ∈ vx_atS RX6 114 "java/lang/ArithmeticException" ["java/lang/RuntimeException", "java/lang/Exception"], c ∈ lw_tbl) c hc, (by decide +kernel : ∀ c ∈ vx_atS RX6 114 "java/lang/ArithmeticException" ["java/lang/RuntimeException", "java/lang/Exception"], okW c = true) c hc⟩
theorem tw_283 : TW RX6 283 "java/lang/IndexOutOfBoundsException" := fun c hc => ⟨(by decide +kernel : ∀ c ∈ vx_atS RX6 283 "java/lang/IndexOutOfBoundsException" ["java/lang/RuntimeException", "java/lang/Exception"], c ∈ lw_tbl) c hc, (by decide +kernel : ∀ c ∈ vx_atS RX6 283 "java/lang/IndexOutOfBoundsException" ["java/lang/RuntimeException", "java/lang/Exception"], okW c = true) c hc⟩
