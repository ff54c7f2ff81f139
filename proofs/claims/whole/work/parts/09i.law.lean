abbrev mL_law : MI := (RL, yL_law, cL_law, 9, some .boolean, [])
def scI (G : GG) (k : Nat) : Int := (G.scr.2.2 k).toInt
theorem scI_e (G : GG) (k : Nat) : G.scr.2.2 k = iI (scI G k) := by
  unfold scI iI
  rw [Int32.ofInt_toInt]
theorem scI_r (G : GG) (k : Nat) : -2147483648 ≤ scI G k ∧ scI G k ≤ 2147483647 := by
  have h1 := Int32.toInt_lt (G.scr.2.2 k)
  have h2 := Int32.le_toInt (G.scr.2.2 k)
  unfold scI
  omega
def mLg (a b : Int) : Int := ((lI a <<< ((iI 32).toInt64 &&& 63)) ||| (lI b &&& lI 4294967295)).toInt
theorem mLg_e (a b : Int) : (lI a <<< ((iI 32).toInt64 &&& 63)) ||| (lI b &&& lI 4294967295) = lI (mLg a b) := by
  unfold mLg
  exact (Int64.ofInt_toInt _).symm
theorem mLg_r (a b : Int) : -9223372036854775808 ≤ mLg a b ∧ mLg a b ≤ 9223372036854775807 := by
  have h1 := Int64.toInt_lt ((lI a <<< ((iI 32).toInt64 &&& 63)) ||| (lI b &&& lI 4294967295))
  have h2 := Int64.le_toInt ((lI a <<< ((iI 32).toInt64 &&& 63)) ||| (lI b &&& lI 4294967295))
  unfold mLg
  omega
def cLg (a : Int) : Int := (((iI a).toUInt32 % 65536).toInt32).toInt
theorem cLg_e (a : Int) : ((iI a).toUInt32 % 65536).toInt32 = iI (cLg a) := by
  unfold cLg
  exact (Int32.ofInt_toInt _).symm
theorem cLg_r (a : Int) : 0 ≤ cLg a ∧ cLg a ≤ 65535 := by
  unfold cLg
  have h : ((iI a).toUInt32 % 65536).toNat < 65536 := by
    rw [UInt32.toNat_mod]
    exact Nat.mod_lt _ (by decide)
  generalize (iI a).toUInt32 % 65536 = u at h
  have h2 : u.toInt32.toInt = (u.toNat : Int) := by
    show u.toBitVec.toInt = (u.toNat : Int)
    rw [BitVec.toInt_eq_toNat_of_lt (by show 2 * u.toNat < 2 ^ 32; omega)]
    rfl
  omega
def aLg (a : Int) : Int := ((iI a) &&& (iI 31)).toInt
theorem aLg_e (a : Int) : (iI a) &&& (iI 31) = iI (aLg a) := by
  unfold aLg
  exact (Int32.ofInt_toInt _).symm
theorem aLg_r (a : Int) : -2147483648 ≤ aLg a ∧ aLg a ≤ 2147483647 := by
  have h1 := Int32.toInt_lt ((iI a) &&& (iI 31))
  have h2 := Int32.le_toInt ((iI a) &&& (iI 31))
  unfold aLg
  omega
section VL
variable {l : Launch} {G : GG} {M : MI} {rm : Room} {Q : Option Value → AH → Prop} {X : String → AH → Prop} {pc : Nat} {lv : Nat → Option Value} {st : List Value} {w : AH} {kc ks : Nat}
theorem v_sldI {i : Int} (hd : decode M.cc pc = .ok (.iaload, 1)) (kk : V l G M rm Q X (pc + 1) lv (.int (iI (scI G i.toNat)) :: st) w kc ks) (hi : 0 ≤ i ∧ i < G.scr.2.1 := by omega) (hr : i ≤ 2147483647 := by omega) : V l G M rm Q X pc lv (.int (iI i) :: .ref G.scr.1 :: st) w kc ks := by
  refine v_sld hd ?_ hi hr
  rw [scI_e]
  exact kk
theorem v_wid {kc' ks' : Nat} (h1 : kc ≤ kc') (h2 : ks ≤ ks') (kk : V l G M rm Q X pc lv st w kc' ks') : V l G M rm Q X pc lv st w kc ks := by
  intro p e s m args below meth c C H locs ls hl hW hS
  exact W.widen h1 h2 (kk p e s m args below meth c C H locs ls hl hW hS)
theorem v_dcmp {x y : UInt64} {op : CmpOp} (hd : decode M.cc pc = .ok (.dcmp op, 1)) (k : V l G M rm Q X (pc + 1) lv (.int (Op.cmpValue (FP.dcmp x y) op) :: st) w kc ks) : V l G M rm Q X pc lv (.double y :: .double x :: st) w kc ks := by
  intro p e s m args below meth c C H locs ls hl hW hS
  exact lv_dcmp C.1 C.2.1 hd (k p e s m args below meth c C H locs ls hl hW hS)
end VL
def iB (B : Nat → Nat) : Prop := ∀ i j : Nat, i < 52 → j < 52 → i ≠ j → B i ≠ B j
def vD (y m d : Int) : Prop := (-9999 ≤ y ∧ y ≤ 9999) ∧ (1 ≤ m ∧ m ≤ 12) ∧ (1 ≤ d ∧ d ≤ lenM y m)
section SP
variable (G : GG) (B : Nat → Nat) (w : AH)
def CAp : Prop := w (B 0) = some (tdC (B 1) (B 10) (B 35) (B 37)) ∧ w (B 1) = some (arA G 4 8 (fun k => some (B (2 + k)))) ∧ w (B 10) = some (arA G 5 4 (fun k => some (B (11 + 6 * k))))
def CLp (L : Int) (gl : Nat → Int) : Prop := (∃ p : Nat, p ≤ 30 ∧ w (B 35) = some (liC (B 36) L p)) ∧ w (B 36) = some (acA G 30 gl)
def CPp (gp : Nat → Int) : Prop := (∃ n : Nat, w (B 37) = some (paC (B 38) n)) ∧ w (B 38) = some (acA G 30 gp)
def CSp (gd gn : Nat → Int) : Prop := ∀ k : Nat, k < 8 → ∃ y m d : Int, w (B (2 + k)) = some (stC y m d (gn k)) ∧ vD y m d ∧ ed y m d = gd k ∧ (0 ≤ gn k ∧ gn k ≤ 86399999999999)
def CZp (z : Nat) (f c r : Int) (gm go : Nat → Int) (ru : Nat → Nat → Int) : Prop := w (B (11 + 6 * z)) = some (zoC f (B (12 + 6 * z)) (B (13 + 6 * z)) c (B (14 + 6 * z)) r) ∧ w (B (12 + 6 * z)) = some (alA G 8 gm) ∧ w (B (13 + 6 * z)) = some (aiA G 8 go) ∧ w (B (14 + 6 * z)) = some (arA G 6 2 (fun k => some (B (15 + 6 * z + k)))) ∧ (∀ k : Nat, k < 2 → w (B (15 + 6 * z + k)) = some (ruC (ru k 0) (ru k 1) (ru k 2) (ru k 3) (ru k 4)))
def MVp (gd gn : Nat → Int) (L : Int) (gl gp gF gC gM gO gK gR : Nat → Int) : Prop := (∃ th yr mo da ap wr sz : Int, w (B 39) = some (mdC (fun k => B (40 + k)) th yr mo da L ap wr sz)) ∧ w (B 40) = some (alA G 8 gd) ∧ w (B 41) = some (alA G 8 gn) ∧ MA G w (fun k => B (40 + k)) gF gC gM gO gK gR ∧ w (B 48) = some (aiA G 30 gl) ∧ w (B 49) = some (aiA G 40 gp)
def OVp : Prop := (∃ v : Nat → Int, w (B 50) = some (alA G 1 v)) ∧ (∃ f : Nat → UInt64, w (B 51) = some (adA G 1 f))
end SP
def DVp (L : Int) (gl : Nat → Int) (fz cz rz : Nat → Int) (gm go : Nat → Nat → Int) (ru : Nat → Nat → Nat → Int) (gF gC gM gO gK gR : Nat → Int) : Prop := (0 ≤ L ∧ L ≤ 30) ∧ (∀ k : Nat, 0 ≤ gl k ∧ gl k ≤ 65535) ∧ (∀ z : Nat, z < 4 → ZOK (fz z) (cz z) (rz z) (gm z) (go z) (ru z) ∧ LK gF gC gM gO gK gR z (fz z) (cz z) (rz z) (gm z) (go z) (ru z))
def SS (G : GG) (B : Nat → Nat) (w : AH) : Prop := ∃ (gd gn : Nat → Int) (L : Int) (gl gp : Nat → Int) (fz cz rz : Nat → Int) (gm go : Nat → Nat → Int) (ru : Nat → Nat → Nat → Int) (gF gC gM gO gK gR : Nat → Int),
  CAp G B w ∧ CLp G B w L gl ∧ CPp G B w gp ∧ CSp B w gd gn ∧ (∀ z : Nat, z < 4 → CZp G B w z (fz z) (cz z) (rz z) (gm z) (go z) (ru z)) ∧ MVp G B w gd gn L gl gp gF gC gM gO gK gR ∧ OVp G B w ∧ DVp L gl fz cz rz gm go ru gF gC gM gO gK gR
section FRm
variable {G : GG} {B : Nat → Nat} {w w' : AH}
theorem CAp.fr (h : CAp G B w) (hf : ∀ i : Nat, (i = 0 ∨ i = 1 ∨ i = 10) → w' (B i) = w (B i)) : CAp G B w' := ⟨(hf 0 (by omega)).trans h.1, (hf 1 (by omega)).trans h.2.1, (hf 10 (by omega)).trans h.2.2⟩
theorem CLp.fr {L : Int} {gl : Nat → Int} (h : CLp G B w L gl) (hf : ∀ i : Nat, (i = 35 ∨ i = 36) → w' (B i) = w (B i)) : CLp G B w' L gl := by
  obtain ⟨⟨p, h1, h2⟩, h3⟩ := h
  exact ⟨⟨p, h1, (hf 35 (by omega)).trans h2⟩, (hf 36 (by omega)).trans h3⟩
theorem CPp.fr {gp : Nat → Int} (h : CPp G B w gp) (hf : ∀ i : Nat, (i = 37 ∨ i = 38) → w' (B i) = w (B i)) : CPp G B w' gp := by
  obtain ⟨⟨p, h2⟩, h3⟩ := h
  exact ⟨⟨p, (hf 37 (by omega)).trans h2⟩, (hf 38 (by omega)).trans h3⟩
theorem CSp.fr {gd gn : Nat → Int} (h : CSp B w gd gn) (hf : ∀ i : Nat, (2 ≤ i ∧ i ≤ 9) → w' (B i) = w (B i)) : CSp B w' gd gn := by
  intro k hk
  obtain ⟨y, m, d, h1, h2⟩ := h k hk
  exact ⟨y, m, d, (hf (2 + k) (by omega)).trans h1, h2⟩
theorem CZp.fr {z : Nat} {f c r : Int} {gm go : Nat → Int} {ru : Nat → Nat → Int} (h : CZp G B w z f c r gm go ru) (hf : ∀ i : Nat, (11 + 6 * z ≤ i ∧ i ≤ 16 + 6 * z) → w' (B i) = w (B i)) : CZp G B w' z f c r gm go ru :=
  ⟨(hf _ (by omega)).trans h.1, (hf _ (by omega)).trans h.2.1, (hf _ (by omega)).trans h.2.2.1, (hf _ (by omega)).trans h.2.2.2.1, fun k hk => (hf _ (by omega)).trans (h.2.2.2.2 k hk)⟩
theorem MVp.fr {gd gn : Nat → Int} {L : Int} {gl gp gF gC gM gO gK gR : Nat → Int} (h : MVp G B w gd gn L gl gp gF gC gM gO gK gR) (hf : ∀ i : Nat, (39 ≤ i ∧ i ≤ 49) → w' (B i) = w (B i)) : MVp G B w' gd gn L gl gp gF gC gM gO gK gR := by
  obtain ⟨⟨th, yr, mo, da, ap, wr, sz, h1⟩, h2, h3, ⟨m1, m2, m3, m4, m5, m6⟩, h5, h6⟩ := h
  exact ⟨⟨th, yr, mo, da, ap, wr, sz, (hf 39 (by omega)).trans h1⟩, (hf 40 (by omega)).trans h2, (hf 41 (by omega)).trans h3, ⟨(hf 42 (by omega)).trans m1, (hf 43 (by omega)).trans m2, (hf 44 (by omega)).trans m3, (hf 45 (by omega)).trans m4, (hf 46 (by omega)).trans m5, (hf 47 (by omega)).trans m6⟩, (hf 48 (by omega)).trans h5, (hf 49 (by omega)).trans h6⟩
theorem OVp.fr (h : OVp G B w) (hf : ∀ i : Nat, (50 ≤ i ∧ i ≤ 51) → w' (B i) = w (B i)) : OVp G B w' := by
  obtain ⟨⟨v, h1⟩, f, h2⟩ := h
  exact ⟨⟨v, (hf 50 (by omega)).trans h1⟩, f, (hf 51 (by omega)).trans h2⟩
theorem stC_inj {y m d n y' m' d' n' : Int} (h : stC y m d n = stC y' m' d' n') (v : vD y m d) (v' : vD y' m' d') (hn : 0 ≤ n ∧ n ≤ 86399999999999) (hn' : 0 ≤ n' ∧ n' ≤ 86399999999999) : y = y' ∧ m = m' ∧ d = d' ∧ n = n' := by
  have l1 := lenM_rng y m
  have l2 := lenM_rng y' m'
  obtain ⟨a1, a2, a3⟩ := v
  obtain ⟨b1, b2, b3⟩ := v'
  unfold stC at h
  injection h with h
  injection h with h1 h2
  injection h2 with c1 h2
  injection h2 with c2 h2
  injection h2 with c3 h2
  injection h2 with c4 h2
  injection c1 with c1
  injection c2 with c2
  injection c3 with c3
  injection c4 with c4
  exact ⟨(iI_eq (by omega) (by omega)).mp c1, (iI_eq (by omega) (by omega)).mp c2, (iI_eq (by omega) (by omega)).mp c3, (lI_eq (by omega) (by omega)).mp c4⟩
theorem gup_s {g : Nat → Int} {k : Nat} {x : Int} : gup g k x k = x := if_pos rfl
theorem gup_n {g : Nat → Int} {k j : Nat} {x : Int} (h : j ≠ k) : gup g k x j = g j := if_neg h
theorem fup_s {α : Type} {g : Nat → α} {k : Nat} {x : α} : fup g k x k = x := if_pos rfl
theorem fup_n {α : Type} {g : Nat → α} {k j : Nat} {x : α} (h : j ≠ k) : fup g k x j = g j := if_neg h
theorem CSp.st {gd gn : Nat → Int} (hB : iB B) (h : CSp B w gd gn) {k : Nat} (hk : k < 8) {y m d n : Int} (hv : vD y m d) (hn : 0 ≤ n ∧ n ≤ 86399999999999) : CSp B (aup w (B (2 + k)) (stC y m d n)) (gup gd k (ed y m d)) (gup gn k n) := by
  intro j hj
  by_cases e : j = k
  · subst e
    exact ⟨y, m, d, by rw [aup_s, gup_s], hv, gup_s.symm, by rw [gup_s]; exact hn⟩
  · obtain ⟨y1, m1, d1, h1, h2, h3, h4⟩ := h j hj
    exact ⟨y1, m1, d1, by rw [aup_n (hB _ _ (by omega) (by omega) (by omega)), gup_n e]; exact h1, h2, by rw [gup_n e]; exact h3, by rw [gup_n e]; exact h4⟩
end FRm
