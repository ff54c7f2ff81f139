abbrev mL_law : MI := (RL, yL_law, cL_law, 9, some .boolean, [])
def scI (G : GG) (k : Nat) : Int := (G.scr.2.2 k).toInt
theorem scI_e (G : GG) (k : Nat) : G.scr.2.2 k = iI (scI G k) := by
  unfold scI iI
  rw [Int32.ofInt_toInt]
theorem scI_r (G : GG) (k : Nat) : -2147483648 ≤ scI G k ∧ scI G k ≤ 2147483647 := by
  have h1 := Int32.toInt_lt (G.scr.2.2 k)
  have h2 := Int32.le_toInt (G.scr.2.2 k)
  unfold scI
  omega
def mLg (a b : Int) : Int := ((lI a <<< ((iI 32).toInt64 &&& 63)) ||| (lI b &&& lI 4294967295)).toInt
theorem mLg_e (a b : Int) : (lI a <<< ((iI 32).toInt64 &&& 63)) ||| (lI b &&& lI 4294967295) = lI (mLg a b) := by
  unfold mLg
  exact (Int64.ofInt_toInt _).symm
theorem mLg_r (a b : Int) : -9223372036854775808 ≤ mLg a b ∧ mLg a b ≤ 9223372036854775807 := by
  have h1 := Int64.toInt_lt ((lI a <<< ((iI 32).toInt64 &&& 63)) ||| (lI b &&& lI 4294967295))
  have h2 := Int64.le_toInt ((lI a <<< ((iI 32).toInt64 &&& 63)) ||| (lI b &&& lI 4294967295))
  unfold mLg
  omega
def cLg (a : Int) : Int := (((iI a).toUInt32 % 65536).toInt32).toInt
theorem cLg_e (a : Int) : ((iI a).toUInt32 % 65536).toInt32 = iI (cLg a) := by
  unfold cLg
  exact (Int32.ofInt_toInt _).symm
theorem cLg_r (a : Int) : 0 ≤ cLg a ∧ cLg a ≤ 65535 := by
  unfold cLg
  have h : ((iI a).toUInt32 % 65536).toNat < 65536 := by
    rw [UInt32.toNat_mod]
    exact Nat.mod_lt _ (by decide)
  generalize (iI a).toUInt32 % 65536 = u at h
  have h2 : u.toInt32.toInt = (u.toNat : Int) := by
    show u.toBitVec.toInt = (u.toNat : Int)
    rw [BitVec.toInt_eq_toNat_of_lt (by show 2 * u.toNat < 2 ^ 32; omega)]
    rfl
  omega
def aLg (a : Int) : Int := ((iI a) &&& (iI 31)).toInt
theorem aLg_e (a : Int) : (iI a) &&& (iI 31) = iI (aLg a) := by
  unfold aLg
  exact (Int32.ofInt_toInt _).symm
theorem aLg_r (a : Int) : -2147483648 ≤ aLg a ∧ aLg a ≤ 2147483647 := by
  have h1 := Int32.toInt_lt ((iI a) &&& (iI 31))
  have h2 := Int32.le_toInt ((iI a) &&& (iI 31))
  unfold aLg
  omega
section VL
variable {l : Launch} {G : GG} {M : MI} {rm : Room} {Q : Option Value → AH → Prop} {X : String → AH → Prop} {pc : Nat} {lv : Nat → Option Value} {st : List Value} {w : AH} {kc ks : Nat}
theorem v_sldI {i : Int} (hd : decode M.cc pc = .ok (.iaload, 1)) (kk : V l G M rm Q X (pc + 1) lv (.int (iI (scI G i.toNat)) :: st) w kc ks) (hi : 0 ≤ i ∧ i < G.scr.2.1 := by omega) (hr : i ≤ 2147483647 := by omega) : V l G M rm Q X pc lv (.int (iI i) :: .ref G.scr.1 :: st) w kc ks := by
  refine v_sld hd ?_ hi hr
  rw [scI_e]
  exact kk
theorem v_sldA {i a : Int} (hd : decode M.cc pc = .ok (.iaload, 1)) (ha : scI G i.toNat = a) (kk : V l G M rm Q X (pc + 1) lv (.int (iI a) :: st) w kc ks) (hi : 0 ≤ i ∧ i < G.scr.2.1 := by omega) (hr : i ≤ 2147483647 := by omega) : V l G M rm Q X pc lv (.int (iI i) :: .ref G.scr.1 :: st) w kc ks := by
  subst ha
  exact v_sldI hd kk hi hr
theorem v_lorL {a b t : Int} (hd : decode M.cc pc = .ok (.lor, 1)) (ht : mLg a b = t) (kk : V l G M rm Q X (pc + 1) lv (.long (lI t) :: st) w kc ks) : V l G M rm Q X pc lv (.long (lI b &&& lI 4294967295) :: .long (lI a <<< ((iI 32).toInt64 &&& 63)) :: st) w kc ks := by
  subst ht
  refine v_lor hd ?_
  rw [mLg_e]
  exact kk
theorem v_i2cL {a c : Int} (hd : decode M.cc pc = .ok (.i2c, 1)) (hc : cLg a = c) (kk : V l G M rm Q X (pc + 1) lv (.int (iI c) :: st) w kc ks) : V l G M rm Q X pc lv (.int (iI a) :: st) w kc ks := by
  subst hc
  refine v_i2c hd ?_
  rw [cLg_e]
  exact kk
theorem v_iandL {a c : Int} (hd : decode M.cc pc = .ok (.iand, 1)) (hc : aLg a = c) (kk : V l G M rm Q X (pc + 1) lv (.int (iI c) :: st) w kc ks) : V l G M rm Q X pc lv (.int (iI 31) :: .int (iI a) :: st) w kc ks := by
  subst hc
  refine v_iand hd ?_
  rw [aLg_e]
  exact kk
theorem v_wid {kc' ks' : Nat} (h1 : kc ≤ kc') (h2 : ks ≤ ks') (kk : V l G M rm Q X pc lv st w kc' ks') : V l G M rm Q X pc lv st w kc ks := by
  intro p e s m args below meth c C H locs ls hl hW hS
  exact W.widen h1 h2 (kk p e s m args below meth c C H locs ls hl hW hS)
theorem v_dcmp {x y : UInt64} {op : CmpOp} (hd : decode M.cc pc = .ok (.dcmp op, 1)) (k : V l G M rm Q X (pc + 1) lv (.int (Op.cmpValue (FP.dcmp x y) op) :: st) w kc ks) : V l G M rm Q X pc lv (.double y :: .double x :: st) w kc ks := by
  intro p e s m args below meth c C H locs ls hl hW hS
  exact lv_dcmp C.1 C.2.1 hd (k p e s m args below meth c C H locs ls hl hW hS)
end VL
def iB (B : Nat → Nat) : Prop := ∀ i j : Nat, i < 52 → j < 52 → i ≠ j → B i ≠ B j
def vD (y m d : Int) : Prop := (-9999 ≤ y ∧ y ≤ 9999) ∧ (1 ≤ m ∧ m ≤ 12) ∧ (1 ≤ d ∧ d ≤ lenM y m)
section SP
variable (G : GG) (B : Nat → Nat) (w : AH)
def CAp : Prop := w (B 0) = some (tdC (B 1) (B 10) (B 35) (B 37)) ∧ w (B 1) = some (arA G 4 8 (fun k => some (B (2 + k)))) ∧ w (B 10) = some (arA G 5 4 (fun k => some (B (11 + 6 * k))))
def CLp (L : Int) (gl : Nat → Int) : Prop := (∃ p : Nat, w (B 35) = some (liC (B 36) L p)) ∧ w (B 36) = some (acA G 30 gl)
def CPp (gp : Nat → Int) : Prop := (∃ n : Nat, w (B 37) = some (paC (B 38) n)) ∧ w (B 38) = some (acA G 30 gp)
def CSp (gd gn : Nat → Int) : Prop := ∀ k : Nat, k < 8 → ∃ y m d : Int, w (B (2 + k)) = some (stC y m d (gn k)) ∧ vD y m d ∧ ed y m d = gd k ∧ (0 ≤ gn k ∧ gn k ≤ 86399999999999)
def CZp (z : Nat) (f c r : Int) (gm go : Nat → Int) (ru : Nat → Nat → Int) : Prop := w (B (11 + 6 * z)) = some (zoC f (B (12 + 6 * z)) (B (13 + 6 * z)) c (B (14 + 6 * z)) r) ∧ w (B (12 + 6 * z)) = some (alA G 8 gm) ∧ w (B (13 + 6 * z)) = some (aiA G 8 go) ∧ w (B (14 + 6 * z)) = some (arA G 6 2 (fun k => some (B (15 + 6 * z + k)))) ∧ (∀ k : Nat, k < 2 → w (B (15 + 6 * z + k)) = some (ruC (ru k 0) (ru k 1) (ru k 2) (ru k 3) (ru k 4)))
def OVp : Prop := (∃ v : Nat → Int, w (B 50) = some (alA G 1 v)) ∧ (∃ f : Nat → UInt64, w (B 51) = some (adA G 1 f))
end SP
def DVp (L : Int) (gl : Nat → Int) (fz cz rz : Nat → Int) (gm go : Nat → Nat → Int) (ru : Nat → Nat → Nat → Int) (gF gC gM gO gK gR : Nat → Int) : Prop := (0 ≤ L ∧ L ≤ 30) ∧ (∀ k : Nat, 0 ≤ gl k ∧ gl k ≤ 65535) ∧ (∀ z : Nat, z < 4 → ZOK (fz z) (cz z) (rz z) (gm z) (go z) (ru z) ∧ LK gF gC gM gO gK gR z (fz z) (cz z) (rz z) (gm z) (go z) (ru z))
section FRm
variable {G : GG} {B : Nat → Nat} {w w' : AH}
theorem CAp.fr (h : CAp G B w) (hf : ∀ i : Nat, (i = 0 ∨ i = 1 ∨ i = 10) → w' (B i) = w (B i)) : CAp G B w' := ⟨(hf 0 (by omega)).trans h.1, (hf 1 (by omega)).trans h.2.1, (hf 10 (by omega)).trans h.2.2⟩
theorem CLp.fr {L : Int} {gl : Nat → Int} (h : CLp G B w L gl) (hf : ∀ i : Nat, (i = 35 ∨ i = 36) → w' (B i) = w (B i)) : CLp G B w' L gl := by
  obtain ⟨⟨p, h2⟩, h3⟩ := h
  exact ⟨⟨p, (hf 35 (by omega)).trans h2⟩, (hf 36 (by omega)).trans h3⟩
theorem CPp.fr {gp : Nat → Int} (h : CPp G B w gp) (hf : ∀ i : Nat, (i = 37 ∨ i = 38) → w' (B i) = w (B i)) : CPp G B w' gp := by
  obtain ⟨⟨p, h2⟩, h3⟩ := h
  exact ⟨⟨p, (hf 37 (by omega)).trans h2⟩, (hf 38 (by omega)).trans h3⟩
theorem CSp.fr {gd gn : Nat → Int} (h : CSp B w gd gn) (hf : ∀ i : Nat, (2 ≤ i ∧ i ≤ 9) → w' (B i) = w (B i)) : CSp B w' gd gn := by
  intro k hk
  obtain ⟨y, m, d, h1, h2⟩ := h k hk
  exact ⟨y, m, d, (hf (2 + k) (by omega)).trans h1, h2⟩
theorem CZp.fr {z : Nat} {f c r : Int} {gm go : Nat → Int} {ru : Nat → Nat → Int} (h : CZp G B w z f c r gm go ru) (hf : ∀ i : Nat, (11 + 6 * z ≤ i ∧ i ≤ 16 + 6 * z) → w' (B i) = w (B i)) : CZp G B w' z f c r gm go ru :=
  ⟨(hf _ (by omega)).trans h.1, (hf _ (by omega)).trans h.2.1, (hf _ (by omega)).trans h.2.2.1, (hf _ (by omega)).trans h.2.2.2.1, fun k hk => (hf _ (by omega)).trans (h.2.2.2.2 k hk)⟩
theorem OVp.fr (h : OVp G B w) (hf : ∀ i : Nat, (50 ≤ i ∧ i ≤ 51) → w' (B i) = w (B i)) : OVp G B w' := by
  obtain ⟨⟨v, h1⟩, f, h2⟩ := h
  exact ⟨⟨v, (hf 50 (by omega)).trans h1⟩, f, (hf 51 (by omega)).trans h2⟩
theorem stC_inj {y m d n y' m' d' n' : Int} (h : stC y m d n = stC y' m' d' n') (v : vD y m d) (v' : vD y' m' d') (hn : 0 ≤ n ∧ n ≤ 86399999999999) (hn' : 0 ≤ n' ∧ n' ≤ 86399999999999) : y = y' ∧ m = m' ∧ d = d' ∧ n = n' := by
  have l1 := lenM_rng y m
  have l2 := lenM_rng y' m'
  obtain ⟨a1, a2, a3⟩ := v
  obtain ⟨b1, b2, b3⟩ := v'
  unfold stC at h
  injection h with h
  injection h with h1 h2
  injection h2 with c1 h2
  injection h2 with c2 h2
  injection h2 with c3 h2
  injection h2 with c4 h2
  injection c1 with c1
  injection c2 with c2
  injection c3 with c3
  injection c4 with c4
  exact ⟨(iI_eq (by omega) (by omega)).mp c1, (iI_eq (by omega) (by omega)).mp c2, (iI_eq (by omega) (by omega)).mp c3, (lI_eq (by omega) (by omega)).mp c4⟩
theorem gup_s {g : Nat → Int} {k : Nat} {x : Int} : gup g k x k = x := if_pos rfl
theorem gup_n {g : Nat → Int} {k j : Nat} {x : Int} (h : j ≠ k) : gup g k x j = g j := if_neg h
theorem fup_s {α : Type} {g : Nat → α} {k : Nat} {x : α} : fup g k x k = x := if_pos rfl
theorem fup_n {α : Type} {g : Nat → α} {k j : Nat} {x : α} (h : j ≠ k) : fup g k x j = g j := if_neg h
theorem CSp.st {gd gn : Nat → Int} (hB : iB B) (h : CSp B w gd gn) {k : Nat} (hk : k < 8) {y m d n : Int} (hv : vD y m d) (hn : 0 ≤ n ∧ n ≤ 86399999999999) : CSp B (aup w (B (2 + k)) (stC y m d n)) (gup gd k (ed y m d)) (gup gn k n) := by
  intro j hj
  by_cases e : j = k
  · subst e
    exact ⟨y, m, d, by rw [aup_s, gup_s], hv, gup_s.symm, by rw [gup_s]; exact hn⟩
  · obtain ⟨y1, m1, d1, h1, h2, h3, h4⟩ := h j hj
    exact ⟨y1, m1, d1, by rw [aup_n (hB _ _ (by omega) (by omega) (by omega)), gup_n e]; exact h1, h2, by rw [gup_n e]; exact h3, by rw [gup_n e]; exact h4⟩
end FRm
def CC (G : GG) (B : Nat → Nat) (w : AH) (gd gn : Nat → Int) (L : Int) (gl : Nat → Int) (fz cz rz : Nat → Int) (gm go : Nat → Nat → Int) (ru : Nat → Nat → Nat → Int) : Prop := CAp G B w ∧ CLp G B w L gl ∧ (∃ gp : Nat → Int, CPp G B w gp) ∧ CSp B w gd gn ∧ (∀ z : Nat, z < 4 → CZp G B w z (fz z) (cz z) (rz z) (gm z) (go z) (ru z))
def MM (G : GG) (B : Nat → Nat) (w : AH) (th : Int) (gd gn : Nat → Int) (L : Int) (gl gF gC gM gO gK gR : Nat → Int) : Prop := ∃ (yr mo da ap wr sz : Int) (gp : Nat → Int), w (B 39) = some (mdC (fun k => B (40 + k)) th yr mo da L ap wr sz) ∧ w (B (40 + 0)) = some (alA G 8 gd) ∧ w (B (40 + 1)) = some (alA G 8 gn) ∧ MA G w (fun k => B (40 + k)) gF gC gM gO gK gR ∧ w (B (40 + 8)) = some (aiA G 30 gl) ∧ w (B (40 + 9)) = some (aiA G 40 gp)
def SS (G : GG) (B : Nat → Nat) (w : AH) : Prop := ∃ (th : Int) (gd gn : Nat → Int) (L : Int) (gl fz cz rz : Nat → Int) (gm go : Nat → Nat → Int) (ru : Nat → Nat → Nat → Int) (gF gC gM gO gK gR : Nat → Int), CC G B w gd gn L gl fz cz rz gm go ru ∧ MM G B w th gd gn L gl gF gC gM gO gK gR ∧ OVp G B w ∧ DVp L gl fz cz rz gm go ru gF gC gM gO gK gR
section SSm
variable {G : GG} {B : Nat → Nat} {w w' : AH} {th : Int} {gd gn : Nat → Int} {L : Int} {gl fz cz rz : Nat → Int} {gm go : Nat → Nat → Int} {ru : Nat → Nat → Nat → Int} {gF gC gM gO gK gR : Nat → Int} {e : va_E}
theorem SS.of (c : CC G B w gd gn L gl fz cz rz gm go ru) (m : MM G B w th gd gn L gl gF gC gM gO gK gR) (o : OVp G B w) (d : DVp L gl fz cz rz gm go ru gF gC gM gO gK gR) : SS G B w := ⟨th, gd, gn, L, gl, fz, cz, rz, gm, go, ru, gF, gC, gM, gO, gK, gR, c, m, o, d⟩
theorem kp (hB : iB B) {k : Nat} (hk : k < 52) (i : Nat) (hi : i < 52) (h : i ≠ k) : aup w (B k) e (B i) = w (B i) := aup_n (hB i k hi hk h)
theorem CC.keep (h : CC G B w gd gn L gl fz cz rz gm go ru) (hf : ∀ i : Nat, i < 39 → w' (B i) = w (B i)) : CC G B w' gd gn L gl fz cz rz gm go ru := by
  obtain ⟨h1, h2, ⟨gp, h3⟩, h4, h5⟩ := h
  exact ⟨h1.fr (fun i hi => hf i (by omega)), h2.fr (fun i hi => hf i (by omega)), ⟨gp, h3.fr (fun i hi => hf i (by omega))⟩, h4.fr (fun i hi => hf i (by omega)), fun z hz => (h5 z hz).fr (fun i hi => hf i (by omega))⟩
theorem CC.o (h : CC G B w gd gn L gl fz cz rz gm go ru) (hB : iB B) {k : Nat} (hk : 39 ≤ k ∧ k < 52) : CC G B (aup w (B k) e) gd gn L gl fz cz rz gm go ru := h.keep (fun i hi => kp hB (by omega) i (by omega) (by omega))
theorem MM.keep (h : MM G B w th gd gn L gl gF gC gM gO gK gR) (hf : ∀ i : Nat, (39 ≤ i ∧ i ≤ 49) → w' (B i) = w (B i)) : MM G B w' th gd gn L gl gF gC gM gO gK gR := by
  obtain ⟨yr, mo, da, ap, wr, sz, gp, h1, h2, h3, ⟨m1, m2, m3, m4, m5, m6⟩, h5, h6⟩ := h
  exact ⟨yr, mo, da, ap, wr, sz, gp, (hf 39 (by omega)).trans h1, (hf (40 + 0) (by omega)).trans h2, (hf (40 + 1) (by omega)).trans h3, ⟨(hf (40 + 2) (by omega)).trans m1, (hf (40 + 3) (by omega)).trans m2, (hf (40 + 4) (by omega)).trans m3, (hf (40 + 5) (by omega)).trans m4, (hf (40 + 6) (by omega)).trans m5, (hf (40 + 7) (by omega)).trans m6⟩, (hf (40 + 8) (by omega)).trans h5, (hf (40 + 9) (by omega)).trans h6⟩
theorem MM.c (h : MM G B w th gd gn L gl gF gC gM gO gK gR) (hB : iB B) {k : Nat} (hk : (k < 39 ∨ 50 ≤ k) ∧ k < 52) : MM G B (aup w (B k) e) th gd gn L gl gF gC gM gO gK gR := h.keep (fun i hi => kp hB (by omega) i (by omega) (by omega))
theorem OVp.c (h : OVp G B w) (hB : iB B) {k : Nat} (hk : k < 50) : OVp G B (aup w (B k) e) := h.fr (fun i hi => kp hB (by omega) i (by omega) (by omega))
theorem OVp.l {v : Nat → Int} (h : OVp G B w) (hB : iB B) : OVp G B (aup w (B 50) (alA G 1 v)) := by
  obtain ⟨-, f, h2⟩ := h
  exact ⟨⟨v, aup_s⟩, f, (kp hB (by omega) 51 (by omega) (by omega)).trans h2⟩
theorem OVp.d {f : Nat → UInt64} (h : OVp G B w) (hB : iB B) : OVp G B (aup w (B 51) (adA G 1 f)) := by
  obtain ⟨⟨v, h1⟩, -⟩ := h
  exact ⟨⟨v, (kp hB (by omega) 50 (by omega) (by omega)).trans h1⟩, f, aup_s⟩
theorem MM.md {th' a1 a2 a3 L' a4 a5 a6 : Int} (h : MM G B w th gd gn L gl gF gC gM gO gK gR) (hB : iB B) : MM G B (aup w (B 39) (mdC (fun k => B (40 + k)) th' a1 a2 a3 L' a4 a5 a6)) th' gd gn L' gl gF gC gM gO gK gR := by
  obtain ⟨yr, mo, da, ap, wr, sz, gp, h1, h2, h3, ⟨m1, m2, m3, m4, m5, m6⟩, h5, h6⟩ := h
  exact ⟨a1, a2, a3, a4, a5, a6, gp, aup_s, (kp hB (by omega) (40 + 0) (by omega) (by omega)).trans h2, (kp hB (by omega) (40 + 1) (by omega) (by omega)).trans h3, ⟨(kp hB (by omega) (40 + 2) (by omega) (by omega)).trans m1, (kp hB (by omega) (40 + 3) (by omega) (by omega)).trans m2, (kp hB (by omega) (40 + 4) (by omega) (by omega)).trans m3, (kp hB (by omega) (40 + 5) (by omega) (by omega)).trans m4, (kp hB (by omega) (40 + 6) (by omega) (by omega)).trans m5, (kp hB (by omega) (40 + 7) (by omega) (by omega)).trans m6⟩, (kp hB (by omega) (40 + 8) (by omega) (by omega)).trans h5, (kp hB (by omega) (40 + 9) (by omega) (by omega)).trans h6⟩
theorem MM.d {g' : Nat → Int} (h : MM G B w th gd gn L gl gF gC gM gO gK gR) (hB : iB B) : MM G B (aup w (B (40 + 0)) (alA G 8 g')) th g' gn L gl gF gC gM gO gK gR := by
  obtain ⟨yr, mo, da, ap, wr, sz, gp, h1, h2, h3, ⟨m1, m2, m3, m4, m5, m6⟩, h5, h6⟩ := h
  exact ⟨yr, mo, da, ap, wr, sz, gp, (kp hB (by omega) (39) (by omega) (by omega)).trans h1, aup_s, (kp hB (by omega) (40 + 1) (by omega) (by omega)).trans h3, ⟨(kp hB (by omega) (40 + 2) (by omega) (by omega)).trans m1, (kp hB (by omega) (40 + 3) (by omega) (by omega)).trans m2, (kp hB (by omega) (40 + 4) (by omega) (by omega)).trans m3, (kp hB (by omega) (40 + 5) (by omega) (by omega)).trans m4, (kp hB (by omega) (40 + 6) (by omega) (by omega)).trans m5, (kp hB (by omega) (40 + 7) (by omega) (by omega)).trans m6⟩, (kp hB (by omega) (40 + 8) (by omega) (by omega)).trans h5, (kp hB (by omega) (40 + 9) (by omega) (by omega)).trans h6⟩
theorem MM.n {g' : Nat → Int} (h : MM G B w th gd gn L gl gF gC gM gO gK gR) (hB : iB B) : MM G B (aup w (B (40 + 1)) (alA G 8 g')) th gd g' L gl gF gC gM gO gK gR := by
  obtain ⟨yr, mo, da, ap, wr, sz, gp, h1, h2, h3, ⟨m1, m2, m3, m4, m5, m6⟩, h5, h6⟩ := h
  exact ⟨yr, mo, da, ap, wr, sz, gp, (kp hB (by omega) (39) (by omega) (by omega)).trans h1, (kp hB (by omega) (40 + 0) (by omega) (by omega)).trans h2, aup_s, ⟨(kp hB (by omega) (40 + 2) (by omega) (by omega)).trans m1, (kp hB (by omega) (40 + 3) (by omega) (by omega)).trans m2, (kp hB (by omega) (40 + 4) (by omega) (by omega)).trans m3, (kp hB (by omega) (40 + 5) (by omega) (by omega)).trans m4, (kp hB (by omega) (40 + 6) (by omega) (by omega)).trans m5, (kp hB (by omega) (40 + 7) (by omega) (by omega)).trans m6⟩, (kp hB (by omega) (40 + 8) (by omega) (by omega)).trans h5, (kp hB (by omega) (40 + 9) (by omega) (by omega)).trans h6⟩
theorem MM.zF {g' : Nat → Int} (h : MM G B w th gd gn L gl gF gC gM gO gK gR) (hB : iB B) : MM G B (aup w (B (40 + 2)) (aiA G 4 g')) th gd gn L gl g' gC gM gO gK gR := by
  obtain ⟨yr, mo, da, ap, wr, sz, gp, h1, h2, h3, ⟨m1, m2, m3, m4, m5, m6⟩, h5, h6⟩ := h
  exact ⟨yr, mo, da, ap, wr, sz, gp, (kp hB (by omega) (39) (by omega) (by omega)).trans h1, (kp hB (by omega) (40 + 0) (by omega) (by omega)).trans h2, (kp hB (by omega) (40 + 1) (by omega) (by omega)).trans h3, ⟨aup_s, (kp hB (by omega) (40 + 3) (by omega) (by omega)).trans m2, (kp hB (by omega) (40 + 4) (by omega) (by omega)).trans m3, (kp hB (by omega) (40 + 5) (by omega) (by omega)).trans m4, (kp hB (by omega) (40 + 6) (by omega) (by omega)).trans m5, (kp hB (by omega) (40 + 7) (by omega) (by omega)).trans m6⟩, (kp hB (by omega) (40 + 8) (by omega) (by omega)).trans h5, (kp hB (by omega) (40 + 9) (by omega) (by omega)).trans h6⟩
theorem MM.zC {g' : Nat → Int} (h : MM G B w th gd gn L gl gF gC gM gO gK gR) (hB : iB B) : MM G B (aup w (B (40 + 3)) (aiA G 4 g')) th gd gn L gl gF g' gM gO gK gR := by
  obtain ⟨yr, mo, da, ap, wr, sz, gp, h1, h2, h3, ⟨m1, m2, m3, m4, m5, m6⟩, h5, h6⟩ := h
  exact ⟨yr, mo, da, ap, wr, sz, gp, (kp hB (by omega) (39) (by omega) (by omega)).trans h1, (kp hB (by omega) (40 + 0) (by omega) (by omega)).trans h2, (kp hB (by omega) (40 + 1) (by omega) (by omega)).trans h3, ⟨(kp hB (by omega) (40 + 2) (by omega) (by omega)).trans m1, aup_s, (kp hB (by omega) (40 + 4) (by omega) (by omega)).trans m3, (kp hB (by omega) (40 + 5) (by omega) (by omega)).trans m4, (kp hB (by omega) (40 + 6) (by omega) (by omega)).trans m5, (kp hB (by omega) (40 + 7) (by omega) (by omega)).trans m6⟩, (kp hB (by omega) (40 + 8) (by omega) (by omega)).trans h5, (kp hB (by omega) (40 + 9) (by omega) (by omega)).trans h6⟩
theorem MM.zM {g' : Nat → Int} (h : MM G B w th gd gn L gl gF gC gM gO gK gR) (hB : iB B) : MM G B (aup w (B (40 + 4)) (alA G 32 g')) th gd gn L gl gF gC g' gO gK gR := by
  obtain ⟨yr, mo, da, ap, wr, sz, gp, h1, h2, h3, ⟨m1, m2, m3, m4, m5, m6⟩, h5, h6⟩ := h
  exact ⟨yr, mo, da, ap, wr, sz, gp, (kp hB (by omega) (39) (by omega) (by omega)).trans h1, (kp hB (by omega) (40 + 0) (by omega) (by omega)).trans h2, (kp hB (by omega) (40 + 1) (by omega) (by omega)).trans h3, ⟨(kp hB (by omega) (40 + 2) (by omega) (by omega)).trans m1, (kp hB (by omega) (40 + 3) (by omega) (by omega)).trans m2, aup_s, (kp hB (by omega) (40 + 5) (by omega) (by omega)).trans m4, (kp hB (by omega) (40 + 6) (by omega) (by omega)).trans m5, (kp hB (by omega) (40 + 7) (by omega) (by omega)).trans m6⟩, (kp hB (by omega) (40 + 8) (by omega) (by omega)).trans h5, (kp hB (by omega) (40 + 9) (by omega) (by omega)).trans h6⟩
theorem MM.zO {g' : Nat → Int} (h : MM G B w th gd gn L gl gF gC gM gO gK gR) (hB : iB B) : MM G B (aup w (B (40 + 5)) (aiA G 32 g')) th gd gn L gl gF gC gM g' gK gR := by
  obtain ⟨yr, mo, da, ap, wr, sz, gp, h1, h2, h3, ⟨m1, m2, m3, m4, m5, m6⟩, h5, h6⟩ := h
  exact ⟨yr, mo, da, ap, wr, sz, gp, (kp hB (by omega) (39) (by omega) (by omega)).trans h1, (kp hB (by omega) (40 + 0) (by omega) (by omega)).trans h2, (kp hB (by omega) (40 + 1) (by omega) (by omega)).trans h3, ⟨(kp hB (by omega) (40 + 2) (by omega) (by omega)).trans m1, (kp hB (by omega) (40 + 3) (by omega) (by omega)).trans m2, (kp hB (by omega) (40 + 4) (by omega) (by omega)).trans m3, aup_s, (kp hB (by omega) (40 + 6) (by omega) (by omega)).trans m5, (kp hB (by omega) (40 + 7) (by omega) (by omega)).trans m6⟩, (kp hB (by omega) (40 + 8) (by omega) (by omega)).trans h5, (kp hB (by omega) (40 + 9) (by omega) (by omega)).trans h6⟩
theorem MM.zK {g' : Nat → Int} (h : MM G B w th gd gn L gl gF gC gM gO gK gR) (hB : iB B) : MM G B (aup w (B (40 + 6)) (aiA G 4 g')) th gd gn L gl gF gC gM gO g' gR := by
  obtain ⟨yr, mo, da, ap, wr, sz, gp, h1, h2, h3, ⟨m1, m2, m3, m4, m5, m6⟩, h5, h6⟩ := h
  exact ⟨yr, mo, da, ap, wr, sz, gp, (kp hB (by omega) (39) (by omega) (by omega)).trans h1, (kp hB (by omega) (40 + 0) (by omega) (by omega)).trans h2, (kp hB (by omega) (40 + 1) (by omega) (by omega)).trans h3, ⟨(kp hB (by omega) (40 + 2) (by omega) (by omega)).trans m1, (kp hB (by omega) (40 + 3) (by omega) (by omega)).trans m2, (kp hB (by omega) (40 + 4) (by omega) (by omega)).trans m3, (kp hB (by omega) (40 + 5) (by omega) (by omega)).trans m4, aup_s, (kp hB (by omega) (40 + 7) (by omega) (by omega)).trans m6⟩, (kp hB (by omega) (40 + 8) (by omega) (by omega)).trans h5, (kp hB (by omega) (40 + 9) (by omega) (by omega)).trans h6⟩
theorem MM.zR {g' : Nat → Int} (h : MM G B w th gd gn L gl gF gC gM gO gK gR) (hB : iB B) : MM G B (aup w (B (40 + 7)) (aiA G 40 g')) th gd gn L gl gF gC gM gO gK g' := by
  obtain ⟨yr, mo, da, ap, wr, sz, gp, h1, h2, h3, ⟨m1, m2, m3, m4, m5, m6⟩, h5, h6⟩ := h
  exact ⟨yr, mo, da, ap, wr, sz, gp, (kp hB (by omega) (39) (by omega) (by omega)).trans h1, (kp hB (by omega) (40 + 0) (by omega) (by omega)).trans h2, (kp hB (by omega) (40 + 1) (by omega) (by omega)).trans h3, ⟨(kp hB (by omega) (40 + 2) (by omega) (by omega)).trans m1, (kp hB (by omega) (40 + 3) (by omega) (by omega)).trans m2, (kp hB (by omega) (40 + 4) (by omega) (by omega)).trans m3, (kp hB (by omega) (40 + 5) (by omega) (by omega)).trans m4, (kp hB (by omega) (40 + 6) (by omega) (by omega)).trans m5, aup_s⟩, (kp hB (by omega) (40 + 8) (by omega) (by omega)).trans h5, (kp hB (by omega) (40 + 9) (by omega) (by omega)).trans h6⟩
theorem MM.ln {g' : Nat → Int} (h : MM G B w th gd gn L gl gF gC gM gO gK gR) (hB : iB B) : MM G B (aup w (B (40 + 8)) (aiA G 30 g')) th gd gn L g' gF gC gM gO gK gR := by
  obtain ⟨yr, mo, da, ap, wr, sz, gp, h1, h2, h3, ⟨m1, m2, m3, m4, m5, m6⟩, h5, h6⟩ := h
  exact ⟨yr, mo, da, ap, wr, sz, gp, (kp hB (by omega) (39) (by omega) (by omega)).trans h1, (kp hB (by omega) (40 + 0) (by omega) (by omega)).trans h2, (kp hB (by omega) (40 + 1) (by omega) (by omega)).trans h3, ⟨(kp hB (by omega) (40 + 2) (by omega) (by omega)).trans m1, (kp hB (by omega) (40 + 3) (by omega) (by omega)).trans m2, (kp hB (by omega) (40 + 4) (by omega) (by omega)).trans m3, (kp hB (by omega) (40 + 5) (by omega) (by omega)).trans m4, (kp hB (by omega) (40 + 6) (by omega) (by omega)).trans m5, (kp hB (by omega) (40 + 7) (by omega) (by omega)).trans m6⟩, aup_s, (kp hB (by omega) (40 + 9) (by omega) (by omega)).trans h6⟩
theorem MM.pg {g' : Nat → Int} (h : MM G B w th gd gn L gl gF gC gM gO gK gR) (hB : iB B) : MM G B (aup w (B (40 + 9)) (aiA G 40 g')) th gd gn L gl gF gC gM gO gK gR := by
  obtain ⟨yr, mo, da, ap, wr, sz, gp, h1, h2, h3, ⟨m1, m2, m3, m4, m5, m6⟩, h5, h6⟩ := h
  exact ⟨yr, mo, da, ap, wr, sz, g', (kp hB (by omega) (39) (by omega) (by omega)).trans h1, (kp hB (by omega) (40 + 0) (by omega) (by omega)).trans h2, (kp hB (by omega) (40 + 1) (by omega) (by omega)).trans h3, ⟨(kp hB (by omega) (40 + 2) (by omega) (by omega)).trans m1, (kp hB (by omega) (40 + 3) (by omega) (by omega)).trans m2, (kp hB (by omega) (40 + 4) (by omega) (by omega)).trans m3, (kp hB (by omega) (40 + 5) (by omega) (by omega)).trans m4, (kp hB (by omega) (40 + 6) (by omega) (by omega)).trans m5, (kp hB (by omega) (40 + 7) (by omega) (by omega)).trans m6⟩, (kp hB (by omega) (40 + 8) (by omega) (by omega)).trans h5, aup_s⟩
theorem CC.st (h : CC G B w gd gn L gl fz cz rz gm go ru) (hB : iB B) {k : Nat} (hk : k < 8) {y m d n : Int} (hv : vD y m d) (hn : 0 ≤ n ∧ n ≤ 86399999999999) : CC G B (aup w (B (2 + k)) (stC y m d n)) (gup gd k (ed y m d)) (gup gn k n) L gl fz cz rz gm go ru := by
  obtain ⟨h1, h2, ⟨gp, h3⟩, h4, h5⟩ := h
  exact ⟨h1.fr (fun i hi => kp hB (by omega) i (by omega) (by omega)), h2.fr (fun i hi => kp hB (by omega) i (by omega) (by omega)), ⟨gp, h3.fr (fun i hi => kp hB (by omega) i (by omega) (by omega))⟩, h4.st hB hk hv hn, fun z hz => (h5 z hz).fr (fun i hi => kp hB (by omega) i (by omega) (by omega))⟩
theorem CC.sv (h : CC G B w gd gn L gl fz cz rz gm go ru) : ∀ k : Nat, k < 8 → SV w (B (2 + k)) := by
  intro k hk
  obtain ⟨y, m, d, h1, ⟨v1, v2, v3⟩, -, h4⟩ := h.2.2.2.1 k hk
  exact ⟨y, m, d, gn k, h1, v1, v2, v3, h4⟩
theorem CC.gdr (h : CC G B w gd gn L gl fz cz rz gm go ru) : ∀ k : Nat, k < 8 → -4371587 ≤ gd k ∧ gd k ≤ 2932896 := by
  intro k hk
  obtain ⟨y, m, d, h1, ⟨v1, v2, v3⟩, h3, h4⟩ := h.2.2.2.1 k hk
  have := ed_rng v1 v2 v3
  omega
theorem CC.gnr (h : CC G B w gd gn L gl fz cz rz gm go ru) : ∀ k : Nat, k < 8 → 0 ≤ gn k ∧ gn k ≤ 86399999999999 := by
  intro k hk
  obtain ⟨y, m, d, h1, v, h3, h4⟩ := h.2.2.2.1 k hk
  exact h4
theorem CC.sd (h : CC G B w gd gn L gl fz cz rz gm go ru) (hB : iB B) {k : Nat} (hk : k < 8) {y m d n x : Int} (hv : vD y m d) (hn : n = gn k) (he : ed y m d = x) : CC G B (aup w (B (2 + k)) (stC y m d n)) (gup gd k x) gn L gl fz cz rz gm go ru := by
  subst he hn
  have e : gup gn k (gn k) = gn := by
    funext j
    unfold gup
    split
    · next q => rw [q]
    · rfl
  have := h.st hB hk hv (h.gnr k hk)
  rw [e] at this
  exact this
theorem CC.sn (h : CC G B w gd gn L gl fz cz rz gm go ru) (hB : iB B) {k : Nat} (hk : k < 8) {y m d n x : Int} (hv : vD y m d) (he : gd k = ed y m d) (hn : 0 ≤ n ∧ n ≤ 86399999999999) (hx : n = x) : CC G B (aup w (B (2 + k)) (stC y m d n)) gd (gup gn k x) L gl fz cz rz gm go ru := by
  subst hx
  have e : gup gd k (ed y m d) = gd := by
    funext j
    unfold gup
    split
    · next q => rw [q, he]
    · rfl
  have := h.st hB hk hv hn
  rw [e] at this
  exact this
theorem CC.sb (h : CC G B w gd gn L gl fz cz rz gm go ru) (hB : iB B) {k : Nat} (hk : k < 8) {y m d n x t : Int} (hv : vD y m d) (hn : 0 ≤ n ∧ n ≤ 86399999999999) (he : ed y m d = x) (ht : n = t) : CC G B (aup w (B (2 + k)) (stC y m d n)) (gup gd k x) (gup gn k t) L gl fz cz rz gm go ru := by
  subst he ht
  exact h.st hB hk hv hn
theorem MM.ph (h : MM G B w th gd gn L gl gF gC gM gO gK gR) (hB : iB B) {s : TS} : MM G B (PH G w (B 37) (B 38) s) th gd gn L gl gF gC gM gO gK gR := h.keep (fun i hi => (kp hB (by omega) i (by omega) (by omega)).trans (kp hB (by omega) i (by omega) (by omega)))
theorem OVp.ph (h : OVp G B w) (hB : iB B) {s : TS} : OVp G B (PH G w (B 37) (B 38) s) := h.fr (fun i hi => (kp hB (by omega) i (by omega) (by omega)).trans (kp hB (by omega) i (by omega) (by omega)))
theorem CC.li (h : CC G B w gd gn L gl fz cz rz gm go ru) (hB : iB B) {L' : Int} {p : Nat} : CC G B (aup w (B 35) (liC (B 36) L' p)) gd gn L' gl fz cz rz gm go ru := by
  obtain ⟨h1, ⟨-, h2⟩, ⟨gp, h3⟩, h4, h5⟩ := h
  exact ⟨h1.fr (fun i hi => kp hB (by omega) i (by omega) (by omega)), ⟨⟨p, aup_s⟩, (kp hB (by omega) 36 (by omega) (by omega)).trans h2⟩, ⟨gp, h3.fr (fun i hi => kp hB (by omega) i (by omega) (by omega))⟩, h4.fr (fun i hi => kp hB (by omega) i (by omega) (by omega)), fun z hz => (h5 z hz).fr (fun i hi => kp hB (by omega) i (by omega) (by omega))⟩
theorem CC.ac (h : CC G B w gd gn L gl fz cz rz gm go ru) (hB : iB B) {gl' : Nat → Int} : CC G B (aup w (B 36) (acA G 30 gl')) gd gn L gl' fz cz rz gm go ru := by
  obtain ⟨h1, ⟨⟨p, h6⟩, h2⟩, ⟨gp, h3⟩, h4, h5⟩ := h
  exact ⟨h1.fr (fun i hi => kp hB (by omega) i (by omega) (by omega)), ⟨⟨p, (kp hB (by omega) 35 (by omega) (by omega)).trans h6⟩, aup_s⟩, ⟨gp, h3.fr (fun i hi => kp hB (by omega) i (by omega) (by omega))⟩, h4.fr (fun i hi => kp hB (by omega) i (by omega) (by omega)), fun z hz => (h5 z hz).fr (fun i hi => kp hB (by omega) i (by omega) (by omega))⟩
theorem CC.pg (h : CC G B w gd gn L gl fz cz rz gm go ru) (hB : iB B) {s : TS} : CC G B (PH G w (B 37) (B 38) s) gd gn L gl fz cz rz gm go ru := by
  have hf : ∀ i : Nat, i < 37 → PH G w (B 37) (B 38) s (B i) = w (B i) := fun i hi => (kp hB (by omega) i (by omega) (by omega)).trans (kp hB (by omega) i (by omega) (by omega))
  obtain ⟨h1, h2, h3, h4, h5⟩ := h
  exact ⟨h1.fr (fun i hi => hf i (by omega)), h2.fr (fun i hi => hf i (by omega)), ⟨s.2, ⟨s.1, aup_s⟩, (kp hB (by omega) 38 (by omega) (by omega)).trans aup_s⟩, h4.fr (fun i hi => hf i (by omega)), fun z hz => (h5 z hz).fr (fun i hi => hf i (by omega))⟩
theorem CC.zo (h : CC G B w gd gn L gl fz cz rz gm go ru) (hB : iB B) {z : Nat} (hz : z < 4) {f c r : Int} : CC G B (aup w (B (11 + 6 * z)) (zoC f (B (12 + 6 * z)) (B (13 + 6 * z)) c (B (14 + 6 * z)) r)) gd gn L gl (gup fz z f) (gup cz z c) (gup rz z r) gm go ru := by
  obtain ⟨h1, h2, ⟨gp, h3⟩, h4, h5⟩ := h
  refine ⟨h1.fr (fun i hi => kp hB (by omega) i (by omega) (by omega)), h2.fr (fun i hi => kp hB (by omega) i (by omega) (by omega)), ⟨gp, h3.fr (fun i hi => kp hB (by omega) i (by omega) (by omega))⟩, h4.fr (fun i hi => kp hB (by omega) i (by omega) (by omega)), fun j hj => ?_⟩
  by_cases e : j = z
  · subst e
    obtain ⟨g1, g2, g3, g4, g5⟩ := h5 j hj
    rw [gup_s, gup_s, gup_s]
    exact ⟨aup_s, (kp hB (by omega) _ (by omega) (by omega)).trans g2, (kp hB (by omega) _ (by omega) (by omega)).trans g3, (kp hB (by omega) _ (by omega) (by omega)).trans g4, fun k hk => (kp hB (by omega) _ (by omega) (by omega)).trans (g5 k hk)⟩
  · rw [gup_n e, gup_n e, gup_n e]
    exact (h5 j hj).fr (fun i hi => kp hB (by omega) i (by omega) (by omega))
theorem CC.zm (h : CC G B w gd gn L gl fz cz rz gm go ru) (hB : iB B) {z : Nat} (hz : z < 4) {g' : Nat → Int} : CC G B (aup w (B (12 + 6 * z)) (alA G 8 g')) gd gn L gl fz cz rz (fup gm z g') go ru := by
  obtain ⟨h1, h2, ⟨gp, h3⟩, h4, h5⟩ := h
  refine ⟨h1.fr (fun i hi => kp hB (by omega) i (by omega) (by omega)), h2.fr (fun i hi => kp hB (by omega) i (by omega) (by omega)), ⟨gp, h3.fr (fun i hi => kp hB (by omega) i (by omega) (by omega))⟩, h4.fr (fun i hi => kp hB (by omega) i (by omega) (by omega)), fun j hj => ?_⟩
  by_cases e : j = z
  · subst e
    obtain ⟨g1, g2, g3, g4, g5⟩ := h5 j hj
    rw [fup_s]
    exact ⟨(kp hB (by omega) _ (by omega) (by omega)).trans g1, aup_s, (kp hB (by omega) _ (by omega) (by omega)).trans g3, (kp hB (by omega) _ (by omega) (by omega)).trans g4, fun k hk => (kp hB (by omega) _ (by omega) (by omega)).trans (g5 k hk)⟩
  · rw [fup_n e]
    exact (h5 j hj).fr (fun i hi => kp hB (by omega) i (by omega) (by omega))
theorem CC.zp (h : CC G B w gd gn L gl fz cz rz gm go ru) (hB : iB B) {z : Nat} (hz : z < 4) {g' : Nat → Int} : CC G B (aup w (B (13 + 6 * z)) (aiA G 8 g')) gd gn L gl fz cz rz gm (fup go z g') ru := by
  obtain ⟨h1, h2, ⟨gp, h3⟩, h4, h5⟩ := h
  refine ⟨h1.fr (fun i hi => kp hB (by omega) i (by omega) (by omega)), h2.fr (fun i hi => kp hB (by omega) i (by omega) (by omega)), ⟨gp, h3.fr (fun i hi => kp hB (by omega) i (by omega) (by omega))⟩, h4.fr (fun i hi => kp hB (by omega) i (by omega) (by omega)), fun j hj => ?_⟩
  by_cases e : j = z
  · subst e
    obtain ⟨g1, g2, g3, g4, g5⟩ := h5 j hj
    rw [fup_s]
    exact ⟨(kp hB (by omega) _ (by omega) (by omega)).trans g1, (kp hB (by omega) _ (by omega) (by omega)).trans g2, aup_s, (kp hB (by omega) _ (by omega) (by omega)).trans g4, fun k hk => (kp hB (by omega) _ (by omega) (by omega)).trans (g5 k hk)⟩
  · rw [fup_n e]
    exact (h5 j hj).fr (fun i hi => kp hB (by omega) i (by omega) (by omega))
def ru5 (a b c d e : Int) : Nat → Int := fun j => if j = 0 then a else if j = 1 then b else if j = 2 then c else if j = 3 then d else e
theorem CC.zr (h : CC G B w gd gn L gl fz cz rz gm go ru) (hB : iB B) {z k : Nat} (hz : z < 4) (hk : k < 2) {a b c d e : Int} : CC G B (aup w (B (15 + 6 * z + k)) (ruC a b c d e)) gd gn L gl fz cz rz gm go (fup ru z (fup (ru z) k (ru5 a b c d e))) := by
  obtain ⟨h1, h2, ⟨gp, h3⟩, h4, h5⟩ := h
  refine ⟨h1.fr (fun i hi => kp hB (by omega) i (by omega) (by omega)), h2.fr (fun i hi => kp hB (by omega) i (by omega) (by omega)), ⟨gp, h3.fr (fun i hi => kp hB (by omega) i (by omega) (by omega))⟩, h4.fr (fun i hi => kp hB (by omega) i (by omega) (by omega)), fun j hj => ?_⟩
  by_cases e9 : j = z
  · subst e9
    obtain ⟨g1, g2, g3, g4, g5⟩ := h5 j hj
    rw [fup_s]
    refine ⟨(kp hB (by omega) _ (by omega) (by omega)).trans g1, (kp hB (by omega) _ (by omega) (by omega)).trans g2, (kp hB (by omega) _ (by omega) (by omega)).trans g3, (kp hB (by omega) _ (by omega) (by omega)).trans g4, fun q hq => ?_⟩
    by_cases e8 : q = k
    · subst e8
      rw [fup_s]
      exact aup_s
    · rw [fup_n e8]
      exact (kp hB (by omega) _ (by omega) (by omega)).trans (g5 q hq)
  · rw [fup_n e9]
    exact (h5 j hj).fr (fun i hi => kp hB (by omega) i (by omega) (by omega))
theorem CC.pick (h : CC G B w gd gn L gl fz cz rz gm go ru) (a : Int) : ∃ y m d : Int, (0 ≤ a ∧ a ≤ 7) → w (B (2 + a.toNat)) = some (stC y m d (gn a.toNat)) ∧ gd a.toNat = ed y m d ∧ vD y m d ∧ (0 ≤ gn a.toNat ∧ gn a.toNat ≤ 86399999999999) := by
  by_cases ha : 0 ≤ a ∧ a ≤ 7
  · obtain ⟨y, m, d, h1, v, h3, h4⟩ := h.2.2.2.1 a.toNat (by omega)
    exact ⟨y, m, d, fun _ => ⟨h1, h3.symm, v, h4⟩⟩
  · exact ⟨0, 1, 1, fun q => absurd q ha⟩
theorem pkE_eq {a : Int} {y m d y' m' d' n' : Int} (ha : 0 ≤ a ∧ a ≤ 7) (hE : (0 ≤ a ∧ a ≤ 7) → w (B (2 + a.toNat)) = some (stC y m d (gn a.toNat)) ∧ gd a.toNat = ed y m d ∧ vD y m d ∧ (0 ≤ gn a.toNat ∧ gn a.toNat ≤ 86399999999999)) (h1 : w (B (2 + a.toNat)) = some (stC y' m' d' n')) (h2 : -9999 ≤ y' ∧ y' ≤ 9999) (h3 : 1 ≤ m' ∧ m' ≤ 12) (h4 : 1 ≤ d' ∧ d' ≤ lenM y' m') (h5 : 0 ≤ n' ∧ n' ≤ 86399999999999) : y = y' ∧ m = m' ∧ d = d' ∧ gn a.toNat = n' := by
  obtain ⟨g1, g2, g3, g4⟩ := hE ha
  exact stC_inj (Option.some.inj (g1.symm.trans h1)) g3 ⟨h2, h3, h4⟩ g4 h5
theorem hV_of {a : Int} {y m d : Int} (hE : (0 ≤ a ∧ a ≤ 7) → w (B (2 + a.toNat)) = some (stC y m d (gn a.toNat)) ∧ gd a.toNat = ed y m d ∧ vD y m d ∧ (0 ≤ gn a.toNat ∧ gn a.toNat ≤ 86399999999999)) : (0 ≤ a ∧ a ≤ 7) → gd a.toNat = ed y m d ∧ (-9999 ≤ y ∧ y ≤ 9999) ∧ (1 ≤ m ∧ m ≤ 12) ∧ (1 ≤ d ∧ d ≤ lenM y m) := fun ha => ⟨(hE ha).2.1, (hE ha).2.2.1.1, (hE ha).2.2.1.2.1, (hE ha).2.2.1.2.2⟩
theorem hA_of (hB : iB B) : ∀ a b : Nat, a < 10 → b < 10 → a ≠ b → (fun k => B (40 + k)) a ≠ (fun k => B (40 + k)) b := fun a b ha hb h => hB (40 + a) (40 + b) (by omega) (by omega) (by omega)
end SSm

