theorem monE_u {t d p t' d' p' r r' : Int} (h : monE t d p t' d' p' r) (h' : monE t d p t' d' p' r') : r = r' := by
  unfold monE at h h'
  omega
theorem dayE_u {e n e' n' r r' : Int} (h : dayE e n e' n' r) (h' : dayE e n e' n' r') : r = r' := by
  unfold dayE at h h'
  omega
theorem rstE_u {e n e' n' r r' : Int} (h : rstE e n e' n' r) (h' : rstE e n e' n' r') : r = r' := by
  unfold rstE at h h'
  omega
theorem rstE_r {e n e' n' r : Int} (hn : 0 ≤ n ∧ n ≤ 86399999999999) (hn' : 0 ≤ n' ∧ n' ≤ 86399999999999) (h : rstE e n e' n' r) : -86399999999999 ≤ r ∧ r ≤ 86399999999999 := by
  unfold rstE at h
  omega
theorem cmpE_u {e n e' n' r r' : Int} (h : cmpE e n e' n' r) (h' : cmpE e n e' n' r') : r = r' := by
  unfold cmpE at h h'
  omega
theorem cmpE_r {e n e' n' r : Int} (h : cmpE e n e' n' r) : -1 ≤ r ∧ r ≤ 1 := by
  unfold cmpE at h
  omega
theorem tq_u {a b r r' : Int} (h : tq a b r) (h' : tq a b r') : r = r' := by
  unfold tq at h h'
  rcases h with ⟨h1, h2⟩ | ⟨h1, h2⟩ <;> rcases h' with ⟨k1, k2⟩ | ⟨k1, k2⟩ <;> first | (rw [h2, k2]; done) | (exfalso; omega)
theorem tq_0 {R r : Int} (hR : -86399999999999 ≤ R ∧ R ≤ 86399999999999) (h : tq R 86400000000000 r) : r = 0 := by
  unfold tq at h
  omega
theorem plE_u {n N u T D T' D' : Int} (h : plE n N u T D) (h' : plE n N u T' D') : T = T' ∧ D = D' := by
  unfold plE at h h'
  by_cases e : u = 8
  · rw [if_pos e] at h h'
    omega
  · rw [if_neg e] at h h'
    unfold pE at h h'
    generalize n + N % uPD u * uSZ u = x at h h'
    generalize N / uPD u = y at h h'
    omega
theorem pE_T {n N p sz T D : Int} (hn : 0 ≤ n ∧ n ≤ 86399999999999) (hx : 0 ≤ N % p * sz ∧ N % p * sz ≤ 86400000000000) (h : pE n N p sz T D) : 0 ≤ T ∧ T ≤ 86399999999999 := by
  unfold pE at h
  generalize N % p * sz = x at h hx
  generalize N / p = y at h
  omega
theorem plE_T {n N u T D : Int} (hu : 0 ≤ u ∧ u ≤ 8) (hn : 0 ≤ n ∧ n ≤ 86399999999999) (h : plE n N u T D) : 0 ≤ T ∧ T ≤ 86399999999999 := by
  unfold plE at h
  rcases (show u = 0 ∨ u = 1 ∨ u = 2 ∨ u = 3 ∨ u = 4 ∨ u = 5 ∨ u = 6 ∨ u = 7 ∨ u = 8 by omega) with e | e | e | e | e | e | e | e | e
  · subst e
    rw [if_neg (by decide), show uPD 0 = 86400000000000 from rfl, show uSZ 0 = 1 from rfl] at h
    exact pE_T hn (by omega) h
  · subst e
    rw [if_neg (by decide), show uPD 1 = 86400000000 from rfl, show uSZ 1 = 1000 from rfl] at h
    exact pE_T hn (by omega) h
  · subst e
    rw [if_neg (by decide), show uPD 2 = 86400000 from rfl, show uSZ 2 = 1000000 from rfl] at h
    exact pE_T hn (by omega) h
  · subst e
    rw [if_neg (by decide), show uPD 3 = 86400 from rfl, show uSZ 3 = 1000000000 from rfl] at h
    exact pE_T hn (by omega) h
  · subst e
    rw [if_neg (by decide), show uPD 4 = 1440 from rfl, show uSZ 4 = 60000000000 from rfl] at h
    exact pE_T hn (by omega) h
  · subst e
    rw [if_neg (by decide), show uPD 5 = 24 from rfl, show uSZ 5 = 3600000000000 from rfl] at h
    exact pE_T hn (by omega) h
  · subst e
    rw [if_neg (by decide), show uPD 6 = 2 from rfl, show uSZ 6 = 43200000000000 from rfl] at h
    exact pE_T hn (by omega) h
  · subst e
    rw [if_neg (by decide), show uPD 7 = 1 from rfl, show uSZ 7 = 86400000000000 from rfl] at h
    exact pE_T hn (by omega) h
  · rw [if_pos e] at h
    omega
theorem with_n {n v f : Int} (hf : 6 ≤ f ∧ f ≤ 11) (hv : 0 ≤ v ∧ v < tC f) (hn : 0 ≤ n ∧ n ≤ 86399999999999) : 0 ≤ n + (v - n / tS f % tC f) * tS f ∧ n + (v - n / tS f % tC f) * tS f ≤ 86399999999999 := by
  rcases (show f = 6 ∨ f = 7 ∨ f = 8 ∨ f = 9 ∨ f = 10 ∨ f = 11 by omega) with e | e | e | e | e | e
  · subst e
    rw [show tC 6 = 24 from rfl] at hv
    rw [show tC 6 = 24 from rfl, show tS 6 = 3600000000000 from rfl]
    omega
  · subst e
    rw [show tC 7 = 60 from rfl] at hv
    rw [show tC 7 = 60 from rfl, show tS 7 = 60000000000 from rfl]
    omega
  · subst e
    rw [show tC 8 = 60 from rfl] at hv
    rw [show tC 8 = 60 from rfl, show tS 8 = 1000000000 from rfl]
    omega
  · subst e
    rw [show tC 9 = 1000000000 from rfl] at hv
    rw [show tC 9 = 1000000000 from rfl, show tS 9 = 1 from rfl]
    omega
  · subst e
    rw [show tC 10 = 86400 from rfl] at hv
    rw [show tC 10 = 86400 from rfl, show tS 10 = 1000000000 from rfl]
    omega
  · subst e
    rw [show tC 11 = 86400000000000 from rfl] at hv
    rw [show tC 11 = 86400000000000 from rfl, show tS 11 = 1 from rfl]
    omega
theorem adE_u {y m d f k r r' : Int} (h : adE y m d f k r) (h' : adE y m d f k r') : r = r' := by
  unfold adE at h h'
  rcases h with ⟨a, h⟩ | ⟨a, h⟩ | ⟨a, h⟩ | ⟨a, h⟩ | ⟨a, h⟩ | ⟨a, h⟩ <;> rcases h' with ⟨b, h'⟩ | ⟨b, h'⟩ | ⟨b, h'⟩ | ⟨b, h'⟩ | ⟨b, h'⟩ | ⟨b, h'⟩ <;> first | (rw [h, h']; done) | (exfalso; omega)
theorem spm_u {u M M' r r' : Int} (hM : M = M') (h : (u = 0 ∧ tq M 12 r) ∨ (u = 1 ∧ ((0 ≤ M ∧ r = M % 12) ∨ (M < 0 ∧ r = -((-M) % 12))))) (h' : (u = 0 ∧ tq M' 12 r') ∨ (u = 1 ∧ ((0 ≤ M' ∧ r' = M' % 12) ∨ (M' < 0 ∧ r' = -((-M') % 12))))) : r = r' := by
  subst hM
  rcases h with ⟨a, h⟩ | ⟨a, h⟩ <;> rcases h' with ⟨b, h'⟩ | ⟨b, h'⟩
  · exact tq_u h h'
  · exfalso; omega
  · exfalso; omega
  · omega
theorem spm_r {y m d y' m' d' u M r : Int} (hy : -9999 ≤ y ∧ y ≤ 9999) (hm : 1 ≤ m ∧ m ≤ 12) (hy' : -9999 ≤ y' ∧ y' ≤ 9999) (hm' : 1 ≤ m' ∧ m' ≤ 12) (h : monE (y * 12 + m - 1) d 0 (y' * 12 + m' - 1) d' 0 M) (h2 : (u = 0 ∧ tq M 12 r) ∨ (u = 1 ∧ ((0 ≤ M ∧ r = M % 12) ∨ (M < 0 ∧ r = -((-M) % 12))))) : -300000 ≤ r ∧ r ≤ 300000 := by
  have hM : -300000 ≤ M ∧ M ≤ 300000 := by
    unfold monE at h
    omega
  unfold tq at h2
  omega
def tAg (s s' : TS) : Prop := s.1 = s'.1 ∧ ∀ j : Nat, j < s.1 → s.2 j = s'.2 j
theorem tAg_c {c : Int} {s s' : TS} (h : tAg s s') : tAg (tCh c s) (tCh c s') := by
  obtain ⟨h1, h2⟩ := h
  refine ⟨by show s.1 + 1 = s'.1 + 1; rw [h1], fun j hj => ?_⟩
  show gup s.2 s.1 c j = gup s'.2 s'.1 c j
  have hj2 : j < s.1 + 1 := hj
  unfold gup
  rw [← h1]
  split
  · rfl
  · exact h2 j (by omega)
theorem tAg_d {v : Int} {n : Nat} {s s' : TS} (h : tAg s s') : tAg (tDg v n s) (tDg v n s') := by
  obtain ⟨h1, h2⟩ := h
  refine ⟨by show s.1 + n = s'.1 + n; rw [h1], fun j hj => ?_⟩
  show wrD s.2 s.1 v n n j = wrD s'.2 s'.1 v n n j
  have hj2 : j < s.1 + n := hj
  unfold wrD
  rw [← h1]
  split
  · rfl
  · exact h2 j (by omega)
theorem tAg_t {y m d n : Int} {g g' : Nat → Int} : tAg (tTxt y m d n (0, g)) (tTxt y m d n (0, g')) := by
  have h0 : tAg ((0, g) : TS) ((0, g') : TS) := ⟨rfl, fun j hj => absurd hj (Nat.not_lt_zero j)⟩
  have h1 : tAg (if y < 0 then tCh 45 ((0, g) : TS) else (0, g)) (if y < 0 then tCh 45 ((0, g') : TS) else (0, g')) := by
    split
    · exact tAg_c h0
    · exact h0
  have h2 : tAg (tDat y m d (0, g)) (tDat y m d (0, g')) := tAg_d (tAg_c (tAg_d (tAg_c (tAg_d h1))))
  unfold tTxt tTim tSec
  have h3 := tAg_d (v := n / 60000000000 % 60) (n := 2) (tAg_c (c := 58) (tAg_d (v := n / 3600000000000 % 24) (n := 2) (tAg_c (c := 84) h2)))
  split
  · exact h3
  · have h4 := tAg_d (v := n / 1000000000 % 60) (n := 2) (tAg_c (c := 58) h3)
    unfold tFr
    split
    · exact h4
    · split
      · exact tAg_d (tAg_c h4)
      · split
        · exact tAg_d (tAg_c h4)
        · exact tAg_d (tAg_c h4)
theorem tAg_v {y m d n k : Int} {g g' : Nat → Int} (hk : 0 ≤ k) : (if k < (tTxt y m d n (0, g)).1 then (tTxt y m d n (0, g)).2 k.toNat else -1) = (if k < (tTxt y m d n (0, g')).1 then (tTxt y m d n (0, g')).2 k.toNat else -1) := by
  obtain ⟨h1, h2⟩ := tAg_t (y := y) (m := m) (d := d) (n := n) (g := g) (g' := g')
  rw [← h1]
  split
  · exact h2 k.toNat (by omega)
  · rfl
theorem PO_ok {g : Nat → Int} {L y m d T : Int} {o : Nat} (hL : 0 ≤ L ∧ L ≤ 30) (h : PO g L o y m d T) : vD y m d ∧ (0 ≤ T ∧ T ≤ 86399999999999) := by
  unfold PO at h
  have key : ∀ p : Nat, isDt y m d → TE g L p T → vD y m d ∧ (0 ≤ T ∧ T ≤ 86399999999999) := by
    intro p hq hc
    unfold isDt at hq
    refine ⟨⟨by omega, by omega, by omega⟩, ?_⟩
    unfold TE at hc
    rcases hc with ⟨-, q⟩ | ⟨-, p', q, -⟩
    · omega
    · have := TO_rng hL q
      omega
  rcases h with ⟨-, -, -, q, c⟩ | ⟨-, -, q, c⟩
  · exact key _ q c
  · exact key _ q c
theorem dt_v {y m d : Int} (h : isDt y m d) : vD y m d := by
  unfold isDt at h
  exact ⟨by omega, by omega, by omega⟩
section VZ
variable {l : Launch} {G : GG} {M : MI} {rm : Room} {Q : Option Value → AH → Prop} {X : String → AH → Prop} {pc : Nat} {lv : Nat → Option Value} {st : List Value} {w : AH} {kc ks : Nat}
theorem v_laldX {a n : Nat} {g : Nat → Int} {i r : Int} (hd : decode M.cc pc = .ok (.laload, 1)) (hw : w a = some (alA G n g)) (hx : g i.toNat = r) (kk : V l G M rm Q X (pc + 1) lv (.long (lI r) :: st) w kc ks) (hi : 0 ≤ i ∧ i < n := by omega) (hr : i ≤ 2147483647 := by omega) : V l G M rm Q X pc lv (.int (iI i) :: .ref a :: st) w kc ks := by
  subst hx
  exact v_lald hd hw kk hi hr
theorem v_daldX {a n : Nat} {f : Nat → UInt64} {i : Int} {x : UInt64} (hd : decode M.cc pc = .ok (.daload, 1)) (hw : w a = some (adA G n f)) (hx : f i.toNat = x) (kk : V l G M rm Q X (pc + 1) lv (.double x :: st) w kc ks) (hi : 0 ≤ i ∧ i < n := by omega) (hr : i ≤ 2147483647 := by omega) : V l G M rm Q X pc lv (.int (iI i) :: .ref a :: st) w kc ks := by
  subst hx
  exact v_dald hd hw kk hi hr
theorem v_lsame {a : Int} {off : Int} (tgt : Nat) (hd1 : decode M.cc pc = .ok (.lcmp, 1)) (hd : decode M.cc (pc + 1) = .ok (.ifCond .eq off, 3)) (kt : V l G M rm Q X tgt lv st w kc ks) (ht : ((pc + 1 : Nat) : Int) + off = (tgt : Int) := by decide) : V l G M rm Q X pc lv (.long (lI a) :: .long (lI a) :: st) w kc ks := by
  have h1 := Int64.toInt_lt (lI a)
  have h2 := Int64.le_toInt (lI a)
  have h3 : lI a = lI (lI a).toInt := (Int64.ofInt_toInt (lI a)).symm
  rw [h3]
  generalize (lI a).toInt = b at h1 h2
  exact v_lif_eq tgt hd1 hd (fun _ => kt) (fun h => absurd rfl h) ht (by omega) (by omega)
def zJ (x : UInt64) : Int := (Op.cmpValue (FP.dcmp x x) .l).toInt
theorem zJ_r (x : UInt64) : -2147483648 ≤ zJ x ∧ zJ x ≤ 2147483647 := by
  have h1 := Int32.toInt_lt (Op.cmpValue (FP.dcmp x x) .l)
  have h2 := Int32.le_toInt (Op.cmpValue (FP.dcmp x x) .l)
  unfold zJ
  omega
theorem v_dcmpZ {x : UInt64} (hd : decode M.cc pc = .ok (.dcmp .l, 1)) (k : V l G M rm Q X (pc + 1) lv (.int (iI (zJ x)) :: st) w kc ks) : V l G M rm Q X pc lv (.double x :: .double x :: st) w kc ks := by
  refine v_dcmp hd ?_
  have h : Op.cmpValue (FP.dcmp x x) .l = iI (zJ x) := (Int32.ofInt_toInt _).symm
  rw [h]
  exact k
end VZ
section DVs
variable {L : Int} {gl fz cz rz : Nat → Int} {gm go : Nat → Nat → Int} {ru : Nat → Nat → Nat → Int} {gF gC gM gO gK gR : Nat → Int}
theorem DVp.ln (h : DVp L gl fz cz rz gm go ru gF gC gM gO gK gR) {L' : Int} {gl' : Nat → Int} (h1 : 0 ≤ L' ∧ L' ≤ 30) (h2 : ∀ k : Nat, 0 ≤ gl' k ∧ gl' k ≤ 65535) : DVp L' gl' fz cz rz gm go ru gF gC gM gO gK gR := ⟨h1, h2, h.2.2⟩
theorem gup_r {g : Nat → Int} {k : Nat} {x a b : Int} (h : ∀ j : Nat, a ≤ g j ∧ g j ≤ b) (hx : a ≤ x ∧ x ≤ b) : ∀ j : Nat, a ≤ gup g k x j ∧ gup g k x j ≤ b := by
  intro j
  unfold gup
  split
  · exact hx
  · exact h j
theorem DVp.zo (h : DVp L gl fz cz rz gm go ru gF gC gM gO gK gR) {z : Nat} (hz : z < 4) {v : Int} (hv : -64800 ≤ v ∧ v ≤ 64800) : DVp L gl (gup fz z v) (gup cz z 0) (gup rz z 0) gm go ru (gup gF z v) (gup gC z 0) gM gO (gup gK z 0) gR := by
  refine ⟨h.1, h.2.1, fun j hj => ?_⟩
  obtain ⟨⟨z1, z2, z3, z4, z5, z6, z7⟩, k1, k2, k3, k4, k5, k6⟩ := h.2.2 j hj
  by_cases e : j = z
  · subst e
    unfold LK
    rw [gup_s, gup_s, gup_s, gup_s, gup_s, gup_s]
    exact ⟨⟨by omega, by omega, z3, fun a b hab hb => by exfalso; omega, hv, z6, fun k hk => by exfalso; omega⟩, rfl, rfl, rfl, k4, k5, fun k q hk _ => by exfalso; omega⟩
  · unfold LK
    rw [gup_n e, gup_n e, gup_n e, gup_n e, gup_n e, gup_n e]
    exact ⟨⟨z1, z2, z3, z4, z5, z6, z7⟩, k1, k2, k3, k4, k5, k6⟩
theorem DVp.ch (h : DVp L gl fz cz rz gm go ru gF gC gM gO gK gR) {i : Int} (hi : 0 ≤ i ∧ i ≤ 3) {t v : Int} (hv : -64800 ≤ v ∧ v ≤ 64800) (ht : -377700000000 ≤ t ∧ t ≤ 253400000000) (hn : ¬ (0 < rz i.toNat ∨ 8 ≤ cz i.toNat ∨ t ≤ lastC (gm i.toNat) (cz i.toNat))) : DVp L gl (gup fz i.toNat (fz i.toNat)) (gup cz i.toNat (cz i.toNat + 1)) (gup rz i.toNat (rz i.toNat)) (fup gm i.toNat (gup (gm i.toNat) (cz i.toNat).toNat t)) (fup go i.toNat (gup (go i.toNat) (cz i.toNat).toNat v)) ru gF (gup gC i.toNat (cz i.toNat + 1)) (gup gM (8 * i + cz i.toNat).toNat t) (gup gO (8 * i + cz i.toNat).toNat v) gK gR := by
  have hii := h.2.2 i.toNat (by omega)
  have hc9 := hii.1.1
  refine ⟨h.1, h.2.1, fun j hj => ?_⟩
  obtain ⟨⟨z1, z2, z3, z4, z5, z6, z7⟩, k1, k2, k3, k4, k5, k6⟩ := h.2.2 j hj
  by_cases e : j = i.toNat
  · subst e
    unfold LK
    rw [gup_s, gup_s, gup_s, gup_s, fup_s, fup_s]
    refine ⟨⟨by omega, z2, gup_r z3 ht, fun a b hab hb => ?_, z5, gup_r z6 hv, z7⟩, k1, rfl, k3, fun k hk => ?_, fun k hk => ?_, k6⟩
    · by_cases eb : b = (cz i.toNat).toNat
      · subst eb
        rw [gup_s, gup_n (by omega)]
        unfold lastC at hn
        rw [if_pos (by omega)] at hn
        by_cases ea : a = (cz i.toNat - 1).toNat
        · subst ea
          omega
        · have := z4 a (cz i.toNat - 1).toNat (by omega) (by omega)
          omega
      · rw [gup_n eb, gup_n (by omega)]
        exact z4 a b hab (by omega)
    · by_cases ek : k = (cz i.toNat).toNat
      · subst ek
        rw [gup_s, show 8 * i.toNat + (cz i.toNat).toNat = (8 * i + cz i.toNat).toNat by omega, gup_s]
      · rw [gup_n ek, gup_n (by omega)]
        exact k4 k hk
    · by_cases ek : k = (cz i.toNat).toNat
      · subst ek
        rw [gup_s, show 8 * i.toNat + (cz i.toNat).toNat = (8 * i + cz i.toNat).toNat by omega, gup_s]
      · rw [gup_n ek, gup_n (by omega)]
        exact k5 k hk
  · unfold LK
    rw [gup_n e, gup_n e, gup_n e, gup_n e, fup_n e, fup_n e]
    refine ⟨⟨z1, z2, z3, z4, z5, z6, z7⟩, k1, k2, k3, fun k hk => ?_, fun k hk => ?_, k6⟩
    · rw [gup_n (by omega)]
      exact k4 k hk
    · rw [gup_n (by omega)]
      exact k5 k hk
theorem DVp.rl (h : DVp L gl fz cz rz gm go ru gF gC gM gO gK gR) {i : Int} (hi : 0 ≤ i ∧ i ≤ 3) {mo da wk se of : Int} (hg : ((1 ≤ mo ∧ mo ≤ 12) ∧ (da = -1 ∨ (1 ≤ da ∧ da ≤ 28)) ∧ (1 ≤ wk ∧ wk ≤ 7) ∧ (0 ≤ se ∧ se ≤ 86400) ∧ (-64800 ≤ of ∧ of ≤ 64800))) (hr : rz i.toNat < 2) : DVp L gl (gup fz i.toNat (fz i.toNat)) (gup cz i.toNat (cz i.toNat)) (gup rz i.toNat (rz i.toNat + 1)) gm go (fup ru i.toNat (fup (ru i.toNat) (rz i.toNat).toNat (ru5 mo da wk se of))) gF gC gM gO (gup gK i.toNat (rz i.toNat + 1)) (gup (gup (gup (gup (gup gR (10 * i + 5 * rz i.toNat).toNat mo) ((10 * i + 5 * rz i.toNat) + 1).toNat da) ((10 * i + 5 * rz i.toNat) + 2).toNat wk) ((10 * i + 5 * rz i.toNat) + 3).toNat se) ((10 * i + 5 * rz i.toNat) + 4).toNat of) := by
  have hii := h.2.2 i.toNat (by omega)
  have hr9 := hii.1.2.1
  refine ⟨h.1, h.2.1, fun j hj => ?_⟩
  obtain ⟨⟨z1, z2, z3, z4, z5, z6, z7⟩, k1, k2, k3, k4, k5, k6⟩ := h.2.2 j hj
  by_cases e : j = i.toNat
  · subst e
    unfold LK
    rw [gup_s, gup_s, gup_s, gup_s, fup_s]
    refine ⟨⟨z1, by omega, z3, z4, z5, z6, fun k hk => ?_⟩, k1, k2, rfl, k4, k5, fun k q hk hq => ?_⟩
    · unfold RV
      by_cases ek : k = (rz i.toNat).toNat
      · subst ek
        rw [fup_s]
        exact hg
      · rw [fup_n ek]
        exact z7 k (by omega)
    · by_cases ek : k = (rz i.toNat).toNat
      · subst ek
        rw [fup_s]
        rcases (show q = 0 ∨ q = 1 ∨ q = 2 ∨ q = 3 ∨ q = 4 by omega) with eq | eq | eq | eq | eq
        · subst eq
          rw [gup_n (by omega), gup_n (by omega), gup_n (by omega), gup_n (by omega), show 10 * i.toNat + 5 * (rz i.toNat).toNat + 0 = (10 * i + 5 * rz i.toNat).toNat by omega, gup_s]
          rfl
        · subst eq
          rw [gup_n (by omega), gup_n (by omega), gup_n (by omega), show 10 * i.toNat + 5 * (rz i.toNat).toNat + 1 = (10 * i + 5 * rz i.toNat + 1).toNat by omega, gup_s]
          rfl
        · subst eq
          rw [gup_n (by omega), gup_n (by omega), show 10 * i.toNat + 5 * (rz i.toNat).toNat + 2 = (10 * i + 5 * rz i.toNat + 2).toNat by omega, gup_s]
          rfl
        · subst eq
          rw [gup_n (by omega), show 10 * i.toNat + 5 * (rz i.toNat).toNat + 3 = (10 * i + 5 * rz i.toNat + 3).toNat by omega, gup_s]
          rfl
        · subst eq
          rw [show 10 * i.toNat + 5 * (rz i.toNat).toNat + 4 = (10 * i + 5 * rz i.toNat + 4).toNat by omega, gup_s]
          rfl
      · rw [fup_n ek, gup_n (by omega), gup_n (by omega), gup_n (by omega), gup_n (by omega), gup_n (by omega)]
        exact k6 k q (by omega) hq
  · unfold LK
    rw [gup_n e, gup_n e, gup_n e, gup_n e, fup_n e]
    refine ⟨⟨z1, z2, z3, z4, z5, z6, z7⟩, k1, k2, k3, k4, k5, fun k q hk hq => ?_⟩
    rw [gup_n (by omega), gup_n (by omega), gup_n (by omega), gup_n (by omega), gup_n (by omega)]
    exact k6 k q hk hq
end DVs
