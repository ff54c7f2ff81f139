theorem spanD_rng {y m d y' m' d' M : Int} (hy : -9999 ≤ y ∧ y ≤ 9999) (hm : 1 ≤ m ∧ m ≤ 12) (hd : 1 ≤ d ∧ d ≤ lenM y m) (hy' : -9999 ≤ y' ∧ y' ≤ 9999) (hm' : 1 ≤ m' ∧ m' ≤ 12) (hd' : 1 ≤ d' ∧ d' ≤ lenM y' m') (h : monE (y * 12 + m - 1) d 0 (y' * 12 + m' - 1) d' 0 M) : -10000000 ≤ ed y' m' d' - monT (y * 12 + m - 1 + M) d ∧ ed y' m' d' - monT (y * 12 + m - 1 + M) d ≤ 10000000 := by
  have h1 := ed_rng hy' hm' hd'
  have ht : -119988 ≤ y * 12 + m - 1 + M ∧ y * 12 + m - 1 + M ≤ 119999 := by
    unfold monE at h
    omega
  obtain ⟨k1, k2, k3⟩ := monT_ok (y * 12 + m - 1 + M) d ht hd.1
  have h2 := ed_rng k1 k2 k3
  unfold monT
  omega
def tOK (s : TS) : Prop := ∀ j : Nat, j < s.1 → 0 ≤ s.2 j ∧ s.2 j ≤ 127
theorem tOK_c {c : Int} {s : TS} (hc : 0 ≤ c ∧ c ≤ 127) (h : tOK s) : tOK (tCh c s) := by
  intro j hj
  show 0 ≤ gup s.2 s.1 c j ∧ gup s.2 s.1 c j ≤ 127
  unfold gup
  split
  · exact hc
  · have hj2 : j < s.1 + 1 := hj
    exact h j (by omega)
theorem tOK_d {v : Int} {n : Nat} {s : TS} (h : tOK s) : tOK (tDg v n s) := by
  intro j hj
  show 0 ≤ wrD s.2 s.1 v n n j ∧ wrD s.2 s.1 v n n j ≤ 127
  unfold wrD
  split
  · omega
  · have hj2 : j < s.1 + n := hj
    exact h j (by omega)
theorem tOK_t {y m d n : Int} {g : Nat → Int} : tOK (tTxt y m d n (0, g)) := by
  have h0 : tOK ((0, g) : TS) := fun j hj => absurd hj (Nat.not_lt_zero j)
  have h1 : tOK (if y < 0 then tCh 45 ((0, g) : TS) else (0, g)) := by
    split
    · exact tOK_c (by omega) h0
    · exact h0
  have h2 : tOK (tDat y m d (0, g)) := tOK_d (tOK_c (by omega) (tOK_d (tOK_c (by omega) (tOK_d h1))))
  unfold tTxt tTim tSec
  have h3 := tOK_d (v := n / 60000000000 % 60) (n := 2) (tOK_c (c := 58) (by omega) (tOK_d (v := n / 3600000000000 % 24) (n := 2) (tOK_c (c := 84) (by omega) h2)))
  split
  · exact h3
  · have h4 := tOK_d (v := n / 1000000000 % 60) (n := 2) (tOK_c (c := 58) (by omega) h3)
    unfold tFr
    split
    · exact h4
    · split
      · exact tOK_d (tOK_c (by omega) h4)
      · split
        · exact tOK_d (tOK_c (by omega) h4)
        · exact tOK_d (tOK_c (by omega) h4)
theorem tTxt_val {y m d n k : Int} {g : Nat → Int} (hk : 0 ≤ k) : -1 ≤ (if k < (tTxt y m d n (0, g)).1 then (tTxt y m d n (0, g)).2 k.toNat else -1) ∧ (if k < (tTxt y m d n (0, g)).1 then (tTxt y m d n (0, g)).2 k.toNat else -1) ≤ 127 := by
  split
  · rename_i h
    have := tOK_t (y := y) (m := m) (d := d) (n := n) (g := g) k.toNat (by omega)
    omega
  · omega
theorem stal {G : GG} {y m d n : Int} {k : Nat} {g : Nat → Int} : stC y m d n ≠ alA G k g := by
  intro h
  unfold stC alA at h
  exact nomatch h
theorem paal {G : GG} {ac L k : Nat} {g : Nat → Int} : paC ac L ≠ alA G k g := by
  intro h
  unfold paC alA at h
  exact nomatch h
theorem caal {G : GG} {k n : Nat} {f g : Nat → Int} : acA G n f ≠ alA G k g := by
  intro h
  unfold acA alA at h
  have h2 := congrArg (fun x : va_E => match x with | .inl q => q.2.2 | .inr _ => .inl (fun _ => 0)) h
  cases h2
set_option maxRecDepth 100000 in
set_option maxHeartbeats 4000000 in
theorem s_L_date {l : Launch} {G : GG} {w : AH} {Q : Option Value → AH → Prop} {X : String → AH → Prop} (hst : l.stackTraces = false) {x sl zn li pg : Nat} {sa : Nat → Nat} {i : Int} (hx : w x = some (tdC sl zn li pg)) (hsl : w sl = some (arA G 4 8 (fun k => some (sa k)))) (hS : ∀ k : Nat, k < 8 → SV w (sa k)) (hi : -2147483648 ≤ i ∧ i ≤ 2147483647) (hXI : (i < 0 ∨ 7 < i) → Q (some (.int (iI 1))) w) {y' m' d' : Int} (hy' : -2147483648 ≤ y' ∧ y' ≤ 2147483647) (hm' : -2147483648 ≤ m' ∧ m' ≤ 2147483647) (hd' : -2147483648 ≤ d' ∧ d' ≤ 2147483647) (hXA : (0 ≤ i ∧ i ≤ 7) → ¬ isDt y' m' d' → Q (some (.int (iI 2))) w) (hQ : ∀ y m d n : Int, (0 ≤ i ∧ i ≤ 7) → w (sa i.toNat) = some (stC y m d n) → (-9999 ≤ y ∧ y ≤ 9999) → (1 ≤ m ∧ m ≤ 12) → (1 ≤ d ∧ d ≤ lenM y m) → (0 ≤ n ∧ n ≤ 86399999999999) →  isDt y' m' d' → Q (some (.int (iI 0))) (aup w (sa i.toNat) (stC y' m' d' n))) : Ct l G mL_date rL_date [.ref x, .int (iI i), .int (iI y'), .int (iI m'), .int (iI d')] w Q X := by
  refine ct_of hst mk_L_date (Nat.le_of_ble_eq_true rfl) ?_
  refine v_aload_n dL_date_0 rfl ?_
  refine v_iload_n dL_date_1 rfl ?_
  refine v_iload_n dL_date_2 rfl ?_
  refine v_iload_n dL_date_3 rfl ?_
  refine v_iload dL_date_4 rfl ?_
  refine v_V4 (rm' := rX6_date) (RX6, TX6, 4) dL_date_6 km_L_7 kn_X6_date kv_X6_date kz_X6 mk_X6_date rfl rfl (by exact hx) ⟨Nat.le_of_ble_eq_true rfl, Nat.le_of_ble_eq_true rfl⟩ ⟨Nat.le_of_ble_eq_true rfl, Nat.le_of_ble_eq_true rfl⟩ (Nat.le_of_ble_eq_true rfl) ?_
  refine s_X6_date hst hx hsl hS hi ?_ hy' hm' hd' ?_ ?_
  · intro a1
    refine vx_take [] (0, 9, 12, 13) [(0, 9, 16, 15)] rfl (fun z hz => nomatch hz) (by decide) (by decide) kc_L_13 kq_IndexOutOfBoundsException (fun q9 => ?_)
    refine v_astore dL_date_12 (by decide) ?_
    refine v_iconst dL_date_14 ?_
    exact v_iret dL_date_15 rfl (by exact hXI a1)
  · intro a1 a2
    refine vx_take [(0, 9, 12, 13)] (0, 9, 16, 15) [] rfl (fun z hz => by
          rcases List.mem_cons.mp hz with rfl | hz
          · exact ⟨by decide, _, kc_L_13, by decide⟩
          cases hz) (by decide) (by decide) kc_L_15 kq_IllegalArgumentException (fun q9 => ?_)
    refine v_astore dL_date_16 (by decide) ?_
    refine v_iconst dL_date_18 ?_
    exact v_iret dL_date_19 rfl (by exact hXA a1 a2)
  · intro a1 a2 a3 a4 a5 a6 a7 a8 a9 a10 a11
    refine v_goto 20 dL_date_9 ?_
    refine v_iconst dL_date_20 ?_
    exact v_iret dL_date_21 rfl (by exact hQ a1 a2 a3 a4 a5 a6 a7 a8 a9 a10 a11)
set_option maxRecDepth 100000 in
set_option maxHeartbeats 4000000 in
theorem s_L_time {l : Launch} {G : GG} {w : AH} {Q : Option Value → AH → Prop} {X : String → AH → Prop} (hst : l.stackTraces = false) {x sl zn li pg : Nat} {sa : Nat → Nat} {i : Int} (hx : w x = some (tdC sl zn li pg)) (hsl : w sl = some (arA G 4 8 (fun k => some (sa k)))) (hS : ∀ k : Nat, k < 8 → SV w (sa k)) (hi : -2147483648 ≤ i ∧ i ≤ 2147483647) (hXI : (i < 0 ∨ 7 < i) → Q (some (.int (iI 1))) w) {h mi se na : Int} (hh : -2147483648 ≤ h ∧ h ≤ 2147483647) (hmi : -2147483648 ≤ mi ∧ mi ≤ 2147483647) (hse : -2147483648 ≤ se ∧ se ≤ 2147483647) (hna : -2147483648 ≤ na ∧ na ≤ 2147483647) (hXA : (0 ≤ i ∧ i ≤ 7) → ¬ isTm h mi se na → Q (some (.int (iI 2))) w) (hQ : ∀ y m d n : Int, (0 ≤ i ∧ i ≤ 7) → w (sa i.toNat) = some (stC y m d n) → (-9999 ≤ y ∧ y ≤ 9999) → (1 ≤ m ∧ m ≤ 12) → (1 ≤ d ∧ d ≤ lenM y m) → (0 ≤ n ∧ n ≤ 86399999999999) →  isTm h mi se na → Q (some (.int (iI 0))) (aup w (sa i.toNat) (stC y m d (h * 3600000000000 + mi * 60000000000 + se * 1000000000 + na)))) : Ct l G mL_time rL_time [.ref x, .int (iI i), .int (iI h), .int (iI mi), .int (iI se), .int (iI na)] w Q X := by
  refine ct_of hst mk_L_time (Nat.le_of_ble_eq_true rfl) ?_
  refine v_aload_n dL_time_0 rfl ?_
  refine v_iload_n dL_time_1 rfl ?_
  refine v_iload_n dL_time_2 rfl ?_
  refine v_iload_n dL_time_3 rfl ?_
  refine v_iload dL_time_4 rfl ?_
  refine v_iload dL_time_6 rfl ?_
  refine v_V5 (rm' := rX6_time) (RX6, TX6, 4) dL_time_8 km_L_17 kn_X6_time kv_X6_time kz_X6 mk_X6_time rfl rfl (by exact hx) ⟨Nat.le_of_ble_eq_true rfl, Nat.le_of_ble_eq_true rfl⟩ ⟨Nat.le_of_ble_eq_true rfl, Nat.le_of_ble_eq_true rfl⟩ (Nat.le_of_ble_eq_true rfl) ?_
  refine s_X6_time hst hx hsl hS hi ?_ hh hmi hse hna ?_ ?_
  · intro a1
    refine vx_take [] (0, 11, 14, 13) [(0, 11, 18, 15)] rfl (fun z hz => nomatch hz) (by decide) (by decide) kc_L_13 kq_IndexOutOfBoundsException (fun q9 => ?_)
    refine v_astore dL_time_14 (by decide) ?_
    refine v_iconst dL_time_16 ?_
    exact v_iret dL_time_17 rfl (by exact hXI a1)
  · intro a1 a2
    refine vx_take [(0, 11, 14, 13)] (0, 11, 18, 15) [] rfl (fun z hz => by
          rcases List.mem_cons.mp hz with rfl | hz
          · exact ⟨by decide, _, kc_L_13, by decide⟩
          cases hz) (by decide) (by decide) kc_L_15 kq_IllegalArgumentException (fun q9 => ?_)
    refine v_astore dL_time_18 (by decide) ?_
    refine v_iconst dL_time_20 ?_
    exact v_iret dL_time_21 rfl (by exact hXA a1 a2)
  · intro a1 a2 a3 a4 a5 a6 a7 a8 a9 a10 a11
    refine v_goto 22 dL_time_11 ?_
    refine v_iconst dL_time_22 ?_
    exact v_iret dL_time_23 rfl (by exact hQ a1 a2 a3 a4 a5 a6 a7 a8 a9 a10 a11)
set_option maxRecDepth 100000 in
set_option maxHeartbeats 4000000 in
theorem s_L_get {l : Launch} {G : GG} {w : AH} {Q : Option Value → AH → Prop} {X : String → AH → Prop} (hst : l.stackTraces = false) {out : Nat} {oo : Nat → Int} (ho : w out = some (alA G 1 oo)) {x sl zn li pg : Nat} {sa : Nat → Nat} {i : Int} (hx : w x = some (tdC sl zn li pg)) (hsl : w sl = some (arA G 4 8 (fun k => some (sa k)))) (hS : ∀ k : Nat, k < 8 → SV w (sa k)) (hi : -2147483648 ≤ i ∧ i ≤ 2147483647) (hXI : (i < 0 ∨ 7 < i) → Q (some (.int (iI 1))) w) {f : Int} (hf : -2147483648 ≤ f ∧ f ≤ 2147483647) (hXU : (0 ≤ i ∧ i ≤ 7) → (f < 0 ∨ 15 < f) → Q (some (.int (iI 2))) w) (hQ : ∀ y m d n : Int, (0 ≤ i ∧ i ≤ 7) → w (sa i.toNat) = some (stC y m d n) → (-9999 ≤ y ∧ y ≤ 9999) → (1 ≤ m ∧ m ≤ 12) → (1 ≤ d ∧ d ≤ lenM y m) → (0 ≤ n ∧ n ≤ 86399999999999) →  (0 ≤ f ∧ f ≤ 15) → Q (some (.int (iI 0))) (aup w out (alA G 1 (gup oo 0 ((gF y m d n f)))))) : Ct l G mL_get rL_get [.ref x, .int (iI i), .int (iI f), .ref out] w Q X := by
  refine ct_of hst mk_L_get (Nat.le_of_ble_eq_true rfl) ?_
  refine v_aload_n dL_get_0 rfl ?_
  refine v_iconst dL_get_1 ?_
  refine v_aload_n dL_get_2 rfl ?_
  refine v_iload_n dL_get_3 rfl ?_
  refine v_iload_n dL_get_4 rfl ?_
  refine v_V2 (rm' := rX6_get) (RX6, TX6, 4) dL_get_5 km_L_21 kn_X6_get kv_X6_get kz_X6 mk_X6_get rfl rfl (by exact hx) ⟨Nat.le_of_ble_eq_true rfl, Nat.le_of_ble_eq_true rfl⟩ ⟨Nat.le_of_ble_eq_true rfl, Nat.le_of_ble_eq_true rfl⟩ (Nat.le_of_ble_eq_true rfl) ?_
  refine s_X6_get hst hx hsl hS hi ?_ hf ?_ ?_
  · intro a1
    refine vx_take [] (0, 9, 12, 13) [(0, 9, 16, 25)] rfl (fun z hz => nomatch hz) (by decide) (by decide) kc_L_13 kq_IndexOutOfBoundsException (fun q9 => ?_)
    refine v_astore dL_get_12 (by decide) ?_
    refine v_iconst dL_get_14 ?_
    exact v_iret dL_get_15 rfl (by exact hXI a1)
  · intro a1 a2
    refine vx_take [(0, 9, 12, 13)] (0, 9, 16, 25) [] rfl (fun z hz => by
          rcases List.mem_cons.mp hz with rfl | hz
          · exact ⟨by decide, _, kc_L_13, by decide⟩
          cases hz) (by decide) (by decide) kc_L_25 kq_UnsupportedOperationException (fun q9 => ?_)
    refine v_astore dL_get_16 (by decide) ?_
    refine v_iconst dL_get_18 ?_
    exact v_iret dL_get_19 rfl (by exact hXU a1 a2)
  · intro a1 a2 a3 a4 a5 a6 a7 a8 a9 a10 a11
    refine v_last dL_get_8 (by exact ho) ?_
    refine v_goto 20 dL_get_9 ?_
    refine v_iconst dL_get_20 ?_
    exact v_iret dL_get_21 rfl (by exact hQ a1 a2 a3 a4 a5 a6 a7 a8 a9 a10 a11)
set_option maxRecDepth 100000 in
set_option maxHeartbeats 4000000 in
theorem s_L_with {l : Launch} {G : GG} {w : AH} {Q : Option Value → AH → Prop} {X : String → AH → Prop} (hst : l.stackTraces = false) {x sl zn li pg : Nat} {sa : Nat → Nat} {i : Int} (hx : w x = some (tdC sl zn li pg)) (hsl : w sl = some (arA G 4 8 (fun k => some (sa k)))) (hS : ∀ k : Nat, k < 8 → SV w (sa k)) (hi : -2147483648 ≤ i ∧ i ≤ 2147483647) (hXI : (i < 0 ∨ 7 < i) → Q (some (.int (iI 1))) w) {f v : Int} (hf : -2147483648 ≤ f ∧ f ≤ 2147483647) (hv : -9223372036854775808 ≤ v ∧ v ≤ 9223372036854775807) (hXU : (0 ≤ i ∧ i ≤ 7) → ¬ ((0 ≤ f ∧ f ≤ 12) ∨ f = 15) → Q (some (.int (iI 2))) w) (hXt : (0 ≤ i ∧ i ≤ 7) → (6 ≤ f ∧ f ≤ 11) → (v < 0 ∨ tC f ≤ v) → Q (some (.int (iI 3))) w) (hQt : ∀ y m d n : Int, (0 ≤ i ∧ i ≤ 7) → w (sa i.toNat) = some (stC y m d n) → (-9999 ≤ y ∧ y ≤ 9999) → (1 ≤ m ∧ m ≤ 12) → (1 ≤ d ∧ d ≤ lenM y m) → (0 ≤ n ∧ n ≤ 86399999999999) →  (6 ≤ f ∧ f ≤ 11) → (0 ≤ v ∧ v < tC f) → Q (some (.int (iI 0))) (aup w (sa i.toNat) (stC y m d (n + (v - n / tS f % tC f) * tS f)))) (hXd : ∀ y m d n : Int, (0 ≤ i ∧ i ≤ 7) → w (sa i.toNat) = some (stC y m d n) → (-9999 ≤ y ∧ y ≤ 9999) → (1 ≤ m ∧ m ≤ 12) → (1 ≤ d ∧ d ≤ lenM y m) → (0 ≤ n ∧ n ≤ 86399999999999) →  ((0 ≤ f ∧ f ≤ 5) ∨ f = 12 ∨ f = 15) → ¬ wG y m d f v → Q (some (.int (iI 3))) w) (hQd : ∀ y m d n : Int, (0 ≤ i ∧ i ≤ 7) → w (sa i.toNat) = some (stC y m d n) → (-9999 ≤ y ∧ y ≤ 9999) → (1 ≤ m ∧ m ≤ 12) → (1 ≤ d ∧ d ≤ lenM y m) → (0 ≤ n ∧ n ≤ 86399999999999) →  ((0 ≤ f ∧ f ≤ 5) ∨ f = 12 ∨ f = 15) → ∀ y' m' d' : Int, (-9999 ≤ y' ∧ y' ≤ 9999) → (1 ≤ m' ∧ m' ≤ 12) → (1 ≤ d' ∧ d' ≤ lenM y' m') →  ed y' m' d' = wT y m d f v → wG y m d f v → Q (some (.int (iI 0))) (aup w (sa i.toNat) (stC y' m' d' n))) : Ct l G mL_with rL_with [.ref x, .int (iI i), .int (iI f), .long (lI v)] w Q X := by
  refine ct_of hst mk_L_with (Nat.le_of_ble_eq_true rfl) ?_
  refine v_aload_n dL_with_0 rfl ?_
  refine v_iload_n dL_with_1 rfl ?_
  refine v_iload_n dL_with_2 rfl ?_
  refine v_lload_n dL_with_3 rfl ?_
  refine v_V3 (rm' := rX6_with) (RX6, TX6, 4) dL_with_4 km_L_27 kn_X6_with kv_X6_with kz_X6 mk_X6_with rfl rfl (by exact hx) ⟨Nat.le_of_ble_eq_true rfl, Nat.le_of_ble_eq_true rfl⟩ ⟨Nat.le_of_ble_eq_true rfl, Nat.le_of_ble_eq_true rfl⟩ (Nat.le_of_ble_eq_true rfl) ?_
  refine s_X6_with hst hx hsl hS hi ?_ hf hv ?_ ?_ ?_ ?_ ?_
  · intro a1
    refine vx_take [] (0, 7, 10, 13) [(0, 7, 14, 25), (0, 7, 18, 15)] rfl (fun z hz => nomatch hz) (by decide) (by decide) kc_L_13 kq_IndexOutOfBoundsException (fun q9 => ?_)
    refine v_astore dL_with_10 (by decide) ?_
    refine v_iconst dL_with_12 ?_
    exact v_iret dL_with_13 rfl (by exact hXI a1)
  · intro a1 a2
    refine vx_take [(0, 7, 10, 13)] (0, 7, 14, 25) [(0, 7, 18, 15)] rfl (fun z hz => by
          rcases List.mem_cons.mp hz with rfl | hz
          · exact ⟨by decide, _, kc_L_13, by decide⟩
          cases hz) (by decide) (by decide) kc_L_25 kq_UnsupportedOperationException (fun q9 => ?_)
    refine v_astore dL_with_14 (by decide) ?_
    refine v_iconst dL_with_16 ?_
    exact v_iret dL_with_17 rfl (by exact hXU a1 a2)
  · intro a1 a2 a3
    refine vx_take [(0, 7, 10, 13), (0, 7, 14, 25)] (0, 7, 18, 15) [] rfl (fun z hz => by
          rcases List.mem_cons.mp hz with rfl | hz
          · exact ⟨by decide, _, kc_L_13, by decide⟩
          rcases List.mem_cons.mp hz with rfl | hz
          · exact ⟨by decide, _, kc_L_25, by decide⟩
          cases hz) (by decide) (by decide) kc_L_15 kq_IllegalArgumentException (fun q9 => ?_)
    refine v_astore dL_with_18 (by decide) ?_
    refine v_iconst dL_with_20 ?_
    exact v_iret dL_with_21 rfl (by exact hXt a1 a2 a3)
  · intro a1 a2 a3 a4 a5 a6 a7 a8 a9 a10 a11 a12
    refine v_goto 22 dL_with_7 ?_
    refine v_iconst dL_with_22 ?_
    exact v_iret dL_with_23 rfl (by exact hQt a1 a2 a3 a4 a5 a6 a7 a8 a9 a10 a11 a12)
  · intro a1 a2 a3 a4 a5 a6 a7 a8 a9 a10 a11 a12
    refine vx_take [(0, 7, 10, 13), (0, 7, 14, 25)] (0, 7, 18, 15) [] rfl (fun z hz => by
          rcases List.mem_cons.mp hz with rfl | hz
          · exact ⟨by decide, _, kc_L_13, by decide⟩
          rcases List.mem_cons.mp hz with rfl | hz
          · exact ⟨by decide, _, kc_L_25, by decide⟩
          cases hz) (by decide) (by decide) kc_L_15 kq_IllegalArgumentException (fun q9 => ?_)
    refine v_astore dL_with_18 (by decide) ?_
    refine v_iconst dL_with_20 ?_
    exact v_iret dL_with_21 rfl (by exact hXd a1 a2 a3 a4 a5 a6 a7 a8 a9 a10 a11 a12)
  · intro a1 a2 a3 a4 a5 a6 a7 a8 a9 a10 a11 a12 a13 a14 a15 a16 a17 a18 a19
    refine v_goto 22 dL_with_7 ?_
    refine v_iconst dL_with_22 ?_
    exact v_iret dL_with_23 rfl (by exact hQd a1 a2 a3 a4 a5 a6 a7 a8 a9 a10 a11 a12 a13 a14 a15 a16 a17 a18 a19)
set_option maxRecDepth 100000 in
set_option maxHeartbeats 4000000 in
theorem s_L_plus {l : Launch} {G : GG} {w : AH} {Q : Option Value → AH → Prop} {X : String → AH → Prop} (hst : l.stackTraces = false) {x sl zn li pg : Nat} {sa : Nat → Nat} {i : Int} (hx : w x = some (tdC sl zn li pg)) (hsl : w sl = some (arA G 4 8 (fun k => some (sa k)))) (hS : ∀ k : Nat, k < 8 → SV w (sa k)) (hi : -2147483648 ≤ i ∧ i ≤ 2147483647) (hXI : (i < 0 ∨ 7 < i) → Q (some (.int (iI 1))) w) {N u : Int} (hN : -9223372036854775808 ≤ N ∧ N ≤ 9223372036854775807) (hu : -2147483648 ≤ u ∧ u ≤ 2147483647) (hXU : (0 ≤ i ∧ i ≤ 7) → ¬ (0 ≤ u ∧ u ≤ 13) → Q (some (.int (iI 2))) w) (hXB : ∀ y m d n : Int, (0 ≤ i ∧ i ≤ 7) → w (sa i.toNat) = some (stC y m d n) → (-9999 ≤ y ∧ y ≤ 9999) → (1 ≤ m ∧ m ≤ 12) → (1 ≤ d ∧ d ≤ lenM y m) → (0 ≤ n ∧ n ≤ 86399999999999) →  (0 ≤ u ∧ u ≤ 13) → plB N u → Q (some (.int (iI 3))) w) (hQm : ∀ y m d n : Int, (0 ≤ i ∧ i ≤ 7) → w (sa i.toNat) = some (stC y m d n) → (-9999 ≤ y ∧ y ≤ 9999) → (1 ≤ m ∧ m ≤ 12) → (1 ≤ d ∧ d ≤ lenM y m) → (0 ≤ n ∧ n ≤ 86399999999999) →  ¬ plB N u → (9 ≤ u ∧ u ≤ 13) → ∀ t : Int, t = y * 12 + m - 1 + N * mOU u → (-119988 ≤ t ∧ t ≤ 119999) → Q (some (.int (iI 0))) (aup w (sa i.toNat) (stC (t / 12) (t % 12 + 1) (if d ≤ lenM (t / 12) (t % 12 + 1) then d else lenM (t / 12) (t % 12 + 1)) n))) (hXn : ∀ y m d n : Int, (0 ≤ i ∧ i ≤ 7) → w (sa i.toNat) = some (stC y m d n) → (-9999 ≤ y ∧ y ≤ 9999) → (1 ≤ m ∧ m ≤ 12) → (1 ≤ d ∧ d ≤ lenM y m) → (0 ≤ n ∧ n ≤ 86399999999999) →  ¬ plB N u → (9 ≤ u ∧ u ≤ 13) → ∀ t : Int, t = y * 12 + m - 1 + N * mOU u → (t < -119988 ∨ 119999 < t) → Q (some (.int (iI 3))) w) (hQp : ∀ y m d n : Int, (0 ≤ i ∧ i ≤ 7) → w (sa i.toNat) = some (stC y m d n) → (-9999 ≤ y ∧ y ≤ 9999) → (1 ≤ m ∧ m ≤ 12) → (1 ≤ d ∧ d ≤ lenM y m) → (0 ≤ n ∧ n ≤ 86399999999999) →  ¬ plB N u → (0 ≤ u ∧ u ≤ 8) → ∀ y' m' d' T D : Int, (-9999 ≤ y' ∧ y' ≤ 9999) → (1 ≤ m' ∧ m' ≤ 12) → (1 ≤ d' ∧ d' ≤ lenM y' m') →  plE n N u T D → ed y' m' d' = ed y m d + D → Q (some (.int (iI 0))) (aup w (sa i.toNat) (stC y' m' d' T))) (hXq : ∀ y m d n : Int, (0 ≤ i ∧ i ≤ 7) → w (sa i.toNat) = some (stC y m d n) → (-9999 ≤ y ∧ y ≤ 9999) → (1 ≤ m ∧ m ≤ 12) → (1 ≤ d ∧ d ≤ lenM y m) → (0 ≤ n ∧ n ≤ 86399999999999) →  ¬ plB N u → (0 ≤ u ∧ u ≤ 8) → ∀ T D : Int, plE n N u T D → (ed y m d + D < -4371587 ∨ 2932896 < ed y m d + D) → Q (some (.int (iI 3))) w) : Ct l G mL_plus rL_plus [.ref x, .int (iI i), .long (lI N), .int (iI u)] w Q X := by
  refine ct_of hst mk_L_plus (Nat.le_of_ble_eq_true rfl) ?_
  refine v_aload_n dL_plus_0 rfl ?_
  refine v_iload_n dL_plus_1 rfl ?_
  refine v_lload_n dL_plus_2 rfl ?_
  refine v_iload dL_plus_3 rfl ?_
  refine v_V3 (rm' := rX6_plus) (RX6, TX6, 4) dL_plus_5 km_L_31 kn_X6_plus kv_X6_plus kz_X6 mk_X6_plus rfl rfl (by exact hx) ⟨Nat.le_of_ble_eq_true rfl, Nat.le_of_ble_eq_true rfl⟩ ⟨Nat.le_of_ble_eq_true rfl, Nat.le_of_ble_eq_true rfl⟩ (Nat.le_of_ble_eq_true rfl) ?_
  refine s_X6_plus hst hx hsl hS hi ?_ hN hu ?_ ?_ ?_ ?_ ?_ ?_
  · intro a1
    refine vx_take [] (0, 8, 11, 13) [(0, 8, 15, 25), (0, 8, 19, 35)] rfl (fun z hz => nomatch hz) (by decide) (by decide) kc_L_13 kq_IndexOutOfBoundsException (fun q9 => ?_)
    refine v_astore dL_plus_11 (by decide) ?_
    refine v_iconst dL_plus_13 ?_
    exact v_iret dL_plus_14 rfl (by exact hXI a1)
  · intro a1 a2
    refine vx_take [(0, 8, 11, 13)] (0, 8, 15, 25) [(0, 8, 19, 35)] rfl (fun z hz => by
          rcases List.mem_cons.mp hz with rfl | hz
          · exact ⟨by decide, _, kc_L_13, by decide⟩
          cases hz) (by decide) (by decide) kc_L_25 kq_UnsupportedOperationException (fun q9 => ?_)
    refine v_astore dL_plus_15 (by decide) ?_
    refine v_iconst dL_plus_17 ?_
    exact v_iret dL_plus_18 rfl (by exact hXU a1 a2)
  · intro a1 a2 a3 a4 a5 a6 a7 a8 a9 a10 a11 a12
    refine vx_take [(0, 8, 11, 13), (0, 8, 15, 25)] (0, 8, 19, 35) [] rfl (fun z hz => by
          rcases List.mem_cons.mp hz with rfl | hz
          · exact ⟨by decide, _, kc_L_13, by decide⟩
          rcases List.mem_cons.mp hz with rfl | hz
          · exact ⟨by decide, _, kc_L_25, by decide⟩
          cases hz) (by decide) (by decide) kc_L_35 kq_ArithmeticException (fun q9 => ?_)
    refine v_astore dL_plus_19 (by decide) ?_
    refine v_iconst dL_plus_21 ?_
    exact v_iret dL_plus_22 rfl (by exact hXB a1 a2 a3 a4 a5 a6 a7 a8 a9 a10 a11 a12)
  · intro a1 a2 a3 a4 a5 a6 a7 a8 a9 a10 a11 a12 a13 a14 a15
    refine v_goto 23 dL_plus_8 ?_
    refine v_iconst dL_plus_23 ?_
    exact v_iret dL_plus_24 rfl (by exact hQm a1 a2 a3 a4 a5 a6 a7 a8 a9 a10 a11 a12 a13 a14 a15)
  · intro a1 a2 a3 a4 a5 a6 a7 a8 a9 a10 a11 a12 a13 a14 a15
    refine vx_take [(0, 8, 11, 13), (0, 8, 15, 25)] (0, 8, 19, 35) [] rfl (fun z hz => by
          rcases List.mem_cons.mp hz with rfl | hz
          · exact ⟨by decide, _, kc_L_13, by decide⟩
          rcases List.mem_cons.mp hz with rfl | hz
          · exact ⟨by decide, _, kc_L_25, by decide⟩
          cases hz) (by decide) (by decide) kc_L_35 kq_ArithmeticException (fun q9 => ?_)
    refine v_astore dL_plus_19 (by decide) ?_
    refine v_iconst dL_plus_21 ?_
    exact v_iret dL_plus_22 rfl (by exact hXn a1 a2 a3 a4 a5 a6 a7 a8 a9 a10 a11 a12 a13 a14 a15)
  · intro a1 a2 a3 a4 a5 a6 a7 a8 a9 a10 a11 a12 a13 a14 a15 a16 a17 a18 a19 a20 a21 a22
    refine v_goto 23 dL_plus_8 ?_
    refine v_iconst dL_plus_23 ?_
    exact v_iret dL_plus_24 rfl (by exact hQp a1 a2 a3 a4 a5 a6 a7 a8 a9 a10 a11 a12 a13 a14 a15 a16 a17 a18 a19 a20 a21 a22)
  · intro a1 a2 a3 a4 a5 a6 a7 a8 a9 a10 a11 a12 a13 a14 a15 a16
    refine vx_take [(0, 8, 11, 13), (0, 8, 15, 25)] (0, 8, 19, 35) [] rfl (fun z hz => by
          rcases List.mem_cons.mp hz with rfl | hz
          · exact ⟨by decide, _, kc_L_13, by decide⟩
          rcases List.mem_cons.mp hz with rfl | hz
          · exact ⟨by decide, _, kc_L_25, by decide⟩
          cases hz) (by decide) (by decide) kc_L_35 kq_ArithmeticException (fun q9 => ?_)
    refine v_astore dL_plus_19 (by decide) ?_
    refine v_iconst dL_plus_21 ?_
    exact v_iret dL_plus_22 rfl (by exact hXq a1 a2 a3 a4 a5 a6 a7 a8 a9 a10 a11 a12 a13 a14 a15 a16)
set_option maxRecDepth 100000 in
set_option maxHeartbeats 4000000 in
theorem s_L_until {l : Launch} {G : GG} {w : AH} {Q : Option Value → AH → Prop} {X : String → AH → Prop} (hst : l.stackTraces = false) {out : Nat} {oo : Nat → Int} (ho : w out = some (alA G 1 oo)) {x sl zn li pg : Nat} {sa : Nat → Nat} {i : Int} (hx : w x = some (tdC sl zn li pg)) (hsl : w sl = some (arA G 4 8 (fun k => some (sa k)))) (hS : ∀ k : Nat, k < 8 → SV w (sa k)) (hi : -2147483648 ≤ i ∧ i ≤ 2147483647) (hXI : (i < 0 ∨ 7 < i) → Q (some (.int (iI 1))) w) {j : Int} (hj : -2147483648 ≤ j ∧ j ≤ 2147483647) (hXJ : (0 ≤ i ∧ i ≤ 7) → (j < 0 ∨ 7 < j) → Q (some (.int (iI 1))) w) {u : Int} (hu : -2147483648 ≤ u ∧ u ≤ 2147483647) (hXU : (0 ≤ i ∧ i ≤ 7) → (0 ≤ j ∧ j ≤ 7) → ¬ (0 ≤ u ∧ u ≤ 13) → Q (some (.int (iI 2))) w) (hQm : ∀ y m d n : Int, (0 ≤ i ∧ i ≤ 7) → w (sa i.toNat) = some (stC y m d n) → (-9999 ≤ y ∧ y ≤ 9999) → (1 ≤ m ∧ m ≤ 12) → (1 ≤ d ∧ d ≤ lenM y m) → (0 ≤ n ∧ n ≤ 86399999999999) → ∀ y' m' d' n' : Int, (0 ≤ j ∧ j ≤ 7) → w (sa j.toNat) = some (stC y' m' d' n') → (-9999 ≤ y' ∧ y' ≤ 9999) → (1 ≤ m' ∧ m' ≤ 12) → (1 ≤ d' ∧ d' ≤ lenM y' m') → (0 ≤ n' ∧ n' ≤ 86399999999999) →  (9 ≤ u ∧ u ≤ 13) → ∀ M r : Int, monE (y * 12 + m - 1) d n (y' * 12 + m' - 1) d' n' M → tq M (mOU u) r → Q (some (.int (iI 0))) (aup w out (alA G 1 (gup oo 0 (r))))) (hQw : ∀ y m d n : Int, (0 ≤ i ∧ i ≤ 7) → w (sa i.toNat) = some (stC y m d n) → (-9999 ≤ y ∧ y ≤ 9999) → (1 ≤ m ∧ m ≤ 12) → (1 ≤ d ∧ d ≤ lenM y m) → (0 ≤ n ∧ n ≤ 86399999999999) → ∀ y' m' d' n' : Int, (0 ≤ j ∧ j ≤ 7) → w (sa j.toNat) = some (stC y' m' d' n') → (-9999 ≤ y' ∧ y' ≤ 9999) → (1 ≤ m' ∧ m' ≤ 12) → (1 ≤ d' ∧ d' ≤ lenM y' m') → (0 ≤ n' ∧ n' ≤ 86399999999999) →  u = 8 → ∀ D r : Int, dayE (ed y m d) n (ed y' m' d') n' D → tq D 7 r → Q (some (.int (iI 0))) (aup w out (alA G 1 (gup oo 0 (r))))) (hXF : ∀ y m d n : Int, (0 ≤ i ∧ i ≤ 7) → w (sa i.toNat) = some (stC y m d n) → (-9999 ≤ y ∧ y ≤ 9999) → (1 ≤ m ∧ m ≤ 12) → (1 ≤ d ∧ d ≤ lenM y m) → (0 ≤ n ∧ n ≤ 86399999999999) → ∀ y' m' d' n' : Int, (0 ≤ j ∧ j ≤ 7) → w (sa j.toNat) = some (stC y' m' d' n') → (-9999 ≤ y' ∧ y' ≤ 9999) → (1 ≤ m' ∧ m' ≤ 12) → (1 ≤ d' ∧ d' ≤ lenM y' m') → (0 ≤ n' ∧ n' ≤ 86399999999999) →  u = 0 → ∀ D R : Int, dayE (ed y m d) n (ed y' m' d') n' D → rstE (ed y m d) n (ed y' m' d') n' R → ¬ (-9223372036854775808 ≤ D * 86400000000000 + R ∧ D * 86400000000000 + R ≤ 9223372036854775807) → Q (some (.int (iI 3))) w) (hQp : ∀ y m d n : Int, (0 ≤ i ∧ i ≤ 7) → w (sa i.toNat) = some (stC y m d n) → (-9999 ≤ y ∧ y ≤ 9999) → (1 ≤ m ∧ m ≤ 12) → (1 ≤ d ∧ d ≤ lenM y m) → (0 ≤ n ∧ n ≤ 86399999999999) → ∀ y' m' d' n' : Int, (0 ≤ j ∧ j ≤ 7) → w (sa j.toNat) = some (stC y' m' d' n') → (-9999 ≤ y' ∧ y' ≤ 9999) → (1 ≤ m' ∧ m' ≤ 12) → (1 ≤ d' ∧ d' ≤ lenM y' m') → (0 ≤ n' ∧ n' ≤ 86399999999999) →  (0 ≤ u ∧ u ≤ 7) → ∀ D R r : Int, dayE (ed y m d) n (ed y' m' d') n' D → rstE (ed y m d) n (ed y' m' d') n' R → (u = 0 → -9223372036854775808 ≤ D * 86400000000000 + R ∧ D * 86400000000000 + R ≤ 9223372036854775807) → tq R (uSZ u) r → Q (some (.int (iI 0))) (aup w out (alA G 1 (gup oo 0 ((D * uPD u + r)))))) : Ct l G mL_until rL_until [.ref x, .int (iI i), .int (iI j), .int (iI u), .ref out] w Q X := by
  refine ct_of hst mk_L_until (Nat.le_of_ble_eq_true rfl) ?_
  refine v_aload dL_until_0 rfl ?_
  refine v_iconst dL_until_2 ?_
  refine v_aload_n dL_until_3 rfl ?_
  refine v_iload_n dL_until_4 rfl ?_
  refine v_iload_n dL_until_5 rfl ?_
  refine v_iload_n dL_until_6 rfl ?_
  refine v_V3 (rm' := rX6_until) (RX6, TX6, 4) dL_until_7 km_L_37 kn_X6_until kv_X6_until kz_X6 mk_X6_until rfl rfl (by exact hx) ⟨Nat.le_of_ble_eq_true rfl, Nat.le_of_ble_eq_true rfl⟩ ⟨Nat.le_of_ble_eq_true rfl, Nat.le_of_ble_eq_true rfl⟩ (Nat.le_of_ble_eq_true rfl) ?_
  refine s_X6_until hst hx hsl hS hi ?_ hj ?_ hu ?_ ?_ ?_ ?_ ?_
  · intro a1
    refine vx_take [] (0, 11, 14, 13) [(0, 11, 18, 25), (0, 11, 22, 35)] rfl (fun z hz => nomatch hz) (by decide) (by decide) kc_L_13 kq_IndexOutOfBoundsException (fun q9 => ?_)
    refine v_astore dL_until_14 (by decide) ?_
    refine v_iconst dL_until_16 ?_
    exact v_iret dL_until_17 rfl (by exact hXI a1)
  · intro a1 a2
    refine vx_take [] (0, 11, 14, 13) [(0, 11, 18, 25), (0, 11, 22, 35)] rfl (fun z hz => nomatch hz) (by decide) (by decide) kc_L_13 kq_IndexOutOfBoundsException (fun q9 => ?_)
    refine v_astore dL_until_14 (by decide) ?_
    refine v_iconst dL_until_16 ?_
    exact v_iret dL_until_17 rfl (by exact hXJ a1 a2)
  · intro a1 a2 a3
    refine vx_take [(0, 11, 14, 13)] (0, 11, 18, 25) [(0, 11, 22, 35)] rfl (fun z hz => by
          rcases List.mem_cons.mp hz with rfl | hz
          · exact ⟨by decide, _, kc_L_13, by decide⟩
          cases hz) (by decide) (by decide) kc_L_25 kq_UnsupportedOperationException (fun q9 => ?_)
    refine v_astore dL_until_18 (by decide) ?_
    refine v_iconst dL_until_20 ?_
    exact v_iret dL_until_21 rfl (by exact hXU a1 a2 a3)
  · intro a1 a2 a3 a4 a5 a6 a7 a8 a9 a10 a11 a12 a13 a14 a15 a16 a17 a18 a19 a20 a21 a22 a23 a24 a25
    refine v_last dL_until_10 (by exact ho) ?_
    refine v_goto 26 dL_until_11 ?_
    refine v_iconst dL_until_26 ?_
    exact v_iret dL_until_27 rfl (by exact hQm a1 a2 a3 a4 a5 a6 a7 a8 a9 a10 a11 a12 a13 a14 a15 a16 a17 a18 a19 a20 a21 a22 a23 a24 a25)
  · intro a1 a2 a3 a4 a5 a6 a7 a8 a9 a10 a11 a12 a13 a14 a15 a16 a17 a18 a19 a20 a21 a22 a23 a24 a25
    refine v_last dL_until_10 (by exact ho) ?_
    refine v_goto 26 dL_until_11 ?_
    refine v_iconst dL_until_26 ?_
    exact v_iret dL_until_27 rfl (by exact hQw a1 a2 a3 a4 a5 a6 a7 a8 a9 a10 a11 a12 a13 a14 a15 a16 a17 a18 a19 a20 a21 a22 a23 a24 a25)
  · intro a1 a2 a3 a4 a5 a6 a7 a8 a9 a10 a11 a12 a13 a14 a15 a16 a17 a18 a19 a20 a21 a22 a23 a24 a25 a26
    refine vx_take [(0, 11, 14, 13), (0, 11, 18, 25)] (0, 11, 22, 35) [] rfl (fun z hz => by
          rcases List.mem_cons.mp hz with rfl | hz
          · exact ⟨by decide, _, kc_L_13, by decide⟩
          rcases List.mem_cons.mp hz with rfl | hz
          · exact ⟨by decide, _, kc_L_25, by decide⟩
          cases hz) (by decide) (by decide) kc_L_35 kq_ArithmeticException (fun q9 => ?_)
    refine v_astore dL_until_22 (by decide) ?_
    refine v_iconst dL_until_24 ?_
    exact v_iret dL_until_25 rfl (by exact hXF a1 a2 a3 a4 a5 a6 a7 a8 a9 a10 a11 a12 a13 a14 a15 a16 a17 a18 a19 a20 a21 a22 a23 a24 a25 a26)
  · intro a1 a2 a3 a4 a5 a6 a7 a8 a9 a10 a11 a12 a13 a14 a15 a16 a17 a18 a19 a20 a21 a22 a23 a24 a25 a26 a27 a28
    refine v_last dL_until_10 (by exact ho) ?_
    refine v_goto 26 dL_until_11 ?_
    refine v_iconst dL_until_26 ?_
    exact v_iret dL_until_27 rfl (by exact hQp a1 a2 a3 a4 a5 a6 a7 a8 a9 a10 a11 a12 a13 a14 a15 a16 a17 a18 a19 a20 a21 a22 a23 a24 a25 a26 a27 a28)
set_option maxRecDepth 100000 in
set_option maxHeartbeats 4000000 in
theorem s_L_span {l : Launch} {G : GG} {w : AH} {Q : Option Value → AH → Prop} {X : String → AH → Prop} (hst : l.stackTraces = false) {out : Nat} {oo : Nat → Int} (ho : w out = some (alA G 1 oo)) {x sl zn li pg : Nat} {sa : Nat → Nat} {i : Int} (hx : w x = some (tdC sl zn li pg)) (hsl : w sl = some (arA G 4 8 (fun k => some (sa k)))) (hS : ∀ k : Nat, k < 8 → SV w (sa k)) (hi : -2147483648 ≤ i ∧ i ≤ 2147483647) (hXI : (i < 0 ∨ 7 < i) → Q (some (.int (iI 1))) w) {j : Int} (hj : -2147483648 ≤ j ∧ j ≤ 2147483647) (hXJ : (0 ≤ i ∧ i ≤ 7) → (j < 0 ∨ 7 < j) → Q (some (.int (iI 1))) w) {u : Int} (hu : -2147483648 ≤ u ∧ u ≤ 2147483647) (hXU : (0 ≤ i ∧ i ≤ 7) → (0 ≤ j ∧ j ≤ 7) → ¬ (0 ≤ u ∧ u ≤ 2) → Q (some (.int (iI 2))) w) (hQm : ∀ y m d n : Int, (0 ≤ i ∧ i ≤ 7) → w (sa i.toNat) = some (stC y m d n) → (-9999 ≤ y ∧ y ≤ 9999) → (1 ≤ m ∧ m ≤ 12) → (1 ≤ d ∧ d ≤ lenM y m) → (0 ≤ n ∧ n ≤ 86399999999999) → ∀ y' m' d' n' : Int, (0 ≤ j ∧ j ≤ 7) → w (sa j.toNat) = some (stC y' m' d' n') → (-9999 ≤ y' ∧ y' ≤ 9999) → (1 ≤ m' ∧ m' ≤ 12) → (1 ≤ d' ∧ d' ≤ lenM y' m') → (0 ≤ n' ∧ n' ≤ 86399999999999) →  (0 ≤ u ∧ u ≤ 1) → ∀ M r : Int, monE (y * 12 + m - 1) d 0 (y' * 12 + m' - 1) d' 0 M → ((u = 0 ∧ tq M 12 r) ∨ (u = 1 ∧ ((0 ≤ M ∧ r = M % 12) ∨ (M < 0 ∧ r = -((-M) % 12))))) → Q (some (.int (iI 0))) (aup w out (alA G 1 (gup oo 0 (r))))) (hQd : ∀ y m d n : Int, (0 ≤ i ∧ i ≤ 7) → w (sa i.toNat) = some (stC y m d n) → (-9999 ≤ y ∧ y ≤ 9999) → (1 ≤ m ∧ m ≤ 12) → (1 ≤ d ∧ d ≤ lenM y m) → (0 ≤ n ∧ n ≤ 86399999999999) → ∀ y' m' d' n' : Int, (0 ≤ j ∧ j ≤ 7) → w (sa j.toNat) = some (stC y' m' d' n') → (-9999 ≤ y' ∧ y' ≤ 9999) → (1 ≤ m' ∧ m' ≤ 12) → (1 ≤ d' ∧ d' ≤ lenM y' m') → (0 ≤ n' ∧ n' ≤ 86399999999999) →  u = 2 → ∀ M : Int, monE (y * 12 + m - 1) d 0 (y' * 12 + m' - 1) d' 0 M → Q (some (.int (iI 0))) (aup w out (alA G 1 (gup oo 0 ((ed y' m' d' - monT (y * 12 + m - 1 + M) d)))))) : Ct l G mL_span rL_span [.ref x, .int (iI i), .int (iI j), .int (iI u), .ref out] w Q X := by
  refine ct_of hst mk_L_span (Nat.le_of_ble_eq_true rfl) ?_
  refine v_aload dL_span_0 rfl ?_
  refine v_iconst dL_span_2 ?_
  refine v_aload_n dL_span_3 rfl ?_
  refine v_iload_n dL_span_4 rfl ?_
  refine v_iload_n dL_span_5 rfl ?_
  refine v_iload_n dL_span_6 rfl ?_
  refine v_V3 (rm' := rX6_span) (RX6, TX6, 4) dL_span_7 km_L_41 kn_X6_span kv_X6_span kz_X6 mk_X6_span rfl rfl (by exact hx) ⟨Nat.le_of_ble_eq_true rfl, Nat.le_of_ble_eq_true rfl⟩ ⟨Nat.le_of_ble_eq_true rfl, Nat.le_of_ble_eq_true rfl⟩ (Nat.le_of_ble_eq_true rfl) ?_
  refine s_X6_span hst hx hsl hS hi ?_ hj ?_ hu ?_ ?_ ?_
  · intro a1
    refine vx_take [] (0, 12, 15, 13) [(0, 12, 19, 25)] rfl (fun z hz => nomatch hz) (by decide) (by decide) kc_L_13 kq_IndexOutOfBoundsException (fun q9 => ?_)
    refine v_astore dL_span_15 (by decide) ?_
    refine v_iconst dL_span_17 ?_
    exact v_iret dL_span_18 rfl (by exact hXI a1)
  · intro a1 a2
    refine vx_take [] (0, 12, 15, 13) [(0, 12, 19, 25)] rfl (fun z hz => nomatch hz) (by decide) (by decide) kc_L_13 kq_IndexOutOfBoundsException (fun q9 => ?_)
    refine v_astore dL_span_15 (by decide) ?_
    refine v_iconst dL_span_17 ?_
    exact v_iret dL_span_18 rfl (by exact hXJ a1 a2)
  · intro a1 a2 a3
    refine vx_take [(0, 12, 15, 13)] (0, 12, 19, 25) [] rfl (fun z hz => by
          rcases List.mem_cons.mp hz with rfl | hz
          · exact ⟨by decide, _, kc_L_13, by decide⟩
          cases hz) (by decide) (by decide) kc_L_25 kq_UnsupportedOperationException (fun q9 => ?_)
    refine v_astore dL_span_19 (by decide) ?_
    refine v_iconst dL_span_21 ?_
    exact v_iret dL_span_22 rfl (by exact hXU a1 a2 a3)
  · intro a1 a2 a3 a4 a5 a6 a7 a8 a9 a10 a11 a12 a13 a14 a15 a16 a17 a18 a19 a20 a21 a22 a23 a24 a25
    have hM9 : -300000 ≤ a22 ∧ a22 ≤ 300000 := (by unfold monE at a24; omega)
    have hr9 : -300000 ≤ a23 ∧ a23 ≤ 300000 := (by unfold tq at a25; omega)
    refine v_i2l dL_span_10 ?_
    refine v_last dL_span_11 (by exact ho) ?_
    refine v_goto 23 dL_span_12 ?_
    refine v_iconst dL_span_23 ?_
    exact v_iret dL_span_24 rfl (by exact hQm a1 a2 a3 a4 a5 a6 a7 a8 a9 a10 a11 a12 a13 a14 a15 a16 a17 a18 a19 a20 a21 a22 a23 a24 a25)
  · intro a1 a2 a3 a4 a5 a6 a7 a8 a9 a10 a11 a12 a13 a14 a15 a16 a17 a18 a19 a20 a21 a22 a23
    have hd9 := spanD_rng a7 a8 a9 a17 a18 a19 a23
    refine v_i2l dL_span_10 ?_
    refine v_last dL_span_11 (by exact ho) ?_
    refine v_goto 23 dL_span_12 ?_
    refine v_iconst dL_span_23 ?_
    exact v_iret dL_span_24 rfl (by exact hQd a1 a2 a3 a4 a5 a6 a7 a8 a9 a10 a11 a12 a13 a14 a15 a16 a17 a18 a19 a20 a21 a22 a23)
set_option maxRecDepth 100000 in
set_option maxHeartbeats 4000000 in
theorem s_L_adjust {l : Launch} {G : GG} {w : AH} {Q : Option Value → AH → Prop} {X : String → AH → Prop} (hst : l.stackTraces = false) {x sl zn li pg : Nat} {sa : Nat → Nat} {i : Int} (hx : w x = some (tdC sl zn li pg)) (hsl : w sl = some (arA G 4 8 (fun k => some (sa k)))) (hS : ∀ k : Nat, k < 8 → SV w (sa k)) (hi : -2147483648 ≤ i ∧ i ≤ 2147483647) (hXI : (i < 0 ∨ 7 < i) → Q (some (.int (iI 1))) w) {f k : Int} (hf : -2147483648 ≤ f ∧ f ≤ 2147483647) (hk : -2147483648 ≤ k ∧ k ≤ 2147483647) (hXA : (0 ≤ i ∧ i ≤ 7) → ¬ ((0 ≤ f ∧ f ≤ 5) ∧ 1 ≤ k ∧ k ≤ 7) → Q (some (.int (iI 2))) w) (hXE : ∀ y m d n : Int, (0 ≤ i ∧ i ≤ 7) → w (sa i.toNat) = some (stC y m d n) → (-9999 ≤ y ∧ y ≤ 9999) → (1 ≤ m ∧ m ≤ 12) → (1 ≤ d ∧ d ≤ lenM y m) → (0 ≤ n ∧ n ≤ 86399999999999) →  ((0 ≤ f ∧ f ≤ 5) ∧ 1 ≤ k ∧ k ≤ 7) → ∀ r : Int, adE y m d f k r → (r < -4371587 ∨ 2932896 < r) → Q (some (.int (iI 3))) w) (hQ : ∀ y m d n : Int, (0 ≤ i ∧ i ≤ 7) → w (sa i.toNat) = some (stC y m d n) → (-9999 ≤ y ∧ y ≤ 9999) → (1 ≤ m ∧ m ≤ 12) → (1 ≤ d ∧ d ≤ lenM y m) → (0 ≤ n ∧ n ≤ 86399999999999) →  ((0 ≤ f ∧ f ≤ 5) ∧ 1 ≤ k ∧ k ≤ 7) → ∀ r y' m' d' : Int, adE y m d f k r → (-9999 ≤ y' ∧ y' ≤ 9999) → (1 ≤ m' ∧ m' ≤ 12) → (1 ≤ d' ∧ d' ≤ lenM y' m') →  ed y' m' d' = r → Q (some (.int (iI 0))) (aup w (sa i.toNat) (stC y' m' d' n))) : Ct l G mL_adjust rL_adjust [.ref x, .int (iI i), .int (iI f), .int (iI k)] w Q X := by
  refine ct_of hst mk_L_adjust (Nat.le_of_ble_eq_true rfl) ?_
  refine v_aload_n dL_adjust_0 rfl ?_
  refine v_iload_n dL_adjust_1 rfl ?_
  refine v_iload_n dL_adjust_2 rfl ?_
  refine v_iload_n dL_adjust_3 rfl ?_
  refine v_V3 (rm' := rX6_adjust) (RX6, TX6, 4) dL_adjust_4 km_L_45 kn_X6_adjust kv_X6_adjust kz_X6 mk_X6_adjust rfl rfl (by exact hx) ⟨Nat.le_of_ble_eq_true rfl, Nat.le_of_ble_eq_true rfl⟩ ⟨Nat.le_of_ble_eq_true rfl, Nat.le_of_ble_eq_true rfl⟩ (Nat.le_of_ble_eq_true rfl) ?_
  refine s_X6_adjust hst hx hsl hS hi ?_ hf hk ?_ ?_ ?_
  · intro a1
    refine vx_take [] (0, 7, 10, 13) [(0, 7, 14, 15), (0, 7, 18, 35)] rfl (fun z hz => nomatch hz) (by decide) (by decide) kc_L_13 kq_IndexOutOfBoundsException (fun q9 => ?_)
    refine v_astore dL_adjust_10 (by decide) ?_
    refine v_iconst dL_adjust_12 ?_
    exact v_iret dL_adjust_13 rfl (by exact hXI a1)
  · intro a1 a2
    refine vx_take [(0, 7, 10, 13)] (0, 7, 14, 15) [(0, 7, 18, 35)] rfl (fun z hz => by
          rcases List.mem_cons.mp hz with rfl | hz
          · exact ⟨by decide, _, kc_L_13, by decide⟩
          cases hz) (by decide) (by decide) kc_L_15 kq_IllegalArgumentException (fun q9 => ?_)
    refine v_astore dL_adjust_14 (by decide) ?_
    refine v_iconst dL_adjust_16 ?_
    exact v_iret dL_adjust_17 rfl (by exact hXA a1 a2)
  · intro a1 a2 a3 a4 a5 a6 a7 a8 a9 a10 a11 a12 a13 a14
    refine vx_take [(0, 7, 10, 13), (0, 7, 14, 15)] (0, 7, 18, 35) [] rfl (fun z hz => by
          rcases List.mem_cons.mp hz with rfl | hz
          · exact ⟨by decide, _, kc_L_13, by decide⟩
          rcases List.mem_cons.mp hz with rfl | hz
          · exact ⟨by decide, _, kc_L_15, by decide⟩
          cases hz) (by decide) (by decide) kc_L_35 kq_ArithmeticException (fun q9 => ?_)
    refine v_astore dL_adjust_18 (by decide) ?_
    refine v_iconst dL_adjust_20 ?_
    exact v_iret dL_adjust_21 rfl (by exact hXE a1 a2 a3 a4 a5 a6 a7 a8 a9 a10 a11 a12 a13 a14)
  · intro a1 a2 a3 a4 a5 a6 a7 a8 a9 a10 a11 a12 a13 a14 a15 a16 a17 a18 a19 a20
    refine v_goto 22 dL_adjust_7 ?_
    refine v_iconst dL_adjust_22 ?_
    exact v_iret dL_adjust_23 rfl (by exact hQ a1 a2 a3 a4 a5 a6 a7 a8 a9 a10 a11 a12 a13 a14 a15 a16 a17 a18 a19 a20)
set_option maxRecDepth 100000 in
set_option maxHeartbeats 4000000 in
theorem s_L_copy {l : Launch} {G : GG} {w : AH} {Q : Option Value → AH → Prop} {X : String → AH → Prop} (hst : l.stackTraces = false) {out : Nat} {oo : Nat → Int} (ho : w out = some (alA G 1 oo)) {x sl zn li pg : Nat} {sa : Nat → Nat} {i : Int} (hx : w x = some (tdC sl zn li pg)) (hsl : w sl = some (arA G 4 8 (fun k => some (sa k)))) (hS : ∀ k : Nat, k < 8 → SV w (sa k)) (hi : -2147483648 ≤ i ∧ i ≤ 2147483647) (hXI : (i < 0 ∨ 7 < i) → Q (some (.int (iI 1))) w) {j : Int} (hj : -2147483648 ≤ j ∧ j ≤ 2147483647) (hXJ : (0 ≤ i ∧ i ≤ 7) → (j < 0 ∨ 7 < j) → Q (some (.int (iI 1))) w) (hQ : ∀ y m d n : Int, (0 ≤ i ∧ i ≤ 7) → w (sa i.toNat) = some (stC y m d n) → (-9999 ≤ y ∧ y ≤ 9999) → (1 ≤ m ∧ m ≤ 12) → (1 ≤ d ∧ d ≤ lenM y m) → (0 ≤ n ∧ n ≤ 86399999999999) → ∀ y' m' d' n' : Int, (0 ≤ j ∧ j ≤ 7) → w (sa j.toNat) = some (stC y' m' d' n') → (-9999 ≤ y' ∧ y' ≤ 9999) → (1 ≤ m' ∧ m' ≤ 12) → (1 ≤ d' ∧ d' ≤ lenM y' m') → (0 ≤ n' ∧ n' ≤ 86399999999999) →  ∀ r : Int, cmpE (ed y' m' d') n' (ed y m d) n r → Q (some (.int (iI 0))) (aup (aup w (sa j.toNat) (stC y m d n)) out (alA G 1 (gup oo 0 (r))))) : Ct l G mL_copy rL_copy [.ref x, .int (iI i), .int (iI j), .ref out] w Q X := by
  refine ct_of hst mk_L_copy (Nat.le_of_ble_eq_true rfl) ?_
  refine v_aload_n dL_copy_0 rfl ?_
  refine v_iconst dL_copy_1 ?_
  refine v_aload_n dL_copy_2 rfl ?_
  refine v_iload_n dL_copy_3 rfl ?_
  refine v_iload_n dL_copy_4 rfl ?_
  refine v_V2 (rm' := rX6_copy) (RX6, TX6, 4) dL_copy_5 km_L_49 kn_X6_copy kv_X6_copy kz_X6 mk_X6_copy rfl rfl (by exact hx) ⟨Nat.le_of_ble_eq_true rfl, Nat.le_of_ble_eq_true rfl⟩ ⟨Nat.le_of_ble_eq_true rfl, Nat.le_of_ble_eq_true rfl⟩ (Nat.le_of_ble_eq_true rfl) ?_
  refine s_X6_copy hst hx hsl hS hi ?_ hj ?_ ?_
  · intro a1
    refine vx_take [] (0, 10, 13, 13) [] rfl (fun z hz => nomatch hz) (by decide) (by decide) kc_L_13 kq_IndexOutOfBoundsException (fun q9 => ?_)
    refine v_astore dL_copy_13 (by decide) ?_
    refine v_iconst dL_copy_15 ?_
    exact v_iret dL_copy_16 rfl (by exact hXI a1)
  · intro a1 a2
    refine vx_take [] (0, 10, 13, 13) [] rfl (fun z hz => nomatch hz) (by decide) (by decide) kc_L_13 kq_IndexOutOfBoundsException (fun q9 => ?_)
    refine v_astore dL_copy_13 (by decide) ?_
    refine v_iconst dL_copy_15 ?_
    exact v_iret dL_copy_16 rfl (by exact hXJ a1 a2)
  · intro a1 a2 a3 a4 a5 a6 a7 a8 a9 a10 a11 a12 a13 a14 a15 a16 a17 a18 a19 a20 a21 a22
    have hr9 : -1 ≤ a21 ∧ a21 ≤ 1 := (by unfold cmpE at a22; omega)
    refine v_i2l dL_copy_8 ?_
    refine v_last dL_copy_9 (by exact (aup_n (fun q => ne_of a16 ho stal q.symm)).trans ho) ?_
    refine v_goto 17 dL_copy_10 ?_
    refine v_iconst dL_copy_17 ?_
    exact v_iret dL_copy_18 rfl (by exact hQ a1 a2 a3 a4 a5 a6 a7 a8 a9 a10 a11 a12 a13 a14 a15 a16 a17 a18 a19 a20 a21 a22)
set_option maxRecDepth 100000 in
set_option maxHeartbeats 4000000 in
theorem s_L_offset {l : Launch} {G : GG} {w : AH} {Q : Option Value → AH → Prop} {X : String → AH → Prop} (hst : l.stackTraces = false) {out : Nat} {oo : Nat → Int} (ho : w out = some (alA G 1 oo)) {x sl zn li pg : Nat} {za : Nat → Nat} {i : Int} (hx : w x = some (tdC sl zn li pg)) (hzn : w zn = some (arA G 5 4 (fun k => some (za k)))) (hi : -2147483648 ≤ i ∧ i ≤ 2147483647) {t : Int} (ht : -9223372036854775808 ≤ t ∧ t ≤ 9223372036854775807) {f c r : Int} {am ao ar : Nat} {ra : Nat → Nat} {gm go : Nat → Int} {ru : Nat → Nat → Int} (hZH : (0 ≤ i ∧ i ≤ 3) → w (za i.toNat) = some (zoC f am ao c ar r) ∧ w am = some (alA G 8 gm) ∧ w ao = some (aiA G 8 go) ∧ w ar = some (arA G 6 2 (fun i => some (ra i))) ∧ (∀ k, k < 2 → w (ra k) = some (ruC (ru k 0) (ru k 1) (ru k 2) (ru k 3) (ru k 4))) ∧ ZOK f c r gm go ru) (hXA : ¬ ((0 ≤ i ∧ i ≤ 3) ∧ (-377700000000 ≤ t ∧ t ≤ 253400000000)) → Q (some (.int (iI 1))) w) (hQ : (0 ≤ i ∧ i ≤ 3) → (-377700000000 ≤ t ∧ t ≤ 253400000000) → Q (some (.int (iI 0))) (aup w out (alA G 1 (gup oo 0 ((oA f c r gm go ru t)))))) : Ct l G mL_offset rL_offset [.ref x, .int (iI i), .long (lI t), .ref out] w Q X := by
  refine ct_of hst mk_L_offset (Nat.le_of_ble_eq_true rfl) ?_
  refine v_aload dL_offset_0 rfl ?_
  refine v_iconst dL_offset_2 ?_
  refine v_aload_n dL_offset_3 rfl ?_
  refine v_iload_n dL_offset_4 rfl ?_
  refine v_lload_n dL_offset_5 rfl ?_
  refine v_V2 (rm' := rX6_offset) (RX6, TX6, 4) dL_offset_6 km_L_53 kn_X6_offset kv_X6_offset kz_X6 mk_X6_offset rfl rfl (by exact hx) ⟨Nat.le_of_ble_eq_true rfl, Nat.le_of_ble_eq_true rfl⟩ ⟨Nat.le_of_ble_eq_true rfl, Nat.le_of_ble_eq_true rfl⟩ (Nat.le_of_ble_eq_true rfl) ?_
  refine s_X6_offset hst hx hzn hi ht hZH ?_ ?_
  · intro a1
    refine vx_take [] (0, 11, 14, 15) [] rfl (fun z hz => nomatch hz) (by decide) (by decide) kc_L_15 kq_IllegalArgumentException (fun q9 => ?_)
    refine v_astore dL_offset_14 (by decide) ?_
    refine v_iconst dL_offset_16 ?_
    exact v_iret dL_offset_17 rfl (by exact hXA a1)
  · intro a1 a2
    have ho9 := oA_rng (t := t) (hZH a1).2.2.2.2.2
    refine v_i2l dL_offset_9 ?_
    refine v_last dL_offset_10 (by exact ho) ?_
    refine v_goto 18 dL_offset_11 ?_
    refine v_iconst dL_offset_18 ?_
    exact v_iret dL_offset_19 rfl (by exact hQ a1 a2)
set_option maxRecDepth 100000 in
set_option maxHeartbeats 4000000 in
theorem s_L_moment {l : Launch} {G : GG} {w : AH} {Q : Option Value → AH → Prop} {X : String → AH → Prop} (hst : l.stackTraces = false) {out : Nat} {oo : Nat → Int} (ho : w out = some (alA G 1 oo)) {x sl zn li pg : Nat} {sa : Nat → Nat} {i : Int} (hx : w x = some (tdC sl zn li pg)) (hsl : w sl = some (arA G 4 8 (fun k => some (sa k)))) (hS : ∀ k : Nat, k < 8 → SV w (sa k)) (hi : -2147483648 ≤ i ∧ i ≤ 2147483647) (hXI : (i < 0 ∨ 7 < i) → Q (some (.int (iI 1))) w) {za : Nat → Nat} (hzn : w zn = some (arA G 5 4 (fun k => some (za k)))) {j : Int} (hj : -2147483648 ≤ j ∧ j ≤ 2147483647) {f c r : Int} {am ao ar : Nat} {ra : Nat → Nat} {gm go : Nat → Int} {ru : Nat → Nat → Int} (hZH : (0 ≤ j ∧ j ≤ 3) → w (za j.toNat) = some (zoC f am ao c ar r) ∧ w am = some (alA G 8 gm) ∧ w ao = some (aiA G 8 go) ∧ w ar = some (arA G 6 2 (fun i => some (ra i))) ∧ (∀ k, k < 2 → w (ra k) = some (ruC (ru k 0) (ru k 1) (ru k 2) (ru k 3) (ru k 4))) ∧ ZOK f c r gm go ru) {la : Int} (hla : la = 0 ∨ la = 1) (hXA : (0 ≤ i ∧ i ≤ 7) → ¬ (0 ≤ j ∧ j ≤ 3) → Q (some (.int (iI 2))) w) (hQ1 : ∀ y m d n : Int, (0 ≤ i ∧ i ≤ 7) → w (sa i.toNat) = some (stC y m d n) → (-9999 ≤ y ∧ y ≤ 9999) → (1 ≤ m ∧ m ≤ 12) → (1 ≤ d ∧ d ≤ lenM y m) → (0 ≤ n ∧ n ≤ 86399999999999) →  (0 ≤ j ∧ j ≤ 3) → mS f c r gm go ru (ed y m d * 86400 + n / 1000000000) la (1 + c + r).toNat ≠ -9223372036854775808 → Q (some (.int (iI 0))) (aup w out (alA G 1 (gup oo 0 ((mS f c r gm go ru (ed y m d * 86400 + n / 1000000000) la (1 + c + r).toNat)))))) (hQ2 : ∀ y m d n : Int, (0 ≤ i ∧ i ≤ 7) → w (sa i.toNat) = some (stC y m d n) → (-9999 ≤ y ∧ y ≤ 9999) → (1 ≤ m ∧ m ≤ 12) → (1 ≤ d ∧ d ≤ lenM y m) → (0 ≤ n ∧ n ≤ 86399999999999) →  (0 ≤ j ∧ j ≤ 3) → mS f c r gm go ru (ed y m d * 86400 + n / 1000000000) la (1 + c + r).toNat = -9223372036854775808 → ∀ E : Int, CE f c r gm go ru (ed y m d * 86400 + n / 1000000000) (yr ((ed y m d * 86400 + n / 1000000000) / 86400)) E → Q (some (.int (iI 0))) (aup w out (alA G 1 (gup oo 0 (((ed y m d * 86400 + n / 1000000000) - oA f c r gm go ru (E - 1))))))) : Ct l G mL_moment rL_moment [.ref x, .int (iI i), .int (iI j), .int (iI la), .ref out] w Q X := by
  refine ct_of hst mk_L_moment (Nat.le_of_ble_eq_true rfl) ?_
  refine v_aload dL_moment_0 rfl ?_
  refine v_iconst dL_moment_2 ?_
  refine v_aload_n dL_moment_3 rfl ?_
  refine v_iload_n dL_moment_4 rfl ?_
  refine v_iload_n dL_moment_5 rfl ?_
  refine v_iload_n dL_moment_6 rfl ?_
  refine v_V3 (rm' := rX6_moment) (RX6, TX6, 4) dL_moment_7 km_L_57 kn_X6_moment kv_X6_moment kz_X6 mk_X6_moment rfl rfl (by exact hx) ⟨Nat.le_of_ble_eq_true rfl, Nat.le_of_ble_eq_true rfl⟩ ⟨Nat.le_of_ble_eq_true rfl, Nat.le_of_ble_eq_true rfl⟩ (Nat.le_of_ble_eq_true rfl) ?_
  refine s_X6_moment hst hx hsl hS hi ?_ hzn hj hZH hla ?_ ?_ ?_
  · intro a1
    refine vx_take [] (0, 11, 14, 13) [(0, 11, 18, 15)] rfl (fun z hz => nomatch hz) (by decide) (by decide) kc_L_13 kq_IndexOutOfBoundsException (fun q9 => ?_)
    refine v_astore dL_moment_14 (by decide) ?_
    refine v_iconst dL_moment_16 ?_
    exact v_iret dL_moment_17 rfl (by exact hXI a1)
  · intro a1 a2
    refine vx_take [(0, 11, 14, 13)] (0, 11, 18, 15) [] rfl (fun z hz => by
          rcases List.mem_cons.mp hz with rfl | hz
          · exact ⟨by decide, _, kc_L_13, by decide⟩
          cases hz) (by decide) (by decide) kc_L_15 kq_IllegalArgumentException (fun q9 => ?_)
    refine v_astore dL_moment_18 (by decide) ?_
    refine v_iconst dL_moment_20 ?_
    exact v_iret dL_moment_21 rfl (by exact hXA a1 a2)
  · intro a1 a2 a3 a4 a5 a6 a7 a8 a9 a10 a11 a12
    refine v_last dL_moment_10 (by exact ho) ?_
    refine v_goto 22 dL_moment_11 ?_
    refine v_iconst dL_moment_22 ?_
    exact v_iret dL_moment_23 rfl (by exact hQ1 a1 a2 a3 a4 a5 a6 a7 a8 a9 a10 a11 a12)
  · intro a1 a2 a3 a4 a5 a6 a7 a8 a9 a10 a11 a12 a13 a14
    refine v_last dL_moment_10 (by exact ho) ?_
    refine v_goto 22 dL_moment_11 ?_
    refine v_iconst dL_moment_22 ?_
    exact v_iret dL_moment_23 rfl (by exact hQ2 a1 a2 a3 a4 a5 a6 a7 a8 a9 a10 a11 a12 a13 a14)
set_option maxRecDepth 100000 in
set_option maxHeartbeats 4000000 in
theorem s_L_show {l : Launch} {G : GG} {w : AH} {Q : Option Value → AH → Prop} {X : String → AH → Prop} (hst : l.stackTraces = false) {x sl zn li pg : Nat} {sa : Nat → Nat} {i : Int} (hx : w x = some (tdC sl zn li pg)) (hsl : w sl = some (arA G 4 8 (fun k => some (sa k)))) (hS : ∀ k : Nat, k < 8 → SV w (sa k)) (hi : -2147483648 ≤ i ∧ i ≤ 2147483647) (hXI : (i < 0 ∨ 7 < i) → Q (some (.int (iI 1))) w) {za : Nat → Nat} (hzn : w zn = some (arA G 5 4 (fun k => some (za k)))) {j : Int} (hj : -2147483648 ≤ j ∧ j ≤ 2147483647) {f c r : Int} {am ao ar : Nat} {ra : Nat → Nat} {gm go : Nat → Int} {ru : Nat → Nat → Int} (hZH : (0 ≤ j ∧ j ≤ 3) → w (za j.toNat) = some (zoC f am ao c ar r) ∧ w am = some (alA G 8 gm) ∧ w ao = some (aiA G 8 go) ∧ w ar = some (arA G 6 2 (fun i => some (ra i))) ∧ (∀ k, k < 2 → w (ra k) = some (ruC (ru k 0) (ru k 1) (ru k 2) (ru k 3) (ru k 4))) ∧ ZOK f c r gm go ru) {t : Int} (ht : -9223372036854775808 ≤ t ∧ t ≤ 9223372036854775807) (hXA : (0 ≤ i ∧ i ≤ 7) → ¬ (0 ≤ j ∧ j ≤ 3) → Q (some (.int (iI 2))) w) (hXM : (0 ≤ i ∧ i ≤ 7) → (0 ≤ j ∧ j ≤ 3) → ¬ (-377700000000 ≤ t ∧ t ≤ 253400000000) → Q (some (.int (iI 3))) w) (hXD : (0 ≤ i ∧ i ≤ 7) → (0 ≤ j ∧ j ≤ 3) → (-377700000000 ≤ t ∧ t ≤ 253400000000) → ((t + oA f c r gm go ru t) / 86400 < -4371587 ∨ 2932896 < (t + oA f c r gm go ru t) / 86400) → Q (some (.int (iI 3))) w) (hQ : ∀ y m d n : Int, (0 ≤ i ∧ i ≤ 7) → w (sa i.toNat) = some (stC y m d n) → (-9999 ≤ y ∧ y ≤ 9999) → (1 ≤ m ∧ m ≤ 12) → (1 ≤ d ∧ d ≤ lenM y m) → (0 ≤ n ∧ n ≤ 86399999999999) →  (0 ≤ j ∧ j ≤ 3) → (-377700000000 ≤ t ∧ t ≤ 253400000000) → ∀ y' m' d' : Int, (-9999 ≤ y' ∧ y' ≤ 9999) → (1 ≤ m' ∧ m' ≤ 12) → (1 ≤ d' ∧ d' ≤ lenM y' m') →  ed y' m' d' = (t + oA f c r gm go ru t) / 86400 → Q (some (.int (iI 0))) (aup w (sa i.toNat) (stC y' m' d' ((t + oA f c r gm go ru t) % 86400 * 1000000000)))) : Ct l G mL_show rL_show [.ref x, .int (iI i), .int (iI j), .long (lI t)] w Q X := by
  refine ct_of hst mk_L_show (Nat.le_of_ble_eq_true rfl) ?_
  refine v_aload_n dL_show_0 rfl ?_
  refine v_iload_n dL_show_1 rfl ?_
  refine v_iload_n dL_show_2 rfl ?_
  refine v_lload_n dL_show_3 rfl ?_
  refine v_V3 (rm' := rX6_show) (RX6, TX6, 4) dL_show_4 km_L_61 kn_X6_show kv_X6_show kz_X6 mk_X6_show rfl rfl (by exact hx) ⟨Nat.le_of_ble_eq_true rfl, Nat.le_of_ble_eq_true rfl⟩ ⟨Nat.le_of_ble_eq_true rfl, Nat.le_of_ble_eq_true rfl⟩ (Nat.le_of_ble_eq_true rfl) ?_
  refine s_X6_show hst hx hsl hS hi ?_ hzn hj hZH ht ?_ ?_ ?_ ?_
  · intro a1
    refine vx_take [] (0, 7, 10, 13) [(0, 7, 14, 15), (0, 7, 18, 35)] rfl (fun z hz => nomatch hz) (by decide) (by decide) kc_L_13 kq_IndexOutOfBoundsException (fun q9 => ?_)
    refine v_astore dL_show_10 (by decide) ?_
    refine v_iconst dL_show_12 ?_
    exact v_iret dL_show_13 rfl (by exact hXI a1)
  · intro a1 a2
    refine vx_take [(0, 7, 10, 13)] (0, 7, 14, 15) [(0, 7, 18, 35)] rfl (fun z hz => by
          rcases List.mem_cons.mp hz with rfl | hz
          · exact ⟨by decide, _, kc_L_13, by decide⟩
          cases hz) (by decide) (by decide) kc_L_15 kq_IllegalArgumentException (fun q9 => ?_)
    refine v_astore dL_show_14 (by decide) ?_
    refine v_iconst dL_show_16 ?_
    exact v_iret dL_show_17 rfl (by exact hXA a1 a2)
  · intro a1 a2 a3
    refine vx_take [(0, 7, 10, 13), (0, 7, 14, 15)] (0, 7, 18, 35) [] rfl (fun z hz => by
          rcases List.mem_cons.mp hz with rfl | hz
          · exact ⟨by decide, _, kc_L_13, by decide⟩
          rcases List.mem_cons.mp hz with rfl | hz
          · exact ⟨by decide, _, kc_L_15, by decide⟩
          cases hz) (by decide) (by decide) kc_L_35 kq_ArithmeticException (fun q9 => ?_)
    refine v_astore dL_show_18 (by decide) ?_
    refine v_iconst dL_show_20 ?_
    exact v_iret dL_show_21 rfl (by exact hXM a1 a2 a3)
  · intro a1 a2 a3 a4
    refine vx_take [(0, 7, 10, 13), (0, 7, 14, 15)] (0, 7, 18, 35) [] rfl (fun z hz => by
          rcases List.mem_cons.mp hz with rfl | hz
          · exact ⟨by decide, _, kc_L_13, by decide⟩
          rcases List.mem_cons.mp hz with rfl | hz
          · exact ⟨by decide, _, kc_L_15, by decide⟩
          cases hz) (by decide) (by decide) kc_L_35 kq_ArithmeticException (fun q9 => ?_)
    refine v_astore dL_show_18 (by decide) ?_
    refine v_iconst dL_show_20 ?_
    exact v_iret dL_show_21 rfl (by exact hXD a1 a2 a3 a4)
  · intro a1 a2 a3 a4 a5 a6 a7 a8 a9 a10 a11 a12 a13 a14 a15 a16 a17 a18 a19
    refine v_goto 22 dL_show_7 ?_
    refine v_iconst dL_show_22 ?_
    exact v_iret dL_show_23 rfl (by exact hQ a1 a2 a3 a4 a5 a6 a7 a8 a9 a10 a11 a12 a13 a14 a15 a16 a17 a18 a19)
set_option maxRecDepth 100000 in
set_option maxHeartbeats 4000000 in
theorem s_L_julian {l : Launch} {G : GG} {w : AH} {Q : Option Value → AH → Prop} {X : String → AH → Prop} (hst : l.stackTraces = false) {out : Nat} {oo : Nat → UInt64} (ho : w out = some (adA G 1 oo)) {x sl zn li pg : Nat} {sa : Nat → Nat} {i : Int} (hx : w x = some (tdC sl zn li pg)) (hsl : w sl = some (arA G 4 8 (fun k => some (sa k)))) (hS : ∀ k : Nat, k < 8 → SV w (sa k)) (hi : -2147483648 ≤ i ∧ i ≤ 2147483647) (hXI : (i < 0 ∨ 7 < i) → Q (some (.int (iI 1))) w) (hQ : ∀ y m d n : Int, (0 ≤ i ∧ i ≤ 7) → w (sa i.toNat) = some (stC y m d n) → (-9999 ≤ y ∧ y ≤ 9999) → (1 ≤ m ∧ m ≤ 12) → (1 ≤ d ∧ d ≤ lenM y m) → (0 ≤ n ∧ n ≤ 86399999999999) →  Q (some (.int (iI 0))) (aup w out (adA G 1 (fup oo 0 ((jD (ed y m d) n)))))) : Ct l G mL_julian rL_julian [.ref x, .int (iI i), .ref out] w Q X := by
  refine ct_of hst mk_L_julian (Nat.le_of_ble_eq_true rfl) ?_
  refine v_aload_n dL_julian_0 rfl ?_
  refine v_iconst dL_julian_1 ?_
  refine v_aload_n dL_julian_2 rfl ?_
  refine v_iload_n dL_julian_3 rfl ?_
  refine v_V1 (rm' := rX6_julian) (RX6, TX6, 4) dL_julian_4 km_L_64 kn_X6_julian kv_X6_julian kz_X6 mk_X6_julian rfl rfl (by exact hx) ⟨Nat.le_of_ble_eq_true rfl, Nat.le_of_ble_eq_true rfl⟩ ⟨Nat.le_of_ble_eq_true rfl, Nat.le_of_ble_eq_true rfl⟩ (Nat.le_of_ble_eq_true rfl) ?_
  refine s_X6_julian hst hx hsl hS hi ?_ ?_
  · intro a1
    refine vx_take [] (0, 8, 11, 13) [] rfl (fun z hz => nomatch hz) (by decide) (by decide) kc_L_13 kq_IndexOutOfBoundsException (fun q9 => ?_)
    refine v_astore_n dL_julian_11 (by decide) ?_
    refine v_iconst dL_julian_12 ?_
    exact v_iret dL_julian_13 rfl (by exact hXI a1)
  · intro a1 a2 a3 a4 a5 a6 a7 a8 a9 a10
    refine v_dast dL_julian_7 (by exact ho) ?_
    refine v_goto 14 dL_julian_8 ?_
    refine v_iconst dL_julian_14 ?_
    exact v_iret dL_julian_15 rfl (by exact hQ a1 a2 a3 a4 a5 a6 a7 a8 a9 a10)
set_option maxRecDepth 100000 in
set_option maxHeartbeats 4000000 in
theorem s_L_parse {l : Launch} {G : GG} {w : AH} {Q : Option Value → AH → Prop} {X : String → AH → Prop} (hst : l.stackTraces = false) {x sl zn li pg : Nat} {sa : Nat → Nat} {i : Int} (hx : w x = some (tdC sl zn li pg)) (hsl : w sl = some (arA G 4 8 (fun k => some (sa k)))) (hS : ∀ k : Nat, k < 8 → SV w (sa k)) (hi : -2147483648 ≤ i ∧ i ≤ 2147483647) (hXI : (i < 0 ∨ 7 < i) → Q (some (.int (iI 1))) w) {ac p : Nat} {L : Int} {g : Nat → Int} (hl0 : w li = some (liC ac L p)) (hl1 : w ac = some (acA G 30 g)) (hL : 0 ≤ L ∧ L ≤ 30) (hp : p ≤ 30) (hg : ∀ k, 0 ≤ g k ∧ g k ≤ 65535) {o : Nat} (ho : o = 0) (hXA : ∀ p' : Nat, p' ≤ 30 → (0 ≤ i ∧ i ≤ 7) → (∀ y m d T : Int, ¬ PO g L o y m d T) → Q (some (.int (iI 2))) (aup w li (liC ac 0 p'))) (hQ : ∀ (p' : Nat) (y m d T : Int), (0 ≤ i ∧ i ≤ 7) → PO g L o y m d T → Q (some (.int (iI 0))) (aup (aup w li (liC ac 0 p')) (sa i.toNat) (stC y m d T))) : Ct l G mL_parse rL_parse [.ref x, .int (iI i)] w Q X := by
  refine ct_of hst mk_L_parse (Nat.le_of_ble_eq_true rfl) ?_
  refine v_aload_n dL_parse_0 rfl ?_
  refine v_iload_n dL_parse_1 rfl ?_
  refine v_V1 (rm' := rX6_parse) (RX6, TX6, 4) dL_parse_2 km_L_68 kn_X6_parse kv_X6_parse kz_X6 mk_X6_parse rfl rfl (by exact hx) ⟨Nat.le_of_ble_eq_true rfl, Nat.le_of_ble_eq_true rfl⟩ ⟨Nat.le_of_ble_eq_true rfl, Nat.le_of_ble_eq_true rfl⟩ (Nat.le_of_ble_eq_true rfl) ?_
  refine s_X6_parse hst hx hsl hS hi ?_ hl0 hl1 hL hp hg ho ?_ ?_
  · intro a1
    refine vx_take [] (0, 5, 8, 13) [(0, 5, 11, 15)] rfl (fun z hz => nomatch hz) (by decide) (by decide) kc_L_13 kq_IndexOutOfBoundsException (fun q9 => ?_)
    refine v_astore_n dL_parse_8 (by decide) ?_
    refine v_iconst dL_parse_9 ?_
    exact v_iret dL_parse_10 rfl (by exact hXI a1)
  · intro a1 a2 a3 a4
    refine vx_take [(0, 5, 8, 13)] (0, 5, 11, 15) [] rfl (fun z hz => by
          rcases List.mem_cons.mp hz with rfl | hz
          · exact ⟨by decide, _, kc_L_13, by decide⟩
          cases hz) (by decide) (by decide) kc_L_15 kq_IllegalArgumentException (fun q9 => ?_)
    refine v_astore_n dL_parse_11 (by decide) ?_
    refine v_iconst dL_parse_12 ?_
    exact v_iret dL_parse_13 rfl (by exact hXA a1 a2 a3 a4)
  · intro a1 a2 a3 a4 a5 a6 a7
    refine v_goto 14 dL_parse_5 ?_
    refine v_iconst dL_parse_14 ?_
    exact v_iret dL_parse_15 rfl (by exact hQ a1 a2 a3 a4 a5 a6 a7)
set_option maxRecDepth 100000 in
set_option maxHeartbeats 4000000 in
theorem s_L_text {l : Launch} {G : GG} {w : AH} {Q : Option Value → AH → Prop} {X : String → AH → Prop} (hst : l.stackTraces = false) {out : Nat} {oo : Nat → Int} (ho : w out = some (alA G 1 oo)) {x sl zn li pg : Nat} {sa : Nat → Nat} {i : Int} (hx : w x = some (tdC sl zn li pg)) (hsl : w sl = some (arA G 4 8 (fun k => some (sa k)))) (hS : ∀ k : Nat, k < 8 → SV w (sa k)) (hi : -2147483648 ≤ i ∧ i ≤ 2147483647) (hXI : (i < 0 ∨ 7 < i) → Q (some (.int (iI 1))) w) {pc9 : Nat} {s0 : TS} (hp0 : w pg = some (paC pc9 s0.1)) (hp1 : w pc9 = some (acA G 30 s0.2)) {k : Int} (hk : -2147483648 ≤ k ∧ k ≤ 2147483647) (hXA : (0 ≤ i ∧ i ≤ 7) → k < 0 → Q (some (.int (iI 2))) w) (hQ : ∀ y m d n : Int, (0 ≤ i ∧ i ≤ 7) → w (sa i.toNat) = some (stC y m d n) → (-9999 ≤ y ∧ y ≤ 9999) → (1 ≤ m ∧ m ≤ 12) → (1 ≤ d ∧ d ≤ lenM y m) → (0 ≤ n ∧ n ≤ 86399999999999) →  0 ≤ k → Q (some (.int (iI 0))) (aup (PH G w pg pc9 (tTxt y m d n (0, s0.2))) out (alA G 1 (gup oo 0 ((if k < (tTxt y m d n (0, s0.2)).1 then (tTxt y m d n (0, s0.2)).2 k.toNat else -1)))))) : Ct l G mL_text rL_text [.ref x, .int (iI i), .int (iI k), .ref out] w Q X := by
  refine ct_of hst mk_L_text (Nat.le_of_ble_eq_true rfl) ?_
  refine v_aload_n dL_text_0 rfl ?_
  refine v_iconst dL_text_1 ?_
  refine v_aload_n dL_text_2 rfl ?_
  refine v_iload_n dL_text_3 rfl ?_
  refine v_iload_n dL_text_4 rfl ?_
  refine v_V2 (rm' := rX6_text) (RX6, TX6, 4) dL_text_5 km_L_72 kn_X6_text kv_X6_text kz_X6 mk_X6_text rfl rfl (by exact hx) ⟨Nat.le_of_ble_eq_true rfl, Nat.le_of_ble_eq_true rfl⟩ ⟨Nat.le_of_ble_eq_true rfl, Nat.le_of_ble_eq_true rfl⟩ (Nat.le_of_ble_eq_true rfl) ?_
  refine s_X6_text hst hx hsl hS hi ?_ hp0 hp1 hk ?_ ?_
  · intro a1
    refine vx_take [] (0, 10, 13, 13) [(0, 10, 17, 15)] rfl (fun z hz => nomatch hz) (by decide) (by decide) kc_L_13 kq_IndexOutOfBoundsException (fun q9 => ?_)
    refine v_astore dL_text_13 (by decide) ?_
    refine v_iconst dL_text_15 ?_
    exact v_iret dL_text_16 rfl (by exact hXI a1)
  · intro a1 a2
    refine vx_take [(0, 10, 13, 13)] (0, 10, 17, 15) [] rfl (fun z hz => by
          rcases List.mem_cons.mp hz with rfl | hz
          · exact ⟨by decide, _, kc_L_13, by decide⟩
          cases hz) (by decide) (by decide) kc_L_15 kq_IllegalArgumentException (fun q9 => ?_)
    refine v_astore dL_text_17 (by decide) ?_
    refine v_iconst dL_text_19 ?_
    exact v_iret dL_text_20 rfl (by exact hXA a1 a2)
  · intro a1 a2 a3 a4 a5 a6 a7 a8 a9 a10 a11
    have hv9 := tTxt_val (y := a1) (m := a2) (d := a3) (n := a4) (g := s0.2) (k := k) a11
    refine v_i2l dL_text_8 ?_
    refine v_last dL_text_9 (by exact (ph_o (fun q => ne_of hp0 ho paal q.symm) (fun q => ne_of hp1 ho caal q.symm)).trans ho) ?_
    refine v_goto 21 dL_text_10 ?_
    refine v_iconst dL_text_21 ?_
    exact v_iret dL_text_22 rfl (by exact hQ a1 a2 a3 a4 a5 a6 a7 a8 a9 a10 a11)
