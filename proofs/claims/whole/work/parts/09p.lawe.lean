set_option maxRecDepth 100000 in
set_option maxHeartbeats 8000000 in
theorem lw_zone {l : Launch} {G : GG} {Q : Option Value → AH → Prop} {X : String → AH → Prop} {B : Nat → Nat} {i : Int} {w : AH} {kc ks : Nat} (hst : l.stackTraces = false) (hB : iB B) (hi : 0 ≤ i ∧ i + 7 ≤ (G.scr.2.1 : Int)) (hL9 : G.scr.2.1 ≤ 448) (hk : kc ≤ 500000 ∧ ks ≤ 7000000) (h : SS G B w) (K : ∀ w' : AH, SS G B w' → V l G mL_law room_1 Q X 1530 (lof [(0, .ref G.scr.1), (1, .ref (B 0)), (2, .ref (B 39)), (3, .ref (B 50)), (4, .ref (B 51)), (5, .int (iI i))]) [] w' (kc + 8) (ks + 48)) : V l G mL_law room_1 Q X 830 (lof [(0, .ref G.scr.1), (1, .ref (B 0)), (2, .ref (B 39)), (3, .ref (B 50)), (4, .ref (B 51)), (5, .int (iI i))]) [] w kc ks := by
  obtain ⟨th, gd, gn, L, gl, fz, cz, rz, gm, go, ru, vF, vC, vM, vO, vK, vR, hc, hm, ho, hd⟩ := h
  have hgd := hc.gdr
  have hgn := hc.gnr
  obtain ⟨a1, e1⟩ : ∃ a : Int, scI G (i + 1).toNat = a := ⟨_, rfl⟩
  have r1 : -2147483648 ≤ a1 ∧ a1 ≤ 2147483647 := e1 ▸ scI_r G _
  obtain ⟨a2, e2⟩ : ∃ a : Int, scI G (i + 2).toNat = a := ⟨_, rfl⟩
  have r2 : -2147483648 ≤ a2 ∧ a2 ≤ 2147483647 := e2 ▸ scI_r G _
  refine v_aload_n dL_law_830 rfl ?_
  refine v_aload_n dL_law_831 rfl ?_
  refine v_iload dL_law_832 rfl ?_
  refine v_iconst dL_law_834 ?_
  refine v_iadd dL_law_835 ?_
  refine v_sldA (a := a1) dL_law_836 e1 ?_
  refine v_aload_n dL_law_837 rfl ?_
  refine v_iload dL_law_838 rfl ?_
  refine v_iconst dL_law_840 ?_
  refine v_iadd dL_law_841 ?_
  refine v_sldA (a := a2) dL_law_842 e2 ?_
  refine v_V2 (rm' := rX6_zone) (RX6, TX6, 4) dL_law_843 km_L_121 kn_X6_zone kv_X6_zone kz_X6 mk_X6_zone rfl rfl (by exact hc.1.1) ⟨Nat.le_of_ble_eq_true rfl, Nat.le_of_ble_eq_true rfl⟩ ⟨by show kc + 0 ≤ 600128; omega, by show ks + 0 ≤ 7301098; omega⟩ (Nat.le_of_ble_eq_true rfl) ?_
  refine s_X6_zone (za := fun k => B (11 + 6 * k)) hst hc.1.1 hc.1.2.2 r1 r2 (fun g => ⟨_, _, _, _, _, _, (hc.2.2.2.2 a1.toNat (by omega)).1⟩) ?_ ?_
  · intro g1
    have m1 := hm
    obtain ⟨yq, mq, dq, ap, wr, sz, gp, n0, n1, n2, nMA, n8, n9⟩ := id m1
    refine v_aload_n dL_law_846 rfl ?_
    refine v_aload_n dL_law_847 rfl ?_
    refine v_iload dL_law_848 rfl ?_
    refine v_iconst dL_law_850 ?_
    refine v_iadd dL_law_851 ?_
    refine v_sldA (a := a1) dL_law_852 e1 ?_
    refine v_aload_n dL_law_853 rfl ?_
    refine v_iload dL_law_854 rfl ?_
    refine v_iconst dL_law_856 ?_
    refine v_iadd dL_law_857 ?_
    refine v_sldA (a := a2) dL_law_858 e2 ?_
    refine v_V2 (rm' := rX7_zone) (RX7, TX7, 18) dL_law_859 km_L_125 kn_X7_zone kv_X7_zone kz_X7 mk_X7_zone rfl rfl (by exact n0) ⟨Nat.le_of_ble_eq_true rfl, Nat.le_of_ble_eq_true rfl⟩ ⟨by show kc + 0 + 0 ≤ 600128; omega, by show ks + 0 + 0 ≤ 7301098; omega⟩ (Nat.le_of_ble_eq_true rfl) ?_
    refine s_X7_zone hst n0 nMA (hA_of hB) r1 r2 ?_ ?_
    · intro b1
      refine v_icmp_eq 1530 dL_law_862 (fun h9 => ?_) (fun h9 => ?_)
      rotate_left
      · (exfalso; omega)
      exact v_wid (kc' := kc + 8) (ks' := ks + 48) (by show kc + 0 + 0 ≤ kc + 8; omega) (by show ks + 0 + 0 ≤ ks + 48; omega) (v_lof [(0, .ref G.scr.1), (1, .ref (B 0)), (2, .ref (B 39)), (3, .ref (B 50)), (4, .ref (B 51)), (5, .int (iI i))] (List.forall_mem_cons.mpr ⟨rfl, (List.forall_mem_cons.mpr ⟨rfl, (List.forall_mem_cons.mpr ⟨rfl, (List.forall_mem_cons.mpr ⟨rfl, (List.forall_mem_cons.mpr ⟨rfl, (List.forall_mem_cons.mpr ⟨rfl, (fun _ h => nomatch h)⟩)⟩)⟩)⟩)⟩)⟩) (K _ (SS.of (hc.o hB ⟨by omega, by omega⟩) (m1.md hB) (ho.c hB (by omega)) hd)))
    · intro b1 b2
      exfalso; first | omega | contradiction
  · intro f9 c9 r9 am9 ao9 ar9 g1 g2 g3
    obtain ⟨rfl, rfl, rfl⟩ := zo_inj (Option.some.inj ((hc.2.2.2.2 a1.toNat (by omega)).1.symm.trans g3))
    have m1 := (hm.c hB (k := (11 + 6 * a1.toNat)) (e := zoC a2 (B (12 + 6 * a1.toNat)) (B (13 + 6 * a1.toNat)) 0 (B (14 + 6 * a1.toNat)) 0) ⟨by omega, by omega⟩)
    obtain ⟨yq, mq, dq, ap, wr, sz, gp, n0, n1, n2, nMA, n8, n9⟩ := id m1
    refine v_aload_n dL_law_846 rfl ?_
    refine v_aload_n dL_law_847 rfl ?_
    refine v_iload dL_law_848 rfl ?_
    refine v_iconst dL_law_850 ?_
    refine v_iadd dL_law_851 ?_
    refine v_sldA (a := a1) dL_law_852 e1 ?_
    refine v_aload_n dL_law_853 rfl ?_
    refine v_iload dL_law_854 rfl ?_
    refine v_iconst dL_law_856 ?_
    refine v_iadd dL_law_857 ?_
    refine v_sldA (a := a2) dL_law_858 e2 ?_
    refine v_V2 (rm' := rX7_zone) (RX7, TX7, 18) dL_law_859 km_L_125 kn_X7_zone kv_X7_zone kz_X7 mk_X7_zone rfl rfl (by exact n0) ⟨Nat.le_of_ble_eq_true rfl, Nat.le_of_ble_eq_true rfl⟩ ⟨by show kc + 0 + 0 ≤ 600128; omega, by show ks + 0 + 0 ≤ 7301098; omega⟩ (Nat.le_of_ble_eq_true rfl) ?_
    refine s_X7_zone hst n0 nMA (hA_of hB) r1 r2 ?_ ?_
    · intro b1
      exfalso; first | omega | contradiction
    · intro b1 b2
      refine v_icmp_eq 1530 dL_law_862 (fun h9 => ?_) (fun h9 => ?_)
      rotate_left
      · (exfalso; omega)
      exact v_wid (kc' := kc + 8) (ks' := ks + 48) (by show kc + 0 + 0 ≤ kc + 8; omega) (by show ks + 0 + 0 ≤ ks + 48; omega) (v_lof [(0, .ref G.scr.1), (1, .ref (B 0)), (2, .ref (B 39)), (3, .ref (B 50)), (4, .ref (B 51)), (5, .int (iI i))] (List.forall_mem_cons.mpr ⟨rfl, (List.forall_mem_cons.mpr ⟨rfl, (List.forall_mem_cons.mpr ⟨rfl, (List.forall_mem_cons.mpr ⟨rfl, (List.forall_mem_cons.mpr ⟨rfl, (List.forall_mem_cons.mpr ⟨rfl, (fun _ h => nomatch h)⟩)⟩)⟩)⟩)⟩)⟩) (K _ (SS.of (((((hc.zo hB (z := a1.toNat) (by omega)).o hB ⟨by omega, by omega⟩).o hB ⟨by omega, by omega⟩).o hB ⟨by omega, by omega⟩).o hB ⟨by omega, by omega⟩) ((((m1.md hB).zF hB).zC hB).zK hB) (((((ho.c hB (by omega)).c hB (by omega)).c hB (by omega)).c hB (by omega)).c hB (by omega)) (hd.zo (z := a1.toNat) (by omega) g2))))
set_option maxRecDepth 100000 in
set_option maxHeartbeats 8000000 in
theorem lw_change {l : Launch} {G : GG} {Q : Option Value → AH → Prop} {X : String → AH → Prop} {B : Nat → Nat} {i : Int} {w : AH} {kc ks : Nat} (hst : l.stackTraces = false) (hB : iB B) (hi : 0 ≤ i ∧ i + 7 ≤ (G.scr.2.1 : Int)) (hL9 : G.scr.2.1 ≤ 448) (hk : kc ≤ 500000 ∧ ks ≤ 7000000) (h : SS G B w) (K : ∀ w' : AH, SS G B w' → V l G mL_law room_1 Q X 1530 (lof [(0, .ref G.scr.1), (1, .ref (B 0)), (2, .ref (B 39)), (3, .ref (B 50)), (4, .ref (B 51)), (5, .int (iI i))]) [] w' (kc + 8) (ks + 48)) : V l G mL_law room_1 Q X 867 (lof [(0, .ref G.scr.1), (1, .ref (B 0)), (2, .ref (B 39)), (3, .ref (B 50)), (4, .ref (B 51)), (5, .int (iI i))]) [] w kc ks := by
  obtain ⟨th, gd, gn, L, gl, fz, cz, rz, gm, go, ru, vF, vC, vM, vO, vK, vR, hc, hm, ho, hd⟩ := h
  have hgd := hc.gdr
  have hgn := hc.gnr
  obtain ⟨a1, e1⟩ : ∃ a : Int, scI G (i + 1).toNat = a := ⟨_, rfl⟩
  have r1 : -2147483648 ≤ a1 ∧ a1 ≤ 2147483647 := e1 ▸ scI_r G _
  obtain ⟨a2, e2⟩ : ∃ a : Int, scI G (i + 2).toNat = a := ⟨_, rfl⟩
  have r2 : -2147483648 ≤ a2 ∧ a2 ≤ 2147483647 := e2 ▸ scI_r G _
  obtain ⟨a3, e3⟩ : ∃ a : Int, scI G (i + 3).toNat = a := ⟨_, rfl⟩
  have r3 : -2147483648 ≤ a3 ∧ a3 ≤ 2147483647 := e3 ▸ scI_r G _
  obtain ⟨a4, e4⟩ : ∃ a : Int, scI G (i + 4).toNat = a := ⟨_, rfl⟩
  have r4 : -2147483648 ≤ a4 ∧ a4 ≤ 2147483647 := e4 ▸ scI_r G _
  obtain ⟨t, et⟩ : ∃ t : Int, mLg a2 a3 = t := ⟨_, rfl⟩
  have rt : -9223372036854775808 ≤ t ∧ t ≤ 9223372036854775807 := et ▸ mLg_r _ _
  refine v_aload_n dL_law_867 rfl ?_
  refine v_aload_n dL_law_868 rfl ?_
  refine v_iload dL_law_869 rfl ?_
  refine v_iconst dL_law_871 ?_
  refine v_iadd dL_law_872 ?_
  refine v_sldA (a := a1) dL_law_873 e1 ?_
  refine v_aload_n dL_law_874 rfl ?_
  refine v_iload dL_law_875 rfl ?_
  refine v_iconst dL_law_877 ?_
  refine v_iadd dL_law_878 ?_
  refine v_sldA (a := a2) dL_law_879 e2 ?_
  refine v_i2l dL_law_880 ?_
  refine v_bipush dL_law_881 ?_
  refine v_lshl dL_law_883 ?_
  refine v_aload_n dL_law_884 rfl ?_
  refine v_iload dL_law_885 rfl ?_
  refine v_iconst dL_law_887 ?_
  refine v_iadd dL_law_888 ?_
  refine v_sldA (a := a3) dL_law_889 e3 ?_
  refine v_i2l dL_law_890 ?_
  refine v_ldc2 4294967295 dL_law_891 kl_L_97 ?_
  refine v_land dL_law_894 ?_
  refine v_lorL (t := t) dL_law_895 et ?_
  refine v_aload_n dL_law_896 rfl ?_
  refine v_iload dL_law_897 rfl ?_
  refine v_iconst dL_law_899 ?_
  refine v_iadd dL_law_900 ?_
  refine v_sldA (a := a4) dL_law_901 e4 ?_
  refine v_V3 (rm' := rX6_change) (RX6, TX6, 4) dL_law_902 km_L_126 kn_X6_change kv_X6_change kz_X6 mk_X6_change rfl rfl (by exact hc.1.1) ⟨Nat.le_of_ble_eq_true rfl, Nat.le_of_ble_eq_true rfl⟩ ⟨by show kc + 0 ≤ 600128; omega, by show ks + 0 ≤ 7301098; omega⟩ (Nat.le_of_ble_eq_true rfl) ?_
  refine s_X6_changeP (za := fun k => B (11 + 6 * k)) hst hc.1.1 hc.1.2.2 r1 r4 rt (fun g => ⟨(hc.2.2.2.2 a1.toNat (by omega)).1, (hc.2.2.2.2 a1.toNat (by omega)).2.1, (hc.2.2.2.2 a1.toNat (by omega)).2.2.1, (hd.2.2 a1.toNat (by omega)).1.1, (hd.2.2 a1.toNat (by omega)).1.2.1, fun k => by have := (hd.2.2 a1.toNat (by omega)).1.2.2.1 k; omega⟩) ?_ ?_ ?_
  · intro g1
    have m1 := hm
    obtain ⟨yq, mq, dq, ap, wr, sz, gp, n0, n1, n2, nMA, n8, n9⟩ := id m1
    refine v_aload_n dL_law_905 rfl ?_
    refine v_aload_n dL_law_906 rfl ?_
    refine v_iload dL_law_907 rfl ?_
    refine v_iconst dL_law_909 ?_
    refine v_iadd dL_law_910 ?_
    refine v_sldA (a := a1) dL_law_911 e1 ?_
    refine v_aload_n dL_law_912 rfl ?_
    refine v_iload dL_law_913 rfl ?_
    refine v_iconst dL_law_915 ?_
    refine v_iadd dL_law_916 ?_
    refine v_sldA (a := a2) dL_law_917 e2 ?_
    refine v_i2l dL_law_918 ?_
    refine v_bipush dL_law_919 ?_
    refine v_lshl dL_law_921 ?_
    refine v_aload_n dL_law_922 rfl ?_
    refine v_iload dL_law_923 rfl ?_
    refine v_iconst dL_law_925 ?_
    refine v_iadd dL_law_926 ?_
    refine v_sldA (a := a3) dL_law_927 e3 ?_
    refine v_i2l dL_law_928 ?_
    refine v_ldc2 4294967295 dL_law_929 kl_L_97 ?_
    refine v_land dL_law_932 ?_
    refine v_lorL (t := t) dL_law_933 et ?_
    refine v_aload_n dL_law_934 rfl ?_
    refine v_iload dL_law_935 rfl ?_
    refine v_iconst dL_law_937 ?_
    refine v_iadd dL_law_938 ?_
    refine v_sldA (a := a4) dL_law_939 e4 ?_
    refine v_V3 (rm' := rX7_change) (RX7, TX7, 18) dL_law_940 km_L_130 kn_X7_change kv_X7_change kz_X7 mk_X7_change rfl rfl (by exact n0) ⟨Nat.le_of_ble_eq_true rfl, Nat.le_of_ble_eq_true rfl⟩ ⟨by show kc + 0 + 0 ≤ 600128; omega, by show ks + 0 + 0 ≤ 7301098; omega⟩ (Nat.le_of_ble_eq_true rfl) ?_
    refine s_X7_change hst n0 nMA (hA_of hB) r1 rt r4 (fun g => ⟨(hd.2.2 a1.toNat (by omega)).2, (hd.2.2 a1.toNat (by omega)).1⟩) ?_ ?_ ?_
    · intro b1
      refine v_icmp_eq 1530 dL_law_943 (fun h9 => ?_) (fun h9 => ?_)
      rotate_left
      · (exfalso; omega)
      exact v_wid (kc' := kc + 8) (ks' := ks + 48) (by show kc + 0 + 0 ≤ kc + 8; omega) (by show ks + 0 + 0 ≤ ks + 48; omega) (v_lof [(0, .ref G.scr.1), (1, .ref (B 0)), (2, .ref (B 39)), (3, .ref (B 50)), (4, .ref (B 51)), (5, .int (iI i))] (List.forall_mem_cons.mpr ⟨rfl, (List.forall_mem_cons.mpr ⟨rfl, (List.forall_mem_cons.mpr ⟨rfl, (List.forall_mem_cons.mpr ⟨rfl, (List.forall_mem_cons.mpr ⟨rfl, (List.forall_mem_cons.mpr ⟨rfl, (fun _ h => nomatch h)⟩)⟩)⟩)⟩)⟩)⟩) (K _ (SS.of (hc.o hB ⟨by omega, by omega⟩) (m1.md hB) (ho.c hB (by omega)) hd)))
    · intro b1 b2 b3
      exfalso; first | omega | contradiction
    · intro b1 b2 b3
      exfalso; first | omega | contradiction
  · intro g1 x1 x2
    have m1 := hm
    obtain ⟨yq, mq, dq, ap, wr, sz, gp, n0, n1, n2, nMA, n8, n9⟩ := id m1
    refine v_aload_n dL_law_905 rfl ?_
    refine v_aload_n dL_law_906 rfl ?_
    refine v_iload dL_law_907 rfl ?_
    refine v_iconst dL_law_909 ?_
    refine v_iadd dL_law_910 ?_
    refine v_sldA (a := a1) dL_law_911 e1 ?_
    refine v_aload_n dL_law_912 rfl ?_
    refine v_iload dL_law_913 rfl ?_
    refine v_iconst dL_law_915 ?_
    refine v_iadd dL_law_916 ?_
    refine v_sldA (a := a2) dL_law_917 e2 ?_
    refine v_i2l dL_law_918 ?_
    refine v_bipush dL_law_919 ?_
    refine v_lshl dL_law_921 ?_
    refine v_aload_n dL_law_922 rfl ?_
    refine v_iload dL_law_923 rfl ?_
    refine v_iconst dL_law_925 ?_
    refine v_iadd dL_law_926 ?_
    refine v_sldA (a := a3) dL_law_927 e3 ?_
    refine v_i2l dL_law_928 ?_
    refine v_ldc2 4294967295 dL_law_929 kl_L_97 ?_
    refine v_land dL_law_932 ?_
    refine v_lorL (t := t) dL_law_933 et ?_
    refine v_aload_n dL_law_934 rfl ?_
    refine v_iload dL_law_935 rfl ?_
    refine v_iconst dL_law_937 ?_
    refine v_iadd dL_law_938 ?_
    refine v_sldA (a := a4) dL_law_939 e4 ?_
    refine v_V3 (rm' := rX7_change) (RX7, TX7, 18) dL_law_940 km_L_130 kn_X7_change kv_X7_change kz_X7 mk_X7_change rfl rfl (by exact n0) ⟨Nat.le_of_ble_eq_true rfl, Nat.le_of_ble_eq_true rfl⟩ ⟨by show kc + 0 + 0 ≤ 600128; omega, by show ks + 0 + 0 ≤ 7301098; omega⟩ (Nat.le_of_ble_eq_true rfl) ?_
    refine s_X7_change hst n0 nMA (hA_of hB) r1 rt r4 (fun g => ⟨(hd.2.2 a1.toNat (by omega)).2, (hd.2.2 a1.toNat (by omega)).1⟩) ?_ ?_ ?_
    · intro b1
      exfalso; first | omega | contradiction
    · intro b1 b2 b3
      refine v_icmp_eq 1530 dL_law_943 (fun h9 => ?_) (fun h9 => ?_)
      rotate_left
      · (exfalso; omega)
      exact v_wid (kc' := kc + 8) (ks' := ks + 48) (by show kc + 0 + 0 ≤ kc + 8; omega) (by show ks + 0 + 0 ≤ ks + 48; omega) (v_lof [(0, .ref G.scr.1), (1, .ref (B 0)), (2, .ref (B 39)), (3, .ref (B 50)), (4, .ref (B 51)), (5, .int (iI i))] (List.forall_mem_cons.mpr ⟨rfl, (List.forall_mem_cons.mpr ⟨rfl, (List.forall_mem_cons.mpr ⟨rfl, (List.forall_mem_cons.mpr ⟨rfl, (List.forall_mem_cons.mpr ⟨rfl, (List.forall_mem_cons.mpr ⟨rfl, (fun _ h => nomatch h)⟩)⟩)⟩)⟩)⟩)⟩) (K _ (SS.of (hc.o hB ⟨by omega, by omega⟩) (m1.md hB) (ho.c hB (by omega)) hd)))
    · intro b1 b2 b3
      exact absurd x2 b3
  · intro g1 x1 x2
    have m1 := (((hm.c hB (k := (12 + 6 * a1.toNat)) (e := alA G 8 (gup (gm a1.toNat) (cz a1.toNat).toNat t)) ⟨by omega, by omega⟩).c hB (k := (13 + 6 * a1.toNat)) (e := aiA G 8 (gup (go a1.toNat) (cz a1.toNat).toNat a4)) ⟨by omega, by omega⟩).c hB (k := (11 + 6 * a1.toNat)) (e := zoC (fz a1.toNat) (B (12 + 6 * a1.toNat)) (B (13 + 6 * a1.toNat)) (cz a1.toNat + 1) (B (14 + 6 * a1.toNat)) (rz a1.toNat)) ⟨by omega, by omega⟩)
    obtain ⟨yq, mq, dq, ap, wr, sz, gp, n0, n1, n2, nMA, n8, n9⟩ := id m1
    refine v_aload_n dL_law_905 rfl ?_
    refine v_aload_n dL_law_906 rfl ?_
    refine v_iload dL_law_907 rfl ?_
    refine v_iconst dL_law_909 ?_
    refine v_iadd dL_law_910 ?_
    refine v_sldA (a := a1) dL_law_911 e1 ?_
    refine v_aload_n dL_law_912 rfl ?_
    refine v_iload dL_law_913 rfl ?_
    refine v_iconst dL_law_915 ?_
    refine v_iadd dL_law_916 ?_
    refine v_sldA (a := a2) dL_law_917 e2 ?_
    refine v_i2l dL_law_918 ?_
    refine v_bipush dL_law_919 ?_
    refine v_lshl dL_law_921 ?_
    refine v_aload_n dL_law_922 rfl ?_
    refine v_iload dL_law_923 rfl ?_
    refine v_iconst dL_law_925 ?_
    refine v_iadd dL_law_926 ?_
    refine v_sldA (a := a3) dL_law_927 e3 ?_
    refine v_i2l dL_law_928 ?_
    refine v_ldc2 4294967295 dL_law_929 kl_L_97 ?_
    refine v_land dL_law_932 ?_
    refine v_lorL (t := t) dL_law_933 et ?_
    refine v_aload_n dL_law_934 rfl ?_
    refine v_iload dL_law_935 rfl ?_
    refine v_iconst dL_law_937 ?_
    refine v_iadd dL_law_938 ?_
    refine v_sldA (a := a4) dL_law_939 e4 ?_
    refine v_V3 (rm' := rX7_change) (RX7, TX7, 18) dL_law_940 km_L_130 kn_X7_change kv_X7_change kz_X7 mk_X7_change rfl rfl (by exact n0) ⟨Nat.le_of_ble_eq_true rfl, Nat.le_of_ble_eq_true rfl⟩ ⟨by show kc + 0 + 0 ≤ 600128; omega, by show ks + 0 + 0 ≤ 7301098; omega⟩ (Nat.le_of_ble_eq_true rfl) ?_
    refine s_X7_change hst n0 nMA (hA_of hB) r1 rt r4 (fun g => ⟨(hd.2.2 a1.toNat (by omega)).2, (hd.2.2 a1.toNat (by omega)).1⟩) ?_ ?_ ?_
    · intro b1
      exfalso; first | omega | contradiction
    · intro b1 b2 b3
      exact absurd b3 x2
    · intro b1 b2 b3
      refine v_icmp_eq 1530 dL_law_943 (fun h9 => ?_) (fun h9 => ?_)
      rotate_left
      · (exfalso; omega)
      exact v_wid (kc' := kc + 8) (ks' := ks + 48) (by show kc + 0 + 0 ≤ kc + 8; omega) (by show ks + 0 + 0 ≤ ks + 48; omega) (v_lof [(0, .ref G.scr.1), (1, .ref (B 0)), (2, .ref (B 39)), (3, .ref (B 50)), (4, .ref (B 51)), (5, .int (iI i))] (List.forall_mem_cons.mpr ⟨rfl, (List.forall_mem_cons.mpr ⟨rfl, (List.forall_mem_cons.mpr ⟨rfl, (List.forall_mem_cons.mpr ⟨rfl, (List.forall_mem_cons.mpr ⟨rfl, (List.forall_mem_cons.mpr ⟨rfl, (fun _ h => nomatch h)⟩)⟩)⟩)⟩)⟩)⟩) (K _ (SS.of (((((((hc.zm hB (z := a1.toNat) (by omega)).zp hB (z := a1.toNat) (by omega)).zo hB (z := a1.toNat) (by omega)).o hB ⟨by omega, by omega⟩).o hB ⟨by omega, by omega⟩).o hB ⟨by omega, by omega⟩).o hB ⟨by omega, by omega⟩) ((((m1.md hB).zM hB).zO hB).zC hB) (((((((ho.c hB (by omega)).c hB (by omega)).c hB (by omega)).c hB (by omega)).c hB (by omega)).c hB (by omega)).c hB (by omega)) (hd.ch g1 x1.1 x1.2 x2))))
set_option maxRecDepth 100000 in
set_option maxHeartbeats 8000000 in
theorem lw_rule {l : Launch} {G : GG} {Q : Option Value → AH → Prop} {X : String → AH → Prop} {B : Nat → Nat} {i : Int} {w : AH} {kc ks : Nat} (hst : l.stackTraces = false) (hB : iB B) (hi : 0 ≤ i ∧ i + 7 ≤ (G.scr.2.1 : Int)) (hL9 : G.scr.2.1 ≤ 448) (hk : kc ≤ 500000 ∧ ks ≤ 7000000) (h : SS G B w) (K : ∀ w' : AH, SS G B w' → V l G mL_law room_1 Q X 1530 (lof [(0, .ref G.scr.1), (1, .ref (B 0)), (2, .ref (B 39)), (3, .ref (B 50)), (4, .ref (B 51)), (5, .int (iI i))]) [] w' (kc + 8) (ks + 48)) : V l G mL_law room_1 Q X 948 (lof [(0, .ref G.scr.1), (1, .ref (B 0)), (2, .ref (B 39)), (3, .ref (B 50)), (4, .ref (B 51)), (5, .int (iI i))]) [] w kc ks := by
  obtain ⟨th, gd, gn, L, gl, fz, cz, rz, gm, go, ru, vF, vC, vM, vO, vK, vR, hc, hm, ho, hd⟩ := h
  have hgd := hc.gdr
  have hgn := hc.gnr
  obtain ⟨a1, e1⟩ : ∃ a : Int, scI G (i + 1).toNat = a := ⟨_, rfl⟩
  have r1 : -2147483648 ≤ a1 ∧ a1 ≤ 2147483647 := e1 ▸ scI_r G _
  obtain ⟨a2, e2⟩ : ∃ a : Int, scI G (i + 2).toNat = a := ⟨_, rfl⟩
  have r2 : -2147483648 ≤ a2 ∧ a2 ≤ 2147483647 := e2 ▸ scI_r G _
  obtain ⟨a3, e3⟩ : ∃ a : Int, scI G (i + 3).toNat = a := ⟨_, rfl⟩
  have r3 : -2147483648 ≤ a3 ∧ a3 ≤ 2147483647 := e3 ▸ scI_r G _
  obtain ⟨a4, e4⟩ : ∃ a : Int, scI G (i + 4).toNat = a := ⟨_, rfl⟩
  have r4 : -2147483648 ≤ a4 ∧ a4 ≤ 2147483647 := e4 ▸ scI_r G _
  obtain ⟨a5, e5⟩ : ∃ a : Int, scI G (i + 5).toNat = a := ⟨_, rfl⟩
  have r5 : -2147483648 ≤ a5 ∧ a5 ≤ 2147483647 := e5 ▸ scI_r G _
  obtain ⟨a6, e6⟩ : ∃ a : Int, scI G (i + 6).toNat = a := ⟨_, rfl⟩
  have r6 : -2147483648 ≤ a6 ∧ a6 ≤ 2147483647 := e6 ▸ scI_r G _
  refine v_aload_n dL_law_948 rfl ?_
  refine v_aload_n dL_law_949 rfl ?_
  refine v_iload dL_law_950 rfl ?_
  refine v_iconst dL_law_952 ?_
  refine v_iadd dL_law_953 ?_
  refine v_sldA (a := a1) dL_law_954 e1 ?_
  refine v_aload_n dL_law_955 rfl ?_
  refine v_iload dL_law_956 rfl ?_
  refine v_iconst dL_law_958 ?_
  refine v_iadd dL_law_959 ?_
  refine v_sldA (a := a2) dL_law_960 e2 ?_
  refine v_aload_n dL_law_961 rfl ?_
  refine v_iload dL_law_962 rfl ?_
  refine v_iconst dL_law_964 ?_
  refine v_iadd dL_law_965 ?_
  refine v_sldA (a := a3) dL_law_966 e3 ?_
  refine v_aload_n dL_law_967 rfl ?_
  refine v_iload dL_law_968 rfl ?_
  refine v_iconst dL_law_970 ?_
  refine v_iadd dL_law_971 ?_
  refine v_sldA (a := a4) dL_law_972 e4 ?_
  refine v_aload_n dL_law_973 rfl ?_
  refine v_iload dL_law_974 rfl ?_
  refine v_iconst dL_law_976 ?_
  refine v_iadd dL_law_977 ?_
  refine v_sldA (a := a5) dL_law_978 e5 ?_
  refine v_aload_n dL_law_979 rfl ?_
  refine v_iload dL_law_980 rfl ?_
  refine v_bipush dL_law_982 ?_
  refine v_iadd dL_law_984 ?_
  refine v_sldA (a := a6) dL_law_985 e6 ?_
  refine v_V6 (rm' := rX6_rule) (RX6, TX6, 4) dL_law_986 km_L_131 kn_X6_rule kv_X6_rule kz_X6 mk_X6_rule rfl rfl (by exact hc.1.1) ⟨Nat.le_of_ble_eq_true rfl, Nat.le_of_ble_eq_true rfl⟩ ⟨by show kc + 0 ≤ 600128; omega, by show ks + 0 ≤ 7301098; omega⟩ (Nat.le_of_ble_eq_true rfl) ?_
  refine s_X6_ruleP (za := fun k => B (11 + 6 * k)) (ra := fun q => B (15 + 6 * a1.toNat + q)) hst hc.1.1 hc.1.2.2 r1 r2 r3 r4 r5 r6 (fun g => ⟨(hc.2.2.2.2 a1.toNat (by omega)).1, (hc.2.2.2.2 a1.toNat (by omega)).2.2.2.1, (hd.2.2 a1.toNat (by omega)).1.1, (hd.2.2 a1.toNat (by omega)).1.2.1, fun k hk => ⟨_, _, _, _, _, (hc.2.2.2.2 a1.toNat (by omega)).2.2.2.2 k hk⟩⟩) ?_ ?_ ?_
  · intro g1
    have m1 := hm
    obtain ⟨yq, mq, dq, ap, wr, sz, gp, n0, n1, n2, nMA, n8, n9⟩ := id m1
    refine v_aload_n dL_law_989 rfl ?_
    refine v_aload_n dL_law_990 rfl ?_
    refine v_iload dL_law_991 rfl ?_
    refine v_iconst dL_law_993 ?_
    refine v_iadd dL_law_994 ?_
    refine v_sldA (a := a1) dL_law_995 e1 ?_
    refine v_aload_n dL_law_996 rfl ?_
    refine v_iload dL_law_997 rfl ?_
    refine v_iconst dL_law_999 ?_
    refine v_iadd dL_law_1000 ?_
    refine v_sldA (a := a2) dL_law_1001 e2 ?_
    refine v_aload_n dL_law_1002 rfl ?_
    refine v_iload dL_law_1003 rfl ?_
    refine v_iconst dL_law_1005 ?_
    refine v_iadd dL_law_1006 ?_
    refine v_sldA (a := a3) dL_law_1007 e3 ?_
    refine v_aload_n dL_law_1008 rfl ?_
    refine v_iload dL_law_1009 rfl ?_
    refine v_iconst dL_law_1011 ?_
    refine v_iadd dL_law_1012 ?_
    refine v_sldA (a := a4) dL_law_1013 e4 ?_
    refine v_aload_n dL_law_1014 rfl ?_
    refine v_iload dL_law_1015 rfl ?_
    refine v_iconst dL_law_1017 ?_
    refine v_iadd dL_law_1018 ?_
    refine v_sldA (a := a5) dL_law_1019 e5 ?_
    refine v_aload_n dL_law_1020 rfl ?_
    refine v_iload dL_law_1021 rfl ?_
    refine v_bipush dL_law_1023 ?_
    refine v_iadd dL_law_1025 ?_
    refine v_sldA (a := a6) dL_law_1026 e6 ?_
    refine v_V6 (rm' := rX7_rule) (RX7, TX7, 18) dL_law_1027 km_L_135 kn_X7_rule kv_X7_rule kz_X7 mk_X7_rule rfl rfl (by exact n0) ⟨Nat.le_of_ble_eq_true rfl, Nat.le_of_ble_eq_true rfl⟩ ⟨by show kc + 0 + 0 ≤ 600128; omega, by show ks + 0 + 0 ≤ 7301098; omega⟩ (Nat.le_of_ble_eq_true rfl) ?_
    refine s_X7_rule hst n0 nMA (hA_of hB) r1 r2 r3 r4 r5 r6 (fun g => ⟨(hd.2.2 a1.toNat (by omega)).2, (hd.2.2 a1.toNat (by omega)).1⟩) ?_ ?_ ?_ ?_
    · intro b1
      refine v_icmp_eq 1530 dL_law_1030 (fun h9 => ?_) (fun h9 => ?_)
      rotate_left
      · (exfalso; omega)
      exact v_wid (kc' := kc + 8) (ks' := ks + 48) (by show kc + 0 + 0 ≤ kc + 8; omega) (by show ks + 0 + 0 ≤ ks + 48; omega) (v_lof [(0, .ref G.scr.1), (1, .ref (B 0)), (2, .ref (B 39)), (3, .ref (B 50)), (4, .ref (B 51)), (5, .int (iI i))] (List.forall_mem_cons.mpr ⟨rfl, (List.forall_mem_cons.mpr ⟨rfl, (List.forall_mem_cons.mpr ⟨rfl, (List.forall_mem_cons.mpr ⟨rfl, (List.forall_mem_cons.mpr ⟨rfl, (List.forall_mem_cons.mpr ⟨rfl, (fun _ h => nomatch h)⟩)⟩)⟩)⟩)⟩)⟩) (K _ (SS.of (hc.o hB ⟨by omega, by omega⟩) (m1.md hB) (ho.c hB (by omega)) hd)))
    · intro b1 b2 b3
      exfalso; first | omega | contradiction
    · intro b1 b2
      refine v_icmp_eq 1530 dL_law_1030 (fun h9 => ?_) (fun h9 => ?_)
      rotate_left
      · (exfalso; omega)
      exact v_wid (kc' := kc + 8) (ks' := ks + 48) (by show kc + 0 + 0 ≤ kc + 8; omega) (by show ks + 0 + 0 ≤ ks + 48; omega) (v_lof [(0, .ref G.scr.1), (1, .ref (B 0)), (2, .ref (B 39)), (3, .ref (B 50)), (4, .ref (B 51)), (5, .int (iI i))] (List.forall_mem_cons.mpr ⟨rfl, (List.forall_mem_cons.mpr ⟨rfl, (List.forall_mem_cons.mpr ⟨rfl, (List.forall_mem_cons.mpr ⟨rfl, (List.forall_mem_cons.mpr ⟨rfl, (List.forall_mem_cons.mpr ⟨rfl, (fun _ h => nomatch h)⟩)⟩)⟩)⟩)⟩)⟩) (K _ (SS.of (hc.o hB ⟨by omega, by omega⟩) (m1.md hB) (ho.c hB (by omega)) hd)))
    · intro b1 b2 b3
      exfalso; first | omega | contradiction
  · intro g1 x1 x2
    have m1 := hm
    obtain ⟨yq, mq, dq, ap, wr, sz, gp, n0, n1, n2, nMA, n8, n9⟩ := id m1
    refine v_aload_n dL_law_989 rfl ?_
    refine v_aload_n dL_law_990 rfl ?_
    refine v_iload dL_law_991 rfl ?_
    refine v_iconst dL_law_993 ?_
    refine v_iadd dL_law_994 ?_
    refine v_sldA (a := a1) dL_law_995 e1 ?_
    refine v_aload_n dL_law_996 rfl ?_
    refine v_iload dL_law_997 rfl ?_
    refine v_iconst dL_law_999 ?_
    refine v_iadd dL_law_1000 ?_
    refine v_sldA (a := a2) dL_law_1001 e2 ?_
    refine v_aload_n dL_law_1002 rfl ?_
    refine v_iload dL_law_1003 rfl ?_
    refine v_iconst dL_law_1005 ?_
    refine v_iadd dL_law_1006 ?_
    refine v_sldA (a := a3) dL_law_1007 e3 ?_
    refine v_aload_n dL_law_1008 rfl ?_
    refine v_iload dL_law_1009 rfl ?_
    refine v_iconst dL_law_1011 ?_
    refine v_iadd dL_law_1012 ?_
    refine v_sldA (a := a4) dL_law_1013 e4 ?_
    refine v_aload_n dL_law_1014 rfl ?_
    refine v_iload dL_law_1015 rfl ?_
    refine v_iconst dL_law_1017 ?_
    refine v_iadd dL_law_1018 ?_
    refine v_sldA (a := a5) dL_law_1019 e5 ?_
    refine v_aload_n dL_law_1020 rfl ?_
    refine v_iload dL_law_1021 rfl ?_
    refine v_bipush dL_law_1023 ?_
    refine v_iadd dL_law_1025 ?_
    refine v_sldA (a := a6) dL_law_1026 e6 ?_
    refine v_V6 (rm' := rX7_rule) (RX7, TX7, 18) dL_law_1027 km_L_135 kn_X7_rule kv_X7_rule kz_X7 mk_X7_rule rfl rfl (by exact n0) ⟨Nat.le_of_ble_eq_true rfl, Nat.le_of_ble_eq_true rfl⟩ ⟨by show kc + 0 + 0 ≤ 600128; omega, by show ks + 0 + 0 ≤ 7301098; omega⟩ (Nat.le_of_ble_eq_true rfl) ?_
    refine s_X7_rule hst n0 nMA (hA_of hB) r1 r2 r3 r4 r5 r6 (fun g => ⟨(hd.2.2 a1.toNat (by omega)).2, (hd.2.2 a1.toNat (by omega)).1⟩) ?_ ?_ ?_ ?_
    · intro b1
      exfalso; first | omega | contradiction
    · intro b1 b2 b3
      refine v_icmp_eq 1530 dL_law_1030 (fun h9 => ?_) (fun h9 => ?_)
      rotate_left
      · (exfalso; omega)
      exact v_wid (kc' := kc + 8) (ks' := ks + 48) (by show kc + 0 + 0 ≤ kc + 8; omega) (by show ks + 0 + 0 ≤ ks + 48; omega) (v_lof [(0, .ref G.scr.1), (1, .ref (B 0)), (2, .ref (B 39)), (3, .ref (B 50)), (4, .ref (B 51)), (5, .int (iI i))] (List.forall_mem_cons.mpr ⟨rfl, (List.forall_mem_cons.mpr ⟨rfl, (List.forall_mem_cons.mpr ⟨rfl, (List.forall_mem_cons.mpr ⟨rfl, (List.forall_mem_cons.mpr ⟨rfl, (List.forall_mem_cons.mpr ⟨rfl, (fun _ h => nomatch h)⟩)⟩)⟩)⟩)⟩)⟩) (K _ (SS.of (hc.o hB ⟨by omega, by omega⟩) (m1.md hB) (ho.c hB (by omega)) hd)))
    · intro b1 b2
      refine v_icmp_eq 1530 dL_law_1030 (fun h9 => ?_) (fun h9 => ?_)
      rotate_left
      · (exfalso; omega)
      exact v_wid (kc' := kc + 8) (ks' := ks + 48) (by show kc + 0 + 0 ≤ kc + 8; omega) (by show ks + 0 + 0 ≤ ks + 48; omega) (v_lof [(0, .ref G.scr.1), (1, .ref (B 0)), (2, .ref (B 39)), (3, .ref (B 50)), (4, .ref (B 51)), (5, .int (iI i))] (List.forall_mem_cons.mpr ⟨rfl, (List.forall_mem_cons.mpr ⟨rfl, (List.forall_mem_cons.mpr ⟨rfl, (List.forall_mem_cons.mpr ⟨rfl, (List.forall_mem_cons.mpr ⟨rfl, (List.forall_mem_cons.mpr ⟨rfl, (fun _ h => nomatch h)⟩)⟩)⟩)⟩)⟩)⟩) (K _ (SS.of (hc.o hB ⟨by omega, by omega⟩) (m1.md hB) (ho.c hB (by omega)) hd)))
    · intro b1 b2 b3
      exfalso; first | omega | contradiction
  · intro g1 x1 x2
    have z9 := (hd.2.2 a1.toNat (by omega)).1.2.1
    have m1 := ((hm.c hB (k := (15 + 6 * a1.toNat + (rz a1.toNat).toNat)) (e := ruC a2 a3 a4 a5 a6) ⟨by omega, by omega⟩).c hB (k := (11 + 6 * a1.toNat)) (e := zoC (fz a1.toNat) (B (12 + 6 * a1.toNat)) (B (13 + 6 * a1.toNat)) (cz a1.toNat) (B (14 + 6 * a1.toNat)) (rz a1.toNat + 1)) ⟨by omega, by omega⟩)
    obtain ⟨yq, mq, dq, ap, wr, sz, gp, n0, n1, n2, nMA, n8, n9⟩ := id m1
    refine v_aload_n dL_law_989 rfl ?_
    refine v_aload_n dL_law_990 rfl ?_
    refine v_iload dL_law_991 rfl ?_
    refine v_iconst dL_law_993 ?_
    refine v_iadd dL_law_994 ?_
    refine v_sldA (a := a1) dL_law_995 e1 ?_
    refine v_aload_n dL_law_996 rfl ?_
    refine v_iload dL_law_997 rfl ?_
    refine v_iconst dL_law_999 ?_
    refine v_iadd dL_law_1000 ?_
    refine v_sldA (a := a2) dL_law_1001 e2 ?_
    refine v_aload_n dL_law_1002 rfl ?_
    refine v_iload dL_law_1003 rfl ?_
    refine v_iconst dL_law_1005 ?_
    refine v_iadd dL_law_1006 ?_
    refine v_sldA (a := a3) dL_law_1007 e3 ?_
    refine v_aload_n dL_law_1008 rfl ?_
    refine v_iload dL_law_1009 rfl ?_
    refine v_iconst dL_law_1011 ?_
    refine v_iadd dL_law_1012 ?_
    refine v_sldA (a := a4) dL_law_1013 e4 ?_
    refine v_aload_n dL_law_1014 rfl ?_
    refine v_iload dL_law_1015 rfl ?_
    refine v_iconst dL_law_1017 ?_
    refine v_iadd dL_law_1018 ?_
    refine v_sldA (a := a5) dL_law_1019 e5 ?_
    refine v_aload_n dL_law_1020 rfl ?_
    refine v_iload dL_law_1021 rfl ?_
    refine v_bipush dL_law_1023 ?_
    refine v_iadd dL_law_1025 ?_
    refine v_sldA (a := a6) dL_law_1026 e6 ?_
    refine v_V6 (rm' := rX7_rule) (RX7, TX7, 18) dL_law_1027 km_L_135 kn_X7_rule kv_X7_rule kz_X7 mk_X7_rule rfl rfl (by exact n0) ⟨Nat.le_of_ble_eq_true rfl, Nat.le_of_ble_eq_true rfl⟩ ⟨by show kc + 0 + 0 ≤ 600128; omega, by show ks + 0 + 0 ≤ 7301098; omega⟩ (Nat.le_of_ble_eq_true rfl) ?_
    refine s_X7_rule hst n0 nMA (hA_of hB) r1 r2 r3 r4 r5 r6 (fun g => ⟨(hd.2.2 a1.toNat (by omega)).2, (hd.2.2 a1.toNat (by omega)).1⟩) ?_ ?_ ?_ ?_
    · intro b1
      exfalso; first | omega | contradiction
    · intro b1 b2 b3
      exfalso; first | omega | contradiction
    · intro b1 b2
      exfalso; first | omega | contradiction
    · intro b1 b2 b3
      refine v_icmp_eq 1530 dL_law_1030 (fun h9 => ?_) (fun h9 => ?_)
      rotate_left
      · (exfalso; omega)
      exact v_wid (kc' := kc + 8) (ks' := ks + 48) (by show kc + 0 + 0 ≤ kc + 8; omega) (by show ks + 0 + 0 ≤ ks + 48; omega) (v_lof [(0, .ref G.scr.1), (1, .ref (B 0)), (2, .ref (B 39)), (3, .ref (B 50)), (4, .ref (B 51)), (5, .int (iI i))] (List.forall_mem_cons.mpr ⟨rfl, (List.forall_mem_cons.mpr ⟨rfl, (List.forall_mem_cons.mpr ⟨rfl, (List.forall_mem_cons.mpr ⟨rfl, (List.forall_mem_cons.mpr ⟨rfl, (List.forall_mem_cons.mpr ⟨rfl, (fun _ h => nomatch h)⟩)⟩)⟩)⟩)⟩)⟩) (K _ (SS.of (((((hc.zr hB (z := a1.toNat) (k := (rz a1.toNat).toNat) (by omega) (by omega)).zo hB (z := a1.toNat) (by omega)).o hB ⟨by omega, by omega⟩).o hB ⟨by omega, by omega⟩).o hB ⟨by omega, by omega⟩) (((m1.md hB).zR hB).zK hB) (((((ho.c hB (by omega)).c hB (by omega)).c hB (by omega)).c hB (by omega)).c hB (by omega)) (hd.rl g1 x1 x2))))
