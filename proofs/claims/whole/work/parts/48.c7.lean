set_option maxHeartbeats 4000000 in
set_option maxRecDepth 100000 in
theorem k_isArcAt {E : EV} {h : AH} {A : AD} {S : MS} {s i : Int} (hC : CR E A S h) (hI : Inv S) (gs : (0 ≤ s ∧ s < 4) ∧ 0 ≤ S 43 s) (gi : 0 ≤ i ∧ i + 5 < S 44 s) : CM E yX9_isArcAt cX9_isArcAt 3 (some .boolean) 3 0 0 [.ref (A 0 0), .ref (A 24 s), vI (i)] h (qB (AtP S (36 * s + i)) h) := by
  have hR := hC.2.2
  have hJ := hI
  obtain ⟨i1, i2, i3, i4, i5, i6, iSt, iSi, iWa, iSh, iLa, iS0, iS1, iZe⟩ := hJ
  have l4 := iLa s gs.1.1 gs.1.2
  have e1 : S 45 (36 * s + (i + 1)) = S 45 (36 * s + i + 1) := congrArg (S 45) (by omega)
  have e2 : S 45 (36 * s + (i + 2)) = S 45 (36 * s + i + 2) := congrArg (S 45) (by omega)
  have e3 : S 45 (36 * s + (i + 3)) = S 45 (36 * s + i + 3) := congrArg (S 45) (by omega)
  have e4 : S 45 (36 * s + (i + 4)) = S 45 (36 * s + i + 4) := congrArg (S 45) (by omega)
  have e5 : S 45 (36 * s + (i + 5)) = S 45 (36 * s + i + 5) := congrArg (S 45) (by omega)
  refine CM.of (by decide) (Nat.le_of_ble_eq_true rfl) (L := [(0, .ref (A 0 0)), (1, .ref (A 24 s)), (2, vI (i))]) rfl ?_
  refine ev_aload_n 0 rfl dX9_isArcAt_0 ?_
  refine ev_aload_n 1 rfl dX9_isArcAt_1 ?_
  refine ev_iload_n 2 rfl dX9_isArcAt_2 ?_
  refine c_ldI (i := s) hC (by omega) dX9_isArcAt_3 (by omega) (by omega) (by omega) ?_
  refine c_X9_77 (k_stationAt (a := S 45 (36 * s + i)) hC hI (by first | assumption | exact hR _ _ | decide | (simp only [InR]; omega))) hC.k0 rfl rfl (Nat.le_of_ble_eq_true rfl) (by decide) dX9_isArcAt_4 (kN (fun b4 => ?_) (fun b4 => ?_))
  · refine ev_ifnull dX9_isArcAt_7 ?_
    refine ev_aload_n 1 rfl dX9_isArcAt_10 ?_
    refine ev_iload_n 2 rfl dX9_isArcAt_11 ?_
    refine ev_iconst dX9_isArcAt_12 ?_
    refine ev_iadd dX9_isArcAt_13 ?_
    refine c_ldI (i := s) hC (by omega) dX9_isArcAt_14 (by omega) (by omega) (by omega) ?_
    refine ev_aload_n 1 rfl dX9_isArcAt_15 ?_
    refine ev_iload_n 2 rfl dX9_isArcAt_16 ?_
    refine ev_iconst dX9_isArcAt_17 ?_
    refine ev_iadd dX9_isArcAt_18 ?_
    refine c_ldI (i := s) hC (by omega) dX9_isArcAt_19 (by omega) (by omega) (by omega) ?_
    refine ev_aload_n 1 rfl dX9_isArcAt_20 ?_
    refine ev_iload_n 2 rfl dX9_isArcAt_21 ?_
    refine ev_iconst dX9_isArcAt_22 ?_
    refine ev_iadd dX9_isArcAt_23 ?_
    refine c_ldI (i := s) hC (by omega) dX9_isArcAt_24 (by omega) (by omega) (by omega) ?_
    refine ev_aload_n 1 rfl dX9_isArcAt_25 ?_
    refine ev_iload_n 2 rfl dX9_isArcAt_26 ?_
    refine ev_iconst dX9_isArcAt_27 ?_
    refine ev_iadd dX9_isArcAt_28 ?_
    refine c_ldI (i := s) hC (by omega) dX9_isArcAt_29 (by omega) (by omega) (by omega) ?_
    refine c_X9_87 (k_isInSky E (by first | assumption | exact hR _ _ | decide | (simp only [InR]; omega)) (by first | assumption | exact hR _ _ | decide | (simp only [InR]; omega)) (by first | assumption | exact hR _ _ | decide | (simp only [InR]; omega)) (by first | assumption | exact hR _ _ | decide | (simp only [InR]; omega))) rfl rfl (Nat.le_of_ble_eq_true rfl) (by decide) dX9_isArcAt_30 (kB (fun b30 => ?_) (fun b30 => ?_))
    · refine ev_if_eq (tgt := 51) dX9_isArcAt_33 (by decide) (by decide) (fun c => absurd c (by decide)) (fun _ => ?_)
      refine ev_aload_n 1 rfl dX9_isArcAt_36 ?_
      refine ev_iload_n 2 rfl dX9_isArcAt_37 ?_
      refine ev_iconst dX9_isArcAt_38 ?_
      refine ev_iadd dX9_isArcAt_39 ?_
      refine c_ldI (i := s) hC (by omega) dX9_isArcAt_40 (by omega) (by omega) (by omega) ?_
      refine c_X9_101 (k_isColour E (n := S 45 (36 * s + (i + 5))) (by first | assumption | exact hR _ _ | decide | (simp only [InR]; omega))) rfl rfl (Nat.le_of_ble_eq_true rfl) (by decide) dX9_isArcAt_41 (kB (fun b41 => ?_) (fun b41 => ?_))
      · refine ev_if_eq (tgt := 51) dX9_isArcAt_44 (by decide) (by decide) (fun c => absurd c (by decide)) (fun _ => ?_)
        refine ev_iconst dX9_isArcAt_47 ?_
        refine ev_goto (tgt := 52) dX9_isArcAt_48 (by decide) ?_
        refine ev_zreturn (by decide) dX9_isArcAt_52 ?_
        exact ⟨rfl, Or.inl ⟨rfl, by unfold AtP TO; omega⟩⟩
      · refine ev_if_eq (tgt := 51) dX9_isArcAt_44 (by decide) (by decide) (fun _ => ?_) (fun c => absurd c (by decide))
        refine ev_iconst dX9_isArcAt_51 ?_
        refine ev_zreturn (by decide) dX9_isArcAt_52 ?_
        exact ⟨rfl, Or.inr ⟨rfl, fun q => by unfold AtP TO at q; omega⟩⟩
    · refine ev_if_eq (tgt := 51) dX9_isArcAt_33 (by decide) (by decide) (fun _ => ?_) (fun c => absurd c (by decide))
      refine ev_iconst dX9_isArcAt_51 ?_
      refine ev_zreturn (by decide) dX9_isArcAt_52 ?_
      exact ⟨rfl, Or.inr ⟨rfl, fun q => by unfold AtP TO at q; omega⟩⟩
  · refine ev_ifnullN (tgt := 51) dX9_isArcAt_7 (by decide) ?_
    refine ev_iconst dX9_isArcAt_51 ?_
    refine ev_zreturn (by decide) dX9_isArcAt_52 ?_
    exact ⟨rfl, Or.inr ⟨rfl, fun q => by unfold AtP TO at q; omega⟩⟩

set_option maxHeartbeats 4000000 in
set_option maxRecDepth 100000 in
theorem k_keepArcAt {E : EV} {h : AH} {A : AD} {S : MS} {s i a1 a2 a3 a4 a5 a6 : Int} (hC : CR E A S h) (hI : Inv S) (hJ : CJ S) (gs : (0 ≤ s ∧ s < 4) ∧ 0 ≤ S 43 s) (gi : 0 ≤ i ∧ i + 5 < S 44 s) (e1 : S 45 (36 * s + i) = a1) (e2 : S 45 (36 * s + (i + 1)) = a2) (e3 : S 45 (36 * s + (i + 2)) = a3) (e4 : S 45 (36 * s + (i + 3)) = a4) (e5 : S 45 (36 * s + (i + 4)) = a5) (e6 : S 45 (36 * s + (i + 5)) = a6) (g7 : S 7 0 < 40) (gt : TO S a1 a2 a3 a4 a5) (g6 : 0 ≤ a6 ∧ a6 ≤ 4) : CM E yX9_keepArcAt cX9_keepArcAt 4 none 4 1 8 [.ref (A 0 0), .ref (A 24 s), vI (i)] h (qV (fun h' => ∃ A' S', CR E A' S' h' ∧ A' 0 0 = A 0 0 ∧ (∀ i, A' 24 i = A 24 i) ∧ eqx [69, 70] (nx_put S 1 a1 a2 a3 a4 a5 a6 0) S' ∧ CJ S')) := by
  have hR := hC.2.2
  have hJ := hI
  obtain ⟨i1, i2, i3, i4, i5, i6, iSt, iSi, iWa, iSh, iLa, iS0, iS1, iZe⟩ := hJ
  have l4 := iLa s gs.1.1 gs.1.2
  have gt0 := gt
  unfold TO at gt0
  refine CM.of (by decide) (Nat.le_of_ble_eq_true rfl) (L := [(0, .ref (A 0 0)), (1, .ref (A 24 s)), (2, vI (i))]) rfl ?_
  refine ev_aload_n 0 rfl dX9_keepArcAt_0 ?_
  refine ev_aload_n 1 rfl dX9_keepArcAt_1 ?_
  refine ev_iload_n 2 rfl dX9_keepArcAt_2 ?_
  refine c_ldI (i := s) hC (by omega) dX9_keepArcAt_3 (by omega) (by omega) (by omega) ?_
  refine ev_ren (b := a1) (e1) ?_
  refine c_X9_77 (k_stationAt (a := a1) hC hI (by first | assumption | exact hR _ _ | decide | (simp only [InR]; omega))) hC.k0 rfl rfl (Nat.le_of_ble_eq_true rfl) (by decide) dX9_keepArcAt_4 (kN (fun b4 => ?_) (fun b4 => ?_))
  · refine ev_astore_n (L' := [(3, .ref (A 20 a1)), (0, .ref (A 0 0)), (1, .ref (A 24 s)), (2, vI (i))]) dX9_keepArcAt_7 (by decide) rfl ?_
    refine ev_aload_n 0 rfl dX9_keepArcAt_8 ?_
    refine ev_ifnull dX9_keepArcAt_9 ?_
    refine ev_aload_n 1 rfl dX9_keepArcAt_12 ?_
    refine cn_X9_105 dX9_keepArcAt_13 (fun q hq0 => ?_)
    have ho := hC.frs hq0
    have hCq := hC.off (e := ob 0 [.null, vI 0, vI 0, vI 0, vI 0, vI 0, vI 0, vI 0]) ho
    refine ev_dup dX9_keepArcAt_16 rfl ?_
    refine ev_aload_n 0 rfl dX9_keepArcAt_17 ?_
    refine ev_aload_n 2 rfl dX9_keepArcAt_18 ?_
    refine ev_iload_n 3 rfl dX9_keepArcAt_19 ?_
    refine ev_iconst dX9_keepArcAt_20 ?_
    refine ev_iadd dX9_keepArcAt_21 ?_
    refine c_ldI (i := s) hCq (by omega) dX9_keepArcAt_22 (by omega) (by omega) (by omega) ?_
    refine ev_ren (b := a2) (e2) ?_
    refine ev_aload_n 2 rfl dX9_keepArcAt_23 ?_
    refine ev_iload_n 3 rfl dX9_keepArcAt_24 ?_
    refine ev_iconst dX9_keepArcAt_25 ?_
    refine ev_iadd dX9_keepArcAt_26 ?_
    refine c_ldI (i := s) hCq (by omega) dX9_keepArcAt_27 (by omega) (by omega) (by omega) ?_
    refine ev_ren (b := a3) (e3) ?_
    refine ev_aload_n 2 rfl dX9_keepArcAt_28 ?_
    refine ev_iload_n 3 rfl dX9_keepArcAt_29 ?_
    refine ev_iconst dX9_keepArcAt_30 ?_
    refine ev_iadd dX9_keepArcAt_31 ?_
    refine c_ldI (i := s) hCq (by omega) dX9_keepArcAt_32 (by omega) (by omega) (by omega) ?_
    refine ev_ren (b := a4) (e4) ?_
    refine ev_aload_n 2 rfl dX9_keepArcAt_33 ?_
    refine ev_iload_n 3 rfl dX9_keepArcAt_34 ?_
    refine ev_iconst dX9_keepArcAt_35 ?_
    refine ev_iadd dX9_keepArcAt_36 ?_
    refine c_ldI (i := s) hCq (by omega) dX9_keepArcAt_37 (by omega) (by omega) (by omega) ?_
    refine ev_ren (b := a5) (e5) ?_
    refine ev_aload_n 2 rfl dX9_keepArcAt_38 ?_
    refine ev_iload_n 3 rfl dX9_keepArcAt_39 ?_
    refine ev_iconst dX9_keepArcAt_40 ?_
    refine ev_iadd dX9_keepArcAt_41 ?_
    refine c_ldI (i := s) hCq (by omega) dX9_keepArcAt_42 (by omega) (by omega) (by omega) ?_
    refine ev_ren (b := a6) (e6) ?_
    refine c_X9_107 (k_init0_0 (by omega) ah_at) rfl rfl (Nat.le_of_ble_eq_true rfl) (by decide) dX9_keepArcAt_43 (kV (fun h1 e1 => ?_))
    rw [ah_uu] at e1
    have hq1 : h1 q = some (ob 0 [.ref (A 20 a1), vI (a2), vI (a3), vI (a4), vI (a5), vI (a6), vI (sinZ (a4)), vI (cosZ (a4))]) := by rw [e1]; exact ah_at
    have hC1 : CR E A S h1 := by rw [e1]; exact hC.off ho
    refine c_X9_97 (k_keep (kd := 1) (a1 := a1) (a2 := a2) (a3 := a3) (a4 := a4) (a5 := a5) (c := a6) (l := 0) hC1 hI hJ ho (by decide) hq1 (by omega) gt (by omega) (by omega)) hC1.k0 rfl rfl (Nat.le_of_ble_eq_true rfl) (by decide) dX9_keepArcAt_46 (kI (fun z1 h2 hqz1 => ?_))
    obtain ⟨hz, A', S', hC', e0, e24, hx', hJ'⟩ := hqz1
    refine ev_pop dX9_keepArcAt_49 rfl ?_
    refine ev_return dX9_keepArcAt_50 ?_
    exact ⟨rfl, A', S', hC', e0, e24, hx', hJ'⟩
  · refine ev_astore_nN (L' := [(3, .null), (0, .ref (A 0 0)), (1, .ref (A 24 s)), (2, vI (i))]) dX9_keepArcAt_7 (by decide) rfl ?_
    refine ev_aload_nN 0 rfl dX9_keepArcAt_8 ?_
    refine ev_ifnullN (tgt := 50) dX9_keepArcAt_9 (by decide) ?_
    refine ev_return dX9_keepArcAt_50 ?_
    exact absurd gt0.1 b4

set_option maxHeartbeats 4000000 in
theorem ka_loop {E : EV} {A : AD} {S : MS} {s f n : Int} {d : Nat} {Q : Option Value → AH → Prop} (hI : Inv S) (gs : (0 ≤ s ∧ s < 4) ∧ 0 ≤ S 43 s) (gn : 0 ≤ n ∧ n ≤ 6) (gf : 0 ≤ f ∧ f + 6 * n ≤ S 44 s) (hall : ∀ j : Int, 0 ≤ j → j < n → AtP S (36 * s + f + 6 * j)) (g40 : S 7 0 + n ≤ 40) (hd5 : 5 ≤ d)
    (hQ : ∀ A' S' h', CR E A' S' h' → A' 0 0 = A 0 0 → eqx [69, 70] (arN S (36 * s + f) n.toNat) S' → CJ S' → Q (some (vI (S 7 0 + n))) h') : ∀ i, i ≤ n → ∀ (A1 : AD) (S1 : MS) (h1 : AH), 0 ≤ i → CR E A1 S1 h1 → A1 0 0 = A 0 0 → (∀ j, A1 24 j = A 24 j) → eqx [69, 70] (arN S (36 * s + f) i.toNat) S1 → CJ S1 → Ev E RX9 cX9_keepArcs 5 (some .int) "keepArcs" Q d (n - i).toNat (8 * (n - i).toNat) 50 [(4, vI i), (0, .ref (A 0 0)), (1, .ref (A 24 s)), (2, vI f), (3, vI n)] [] h1 := by
  refine up_ind (fun i ih hi A1 S1 h1 i0 hC e0 e24 hx hJ => ?_)
  have hR := hC.2.2
  have hl4 := hI.2.2.2.2.2.2.2.2.2.2.1 s gs.1.1 gs.1.2
  have f7 := (arN_f (S := S) (t := 36 * s + f) i.toNat).1
  have fo := (arN_f (S := S) (t := 36 * s + f) i.toNat).2
  have hIa := Inv_arN (t := 36 * s + f) hI i.toNat (fun j j0 j1 => hall j j0 (by omega)) (by omega)
  have hI1 : Inv S1 := hIa.xc (eqx.tr (l := scc) eqx.rf hx (fun x hx => hx) (by decide))
  have e7 : S1 7 0 = S 7 0 + i := by rw [hx 7 (by decide), f7]; omega
  have i7 := hI.2.1
  refine ev_iload 0 rfl dX9_keepArcs_50 ?_
  refine ev_iload_n 4 rfl dX9_keepArcs_52 ?_
  refine ev_icmp_ge (tgt := 74) dX9_keepArcs_53 (by simp only [InR]; omega) (by simp only [InR]; omega) (by decide) (fun c => ?_) (fun c => ?_)
  · refine ev_aload_n 1 rfl dX9_keepArcs_74 ?_
    rw [← e0]
    refine cgE_X9_91 (v := S 7 0 + n) hC (by omega) dX9_keepArcs_75 ?_
    refine ev_ireturn dX9_keepArcs_78 ?_
    exact hQ A1 S1 h1 hC e0 (by rw [show n = i by omega]; exact hx) hJ
  · have ha := hall i i0 (by omega)
    rw [show (n - i).toNat = (n - (i + 1)).toNat + 1 by omega, show 8 * ((n - (i + 1)).toNat + 1) = 8 * (n - (i + 1)).toNat + 8 by omega]
    refine ev_aload_n 1 rfl dX9_keepArcs_56 ?_
    refine ev_aload_n 2 rfl dX9_keepArcs_57 ?_
    refine ev_iload_n 3 rfl dX9_keepArcs_58 ?_
    refine ev_bipush dX9_keepArcs_59 (by decide) ?_
    refine ev_iload 0 rfl dX9_keepArcs_61 ?_
    refine ev_imul dX9_keepArcs_63 ?_
    refine ev_iadd dX9_keepArcs_64 ?_
    have e45 : S1 45 = S 45 := by rw [hx 45 (by decide), fo 45 (by omega)]
    have e43 : S1 43 = S 43 := by rw [hx 43 (by decide), fo 43 (by omega)]
    have e44 : S1 44 = S 44 := by rw [hx 44 (by decide), fo 44 (by omega)]
    have e2 : S1 2 = S 2 := by rw [hx 2 (by decide), fo 2 (by omega)]
    have hk := k_keepArcAt (E := E) (h := h1) (A := A1) (S := S1) (s := s) (i := f + 6 * i) (a1 := S 45 (36 * s + f + 6 * i)) (a2 := S 45 (36 * s + f + 6 * i + 1)) (a3 := S 45 (36 * s + f + 6 * i + 2)) (a4 := S 45 (36 * s + f + 6 * i + 3)) (a5 := S 45 (36 * s + f + 6 * i + 4)) (a6 := S 45 (36 * s + f + 6 * i + 5)) hC hI1 hJ (by rw [e43]; exact gs) (by rw [e44]; omega) (by rw [e45]; exact congrArg (S 45) (by omega)) (by rw [e45]; exact congrArg (S 45) (by omega)) (by rw [e45]; exact congrArg (S 45) (by omega)) (by rw [e45]; exact congrArg (S 45) (by omega)) (by rw [e45]; exact congrArg (S 45) (by omega)) (by rw [e45]; exact congrArg (S 45) (by omega)) (by omega) (by unfold TO; rw [e2]; exact ha.1) ha.2
    rw [e0, e24 s] at hk
    refine c_X9_293 hk (by rw [← e0]; exact hC.k0) rfl rfl (Nat.le_of_ble_eq_true rfl) (by omega) dX9_keepArcs_65 (kV (fun h2 hq => ?_))
    obtain ⟨A2, S2, hC2, f0, f24, fx, fJ⟩ := hq
    refine ev_iinc (L' := [(4, vI (i + 1)), (0, .ref (A 0 0)), (1, .ref (A 24 s)), (2, vI f), (3, vI n)]) 0 rfl dX9_keepArcs_68 (by decide) rfl ?_
    refine ev_goto (tgt := 50) dX9_keepArcs_71 (by decide) ?_
    refine ih (i + 1) (by omega) (by omega) A2 S2 h2 (by omega) hC2 f0 (fun j => (f24 j).trans (e24 j)) ?_ fJ
    rw [show (i + 1).toNat = i.toNat + 1 by omega, arN, Int.toNat_of_nonneg i0]
    exact eqx.tr (l := [69, 70]) (hx.put (by decide)) fx (by decide) (by decide)

set_option maxHeartbeats 4000000 in
set_option maxRecDepth 100000 in
theorem k_keepArcs {E : EV} {h : AH} {A : AD} {S : MS} {s f n : Int} (hC : CR E A S h) (hI : Inv S) (hJ : CJ S) (gs : (0 ≤ s ∧ s < 4) ∧ 0 ≤ S 43 s) (gn : 0 ≤ n ∧ n ≤ 6) (gf : 0 ≤ f ∧ f + 6 * n ≤ S 44 s) : CM E yX9_keepArcs cX9_keepArcs 5 (some .int) 5 6 48 [.ref (A 0 0), .ref (A 24 s), vI (f), vI (n)] h (qI (fun z h' => (0 ≤ scanI (AB S (36 * s + f)) 0 n ∧ z = -2 ∧ CR E A S h') ∨ (scanI (AB S (36 * s + f)) 0 n = -1 ∧ 40 < S 7 0 + n ∧ z = -3 ∧ CR E A S h') ∨ (scanI (AB S (36 * s + f)) 0 n = -1 ∧ S 7 0 + n ≤ 40 ∧ z = S 7 0 + n ∧ ∃ A' S', CR E A' S' h' ∧ A' 0 0 = A 0 0 ∧ eqx [69, 70] (arN S (36 * s + f) n.toNat) S' ∧ CJ S'))) := by
  have hR := hC.2.2
  have hJ := hI
  obtain ⟨i1, i2, i3, i4, i5, i6, iSt, iSi, iWa, iSh, iLa, iS0, iS1, iZe⟩ := hJ
  have l4 := iLa s gs.1.1 gs.1.2
  refine CM.of (by decide) (Nat.le_of_ble_eq_true rfl) (L := [(0, .ref (A 0 0)), (1, .ref (A 24 s)), (2, vI (f)), (3, vI (n))]) rfl ?_
  refine ev_iconst dX9_keepArcs_0 ?_
  refine ev_istore (L' := [(4, vI (0)), (0, .ref (A 0 0)), (1, .ref (A 24 s)), (2, vI (f)), (3, vI (n))]) dX9_keepArcs_1 (by decide) rfl ?_
  refine up_ind (P := fun i : Int => 0 ≤ i → scanI (AB S (36 * s + f)) 0 n = scanI (AB S (36 * s + f)) i n → Ev E RX9 cX9_keepArcs 5 (some .int) "keepArcs" (qI (fun z h' => (0 ≤ scanI (AB S (36 * s + f)) 0 n ∧ z = -2 ∧ CR E A S h') ∨ (scanI (AB S (36 * s + f)) 0 n = -1 ∧ 40 < S 7 0 + n ∧ z = -3 ∧ CR E A S h') ∨ (scanI (AB S (36 * s + f)) 0 n = -1 ∧ S 7 0 + n ≤ 40 ∧ z = S 7 0 + n ∧ ∃ A' S', CR E A' S' h' ∧ A' 0 0 = A 0 0 ∧ eqx [69, 70] (arN S (36 * s + f) n.toNat) S' ∧ CJ S'))) 5 6 48 3 [(4, vI (i)), (0, .ref (A 0 0)), (1, .ref (A 24 s)), (2, vI (f)), (3, vI (n))] [] h) (N := n) ?_ 0 (by omega)  (by omega) (rfl)
  intro i ihi hiN pi hs
  refine ev_iload 0 rfl dX9_keepArcs_3 ?_
  refine ev_iload_n 4 rfl dX9_keepArcs_5 ?_
  refine ev_icmp_ge (tgt := 33) dX9_keepArcs_6 (by first | assumption | exact hR _ _ | decide | (simp only [InR]; omega)) (by first | assumption | exact hR _ _ | decide | (simp only [InR]; omega)) (by decide) (fun c6 => ?_) (fun c6 => ?_)
  · refine ev_iload_n 4 rfl dX9_keepArcs_33 ?_
    refine ev_bipush dX9_keepArcs_34 (by decide) ?_
    refine ev_aload_n 1 rfl dX9_keepArcs_36 ?_
    refine cg_X9_91 hC dX9_keepArcs_37 ?_
    refine ev_isub dX9_keepArcs_40 ?_
    refine ev_icmp_le (tgt := 47) dX9_keepArcs_41 (by first | assumption | exact hR _ _ | decide | (simp only [InR]; omega)) (by first | assumption | exact hR _ _ | decide | (simp only [InR]; omega)) (by decide) (fun c41 => ?_) (fun c41 => ?_)
    · refine ev_iconst dX9_keepArcs_47 ?_
      refine ev_istore (L' := [(4, vI (0)), (0, .ref (A 0 0)), (1, .ref (A 24 s)), (2, vI (f)), (3, vI (n))]) dX9_keepArcs_48 (by decide) rfl ?_
      refine ev_pick (L' := [(4, vI (0)), (0, .ref (A 0 0)), (1, .ref (A 24 s)), (2, vI (f)), (3, vI (n))]) [0, 1, 2, 3, 4] rfl ?_
      have hal := AB_all (hs.trans (scanI_end _ (by omega)))
      refine ev_wid (kc := (n - 0).toNat) (ks := 8 * (n - 0).toNat) (by omega) (by omega) ?_
      refine ka_loop hI gs (by omega) (by omega) hal (by omega) (by decide) (fun A' S' h' c1 c2 c3 c4 => ?_) 0 (by omega) A S h (by omega) hC rfl (fun _ => rfl) eqx.rf hJ
      exact ⟨_, rfl, Or.inr (Or.inr ⟨hs.trans (scanI_end _ (by omega)), by omega, rfl, A', S', c1, c2, c3, c4⟩)⟩
    · refine ev_bipush dX9_keepArcs_44 (by decide) ?_
      refine ev_ireturn dX9_keepArcs_46 ?_
      exact ⟨_, rfl, Or.inr (Or.inl ⟨hs.trans (scanI_end _ (by omega)), by omega, rfl, hC⟩)⟩
  · refine ev_aload_n 1 rfl dX9_keepArcs_9 ?_
    refine ev_aload_n 2 rfl dX9_keepArcs_10 ?_
    refine ev_iload_n 3 rfl dX9_keepArcs_11 ?_
    refine ev_bipush dX9_keepArcs_12 (by decide) ?_
    refine ev_iload 0 rfl dX9_keepArcs_14 ?_
    refine ev_imul dX9_keepArcs_16 ?_
    refine ev_iadd dX9_keepArcs_17 ?_
    refine c_X9_289 (k_isArcAt (s := s) (i := f + (6 * i)) hC hI gs (by omega)) hC.k0 rfl rfl (Nat.le_of_ble_eq_true rfl) (by decide) dX9_keepArcs_18 (kB (fun b18 => ?_) (fun b18 => ?_))
    · rw [show 36 * s + (f + (6 * i)) = 36 * s + f + 6 * i by omega] at b18
      refine ev_if_ne (tgt := 27) dX9_keepArcs_21 (by decide) (by decide) (fun _ => ?_) (fun c => absurd c (by decide))
      refine ev_iinc (L' := [(4, vI (i + 1)), (0, .ref (A 0 0)), (1, .ref (A 24 s)), (2, vI (f)), (3, vI (n))]) 0 rfl dX9_keepArcs_27 (by decide) rfl ?_
      refine ev_goto (tgt := 3) dX9_keepArcs_30 (by decide) ?_
      exact ihi (i + 1) (by omega) (by omega) (by omega) (by rw [hs, scanI_s _ (by omega), if_neg (by unfold AB; rw [decide_eq_true_iff]; exact fun q => q b18)])
    · rw [show 36 * s + (f + (6 * i)) = 36 * s + f + 6 * i by omega] at b18
      refine ev_if_ne (tgt := 27) dX9_keepArcs_21 (by decide) (by decide) (fun c => absurd c (by decide)) (fun _ => ?_)
      refine ev_bipush dX9_keepArcs_24 (by decide) ?_
      refine ev_ireturn dX9_keepArcs_26 ?_
      exact ⟨_, rfl, Or.inl ⟨by rw [hs, scanI_s _ (by omega), if_pos (by unfold AB; exact decide_eq_true b18)]; omega, rfl, hC⟩⟩

set_option maxHeartbeats 4000000 in
set_option maxRecDepth 100000 in
theorem k_arcs {E : EV} {h : AH} {A : AD} {S : MS} {s l f n : Int} (hC : CR E A S h) (hI : Inv S) (hJ : CJ S) (g1 : InR s) (g2 : InR l) (g3 : InR f) (g4 : InR n) : CM E yX9_arcs cX9_arcs 6 (some .int) 6 6 48 [.ref (A 0 0), vI (s), vI (l), vI (f), vI (n)] h (qI (fun z h' => z = sp_arcs S s l f n ∧ ∃ A' S', CR E A' S' h' ∧ A' 0 0 = A 0 0 ∧ eqx [69, 70] (nx_arcs S s l f n) S' ∧ CJ S')) := by
  have hR := hC.2.2
  have hJ := hI
  obtain ⟨i1, i2, i3, i4, i5, i6, iSt, iSi, iWa, iSh, iLa, iS0, iS1, iZe⟩ := hJ
  refine CM.of (by decide) (Nat.le_of_ble_eq_true rfl) (L := [(0, .ref (A 0 0)), (1, vI (s)), (2, vI (l)), (3, vI (f)), (4, vI (n))]) rfl ?_
  refine ev_iload_n 1 rfl dX9_arcs_0 ?_
  refine c_X9_258 (k_isSheet E (n := s) (by first | assumption | exact hR _ _ | decide | (simp only [InR]; omega))) rfl rfl (Nat.le_of_ble_eq_true rfl) (by decide) dX9_arcs_1 (kB (fun b1 => ?_) (fun b1 => ?_))
  · refine ev_if_eq (tgt := 25) dX9_arcs_4 (by decide) (by decide) (fun c => absurd c (by decide)) (fun _ => ?_)
    refine ev_iload_n 2 rfl dX9_arcs_7 ?_
    refine c_X9_261 (k_isLane E (n := l) (by first | assumption | exact hR _ _ | decide | (simp only [InR]; omega))) rfl rfl (Nat.le_of_ble_eq_true rfl) (by decide) dX9_arcs_8 (kB (fun b8 => ?_) (fun b8 => ?_))
    · refine ev_if_eq (tgt := 25) dX9_arcs_11 (by decide) (by decide) (fun c => absurd c (by decide)) (fun _ => ?_)
      refine ev_iload 4 rfl dX9_arcs_14 ?_
      refine ev_iconst dX9_arcs_16 ?_
      refine ev_bipush dX9_arcs_17 (by decide) ?_
      refine c_X9_67 (k_isWithin E (v := n) (a := 0) (b := 6) (by first | assumption | exact hR _ _ | decide | (simp only [InR]; omega)) (by decide) (by decide)) rfl rfl (Nat.le_of_ble_eq_true rfl) (by decide) dX9_arcs_19 (kB (fun b19 => ?_) (fun b19 => ?_))
      · refine ev_if_ne (tgt := 27) dX9_arcs_22 (by decide) (by decide) (fun _ => ?_) (fun c => absurd c (by decide))
        refine ev_aload_n 0 rfl dX9_arcs_27 ?_
        refine cg_X9_42 hC dX9_arcs_28 ?_
        refine ev_iload_n 1 rfl dX9_arcs_31 ?_
        refine c_aa8 hC dX9_arcs_32 (by omega) (by omega) (fun c32 => ?_) (fun c32 => ?_)
        · refine ev_astore (L' := [(5, .ref (A 23 s)), (0, .ref (A 0 0)), (1, vI (s)), (2, vI (l)), (3, vI (f)), (4, vI (n))]) dX9_arcs_33 (by decide) rfl ?_
          refine ev_aload 0 rfl dX9_arcs_35 ?_
          refine ev_ifnonnull (tgt := 43) dX9_arcs_37 (by decide) ?_
          have l4 := iLa s (by omega) (by omega)
          refine ev_aload 0 rfl dX9_arcs_43 ?_
          refine cg_X9_270 hC (by omega) dX9_arcs_45 ?_
          refine ev_iload_n 3 rfl dX9_arcs_48 ?_
          refine ev_icmp_eq (tgt := 55) dX9_arcs_49 (by first | assumption | exact hR _ _ | decide | (simp only [InR]; omega)) (by first | assumption | exact hR _ _ | decide | (simp only [InR]; omega)) (by decide) (fun c49 => ?_) (fun c49 => ?_)
          · refine ev_aload 0 rfl dX9_arcs_55 ?_
            refine ev_iload_n 4 rfl dX9_arcs_57 ?_
            refine ev_bipush dX9_arcs_58 (by decide) ?_
            refine ev_iload 5 rfl dX9_arcs_60 ?_
            refine ev_imul dX9_arcs_62 ?_
            refine c_X9_273 (k_holds (s := s) (f := f) (n := 6 * n) hC hI (by omega) (by first | assumption | exact hR _ _ | decide | (simp only [InR]; omega)) (by omega)) (hC.k23 (by omega)) rfl rfl (Nat.le_of_ble_eq_true rfl) (by decide) dX9_arcs_63 (kB (fun b63 => ?_) (fun b63 => ?_))
            · refine ev_if_ne (tgt := 72) dX9_arcs_66 (by decide) (by decide) (fun _ => ?_) (fun c => absurd c (by decide))
              refine ev_aload_n 1 rfl dX9_arcs_72 ?_
              refine ev_aload 0 rfl dX9_arcs_73 ?_
              refine cg_X9_267 hC (by omega) dX9_arcs_75 ?_
              refine ev_iload_n 4 rfl dX9_arcs_78 ?_
              refine ev_iload 5 rfl dX9_arcs_79 ?_
              refine c_X9_276 (k_keepArcs (s := s) (f := f) (n := n) hC hI hJ (by omega) (by omega) (by omega)) hC.k0 rfl rfl (Nat.le_of_ble_eq_true rfl) (by decide) dX9_arcs_81 (kI (fun z h2 hq => ?_))
              refine ev_ireturn dX9_arcs_84 ?_
              have e43 : S 43 s = l := by omega
              rcases hq with ⟨q1, q2, q3⟩ | ⟨q1, q2, q3, q4⟩ | ⟨q1, q2, q3, A', S', q4, q5, q6, q7⟩
              · refine ⟨_, rfl, ?_, A, S, q3, rfl, ?_, hJ⟩
                · simp only [sp_arcs]; rw [if_neg (by omega), if_neg (by omega), if_neg (by omega)]; rw [if_pos q1]; exact q2
                · simp only [nx_arcs]; rw [if_neg (by omega)]; exact eqx.rf
              · refine ⟨_, rfl, ?_, A, S, q4, rfl, ?_, hJ⟩
                · simp only [sp_arcs]; rw [if_neg (by omega), if_neg (by omega), if_neg (by omega)]; rw [if_neg (by omega), if_pos q2]; exact q3
                · simp only [nx_arcs]; rw [if_neg (by omega)]; exact eqx.rf
              · refine ⟨_, rfl, ?_, A', S', q4, q5, ?_, q7⟩
                · simp only [sp_arcs]; rw [if_neg (by omega), if_neg (by omega), if_neg (by omega)]; rw [if_neg (by omega), if_neg (by omega)]; exact q3
                · simp only [nx_arcs]; rw [if_pos (by omega)]; exact q6
            · refine ev_if_ne (tgt := 72) dX9_arcs_66 (by decide) (by decide) (fun c => absurd c (by decide)) (fun _ => ?_)
              refine ev_bipush dX9_arcs_69 (by decide) ?_
              refine ev_ireturn dX9_arcs_71 ?_
              exact ⟨_, rfl, by simp only [sp_arcs]; (repeat' split) <;> first | rfl | omega, A, S, hC, rfl, by simp only [nx_arcs]; rw [if_neg (by omega)]; exact eqx.rf, hJ⟩
          · refine ev_bipush dX9_arcs_52 (by decide) ?_
            refine ev_ireturn dX9_arcs_54 ?_
            exact ⟨_, rfl, by simp only [sp_arcs]; (repeat' split) <;> first | rfl | omega, A, S, hC, rfl, by simp only [nx_arcs]; rw [if_neg (by omega)]; exact eqx.rf, hJ⟩
        · refine ev_astoreN (L' := [(5, .null), (0, .ref (A 0 0)), (1, vI (s)), (2, vI (l)), (3, vI (f)), (4, vI (n))]) dX9_arcs_33 (by decide) rfl ?_
          refine ev_aloadN 0 rfl dX9_arcs_35 ?_
          refine ev_ifnonnullN dX9_arcs_37 ?_
          refine ev_bipush dX9_arcs_40 (by decide) ?_
          refine ev_ireturn dX9_arcs_42 ?_
          exact ⟨_, rfl, by simp only [sp_arcs]; (repeat' split) <;> first | rfl | omega, A, S, hC, rfl, by simp only [nx_arcs]; rw [if_neg (by omega)]; exact eqx.rf, hJ⟩
      · refine ev_if_ne (tgt := 27) dX9_arcs_22 (by decide) (by decide) (fun c => absurd c (by decide)) (fun _ => ?_)
        refine ev_iconst dX9_arcs_25 ?_
        refine ev_ireturn dX9_arcs_26 ?_
        exact ⟨_, rfl, by simp only [sp_arcs]; (repeat' split) <;> first | rfl | omega, A, S, hC, rfl, by simp only [nx_arcs]; rw [if_neg (by omega)]; exact eqx.rf, hJ⟩
    · refine ev_if_eq (tgt := 25) dX9_arcs_11 (by decide) (by decide) (fun _ => ?_) (fun c => absurd c (by decide))
      refine ev_iconst dX9_arcs_25 ?_
      refine ev_ireturn dX9_arcs_26 ?_
      exact ⟨_, rfl, by simp only [sp_arcs]; (repeat' split) <;> first | rfl | omega, A, S, hC, rfl, by simp only [nx_arcs]; rw [if_neg (by omega)]; exact eqx.rf, hJ⟩
  · refine ev_if_eq (tgt := 25) dX9_arcs_4 (by decide) (by decide) (fun _ => ?_) (fun c => absurd c (by decide))
    refine ev_iconst dX9_arcs_25 ?_
    refine ev_ireturn dX9_arcs_26 ?_
    exact ⟨_, rfl, by simp only [sp_arcs]; (repeat' split) <;> first | rfl | omega, A, S, hC, rfl, by simp only [nx_arcs]; rw [if_neg (by omega)]; exact eqx.rf, hJ⟩

