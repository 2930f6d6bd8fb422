theorem su_b {S : MS} {l r : List Int} {n k w : Int} (hI : Inv S) (h : Okl S l r n) : 0 ≤ prK r k n ∧ -(1600000 * prK r k n) ≤ suK S l r k w n ∧ suK S l r k w n ≤ 1600000 * prK r k n := by
  have hp : 0 ≤ prK r k n := by
    unfold prK
    rw [sum_dn h.1.1]
    have := sumI_b (f := plP r k n) (a := 0) (b := 10) h.1.1 (fun j _ _ => plP_b h.1)
    omega
  refine ⟨hp, dn_cmp (fun i i0 i1 => ?_) 0 h.1.1 (by omega)⟩
  unfold plX plP
  by_cases q : at0 r i = k
  · rw [if_pos q, if_pos q]
    refine sum_cmp h.1.1 (fun j j0 j1 => ?_)
    unfold rwX rwP
    by_cases q2 : i < j ∧ at0 r j = k
    · rw [if_pos q2, if_pos q2]
      have := partZ_b (w := w) hI (h.2.1 i i0 i1) (h.2.2 i j i0 q2.1 j1 (by omega))
      omega
    · rw [if_neg q2, if_neg q2]
      omega
  · rw [if_neg q, if_neg q]
    omega
theorem av_fin {S : MS} {l r : List Int} {n k w p x : Int} (hI : Inv S) (h : Okl S l r n) (hp : p = prK r k n) (hx : x = suK S l r k w n) : (if 0 < p then x.tdiv p else x) = avK S l r k w n := by
  have hb := su_b (k := k) (w := w) hI h
  unfold avK
  rw [hp, hx]
  by_cases q : prK r k n = 0
  · rw [if_neg (by omega), if_pos q]
    rw [q] at hb
    omega
  · rw [if_pos (by omega), if_neg q]

set_option maxHeartbeats 4000000 in
set_option maxRecDepth 100000 in
theorem k_tellCurtain {E : EV} {h : AH} {A : AD} {S : MS} {l r : List Int} {N th k : Int} (hC : CR E A S h) (hI : Inv S) (hK : SkL S l N) (hth : th = S 16 0) (hrs : ∀ u : Int, 0 ≤ u → u < N → S 55 u = at0 r u ∧ 0 ≤ at0 r u ∧ at0 r u < 10) (hok : Okl S l r N) (gk : 0 ≤ k ∧ k < 10) (hne : 0 < meK r k N) : CM E yX6_tellCurtain cX6_tellCurtain 7 none 5 0 0 [.ref (A 11 0), vI (k), .ref (A 9 0), vI (th)] h (qV (fun h' => ∃ S', CR E A S' h' ∧ eqx [50, 58, 59, 60, 61, 62, 63, 64, 65, 66, 67] S S' ∧ CuE S S' k ∧ S' 58 k = meK r k N ∧ S' 67 k = prK r k N ∧ S' 60 k = avK S l r k 0 N ∧ S' 61 k = avK S l r k 1 N ∧ S' 62 k = avK S l r k 2 N ∧ S' 64 k = -4 ∧ (0 < meK r k N → S' 59 k = tiK S l r k N ∧ S' 63 k = fiK l r k N))) := by
  have hR := hC.2.2
  have hJ := hI
  obtain ⟨i1, i2, i3, i4, i5, i6, iSt, iSi, iWa, iSh, iLa, iS0, iS1, iZe⟩ := hJ
  obtain ⟨k1, k2, k3⟩ := hK
  refine CM.of (by decide) (Nat.le_of_ble_eq_true rfl) (L := [(0, .ref (A 11 0)), (1, vI (k)), (2, .ref (A 9 0)), (3, vI (th))]) rfl ?_
  refine ev_aload_n 0 rfl dX6_tellCurtain_0 ?_
  refine cg_X6_11 hC dX6_tellCurtain_1 ?_
  refine ev_iload_n 1 rfl dX6_tellCurtain_4 ?_
  refine c_aa12 hC dX6_tellCurtain_5 (by omega) (by omega) ?_
  refine ev_astore (L' := [(4, .ref (A 19 k)), (0, .ref (A 11 0)), (1, vI (k)), (2, .ref (A 9 0)), (3, vI (th))]) dX6_tellCurtain_6 (by decide) rfl ?_
  refine ev_aload 0 rfl dX6_tellCurtain_8 ?_
  refine c_X6_92 (k_clear (k := k) hC gk) (hC.k19 (by omega)) rfl rfl (Nat.le_of_ble_eq_true rfl) (by decide) dX6_tellCurtain_10 (kV (fun h2 hqh2 => ?_))
  obtain ⟨S1, hC3, ex4, cu5, p58, p67, p60, p61, p62, p64⟩ := hqh2
  have hRS1 := hC3.2.2
  have hxS1 : eqx scc S S1 := (eqx.rf (l := scc) (S := S)).tr ex4 (by decide) (by decide)
  have hIS1 := Inv.xc hI hxS1
  refine ev_iconst dX6_tellCurtain_13 ?_
  refine ev_istore (L' := [(5, vI (0)), (4, .ref (A 19 k)), (0, .ref (A 11 0)), (1, vI (k)), (2, .ref (A 9 0)), (3, vI (th))]) dX6_tellCurtain_14 (by decide) rfl ?_
  refine up_ind (P := fun i : Int => ∀ (S6 : MS) (h7 : AH), 0 ≤ i → CR E A S6 h7 → eqx [50, 58, 59, 60, 61, 62, 63, 64, 65, 66, 67] S1 S6 → CuE S S6 k → TcI S S6 l r k N i → Ev E RX6 cX6_tellCurtain 7 none "tellCurtain" (qV (fun h' => ∃ S', CR E A S' h' ∧ eqx [50, 58, 59, 60, 61, 62, 63, 64, 65, 66, 67] S S' ∧ CuE S S' k ∧ S' 58 k = meK r k N ∧ S' 67 k = prK r k N ∧ S' 60 k = avK S l r k 0 N ∧ S' 61 k = avK S l r k 1 N ∧ S' 62 k = avK S l r k 2 N ∧ S' 64 k = -4 ∧ (0 < meK r k N → S' 59 k = tiK S l r k N ∧ S' 63 k = fiK l r k N))) 5 0 0 16 [(5, vI (i)), (4, .ref (A 19 k)), (0, .ref (A 11 0)), (1, vI (k)), (2, .ref (A 9 0)), (3, vI (th))] [] h7) (N := N) ?_ 0 (by omega)  S1 h2 (by omega) hC3 eqx.rf (cu5) (⟨p58, p67, p60, p61, p62, p64, Or.inl ⟨p58, rfl, rfl, fun j j0 j1 => absurd j0 (by omega)⟩⟩)
  intro i ihi hiN S6 h7 pi hM8 hx9 hcu htc
  have hRS6 := hM8.2.2
  have hxS6 : eqx scc S S6 := (hxS1).tr hx9 (by decide) (by decide)
  have hIS6 := Inv.xc hI hxS6
  refine ev_iload 0 rfl dX6_tellCurtain_16 ?_
  refine ev_aload_n 2 rfl dX6_tellCurtain_18 ?_
  refine cgE_X6_40 (v := N) hM8 (by rw [hx9 56 (by decide), ex4 56 (by decide), k1]) dX6_tellCurtain_19 ?_
  refine ev_icmp_ge (tgt := 124) dX6_tellCurtain_22 (by first | assumption | exact hR _ _ | exact hRS1 _ _ | exact hRS6 _ _ | decide | (simp only [InR]; omega)) (by first | assumption | exact hR _ _ | exact hRS1 _ _ | exact hRS6 _ _ | decide | (simp only [InR]; omega)) (by decide) (fun c22 => ?_) (fun c22 => ?_)
  · have tcb := Tc_b hI hok (by omega) (by omega) htc
    have em0 : S6 58 k = meK r k N := by have q := htc.1; rw [show i = N by omega] at q; exact q.trans (sum_dn hok.1.1).symm
    have htr := htc.2.2.2.2.2.2.resolve_left (fun q => by omega)
    have htr2 := htr.2.2.2.2
    refine ev_aload 1 rfl dX6_tellCurtain_124 ?_
    refine c_X6_106 (k_finish (k := k) hM8 gk (by omega) (by omega) (by omega) (by omega) (by omega) (by omega)) (hM8.k19 (by omega)) rfl rfl (Nat.le_of_ble_eq_true rfl) (by decide) dX6_tellCurtain_126 (kV (fun h11 hqh11 => ?_))
    obtain ⟨S10, hC12, ex13, cu14, f59, f60, f61, f62⟩ := hqh11
    have hRS10 := hC12.2.2
    have hxS10 : eqx scc S S10 := (hxS6).tr ex13 (by decide) (by decide)
    have hIS10 := Inv.xc hI hxS10
    refine ev_return dX6_tellCurtain_129 ?_
    rw [show i = N by omega] at htc
    obtain ⟨h1, h2, h3, h4, h5, h6, h7⟩ := htc
    have em : S6 58 k = meK r k N := h1.trans (sum_dn hok.1.1).symm
    have ep : S6 67 k = prK r k N := h2.trans (sum_dn hok.1.1).symm
    have e60 : S6 60 k = suK S l r k 0 N := h3.trans (sum_dn hok.1.1).symm
    have e61 : S6 61 k = suK S l r k 1 N := h4.trans (sum_dn hok.1.1).symm
    have e62 : S6 62 k = suK S l r k 2 N := h5.trans (sum_dn hok.1.1).symm
    obtain ⟨a1, a2, a3, a4, a5, a6⟩ := h7.resolve_left (fun q => by omega)
    refine ⟨rfl, S10, hC12, (eqx.tr (l := [50, 58, 59, 60, 61, 62, 63, 64, 65, 66, 67]) (eqx.tr (l := [50, 58, 59, 60, 61, 62, 63, 64, 65, 66, 67]) (eqx.tr (l := [50, 58, 59, 60, 61, 62, 63, 64, 65, 66, 67]) (eqx.rf (l := [50, 58, 59, 60, 61, 62, 63, 64, 65, 66, 67]) (S := S)) ex4 (by decide) (by decide)) hx9 (by decide) (by decide)) ex13 (by decide) (by decide)), hcu.tr cu14, ?_, ?_, ?_, ?_, ?_, ?_, fun _ => ⟨?_, ?_⟩⟩
    · rw [ex13 58 (by decide)]; exact em
    · rw [ex13 67 (by decide)]; exact ep
    · rw [f60]; exact av_fin hI hok ep e60
    · rw [f61]; exact av_fin hI hok ep e61
    · rw [f62]; exact av_fin hI hok ep e62
    · rw [ex13 64 (by decide)]; exact h6
    · rw [f59, a2, a3, ← mx_up hok.1.1, ← mn_up hok.1.1]; rfl
    · rw [ex13 63 (by decide)]; exact a4
  · have ri := (hrs i (by omega) (by omega)).2
    have tcb := Tc_b hI hok (by omega) (by omega) htc
    have sgi := (k3 i (by omega) (by omega)).2
    refine ev_aload_n 2 rfl dX6_tellCurtain_25 ?_
    refine cg_X6_36 hM8 dX6_tellCurtain_26 ?_
    refine ev_iload 0 rfl dX6_tellCurtain_29 ?_
    refine c_ldE (k := 18) (s := 55) (v := S 55 i) hM8 (by decide) rfl (by rw [hx9 55 (by decide), ex4 55 (by decide)]) dX6_tellCurtain_31 (by omega) (by show _ < ((10 : Nat) : Int); omega) ?_
    refine ev_ren (b := at0 r i) ((hrs i (by omega) (by omega)).1) ?_
    refine ev_iload_n 3 rfl dX6_tellCurtain_32 ?_
    refine ev_icmp_ne (tgt := 118) dX6_tellCurtain_33 (by first | assumption | exact hR _ _ | exact hRS1 _ _ | exact hRS6 _ _ | decide | (simp only [InR]; omega)) (by first | assumption | exact hR _ _ | exact hRS1 _ _ | exact hRS6 _ _ | decide | (simp only [InR]; omega)) (by decide) (fun c33 => ?_) (fun c33 => ?_)
    · refine ev_iinc (L' := [(5, vI (i + 1)), (4, .ref (A 19 k)), (0, .ref (A 11 0)), (1, vI (k)), (2, .ref (A 9 0)), (3, vI (th))]) 0 rfl dX6_tellCurtain_118 (by decide) rfl ?_
      refine ev_goto (tgt := 16) dX6_tellCurtain_121 (by decide) ?_
      exact ihi (i + 1) (by omega) (by omega) S6 h7 (by omega) hM8 hx9 (hcu) (Tc_no (by omega) htc (by omega))
    · refine ev_aload 1 rfl dX6_tellCurtain_36 ?_
      refine ev_aload_n 2 rfl dX6_tellCurtain_38 ?_
      refine cg_X6_23 hM8 dX6_tellCurtain_39 ?_
      refine ev_iload 0 rfl dX6_tellCurtain_42 ?_
      refine c_ldE (k := 14) (s := 51) (v := S 51 i) hM8 (by decide) rfl (by rw [hx9 51 (by decide), ex4 51 (by decide)]) dX6_tellCurtain_44 (by omega) (by show _ < ((10 : Nat) : Int); omega) ?_
      refine ev_ren (b := at0 l i) ((k3 i (by omega) (by omega)).1.1) ?_
      refine ev_aload_n 2 rfl dX6_tellCurtain_45 ?_
      refine cg_X6_19 hM8 dX6_tellCurtain_46 ?_
      refine ev_iload 0 rfl dX6_tellCurtain_49 ?_
      refine c_aa13 (v := at0 l i) hM8 (by rw [hx9 68 (by decide), ex4 68 (by decide)]; exact (k3 i (by omega) (by omega)).1.2) (by omega) dX6_tellCurtain_51 (by omega) (by omega) ?_
      refine c_X6_95 (k_take (k := k) (v := at0 l i) (a := at0 l i) hM8 hIS6 gk (by unfold SG; rw [hxS6 7 (by decide)]; exact (k3 i (by omega) (by omega)).2.1) (by rw [hxS6 8 (by decide)]; exact (k3 i (by omega) (by omega)).2.2) (by simp only [InR]; omega) (by omega)) (hM8.k19 (by omega)) rfl rfl (Nat.le_of_ble_eq_true rfl) (by decide) dX6_tellCurtain_52 (kV (fun h16 hqh16 => ?_))
      rw [frZ_xc hxS6, laZ_xc hxS6] at hqh16
      obtain ⟨S15, hC17, ex18, cu19, t58, t63, t65, t66⟩ := hqh16
      have hRS15 := hC17.2.2
      have hxS15 : eqx scc S S15 := (hxS6).tr ex18 (by decide) (by decide)
      have hIS15 := Inv.xc hI hxS15
      refine ev_iload 0 rfl dX6_tellCurtain_55 ?_
      refine ev_iconst dX6_tellCurtain_57 ?_
      refine ev_iadd dX6_tellCurtain_58 ?_
      refine ev_istore (L' := [(6, vI (i + 1)), (5, vI (i)), (4, .ref (A 19 k)), (0, .ref (A 11 0)), (1, vI (k)), (2, .ref (A 9 0)), (3, vI (th))]) dX6_tellCurtain_59 (by decide) rfl ?_
      refine up_ind (P := fun j : Int => ∀ (S20 : MS) (h21 : AH), 0 ≤ j → CR E A S20 h21 → eqx [50, 60, 61, 62, 67] S15 S20 → i < j → CuE S S20 k → S20 67 k = S6 67 k + sumI (rwP r k i) j → S20 60 k = S6 60 k + sumI (rwX S l r k 0 i) j → S20 61 k = S6 61 k + sumI (rwX S l r k 1 i) j → S20 62 k = S6 62 k + sumI (rwX S l r k 2 i) j → Ev E RX6 cX6_tellCurtain 7 none "tellCurtain" (qV (fun h' => ∃ S', CR E A S' h' ∧ eqx [50, 58, 59, 60, 61, 62, 63, 64, 65, 66, 67] S S' ∧ CuE S S' k ∧ S' 58 k = meK r k N ∧ S' 67 k = prK r k N ∧ S' 60 k = avK S l r k 0 N ∧ S' 61 k = avK S l r k 1 N ∧ S' 62 k = avK S l r k 2 N ∧ S' 64 k = -4 ∧ (0 < meK r k N → S' 59 k = tiK S l r k N ∧ S' 63 k = fiK l r k N))) 5 0 0 61 [(6, vI (j)), (5, vI (i)), (4, .ref (A 19 k)), (0, .ref (A 11 0)), (1, vI (k)), (2, .ref (A 9 0)), (3, vI (th))] [] h21) (N := N) ?_ (i + 1) (by omega)  S15 h16 (by omega) hC17 eqx.rf (by omega) (hcu.tr cu19) (by rw [ex18 67 (by decide), sumI_zero (f := rwP r k i) (by omega) (fun u u0 u1 => if_neg (by omega))]; omega) (by rw [ex18 60 (by decide), sumI_zero (f := rwX S l r k 0 i) (by omega) (fun u u0 u1 => if_neg (by omega))]; omega) (by rw [ex18 61 (by decide), sumI_zero (f := rwX S l r k 1 i) (by omega) (fun u u0 u1 => if_neg (by omega))]; omega) (by rw [ex18 62 (by decide), sumI_zero (f := rwX S l r k 2 i) (by omega) (fun u u0 u1 => if_neg (by omega))]; omega)
      intro j ihj hjN S20 h21 pj hM22 hx23 hij hcu2 hp67 hp60 hp61 hp62
      have hRS20 := hM22.2.2
      have hxS20 : eqx scc S S20 := (hxS15).tr hx23 (by decide) (by decide)
      have hIS20 := Inv.xc hI hxS20
      refine ev_iload 0 rfl dX6_tellCurtain_61 ?_
      refine ev_aload_n 3 rfl dX6_tellCurtain_63 ?_
      refine cgE_X6_40 (v := N) hM22 (by rw [hx23 56 (by decide), ex18 56 (by decide), hx9 56 (by decide), ex4 56 (by decide), k1]) dX6_tellCurtain_64 ?_
      refine ev_icmp_ge (tgt := 118) dX6_tellCurtain_67 (by first | assumption | exact hR _ _ | exact hRS1 _ _ | exact hRS6 _ _ | exact hRS15 _ _ | exact hRS20 _ _ | decide | (simp only [InR]; omega)) (by first | assumption | exact hR _ _ | exact hRS1 _ _ | exact hRS6 _ _ | exact hRS15 _ _ | exact hRS20 _ _ | decide | (simp only [InR]; omega)) (by decide) (fun c67 => ?_) (fun c67 => ?_)
      · refine ev_iinc (L' := [(5, vI (i + 1)), (6, vI (j)), (4, .ref (A 19 k)), (0, .ref (A 11 0)), (1, vI (k)), (2, .ref (A 9 0)), (3, vI (th))]) 1 rfl dX6_tellCurtain_118 (by decide) rfl ?_
        refine ev_goto (tgt := 16) dX6_tellCurtain_121 (by decide) ?_
        refine ev_pick (L' := [(5, vI (i + 1)), (4, .ref (A 19 k)), (0, .ref (A 11 0)), (1, vI (k)), (2, .ref (A 9 0)), (3, vI (th))]) [0, 2, 3, 4, 5, 6] rfl ?_
        exact ihi (i + 1) (by omega) (by omega) S20 h21 (by omega) hM22 (eqx.tr (l := [50, 58, 59, 60, 61, 62, 63, 64, 65, 66, 67]) (eqx.tr (l := [50, 58, 59, 60, 61, 62, 63, 64, 65, 66, 67]) hx9 ex18 (by decide) (by decide)) hx23 (by decide) (by decide)) (hcu2) (Tc_yes hI hok (by omega) (by omega) htc (by omega) (by rw [hx23 58 (by decide)]; exact t58) (by rw [hx23 63 (by decide)]; exact t63) (by rw [hx23 65 (by decide)]; exact t65) (by rw [hx23 66 (by decide)]; exact t66) (by rw [hx23 64 (by decide), ex18 64 (by decide)]) (by rw [hp67, show j = N by omega]) (by rw [hp60, show j = N by omega]) (by rw [hp61, show j = N by omega]) (by rw [hp62, show j = N by omega]))
      · have rj := (hrs j (by omega) (by omega)).2
        have sgj := (k3 j (by omega) (by omega)).2
        have bp := sumI_b (f := rwP r k i) (a := 0) (b := 1) (show 0 ≤ j by omega) (fun u _ _ => rwP_b)
        have bx0 := sumI_b (f := rwX S l r k 0 i) (a := -1600000) (b := 1600000) (show 0 ≤ j by omega) (fun u u0 u1 => rwX_b hI hok (by omega) (by omega) (by omega) (by omega))
        have bx1 := sumI_b (f := rwX S l r k 1 i) (a := -1600000) (b := 1600000) (show 0 ≤ j by omega) (fun u u0 u1 => rwX_b hI hok (by omega) (by omega) (by omega) (by omega))
        have bx2 := sumI_b (f := rwX S l r k 2 i) (a := -1600000) (b := 1600000) (show 0 ≤ j by omega) (fun u u0 u1 => rwX_b hI hok (by omega) (by omega) (by omega) (by omega))
        refine ev_aload_n 3 rfl dX6_tellCurtain_70 ?_
        refine cg_X6_36 hM22 dX6_tellCurtain_71 ?_
        refine ev_iload 0 rfl dX6_tellCurtain_74 ?_
        refine c_ldE (k := 18) (s := 55) (v := S 55 j) hM22 (by decide) rfl (by rw [hx23 55 (by decide), ex18 55 (by decide), hx9 55 (by decide), ex4 55 (by decide)]) dX6_tellCurtain_76 (by omega) (by show _ < ((10 : Nat) : Int); omega) ?_
        refine ev_ren (b := at0 r j) ((hrs j (by omega) (by omega)).1) ?_
        refine ev_iload_n 4 rfl dX6_tellCurtain_77 ?_
        refine ev_icmp_ne (tgt := 112) dX6_tellCurtain_78 (by first | assumption | exact hR _ _ | exact hRS1 _ _ | exact hRS6 _ _ | exact hRS15 _ _ | exact hRS20 _ _ | decide | (simp only [InR]; omega)) (by first | assumption | exact hR _ _ | exact hRS1 _ _ | exact hRS6 _ _ | exact hRS15 _ _ | exact hRS20 _ _ | decide | (simp only [InR]; omega)) (by decide) (fun c78 => ?_) (fun c78 => ?_)
        · refine ev_iinc (L' := [(6, vI (j + 1)), (5, vI (i)), (4, .ref (A 19 k)), (0, .ref (A 11 0)), (1, vI (k)), (2, .ref (A 9 0)), (3, vI (th))]) 0 rfl dX6_tellCurtain_112 (by decide) rfl ?_
          refine ev_goto (tgt := 61) dX6_tellCurtain_115 (by decide) ?_
          exact ihj (j + 1) (by omega) (by omega) S20 h21 (by omega) hM22 hx23 (by omega) (hcu2) (by rw [sumI_s _ (by omega), hp67, show rwP r k i j = 0 from if_neg (by omega)]; omega) (by rw [sumI_s _ (by omega), hp60, show rwX S l r k 0 i j = 0 from if_neg (by omega)]; omega) (by rw [sumI_s _ (by omega), hp61, show rwX S l r k 1 i j = 0 from if_neg (by omega)]; omega) (by rw [sumI_s _ (by omega), hp62, show rwX S l r k 2 i j = 0 from if_neg (by omega)]; omega)
        · refine ev_aload_n 5 rfl dX6_tellCurtain_81 ?_
          refine ev_aload_n 3 rfl dX6_tellCurtain_82 ?_
          refine cg_X6_19 hM22 dX6_tellCurtain_83 ?_
          refine ev_iload 1 rfl dX6_tellCurtain_86 ?_
          refine c_aa13 (v := at0 l i) hM22 (by rw [hx23 68 (by decide), ex18 68 (by decide), hx9 68 (by decide), ex4 68 (by decide)]; exact (k3 i (by omega) (by omega)).1.2) (by omega) dX6_tellCurtain_88 (by omega) (by omega) ?_
          refine ev_aload_n 3 rfl dX6_tellCurtain_89 ?_
          refine cg_X6_19 hM22 dX6_tellCurtain_90 ?_
          refine ev_iload 0 rfl dX6_tellCurtain_93 ?_
          refine c_aa13 (v := at0 l j) hM22 (by rw [hx23 68 (by decide), ex18 68 (by decide), hx9 68 (by decide), ex4 68 (by decide)]; exact (k3 j (by omega) (by omega)).1.2) (by omega) dX6_tellCurtain_95 (by omega) (by omega) ?_
          refine ev_iload_n 6 rfl dX6_tellCurtain_96 ?_
          have hc97 := hok.2.2 i j (by omega) (by omega) (by omega) (by omega)
          refine c_X6_81 (k_find (a := at0 l i) (b := at0 l j) (th := th) hM22 hIS20 (by unfold SG; rw [hx23 7 (by decide), ex18 7 (by decide), hx9 7 (by decide), ex4 7 (by decide)]; first | exact sgi.1 | exact sgj.1) (by unfold SG; rw [hx23 7 (by decide), ex18 7 (by decide), hx9 7 (by decide), ex4 7 (by decide)]; first | exact sgi.1 | exact sgj.1) (by rw [hx23 8 (by decide), ex18 8 (by decide), hx9 8 (by decide), ex4 8 (by decide)]; first | exact sgi.2 | exact sgj.2) (by rw [hx23 8 (by decide), ex18 8 (by decide), hx9 8 (by decide), ex4 8 (by decide)]; first | exact sgi.2 | exact sgj.2) (by rw [hx23 16 (by decide), ex18 16 (by decide), hx9 16 (by decide), ex4 16 (by decide)]; exact hth)) hM22.k9 rfl rfl (Nat.le_of_ble_eq_true rfl) (by decide) dX6_tellCurtain_97 (kI (fun z24 h25 hqz24 => ?_))
          obtain ⟨S26, hC27, ex28, ⟨rfl, b97, v97⟩ | ⟨rfl, b97⟩⟩ := hqz24
          · rw [CrP_xc hxS20] at b97
            have hRS26 := hC27.2.2
            have hxS26 : eqx scc S S26 := (hxS20).tr ex28 (by decide) (by decide)
            have hIS26 := Inv.xc hI hxS26
            refine ev_if_eq (tgt := 112) dX6_tellCurtain_100 (by decide) (by decide) (fun c => absurd c (by decide)) (fun _ => ?_)
            have y0 : S26 50 0 = partZ S (at0 l i) (at0 l j) 0 := v97.1.trans (show partZ S20 (at0 l i) (at0 l j) 0 = _ from partZ_xc hxS20)
            have pb0 := partZ_b (w := 0) hI (hok.2.1 i (by omega) (by omega)) hc97
            have y1 : S26 50 1 = partZ S (at0 l i) (at0 l j) 1 := v97.2.1.trans (show partZ S20 (at0 l i) (at0 l j) 1 = _ from partZ_xc hxS20)
            have pb1 := partZ_b (w := 1) hI (hok.2.1 i (by omega) (by omega)) hc97
            have y2 : S26 50 2 = partZ S (at0 l i) (at0 l j) 2 := v97.2.2.1.trans (show partZ S20 (at0 l i) (at0 l j) 2 = _ from partZ_xc hxS20)
            have pb2 := partZ_b (w := 2) hI (hok.2.1 i (by omega) (by omega)) hc97
            refine ev_aload 2 rfl dX6_tellCurtain_103 ?_
            refine ev_aload_n 5 rfl dX6_tellCurtain_105 ?_
            refine cg_X6_99 hC27 dX6_tellCurtain_106 ?_
            refine c_X6_102 (k_takePair (k := k) hC27 gk (by rw [ex28 67 (by decide)]; omega) (by rw [ex28 60 (by decide)]; omega) (by rw [ex28 61 (by decide)]; omega) (by rw [ex28 62 (by decide)]; omega) (by omega) (by omega) (by omega)) (hC27.k19 (by omega)) rfl rfl (Nat.le_of_ble_eq_true rfl) (by decide) dX6_tellCurtain_109 (kV (fun h30 hqh30 => ?_))
            rw [ex28 67 (by decide), ex28 60 (by decide), ex28 61 (by decide), ex28 62 (by decide), y0, y1, y2] at hqh30
            obtain ⟨S29, hC31, ex32, cu33, u67, u60, u61, u62⟩ := hqh30
            have hRS29 := hC31.2.2
            have hxS29 : eqx scc S S29 := (hxS26).tr ex32 (by decide) (by decide)
            have hIS29 := Inv.xc hI hxS29
            refine ev_iinc (L' := [(6, vI (j + 1)), (5, vI (i)), (4, .ref (A 19 k)), (0, .ref (A 11 0)), (1, vI (k)), (2, .ref (A 9 0)), (3, vI (th))]) 0 rfl dX6_tellCurtain_112 (by decide) rfl ?_
            refine ev_goto (tgt := 61) dX6_tellCurtain_115 (by decide) ?_
            exact ihj (j + 1) (by omega) (by omega) S29 h30 (by omega) hC31 (eqx.tr (l := [50, 60, 61, 62, 67]) (eqx.tr (l := [50, 60, 61, 62, 67]) hx23 ex28 (by decide) (by decide)) ex32 (by decide) (by decide)) (by omega) ((CuE.x (hcu2) ex28 (by decide)).tr cu33) (by rw [sumI_s _ (by omega), u67, hp67, show rwP r k i j = 1 from if_pos (by omega)]; omega) (by rw [sumI_s _ (by omega), u60, hp60, show rwX S l r k 0 i j = partZ S (at0 l i) (at0 l j) 0 from if_pos (by omega)]; omega) (by rw [sumI_s _ (by omega), u61, hp61, show rwX S l r k 1 i j = partZ S (at0 l i) (at0 l j) 1 from if_pos (by omega)]; omega) (by rw [sumI_s _ (by omega), u62, hp62, show rwX S l r k 2 i j = partZ S (at0 l i) (at0 l j) 2 from if_pos (by omega)]; omega)
          · rw [CrP_xc hxS20] at b97
            exact absurd hc97 b97

