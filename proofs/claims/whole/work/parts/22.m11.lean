set_option maxHeartbeats 4000000 in
set_option maxRecDepth 100000 in
theorem m_listNight {E : EV} {h : AH} {o : Nat} {ad : Nat → Nat} {S : MS} {n : Int} (hM : MR E o ad S h) (hI : Inv S) (g1 : InR n) : CM E yX10_listNight cX10_listNight 3 none 0 0 0 [.ref (o), vI (n)] h (qV (fun h' => ∃ S', MR E o ad S' h' ∧ eqx [19, 20] S S' ∧ LsP S S' n (S 7 0))) := by
  have hR := hM.2.2.2.2
  have hJ := hI
  obtain ⟨i1, i2, i3, i4, i5, i6, iSt, iSi, iWa, iSh, iLa, iS0, iS1, iZe⟩ := hJ
  refine CM.of (by decide) (Nat.le_of_ble_eq_true rfl) (L := [(0, .ref (o)), (1, vI (n))]) rfl ?_
  refine ev_aload_n 0 rfl dX10_listNight_0 ?_
  refine ev_iconst dX10_listNight_1 ?_
  refine mp_238 hM (by decide) dX10_listNight_2 (fun S1 h2 eS3 hM4 => ?_)
  have hRS1 := hM4.2.2.2.2
  have hxS1 : eqx scr S S1 := by rw [eS3]; exact (eqx.rf (l := scr) (S := S)).up (by decide)
  have hIS1 := Inv.x hI hxS1
  refine ev_iconst dX10_listNight_5 ?_
  refine ev_istore_n (L' := [(2, vI (0)), (0, .ref (o)), (1, vI (n))]) dX10_listNight_6 (by decide) rfl ?_
  refine up_ind (P := fun k : Int => ∀ (S5 : MS) (h6 : AH), 0 ≤ k → MR E o ad S5 h6 → eqx [19, 20] S1 S5 → LsP S S5 n k → Ev E RX10 cX10_listNight 3 none "listNight" (qV (fun h' => ∃ S', MR E o ad S' h' ∧ eqx [19, 20] S S' ∧ LsP S S' n (S 7 0))) 0 0 0 7 [(2, vI (k)), (0, .ref (o)), (1, vI (n))] [] h6) (N := S 7 0) ?_ 0 (by omega)  S1 h2 (by omega) hM4 eqx.rf (⟨by rw [eS3]; exact upS_at, fun j h1 h2 => absurd h2 (by have : len0 (selL S n (0 : Int).toNat) = 0 := rfl; omega)⟩)
  intro k ihk hkN S5 h6 pk hM7 hx8 hls
  have hRS5 := hM7.2.2.2.2
  have hxS5 : eqx scr S S5 := (hxS1).tr hx8 (by decide) (by decide)
  have hIS5 := Inv.x hI hxS5
  have lb := selL_b (S := S) (n := n) k.toNat
  have hl0 := hls.1
  have ln0 := len0_nn (selL S n k.toNat)
  refine ev_iload_n 0 rfl dX10_listNight_7 ?_
  refine ev_aload_n 1 rfl dX10_listNight_8 ?_
  refine mgE_177 (v := S 7 0) hM7 (by rw [hx8 7 (by decide), eS3, upS_ne (by decide)]) dX10_listNight_9 ?_
  refine ev_icmp_ge (tgt := 60) dX10_listNight_12 (by first | assumption | exact hR _ _ | exact hRS1 _ _ | exact hRS5 _ _ | decide | (simp only [InR]; omega)) (by first | assumption | exact hR _ _ | exact hRS1 _ _ | exact hRS5 _ _ | decide | (simp only [InR]; omega)) (by decide) (fun c12 => ?_) (fun c12 => ?_)
  · refine ev_return dX10_listNight_60 ?_
    exact ⟨rfl, S5, hM7, (eqx.tr (l := [19, 20]) (by rw [eS3]; exact (eqx.rf (l := [19, 20]) (S := S)).up (by decide)) hx8 (by decide) (by decide)), by rw [show S 7 0 = k by omega]; exact hls⟩
  · refine ev_aload_n 1 rfl dX10_listNight_15 ?_
    refine mg_34 hM7 dX10_listNight_16 ?_
    refine ev_iload_n 0 rfl dX10_listNight_19 ?_
    refine m_ldE (k := 10) (v := S 10 k) hM7 (by decide) (by rw [hx8 10 (by decide), eS3, upS_ne (by decide)]) dX10_listNight_20 (by omega) (by show _ < ((40 : Nat) : Int); omega) ?_
    refine ev_iload_n 2 rfl dX10_listNight_21 ?_
    refine ev_icmp_ne (tgt := 54) dX10_listNight_22 (by first | assumption | exact hR _ _ | exact hRS1 _ _ | exact hRS5 _ _ | decide | (simp only [InR]; omega)) (by first | assumption | exact hR _ _ | exact hRS1 _ _ | exact hRS5 _ _ | decide | (simp only [InR]; omega)) (by decide) (fun c22 => ?_) (fun c22 => ?_)
    · refine ev_iinc (L' := [(2, vI (k + 1)), (0, .ref (o)), (1, vI (n))]) 0 rfl dX10_listNight_54 (by decide) rfl ?_
      refine ev_goto (tgt := 7) dX10_listNight_57 (by decide) ?_
      exact ihk (k + 1) (by omega) (by omega) S5 h6 (by omega) hM7 hx8 (ls_same (by omega) (by unfold SelP; omega) hls)
    · refine ev_aload_n 1 rfl dX10_listNight_25 ?_
      refine mg_28 hM7 dX10_listNight_26 ?_
      refine ev_iload_n 0 rfl dX10_listNight_29 ?_
      refine m_ldE (k := 8) (v := S 8 k) hM7 (by decide) (by rw [hx8 8 (by decide), eS3, upS_ne (by decide)]) dX10_listNight_30 (by omega) (by show _ < ((40 : Nat) : Int); omega) ?_
      refine ev_if_le (tgt := 54) dX10_listNight_31 (by first | assumption | exact hR _ _ | exact hRS1 _ _ | exact hRS5 _ _ | decide | (simp only [InR]; omega)) (by decide) (fun c31 => ?_) (fun c31 => ?_)
      · refine ev_iinc (L' := [(2, vI (k + 1)), (0, .ref (o)), (1, vI (n))]) 0 rfl dX10_listNight_54 (by decide) rfl ?_
        refine ev_goto (tgt := 7) dX10_listNight_57 (by decide) ?_
        exact ihk (k + 1) (by omega) (by omega) S5 h6 (by omega) hM7 hx8 (ls_same (by omega) (by unfold SelP; omega) hls)
      · refine ev_aload_n 1 rfl dX10_listNight_34 ?_
        refine mg_56 hM7 dX10_listNight_35 ?_
        refine ev_aload_n 1 rfl dX10_listNight_38 ?_
        refine mg_238 hM7 dX10_listNight_39 ?_
        refine ev_iload_n 0 rfl dX10_listNight_42 ?_
        refine m_st (k := 20) hM7 (by decide) dX10_listNight_43 (by omega) (by show _ < ((40 : Nat) : Int); omega) (by first | assumption | exact hR _ _ | exact hRS1 _ _ | exact hRS5 _ _ | decide | (simp only [InR]; omega)) (fun S9 h10 eS11 hM12 => ?_)
        have hRS9 := hM12.2.2.2.2
        have hxS9 : eqx scr S S9 := by rw [eS11]; exact (hxS5).up (by decide)
        have hIS9 := Inv.x hI hxS9
        refine ev_aload_n 1 rfl dX10_listNight_44 ?_
        refine ev_dup dX10_listNight_45 rfl ?_
        refine mgE_238 (v := S5 19 0) hM12 (by rw [eS11, upS_ne (by decide)]) dX10_listNight_46 ?_
        refine ev_iconst dX10_listNight_49 ?_
        refine ev_iadd dX10_listNight_50 ?_
        refine mp_238 hM12 (by first | assumption | exact hR _ _ | exact hRS1 _ _ | exact hRS5 _ _ | exact hRS9 _ _ | decide | (simp only [InR]; omega)) dX10_listNight_51 (fun S13 h14 eS15 hM16 => ?_)
        have hRS13 := hM16.2.2.2.2
        have hxS13 : eqx scr S S13 := by rw [eS15]; exact (hxS9).up (by decide)
        have hIS13 := Inv.x hI hxS13
        refine ev_iinc (L' := [(2, vI (k + 1)), (0, .ref (o)), (1, vI (n))]) 0 rfl dX10_listNight_54 (by decide) rfl ?_
        refine ev_goto (tgt := 7) dX10_listNight_57 (by decide) ?_
        exact ihk (k + 1) (by omega) (by omega) S13 h14 (by omega) hM16 (by rw [eS15]; exact eqx.up (l := [19, 20]) (by rw [eS11]; exact eqx.up (l := [19, 20]) hx8 (by decide)) (by decide)) (ls_step (by omega) (by unfold SelP; omega) hls eS11 eS15)
