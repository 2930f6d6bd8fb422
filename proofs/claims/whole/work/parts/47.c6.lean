set_option maxHeartbeats 4000000 in
set_option maxRecDepth 100000 in
theorem k_station {E : EV} {h : AH} {A : AD} {S : MS} {x y : Int} (hC : CR E A S h) (hI : Inv S) (hJ : CJ S) (g1 : InR x) (g2 : InR y) : CM E yX9_station cX9_station 4 (some .int) 2 1 5 [.ref (A 0 0), vI (x), vI (y)] h (qI (fun z h' => z = sp_station S x y ∧ ∃ A' S', CR E A' S' h' ∧ A' 0 0 = A 0 0 ∧ eqx [69, 70] (nx_station S x y) S' ∧ CJ S')) := by
  have hR := hC.2.2
  have hJ := hI
  obtain ⟨i1, i2, i3, i4, i5, i6, iSt, iSi, iWa, iSh, iLa, iS0, iS1, iZe⟩ := hJ
  refine CM.of (by decide) (Nat.le_of_ble_eq_true rfl) (L := [(0, .ref (A 0 0)), (1, vI (x)), (2, vI (y))]) rfl ?_
  refine ev_iload_n 1 rfl dX9_station_0 ?_
  refine ev_iconst dX9_station_1 ?_
  refine ev_sipush dX9_station_2 (by decide) ?_
  refine c_X9_67 (k_isWithin E (v := x) (a := 0) (b := 2000) (by first | assumption | exact hR _ _ | decide | (simp only [InR]; omega)) (by decide) (by decide)) rfl rfl (Nat.le_of_ble_eq_true rfl) (by decide) dX9_station_5 (kB (fun b5 => ?_) (fun b5 => ?_))
  · refine ev_if_eq (tgt := 22) dX9_station_8 (by decide) (by decide) (fun c => absurd c (by decide)) (fun _ => ?_)
    refine ev_iload_n 2 rfl dX9_station_11 ?_
    refine ev_iconst dX9_station_12 ?_
    refine ev_sipush dX9_station_13 (by decide) ?_
    refine c_X9_67 (k_isWithin E (v := y) (a := 0) (b := 2000) (by first | assumption | exact hR _ _ | decide | (simp only [InR]; omega)) (by decide) (by decide)) rfl rfl (Nat.le_of_ble_eq_true rfl) (by decide) dX9_station_16 (kB (fun b16 => ?_) (fun b16 => ?_))
    · refine ev_if_ne (tgt := 24) dX9_station_19 (by decide) (by decide) (fun _ => ?_) (fun c => absurd c (by decide))
      refine ev_aload_n 0 rfl dX9_station_24 ?_
      refine cg_X9_71 hC dX9_station_25 ?_
      refine ev_bipush dX9_station_28 (by decide) ?_
      refine ev_icmp_lt (tgt := 36) dX9_station_30 (by first | assumption | exact hR _ _ | decide | (simp only [InR]; omega)) (by decide) (by decide) (fun c30 => ?_) (fun c30 => ?_)
      · refine ev_aload_n 0 rfl dX9_station_36 ?_
        refine cg_X9_71 hC dX9_station_37 ?_
        refine ev_istore_n (L' := [(3, vI (S 2 0)), (0, .ref (A 0 0)), (1, vI (x)), (2, vI (y))]) dX9_station_40 (by decide) rfl ?_
        refine ev_aload_n 1 rfl dX9_station_41 ?_
        refine cg_X9_11 hC dX9_station_42 ?_
        refine ev_iload_n 0 rfl dX9_station_45 ?_
        refine cn_X9_9 dX9_station_46 (fun q hq0 => ?_)
        have ho := hC.frs hq0
        have hCq := hC.off (e := ob 7 [vI 0, vI 0, vI 0, vI 0, vI 0]) ho
        refine ev_dup dX9_station_49 rfl ?_
        refine ev_iload_n 0 rfl dX9_station_50 ?_
        refine ev_iload_n 2 rfl dX9_station_51 ?_
        refine ev_iload_n 3 rfl dX9_station_52 ?_
        refine c_X9_74 (k_init7 ah_at) rfl rfl (Nat.le_of_ble_eq_true rfl) (by decide) dX9_station_53 (kV (fun h1 e1 => ?_))
        rw [ah_uu] at e1
        have hq1 : h1 q = some (ob 7 [vI (S 2 0), vI (x), vI (y), vI 0, vI 0]) := by rw [e1]; exact ah_at
        have hC1 : CR E A S h1 := by rw [e1]; exact hC.off ho
        have q01 : A 0 0 ≠ A 1 0 := fun e => absurd (hC1.2.1 _ _ _ _ (dom_0 (by decide)) (dom_0 (by decide)) e).1 (by decide)
        refine ev_aastore (ci := 7) (r := (RX7, TX7, 5)) (f := fun j => if j < S 2 0 then some (A 20 j) else none) rfl rfl dX9_station_56 hC1.k1 hq1 (by decide) (by omega) (by omega) ?_
        refine ev_aload_n 1 rfl dX9_station_57 ?_
        refine ev_dup dX9_station_58 rfl ?_
        refine g_X9_71_9 dX9_station_59 ((ah_ne q01).trans hC1.k0) rfl ?_
        refine ev_iconst dX9_station_62 ?_
        refine ev_iadd dX9_station_63 ?_
        refine p_X9_71_9 dX9_station_64 ((ah_ne q01).trans hC1.k0) (Nat.le_of_ble_eq_true rfl) ?_
        have hC3 := hC1.addSt (x := x) (y := y) hI ho hq1 (upS_in (upS_in (upS_in hC1.2.2 (by simp only [InR]; omega)) (by simp only [InR]; omega)) (by simp only [InR]; omega))
        refine ev_iload_n 0 rfl dX9_station_67 ?_
        refine ev_ireturn dX9_station_68 ?_
        refine ⟨_, rfl, ?_, _, _, hC3, upA_k (by decide), ?_, hJ.x (l := [2, 3, 4]) (((eqx.rf.up (by decide)).up (by decide)).up (by decide)) (by decide) (by decide) (by decide) (by decide) (by decide)⟩
        · simp only [sp_station]; (repeat' split) <;> first | rfl | omega
        · simp only [nx_station]; rw [if_pos (by omega)]; exact eqx.rf
      · refine ev_bipush dX9_station_33 (by decide) ?_
        refine ev_ireturn dX9_station_35 ?_
        exact ⟨_, rfl, by simp only [sp_station]; (repeat' split) <;> first | rfl | omega, A, S, hC, rfl, by simp only [nx_station]; rw [if_neg (by omega)]; exact eqx.rf, hJ⟩
    · refine ev_if_ne (tgt := 24) dX9_station_19 (by decide) (by decide) (fun c => absurd c (by decide)) (fun _ => ?_)
      refine ev_iconst dX9_station_22 ?_
      refine ev_ireturn dX9_station_23 ?_
      exact ⟨_, rfl, by simp only [sp_station]; (repeat' split) <;> first | rfl | omega, A, S, hC, rfl, by simp only [nx_station]; rw [if_neg (by omega)]; exact eqx.rf, hJ⟩
  · refine ev_if_eq (tgt := 22) dX9_station_8 (by decide) (by decide) (fun _ => ?_) (fun c => absurd c (by decide))
    refine ev_iconst dX9_station_22 ?_
    refine ev_ireturn dX9_station_23 ?_
    exact ⟨_, rfl, by simp only [sp_station]; (repeat' split) <;> first | rfl | omega, A, S, hC, rfl, by simp only [nx_station]; rw [if_neg (by omega)]; exact eqx.rf, hJ⟩

set_option maxHeartbeats 4000000 in
set_option maxRecDepth 100000 in
theorem k_glow {E : EV} {h : AH} {A : AD} {S : MS} {a1 a2 a3 a4 a5 : Int} (hC : CR E A S h) (hI : Inv S) (hJ : CJ S) (g1 : InR a1) (g2 : InR a2) (g3 : InR a3) (g4 : InR a4) (g5 : InR a5) : CM E yX9_glow cX9_glow 7 (some .int) 3 1 5 [.ref (A 0 0), vI (a1), vI (a2), vI (a3), vI (a4), vI (a5)] h (qI (fun z h' => z = sp_glow S a1 a2 a3 a4 a5 ∧ ∃ A' S', CR E A' S' h' ∧ A' 0 0 = A 0 0 ∧ eqx [69, 70] (nx_glow S a1 a2 a3 a4 a5) S' ∧ CJ S')) := by
  have hR := hC.2.2
  have hJ := hI
  obtain ⟨i1, i2, i3, i4, i5, i6, iSt, iSi, iWa, iSh, iLa, iS0, iS1, iZe⟩ := hJ
  refine CM.of (by decide) (Nat.le_of_ble_eq_true rfl) (L := [(0, .ref (A 0 0)), (1, vI (a1)), (2, vI (a2)), (3, vI (a3)), (4, vI (a4)), (5, vI (a5))]) rfl ?_
  refine ev_aload_n 0 rfl dX9_glow_0 ?_
  refine ev_iload_n 1 rfl dX9_glow_1 ?_
  refine c_X9_77 (k_stationAt (a := a1) hC hI (by first | assumption | exact hR _ _ | decide | (simp only [InR]; omega))) hC.k0 rfl rfl (Nat.le_of_ble_eq_true rfl) (by decide) dX9_glow_2 (kN (fun b2 => ?_) (fun b2 => ?_))
  · refine ev_astore (L' := [(6, .ref (A 20 a1)), (0, .ref (A 0 0)), (1, vI (a1)), (2, vI (a2)), (3, vI (a3)), (4, vI (a4)), (5, vI (a5))]) dX9_glow_5 (by decide) rfl ?_
    refine ev_aload 0 rfl dX9_glow_7 ?_
    refine ev_ifnull dX9_glow_9 ?_
    refine ev_iload_n 3 rfl dX9_glow_12 ?_
    refine ev_iload_n 4 rfl dX9_glow_13 ?_
    refine ev_iload 5 rfl dX9_glow_14 ?_
    refine ev_iload 6 rfl dX9_glow_16 ?_
    refine c_X9_87 (k_isInSky E (by first | assumption | exact hR _ _ | decide | (simp only [InR]; omega)) (by first | assumption | exact hR _ _ | decide | (simp only [InR]; omega)) (by first | assumption | exact hR _ _ | decide | (simp only [InR]; omega)) (by first | assumption | exact hR _ _ | decide | (simp only [InR]; omega))) rfl rfl (Nat.le_of_ble_eq_true rfl) (by decide) dX9_glow_18 (kB (fun b18 => ?_) (fun b18 => ?_))
    · refine ev_if_ne (tgt := 26) dX9_glow_21 (by decide) (by decide) (fun _ => ?_) (fun c => absurd c (by decide))
      refine ev_aload_n 1 rfl dX9_glow_26 ?_
      refine cg_X9_91 hC dX9_glow_27 ?_
      refine ev_bipush dX9_glow_30 (by decide) ?_
      refine ev_icmp_lt (tgt := 38) dX9_glow_32 (by first | assumption | exact hR _ _ | decide | (simp only [InR]; omega)) (by decide) (by decide) (fun c32 => ?_) (fun c32 => ?_)
      · refine ev_aload_n 1 rfl dX9_glow_38 ?_
        refine cn_X9_15 dX9_glow_39 (fun q hq0 => ?_)
        have ho := hC.frs hq0
        have hCq := hC.off (e := ob 3 [.null, vI 0, vI 0, vI 0, vI 0]) ho
        refine ev_dup dX9_glow_42 rfl ?_
        refine ev_aload 0 rfl dX9_glow_43 ?_
        refine ev_iload_n 3 rfl dX9_glow_45 ?_
        refine ev_iload_n 4 rfl dX9_glow_46 ?_
        refine ev_iload 5 rfl dX9_glow_47 ?_
        refine ev_iload 6 rfl dX9_glow_49 ?_
        refine c_X9_94 (k_init3_3 ah_at) rfl rfl (Nat.le_of_ble_eq_true rfl) (by decide) dX9_glow_51 (kV (fun h1 e1 => ?_))
        rw [ah_uu] at e1
        have hq1 : h1 q = some (ob 3 [.ref (A 20 a1), vI (a2), vI (a3), vI (a4), vI (a5)]) := by rw [e1]; exact ah_at
        have hC1 : CR E A S h1 := by rw [e1]; exact hC.off ho
        refine c_X9_97 (k_keep (kd := 0) (a1 := a1) (a2 := a2) (a3 := a3) (a4 := a4) (a5 := a5) (c := 0) (l := 0) hC1 hI hJ ho (by decide) hq1 (by omega) (by omega) (by omega) (by omega)) hC1.k0 rfl rfl (Nat.le_of_ble_eq_true rfl) (by decide) dX9_glow_54 (kI (fun z1 h2 hqz1 => ?_))
        obtain ⟨hz, A', S', hC', e0, _, hx', hJ'⟩ := hqz1
        refine ev_ireturn dX9_glow_57 ?_
        refine ⟨_, rfl, ?_, A', S', hC', e0, ?_, hJ'⟩
        · simp only [sp_glow, sp_add]; rw [if_pos (by omega), if_neg (by omega)]; exact hz
        · simp only [nx_glow, nx_add]; rw [if_pos (by omega), if_pos (by omega)]; exact hx'
      · refine ev_bipush dX9_glow_35 (by decide) ?_
        refine ev_ireturn dX9_glow_37 ?_
        exact ⟨_, rfl, by simp only [sp_glow, sp_add]; (repeat' split) <;> first | rfl | omega, A, S, hC, rfl, by simp only [nx_glow, nx_add]; (repeat' split) <;> first | exact eqx.rf | omega, hJ⟩
    · refine ev_if_ne (tgt := 26) dX9_glow_21 (by decide) (by decide) (fun c => absurd c (by decide)) (fun _ => ?_)
      refine ev_iconst dX9_glow_24 ?_
      refine ev_ireturn dX9_glow_25 ?_
      exact ⟨_, rfl, by simp only [sp_glow, sp_add]; (repeat' split) <;> first | rfl | omega, A, S, hC, rfl, by simp only [nx_glow, nx_add]; (repeat' split) <;> first | exact eqx.rf | omega, hJ⟩
  · refine ev_astoreN (L' := [(6, .null), (0, .ref (A 0 0)), (1, vI (a1)), (2, vI (a2)), (3, vI (a3)), (4, vI (a4)), (5, vI (a5))]) dX9_glow_5 (by decide) rfl ?_
    refine ev_aloadN 0 rfl dX9_glow_7 ?_
    refine ev_ifnullN (tgt := 24) dX9_glow_9 (by decide) ?_
    refine ev_iconst dX9_glow_24 ?_
    refine ev_ireturn dX9_glow_25 ?_
    exact ⟨_, rfl, by simp only [sp_glow, sp_add]; (repeat' split) <;> first | rfl | omega, A, S, hC, rfl, by simp only [nx_glow, nx_add]; (repeat' split) <;> first | exact eqx.rf | omega, hJ⟩

set_option maxHeartbeats 4000000 in
set_option maxRecDepth 100000 in
theorem k_arc {E : EV} {h : AH} {A : AD} {S : MS} {a1 a2 a3 a4 a5 a6 : Int} (hC : CR E A S h) (hI : Inv S) (hJ : CJ S) (g1 : InR a1) (g2 : InR a2) (g3 : InR a3) (g4 : InR a4) (g5 : InR a5) (g6 : InR a6) : CM E yX9_arc cX9_arc 8 (some .int) 4 1 8 [.ref (A 0 0), vI (a1), vI (a2), vI (a3), vI (a4), vI (a5), vI (a6)] h (qI (fun z h' => z = sp_arc S a1 a2 a3 a4 a5 a6 ∧ ∃ A' S', CR E A' S' h' ∧ A' 0 0 = A 0 0 ∧ eqx [69, 70] (nx_arc S a1 a2 a3 a4 a5 a6) S' ∧ CJ S')) := by
  have hR := hC.2.2
  have hJ := hI
  obtain ⟨i1, i2, i3, i4, i5, i6, iSt, iSi, iWa, iSh, iLa, iS0, iS1, iZe⟩ := hJ
  refine CM.of (by decide) (Nat.le_of_ble_eq_true rfl) (L := [(0, .ref (A 0 0)), (1, vI (a1)), (2, vI (a2)), (3, vI (a3)), (4, vI (a4)), (5, vI (a5)), (6, vI (a6))]) rfl ?_
  refine ev_aload_n 0 rfl dX9_arc_0 ?_
  refine ev_iload_n 1 rfl dX9_arc_1 ?_
  refine c_X9_77 (k_stationAt (a := a1) hC hI (by first | assumption | exact hR _ _ | decide | (simp only [InR]; omega))) hC.k0 rfl rfl (Nat.le_of_ble_eq_true rfl) (by decide) dX9_arc_2 (kN (fun b2 => ?_) (fun b2 => ?_))
  · refine ev_astore (L' := [(7, .ref (A 20 a1)), (0, .ref (A 0 0)), (1, vI (a1)), (2, vI (a2)), (3, vI (a3)), (4, vI (a4)), (5, vI (a5)), (6, vI (a6))]) dX9_arc_5 (by decide) rfl ?_
    refine ev_aload 0 rfl dX9_arc_7 ?_
    refine ev_ifnull dX9_arc_9 ?_
    refine ev_iload_n 3 rfl dX9_arc_12 ?_
    refine ev_iload_n 4 rfl dX9_arc_13 ?_
    refine ev_iload 5 rfl dX9_arc_14 ?_
    refine ev_iload 6 rfl dX9_arc_16 ?_
    refine c_X9_87 (k_isInSky E (by first | assumption | exact hR _ _ | decide | (simp only [InR]; omega)) (by first | assumption | exact hR _ _ | decide | (simp only [InR]; omega)) (by first | assumption | exact hR _ _ | decide | (simp only [InR]; omega)) (by first | assumption | exact hR _ _ | decide | (simp only [InR]; omega))) rfl rfl (Nat.le_of_ble_eq_true rfl) (by decide) dX9_arc_18 (kB (fun b18 => ?_) (fun b18 => ?_))
    · refine ev_if_eq (tgt := 32) dX9_arc_21 (by decide) (by decide) (fun c => absurd c (by decide)) (fun _ => ?_)
      refine ev_iload 7 rfl dX9_arc_24 ?_
      refine c_X9_101 (k_isColour E (n := a6) (by first | assumption | exact hR _ _ | decide | (simp only [InR]; omega))) rfl rfl (Nat.le_of_ble_eq_true rfl) (by decide) dX9_arc_26 (kB (fun b26 => ?_) (fun b26 => ?_))
      · refine ev_if_ne (tgt := 34) dX9_arc_29 (by decide) (by decide) (fun _ => ?_) (fun c => absurd c (by decide))
        refine ev_aload_n 1 rfl dX9_arc_34 ?_
        refine cg_X9_91 hC dX9_arc_35 ?_
        refine ev_bipush dX9_arc_38 (by decide) ?_
        refine ev_icmp_lt (tgt := 46) dX9_arc_40 (by first | assumption | exact hR _ _ | decide | (simp only [InR]; omega)) (by decide) (by decide) (fun c40 => ?_) (fun c40 => ?_)
        · refine ev_aload_n 1 rfl dX9_arc_46 ?_
          refine cn_X9_105 dX9_arc_47 (fun q hq0 => ?_)
          have ho := hC.frs hq0
          have hCq := hC.off (e := ob 0 [.null, vI 0, vI 0, vI 0, vI 0, vI 0, vI 0, vI 0]) ho
          refine ev_dup dX9_arc_50 rfl ?_
          refine ev_aload 0 rfl dX9_arc_51 ?_
          refine ev_iload_n 3 rfl dX9_arc_53 ?_
          refine ev_iload_n 4 rfl dX9_arc_54 ?_
          refine ev_iload 5 rfl dX9_arc_55 ?_
          refine ev_iload 6 rfl dX9_arc_57 ?_
          refine ev_iload 7 rfl dX9_arc_59 ?_
          refine c_X9_107 (k_init0_0 (by omega) ah_at) rfl rfl (Nat.le_of_ble_eq_true rfl) (by decide) dX9_arc_61 (kV (fun h1 e1 => ?_))
          rw [ah_uu] at e1
          have hq1 : h1 q = some (ob 0 [.ref (A 20 a1), vI (a2), vI (a3), vI (a4), vI (a5), vI (a6), vI (sinZ (a4)), vI (cosZ (a4))]) := by rw [e1]; exact ah_at
          have hC1 : CR E A S h1 := by rw [e1]; exact hC.off ho
          refine c_X9_97 (k_keep (kd := 1) (a1 := a1) (a2 := a2) (a3 := a3) (a4 := a4) (a5 := a5) (c := a6) (l := 0) hC1 hI hJ ho (by decide) hq1 (by omega) (by omega) (by omega) (by omega)) hC1.k0 rfl rfl (Nat.le_of_ble_eq_true rfl) (by decide) dX9_arc_64 (kI (fun z1 h2 hqz1 => ?_))
          obtain ⟨hz, A', S', hC', e0, _, hx', hJ'⟩ := hqz1
          refine ev_ireturn dX9_arc_67 ?_
          refine ⟨_, rfl, ?_, A', S', hC', e0, ?_, hJ'⟩
          · simp only [sp_arc, sp_add]; rw [if_pos (by omega), if_neg (by omega)]; exact hz
          · simp only [nx_arc, nx_add]; rw [if_pos (by omega), if_pos (by omega)]; exact hx'
        · refine ev_bipush dX9_arc_43 (by decide) ?_
          refine ev_ireturn dX9_arc_45 ?_
          exact ⟨_, rfl, by simp only [sp_arc, sp_add]; (repeat' split) <;> first | rfl | omega, A, S, hC, rfl, by simp only [nx_arc, nx_add]; (repeat' split) <;> first | exact eqx.rf | omega, hJ⟩
      · refine ev_if_ne (tgt := 34) dX9_arc_29 (by decide) (by decide) (fun c => absurd c (by decide)) (fun _ => ?_)
        refine ev_iconst dX9_arc_32 ?_
        refine ev_ireturn dX9_arc_33 ?_
        exact ⟨_, rfl, by simp only [sp_arc, sp_add]; (repeat' split) <;> first | rfl | omega, A, S, hC, rfl, by simp only [nx_arc, nx_add]; (repeat' split) <;> first | exact eqx.rf | omega, hJ⟩
    · refine ev_if_eq (tgt := 32) dX9_arc_21 (by decide) (by decide) (fun _ => ?_) (fun c => absurd c (by decide))
      refine ev_iconst dX9_arc_32 ?_
      refine ev_ireturn dX9_arc_33 ?_
      exact ⟨_, rfl, by simp only [sp_arc, sp_add]; (repeat' split) <;> first | rfl | omega, A, S, hC, rfl, by simp only [nx_arc, nx_add]; (repeat' split) <;> first | exact eqx.rf | omega, hJ⟩
  · refine ev_astoreN (L' := [(7, .null), (0, .ref (A 0 0)), (1, vI (a1)), (2, vI (a2)), (3, vI (a3)), (4, vI (a4)), (5, vI (a5)), (6, vI (a6))]) dX9_arc_5 (by decide) rfl ?_
    refine ev_aloadN 0 rfl dX9_arc_7 ?_
    refine ev_ifnullN (tgt := 32) dX9_arc_9 (by decide) ?_
    refine ev_iconst dX9_arc_32 ?_
    refine ev_ireturn dX9_arc_33 ?_
    exact ⟨_, rfl, by simp only [sp_arc, sp_add]; (repeat' split) <;> first | rfl | omega, A, S, hC, rfl, by simp only [nx_arc, nx_add]; (repeat' split) <;> first | exact eqx.rf | omega, hJ⟩

set_option maxHeartbeats 4000000 in
set_option maxRecDepth 100000 in
theorem k_ray {E : EV} {h : AH} {A : AD} {S : MS} {a1 a2 a3 a4 a5 a6 a7 : Int} (hC : CR E A S h) (hI : Inv S) (hJ : CJ S) (g1 : InR a1) (g2 : InR a2) (g3 : InR a3) (g4 : InR a4) (g5 : InR a5) (g6 : InR a6) (g7 : InR a7) : CM E yX9_ray cX9_ray 9 (some .int) 5 1 9 [.ref (A 0 0), vI (a1), vI (a2), vI (a3), vI (a4), vI (a5), vI (a6), vI (a7)] h (qI (fun z h' => z = sp_ray S a1 a2 a3 a4 a5 a6 a7 ∧ ∃ A' S', CR E A' S' h' ∧ A' 0 0 = A 0 0 ∧ eqx [69, 70] (nx_ray S a1 a2 a3 a4 a5 a6 a7) S' ∧ CJ S')) := by
  have hR := hC.2.2
  have hJ := hI
  obtain ⟨i1, i2, i3, i4, i5, i6, iSt, iSi, iWa, iSh, iLa, iS0, iS1, iZe⟩ := hJ
  refine CM.of (by decide) (Nat.le_of_ble_eq_true rfl) (L := [(0, .ref (A 0 0)), (1, vI (a1)), (2, vI (a2)), (3, vI (a3)), (4, vI (a4)), (5, vI (a5)), (6, vI (a6)), (7, vI (a7))]) rfl ?_
  refine ev_aload_n 0 rfl dX9_ray_0 ?_
  refine ev_iload_n 1 rfl dX9_ray_1 ?_
  refine c_X9_77 (k_stationAt (a := a1) hC hI (by first | assumption | exact hR _ _ | decide | (simp only [InR]; omega))) hC.k0 rfl rfl (Nat.le_of_ble_eq_true rfl) (by decide) dX9_ray_2 (kN (fun b2 => ?_) (fun b2 => ?_))
  · refine ev_astore (L' := [(8, .ref (A 20 a1)), (0, .ref (A 0 0)), (1, vI (a1)), (2, vI (a2)), (3, vI (a3)), (4, vI (a4)), (5, vI (a5)), (6, vI (a6)), (7, vI (a7))]) dX9_ray_5 (by decide) rfl ?_
    refine ev_aload 0 rfl dX9_ray_7 ?_
    refine ev_ifnull dX9_ray_9 ?_
    refine ev_iload_n 3 rfl dX9_ray_12 ?_
    refine ev_iload_n 4 rfl dX9_ray_13 ?_
    refine ev_iload 5 rfl dX9_ray_14 ?_
    refine ev_iload 6 rfl dX9_ray_16 ?_
    refine c_X9_87 (k_isInSky E (by first | assumption | exact hR _ _ | decide | (simp only [InR]; omega)) (by first | assumption | exact hR _ _ | decide | (simp only [InR]; omega)) (by first | assumption | exact hR _ _ | decide | (simp only [InR]; omega)) (by first | assumption | exact hR _ _ | decide | (simp only [InR]; omega))) rfl rfl (Nat.le_of_ble_eq_true rfl) (by decide) dX9_ray_18 (kB (fun b18 => ?_) (fun b18 => ?_))
    · refine ev_if_eq (tgt := 44) dX9_ray_21 (by decide) (by decide) (fun c => absurd c (by decide)) (fun _ => ?_)
      refine ev_iload 7 rfl dX9_ray_24 ?_
      refine c_X9_101 (k_isColour E (n := a6) (by first | assumption | exact hR _ _ | decide | (simp only [InR]; omega))) rfl rfl (Nat.le_of_ble_eq_true rfl) (by decide) dX9_ray_26 (kB (fun b26 => ?_) (fun b26 => ?_))
      · refine ev_if_eq (tgt := 44) dX9_ray_29 (by decide) (by decide) (fun c => absurd c (by decide)) (fun _ => ?_)
        refine ev_iload 8 rfl dX9_ray_32 ?_
        refine ev_bipush dX9_ray_34 (by decide) ?_
        refine ev_bipush dX9_ray_36 (by decide) ?_
        refine c_X9_67 (k_isWithin E (v := a7) (a := -45) (b := 45) (by first | assumption | exact hR _ _ | decide | (simp only [InR]; omega)) (by decide) (by decide)) rfl rfl (Nat.le_of_ble_eq_true rfl) (by decide) dX9_ray_38 (kB (fun b38 => ?_) (fun b38 => ?_))
        · refine ev_if_ne (tgt := 46) dX9_ray_41 (by decide) (by decide) (fun _ => ?_) (fun c => absurd c (by decide))
          refine ev_aload_n 1 rfl dX9_ray_46 ?_
          refine cg_X9_91 hC dX9_ray_47 ?_
          refine ev_bipush dX9_ray_50 (by decide) ?_
          refine ev_icmp_lt (tgt := 58) dX9_ray_52 (by first | assumption | exact hR _ _ | decide | (simp only [InR]; omega)) (by decide) (by decide) (fun c52 => ?_) (fun c52 => ?_)
          · refine ev_aload_n 1 rfl dX9_ray_58 ?_
            refine cn_X9_110 dX9_ray_59 (fun q hq0 => ?_)
            have ho := hC.frs hq0
            have hCq := hC.off (e := ob 4 [vI 0, vI 0, vI 0, .null, vI 0, vI 0, vI 0, vI 0, vI 0]) ho
            refine ev_dup dX9_ray_62 rfl ?_
            refine ev_aload 0 rfl dX9_ray_63 ?_
            refine ev_iload_n 3 rfl dX9_ray_65 ?_
            refine ev_iload_n 4 rfl dX9_ray_66 ?_
            refine ev_iload 5 rfl dX9_ray_67 ?_
            refine ev_iload 6 rfl dX9_ray_69 ?_
            refine ev_iload 7 rfl dX9_ray_71 ?_
            refine ev_iload 8 rfl dX9_ray_73 ?_
            refine c_X9_112 (k_init4 (by omega) ah_at) rfl rfl (Nat.le_of_ble_eq_true rfl) (by decide) dX9_ray_75 (kV (fun h1 e1 => ?_))
            rw [ah_uu] at e1
            have hq1 : h1 q = some (ob 4 [vI (a6), vI (sinZ (a4)), vI (cosZ (a4)), .ref (A 20 a1), vI (a2), vI (a3), vI (a4), vI (a5), vI (a7)]) := by rw [e1]; exact ah_at
            have hC1 : CR E A S h1 := by rw [e1]; exact hC.off ho
            refine c_X9_97 (k_keep (kd := 2) (a1 := a1) (a2 := a2) (a3 := a3) (a4 := a4) (a5 := a5) (c := a6) (l := a7) hC1 hI hJ ho (by decide) hq1 (by omega) (by omega) (by omega) (by omega)) hC1.k0 rfl rfl (Nat.le_of_ble_eq_true rfl) (by decide) dX9_ray_78 (kI (fun z1 h2 hqz1 => ?_))
            obtain ⟨hz, A', S', hC', e0, _, hx', hJ'⟩ := hqz1
            refine ev_ireturn dX9_ray_81 ?_
            refine ⟨_, rfl, ?_, A', S', hC', e0, ?_, hJ'⟩
            · simp only [sp_ray, sp_add]; rw [if_pos (by omega), if_neg (by omega)]; exact hz
            · simp only [nx_ray, nx_add]; rw [if_pos (by omega), if_pos (by omega)]; exact hx'
          · refine ev_bipush dX9_ray_55 (by decide) ?_
            refine ev_ireturn dX9_ray_57 ?_
            exact ⟨_, rfl, by simp only [sp_ray, sp_add]; (repeat' split) <;> first | rfl | omega, A, S, hC, rfl, by simp only [nx_ray, nx_add]; (repeat' split) <;> first | exact eqx.rf | omega, hJ⟩
        · refine ev_if_ne (tgt := 46) dX9_ray_41 (by decide) (by decide) (fun c => absurd c (by decide)) (fun _ => ?_)
          refine ev_iconst dX9_ray_44 ?_
          refine ev_ireturn dX9_ray_45 ?_
          exact ⟨_, rfl, by simp only [sp_ray, sp_add]; (repeat' split) <;> first | rfl | omega, A, S, hC, rfl, by simp only [nx_ray, nx_add]; (repeat' split) <;> first | exact eqx.rf | omega, hJ⟩
      · refine ev_if_eq (tgt := 44) dX9_ray_29 (by decide) (by decide) (fun _ => ?_) (fun c => absurd c (by decide))
        refine ev_iconst dX9_ray_44 ?_
        refine ev_ireturn dX9_ray_45 ?_
        exact ⟨_, rfl, by simp only [sp_ray, sp_add]; (repeat' split) <;> first | rfl | omega, A, S, hC, rfl, by simp only [nx_ray, nx_add]; (repeat' split) <;> first | exact eqx.rf | omega, hJ⟩
    · refine ev_if_eq (tgt := 44) dX9_ray_21 (by decide) (by decide) (fun _ => ?_) (fun c => absurd c (by decide))
      refine ev_iconst dX9_ray_44 ?_
      refine ev_ireturn dX9_ray_45 ?_
      exact ⟨_, rfl, by simp only [sp_ray, sp_add]; (repeat' split) <;> first | rfl | omega, A, S, hC, rfl, by simp only [nx_ray, nx_add]; (repeat' split) <;> first | exact eqx.rf | omega, hJ⟩
  · refine ev_astoreN (L' := [(8, .null), (0, .ref (A 0 0)), (1, vI (a1)), (2, vI (a2)), (3, vI (a3)), (4, vI (a4)), (5, vI (a5)), (6, vI (a6)), (7, vI (a7))]) dX9_ray_5 (by decide) rfl ?_
    refine ev_aloadN 0 rfl dX9_ray_7 ?_
    refine ev_ifnullN (tgt := 44) dX9_ray_9 (by decide) ?_
    refine ev_iconst dX9_ray_44 ?_
    refine ev_ireturn dX9_ray_45 ?_
    exact ⟨_, rfl, by simp only [sp_ray, sp_add]; (repeat' split) <;> first | rfl | omega, A, S, hC, rfl, by simp only [nx_ray, nx_add]; (repeat' split) <;> first | exact eqx.rf | omega, hJ⟩

set_option maxHeartbeats 4000000 in
set_option maxRecDepth 100000 in
theorem k_watch {E : EV} {h : AH} {A : AD} {S : MS} {a n hrs cl mo : Int} (hC : CR E A S h) (hI : Inv S) (hJ : CJ S) (g1 : InR a) (g2 : InR n) (g3 : InR hrs) (g4 : InR cl) (g5 : InR mo) : CM E yX9_watch cX9_watch 8 (some .int) 2 1 4 [.ref (A 0 0), vI (a), vI (n), vI (hrs), vI (cl), vI (mo)] h (qI (fun z h' => z = sp_watch S a n hrs cl mo ∧ ∃ A' S', CR E A' S' h' ∧ A' 0 0 = A 0 0 ∧ eqx [69, 70] (nx_watch S a n hrs cl mo) S' ∧ CJ S')) := by
  have hR := hC.2.2
  have hJ := hI
  obtain ⟨i1, i2, i3, i4, i5, i6, iSt, iSi, iWa, iSh, iLa, iS0, iS1, iZe⟩ := hJ
  have wz := scanI_b (WaB S a n) 0 i3.1
  change watchZ S a n = -1 ∨ (0 ≤ watchZ S a n ∧ watchZ S a n < S 34 0 ∧ _) at wz
  refine CM.of (by decide) (Nat.le_of_ble_eq_true rfl) (L := [(0, .ref (A 0 0)), (1, vI (a)), (2, vI (n)), (3, vI (hrs)), (4, vI (cl)), (5, vI (mo))]) rfl ?_
  refine ev_aload_n 0 rfl dX9_watch_0 ?_
  refine ev_iload_n 1 rfl dX9_watch_1 ?_
  refine c_X9_77 (k_stationAt (a := a) hC hI (by first | assumption | exact hR _ _ | decide | (simp only [InR]; omega))) hC.k0 rfl rfl (Nat.le_of_ble_eq_true rfl) (by decide) dX9_watch_2 (kN (fun b2 => ?_) (fun b2 => ?_))
  · refine ev_astore (L' := [(6, .ref (A 20 a)), (0, .ref (A 0 0)), (1, vI (a)), (2, vI (n)), (3, vI (hrs)), (4, vI (cl)), (5, vI (mo))]) dX9_watch_5 (by decide) rfl ?_
    refine ev_aload 0 rfl dX9_watch_7 ?_
    refine ev_ifnull dX9_watch_9 ?_
    refine ev_iload_n 3 rfl dX9_watch_12 ?_
    refine c_X9_178 (k_isNight E (n := n) (by first | assumption | exact hR _ _ | decide | (simp only [InR]; omega))) rfl rfl (Nat.le_of_ble_eq_true rfl) (by decide) dX9_watch_13 (kB (fun b13 => ?_) (fun b13 => ?_))
    · refine ev_if_eq (tgt := 52) dX9_watch_16 (by decide) (by decide) (fun c => absurd c (by decide)) (fun _ => ?_)
      refine ev_iload_n 4 rfl dX9_watch_19 ?_
      refine ev_iconst dX9_watch_20 ?_
      refine ev_bipush dX9_watch_21 (by decide) ?_
      refine c_X9_67 (k_isWithin E (v := hrs) (a := 0) (b := 24) (by first | assumption | exact hR _ _ | decide | (simp only [InR]; omega)) (by decide) (by decide)) rfl rfl (Nat.le_of_ble_eq_true rfl) (by decide) dX9_watch_23 (kB (fun b23 => ?_) (fun b23 => ?_))
      · refine ev_if_eq (tgt := 52) dX9_watch_26 (by decide) (by decide) (fun c => absurd c (by decide)) (fun _ => ?_)
        refine ev_iload 5 rfl dX9_watch_29 ?_
        refine ev_iconst dX9_watch_31 ?_
        refine ev_iload_n 4 rfl dX9_watch_32 ?_
        refine c_X9_67 (k_isWithin E (v := cl) (a := 0) (b := hrs) (by first | assumption | exact hR _ _ | decide | (simp only [InR]; omega)) (by decide) (by first | assumption | exact hR _ _ | decide | (simp only [InR]; omega))) rfl rfl (Nat.le_of_ble_eq_true rfl) (by decide) dX9_watch_33 (kB (fun b33 => ?_) (fun b33 => ?_))
        · refine ev_if_eq (tgt := 52) dX9_watch_36 (by decide) (by decide) (fun c => absurd c (by decide)) (fun _ => ?_)
          refine ev_iload 6 rfl dX9_watch_39 ?_
          refine ev_iconst dX9_watch_41 ?_
          refine ev_iload_n 4 rfl dX9_watch_42 ?_
          refine ev_iload 5 rfl dX9_watch_43 ?_
          refine ev_isub dX9_watch_45 ?_
          refine c_X9_67 (k_isWithin E (v := mo) (a := 0) (b := hrs - cl) (by first | assumption | exact hR _ _ | decide | (simp only [InR]; omega)) (by decide) (by first | assumption | exact hR _ _ | decide | (simp only [InR]; omega))) rfl rfl (Nat.le_of_ble_eq_true rfl) (by decide) dX9_watch_46 (kB (fun b46 => ?_) (fun b46 => ?_))
          · refine ev_if_ne (tgt := 54) dX9_watch_49 (by decide) (by decide) (fun _ => ?_) (fun c => absurd c (by decide))
            refine ev_aload_n 1 rfl dX9_watch_54 ?_
            refine ev_aload 0 rfl dX9_watch_55 ?_
            refine ev_iload_n 3 rfl dX9_watch_57 ?_
            refine c_X9_215 (k_watchOf (a := a) (n := n) hC hI (by omega) (by first | assumption | exact hR _ _ | decide | (simp only [InR]; omega))) hC.k0 rfl rfl (Nat.le_of_ble_eq_true rfl) (by decide) dX9_watch_58 (kN (fun b58 => ?_) (fun b58 => ?_))
            · refine ev_ifnull dX9_watch_61 ?_
              refine ev_bipush dX9_watch_64 (by decide) ?_
              refine ev_ireturn dX9_watch_66 ?_
              exact ⟨_, rfl, by simp only [sp_watch]; (repeat' split) <;> first | rfl | omega, A, S, hC, rfl, by simp only [nx_watch]; rw [if_neg (by omega)]; exact eqx.rf, hJ⟩
            · refine ev_ifnullN (tgt := 67) dX9_watch_61 (by decide) ?_
              refine ev_aload_n 1 rfl dX9_watch_67 ?_
              refine cg_X9_219 hC dX9_watch_68 ?_
              refine ev_bipush dX9_watch_71 (by decide) ?_
              refine ev_icmp_lt (tgt := 79) dX9_watch_73 (by first | assumption | exact hR _ _ | decide | (simp only [InR]; omega)) (by decide) (by decide) (fun c73 => ?_) (fun c73 => ?_)
              · refine ev_iload_n 4 rfl dX9_watch_79 ?_
                refine ev_iload 5 rfl dX9_watch_80 ?_
                refine ev_isub dX9_watch_82 ?_
                refine ev_istore (L' := [(7, vI (hrs - cl)), (6, .ref (A 20 a)), (0, .ref (A 0 0)), (1, vI (a)), (2, vI (n)), (3, vI (hrs)), (4, vI (cl)), (5, vI (mo))]) dX9_watch_83 (by decide) rfl ?_
                refine ev_aload_n 2 rfl dX9_watch_85 ?_
                refine cg_X9_23 hC dX9_watch_86 ?_
                refine ev_aload_n 2 rfl dX9_watch_89 ?_
                refine cg_X9_219 hC dX9_watch_90 ?_
                refine cn_X9_21 dX9_watch_93 (fun q hq0 => ?_)
                have ho := hC.frs hq0
                have hCq := hC.off (e := ob 8 [.null, vI 0, vI 0, vI 0]) ho
                refine ev_dup dX9_watch_96 rfl ?_
                refine ev_aload 1 rfl dX9_watch_97 ?_
                refine ev_iload_n 4 rfl dX9_watch_99 ?_
                refine ev_iload 0 rfl dX9_watch_100 ?_
                refine ev_iload 0 rfl dX9_watch_102 ?_
                refine ev_iload 7 rfl dX9_watch_104 ?_
                refine ev_isub dX9_watch_106 ?_
                refine c_X9_222 (k_init8 ah_at) rfl rfl (Nat.le_of_ble_eq_true rfl) (by decide) dX9_watch_107 (kV (fun h1 e1 => ?_))
                rw [ah_uu] at e1
                have hq1 : h1 q = some (ob 8 [.ref (A 20 a), vI (n), vI (hrs - cl), vI ((hrs - cl) - mo)]) := by rw [e1]; exact ah_at
                have hC1 : CR E A S h1 := by rw [e1]; exact hC.off ho
                have q01 : A 0 0 ≠ A 3 0 := fun e => absurd (hC1.2.1 _ _ _ _ (dom_0 (by decide)) (dom_0 (by decide)) e).1 (by decide)
                refine ev_aastore (ci := 8) (r := (RX8, TX8, 4)) (f := fun j => if j < S 34 0 then some (A 22 j) else none) rfl rfl dX9_watch_110 hC1.k3 hq1 (by decide) (by omega) (by omega) ?_
                refine ev_aload_n 2 rfl dX9_watch_111 ?_
                refine ev_dup dX9_watch_112 rfl ?_
                refine g_X9_219_9 dX9_watch_113 ((ah_ne q01).trans hC1.k0) rfl ?_
                refine ev_iconst dX9_watch_116 ?_
                refine ev_iadd dX9_watch_117 ?_
                refine p_X9_219_9 dX9_watch_118 ((ah_ne q01).trans hC1.k0) (Nat.le_of_ble_eq_true rfl) ?_
                have hC3 := hC1.addWa (a := a) (n := n) (cl := hrs - cl) (dk := hrs - cl - mo) hI ho hq1 (upS_in (upS_in (upS_in (upS_in (upS_in hC1.2.2 (by simp only [InR]; omega)) (by simp only [InR]; omega)) (by simp only [InR]; omega)) (by simp only [InR]; omega)) (by simp only [InR]; omega))
                refine ev_iload 0 rfl dX9_watch_121 ?_
                refine ev_ireturn dX9_watch_123 ?_
                refine ⟨_, rfl, ?_, _, _, hC3, upA_k (by decide), ?_, hJ.x (l := [34, 35, 36, 37, 38]) (((((eqx.rf.up (by decide)).up (by decide)).up (by decide)).up (by decide)).up (by decide)) (by decide) (by decide) (by decide) (by decide) (by decide)⟩
                · simp only [sp_watch]; (repeat' split) <;> first | rfl | omega
                · simp only [nx_watch]; rw [if_pos (by omega)]; exact eqx.rf
              · refine ev_bipush dX9_watch_76 (by decide) ?_
                refine ev_ireturn dX9_watch_78 ?_
                exact ⟨_, rfl, by simp only [sp_watch]; (repeat' split) <;> first | rfl | omega, A, S, hC, rfl, by simp only [nx_watch]; rw [if_neg (by omega)]; exact eqx.rf, hJ⟩
          · refine ev_if_ne (tgt := 54) dX9_watch_49 (by decide) (by decide) (fun c => absurd c (by decide)) (fun _ => ?_)
            refine ev_iconst dX9_watch_52 ?_
            refine ev_ireturn dX9_watch_53 ?_
            exact ⟨_, rfl, by simp only [sp_watch]; (repeat' split) <;> first | rfl | omega, A, S, hC, rfl, by simp only [nx_watch]; rw [if_neg (by omega)]; exact eqx.rf, hJ⟩
        · refine ev_if_eq (tgt := 52) dX9_watch_36 (by decide) (by decide) (fun _ => ?_) (fun c => absurd c (by decide))
          refine ev_iconst dX9_watch_52 ?_
          refine ev_ireturn dX9_watch_53 ?_
          exact ⟨_, rfl, by simp only [sp_watch]; (repeat' split) <;> first | rfl | omega, A, S, hC, rfl, by simp only [nx_watch]; rw [if_neg (by omega)]; exact eqx.rf, hJ⟩
      · refine ev_if_eq (tgt := 52) dX9_watch_26 (by decide) (by decide) (fun _ => ?_) (fun c => absurd c (by decide))
        refine ev_iconst dX9_watch_52 ?_
        refine ev_ireturn dX9_watch_53 ?_
        exact ⟨_, rfl, by simp only [sp_watch]; (repeat' split) <;> first | rfl | omega, A, S, hC, rfl, by simp only [nx_watch]; rw [if_neg (by omega)]; exact eqx.rf, hJ⟩
    · refine ev_if_eq (tgt := 52) dX9_watch_16 (by decide) (by decide) (fun _ => ?_) (fun c => absurd c (by decide))
      refine ev_iconst dX9_watch_52 ?_
      refine ev_ireturn dX9_watch_53 ?_
      exact ⟨_, rfl, by simp only [sp_watch]; (repeat' split) <;> first | rfl | omega, A, S, hC, rfl, by simp only [nx_watch]; rw [if_neg (by omega)]; exact eqx.rf, hJ⟩
  · refine ev_astoreN (L' := [(6, .null), (0, .ref (A 0 0)), (1, vI (a)), (2, vI (n)), (3, vI (hrs)), (4, vI (cl)), (5, vI (mo))]) dX9_watch_5 (by decide) rfl ?_
    refine ev_aloadN 0 rfl dX9_watch_7 ?_
    refine ev_ifnullN (tgt := 52) dX9_watch_9 (by decide) ?_
    refine ev_iconst dX9_watch_52 ?_
    refine ev_ireturn dX9_watch_53 ?_
    exact ⟨_, rfl, by simp only [sp_watch]; (repeat' split) <;> first | rfl | omega, A, S, hC, rfl, by simp only [nx_watch]; rw [if_neg (by omega)]; exact eqx.rf, hJ⟩

set_option maxHeartbeats 4000000 in
set_option maxRecDepth 100000 in
theorem k_sheet {E : EV} {h : AH} {A : AD} {S : MS} {s l n : Int} (hC : CR E A S h) (hI : Inv S) (hJ : CJ S) (g1 : InR s) (g2 : InR l) (g3 : InR n) : CM E yX9_sheet cX9_sheet 4 (some .int) 2 2 38 [.ref (A 0 0), vI (s), vI (l), vI (n)] h (qI (fun z h' => z = sp_sheet s l n ∧ ∃ A' S', CR E A' S' h' ∧ A' 0 0 = A 0 0 ∧ eqx [69, 70] (nx_sheet S s l n) S' ∧ CJ S')) := by
  have hR := hC.2.2
  have hJ := hI
  obtain ⟨i1, i2, i3, i4, i5, i6, iSt, iSi, iWa, iSh, iLa, iS0, iS1, iZe⟩ := hJ
  refine CM.of (by decide) (Nat.le_of_ble_eq_true rfl) (L := [(0, .ref (A 0 0)), (1, vI (s)), (2, vI (l)), (3, vI (n))]) rfl ?_
  refine ev_iload_n 1 rfl dX9_sheet_0 ?_
  refine c_X9_258 (k_isSheet E (n := s) (by first | assumption | exact hR _ _ | decide | (simp only [InR]; omega))) rfl rfl (Nat.le_of_ble_eq_true rfl) (by decide) dX9_sheet_1 (kB (fun b1 => ?_) (fun b1 => ?_))
  · refine ev_if_eq (tgt := 20) dX9_sheet_4 (by decide) (by decide) (fun c => absurd c (by decide)) (fun _ => ?_)
    refine ev_iload_n 2 rfl dX9_sheet_7 ?_
    refine c_X9_261 (k_isLane E (n := l) (by first | assumption | exact hR _ _ | decide | (simp only [InR]; omega))) rfl rfl (Nat.le_of_ble_eq_true rfl) (by decide) dX9_sheet_8 (kB (fun b8 => ?_) (fun b8 => ?_))
    · refine ev_if_eq (tgt := 20) dX9_sheet_11 (by decide) (by decide) (fun c => absurd c (by decide)) (fun _ => ?_)
      refine ev_iload_n 3 rfl dX9_sheet_14 ?_
      refine ev_bipush dX9_sheet_15 (by decide) ?_
      refine ev_icmp_le (tgt := 22) dX9_sheet_17 (by first | assumption | exact hR _ _ | decide | (simp only [InR]; omega)) (by decide) (by decide) (fun c17 => ?_) (fun c17 => ?_)
      · refine ev_iload_n 3 rfl dX9_sheet_22 ?_
        refine ev_if_ge (tgt := 29) dX9_sheet_23 (by first | assumption | exact hR _ _ | decide | (simp only [InR]; omega)) (by decide) (fun c23 => ?_) (fun c23 => ?_)
        · refine ev_aload_n 0 rfl dX9_sheet_29 ?_
          refine cg_X9_42 hC dX9_sheet_30 ?_
          refine ev_iload_n 1 rfl dX9_sheet_33 ?_
          refine cn_X9_40 dX9_sheet_34 (fun q hq0 => ?_)
          have ho := hC.frs hq0
          have hCq := hC.off (e := ob 5 [vI 0, .null]) ho
          refine ev_dup dX9_sheet_37 rfl ?_
          refine ev_iload_n 2 rfl dX9_sheet_38 ?_
          refine ev_iload_n 3 rfl dX9_sheet_39 ?_
          refine c_X9_264 (k_init5 (l := l) (n := n) (by omega) ah_at) rfl rfl (Nat.le_of_ble_eq_true rfl) (by decide) dX9_sheet_40 (kV (fun h1 e1 => ?_))
          obtain ⟨q2, f1, f2, f3, f4, f5⟩ := e1
          have ho2 := hCq.frs f1
          have hC1 : CR E A S h1 := ⟨fun k i hd => (f5 _ (ho k i hd) (ho2 k i hd)).trans (hCq.1 k i hd), hC.2.1, hC.2.2⟩
          refine ev_aastore (ci := 5) (r := (RX5, TX5, 2)) (f := fun j => if 0 ≤ S 43 j then some (A 23 j) else none) rfl rfl dX9_sheet_43 hC1.k8 f3 (by decide) (by omega) (by omega) ?_
          have hC3 := hC1.addRow (s := s) (l := l) (n := n) (by omega) (by omega) (by omega) ho ho2 (fun e => f2 e.symm) f3 f4
          refine ev_iload_n 3 rfl dX9_sheet_44 ?_
          refine ev_ireturn dX9_sheet_45 ?_
          refine ⟨_, rfl, ?_, _, _, hC3, (upA_k (by decide)).trans (upA_k (by decide)), ?_, hJ.x (l := [43, 44, 45]) (fun k hk => shS_ne hk) (by decide) (by decide) (by decide) (by decide) (by decide)⟩
          · simp only [sp_sheet]; (repeat' split) <;> first | rfl | omega
          · simp only [nx_sheet]; rw [if_pos (by omega)]; exact eqx.rf
        · refine ev_bipush dX9_sheet_26 (by decide) ?_
          refine ev_ireturn dX9_sheet_28 ?_
          exact ⟨_, rfl, by simp only [sp_sheet]; (repeat' split) <;> first | rfl | omega, A, S, hC, rfl, by simp only [nx_sheet]; rw [if_neg (by omega)]; exact eqx.rf, hJ⟩
      · refine ev_iconst dX9_sheet_20 ?_
        refine ev_ireturn dX9_sheet_21 ?_
        exact ⟨_, rfl, by simp only [sp_sheet]; (repeat' split) <;> first | rfl | omega, A, S, hC, rfl, by simp only [nx_sheet]; rw [if_neg (by omega)]; exact eqx.rf, hJ⟩
    · refine ev_if_eq (tgt := 20) dX9_sheet_11 (by decide) (by decide) (fun _ => ?_) (fun c => absurd c (by decide))
      refine ev_iconst dX9_sheet_20 ?_
      refine ev_ireturn dX9_sheet_21 ?_
      exact ⟨_, rfl, by simp only [sp_sheet]; (repeat' split) <;> first | rfl | omega, A, S, hC, rfl, by simp only [nx_sheet]; rw [if_neg (by omega)]; exact eqx.rf, hJ⟩
  · refine ev_if_eq (tgt := 20) dX9_sheet_4 (by decide) (by decide) (fun _ => ?_) (fun c => absurd c (by decide))
    refine ev_iconst dX9_sheet_20 ?_
    refine ev_ireturn dX9_sheet_21 ?_
    exact ⟨_, rfl, by simp only [sp_sheet]; (repeat' split) <;> first | rfl | omega, A, S, hC, rfl, by simp only [nx_sheet]; rw [if_neg (by omega)]; exact eqx.rf, hJ⟩

set_option maxHeartbeats 4000000 in
set_option maxRecDepth 100000 in
theorem k_drop {E : EV} {h : AH} {A : AD} {S : MS} {s : Int} (hC : CR E A S h) (hI : Inv S) (hJ : CJ S) (g1 : InR s) : CM E yX9_drop cX9_drop 3 (some .int) 2 0 0 [.ref (A 0 0), vI (s)] h (qI (fun z h' => z = sp_drop S s ∧ ∃ A' S', CR E A' S' h' ∧ A' 0 0 = A 0 0 ∧ eqx [69, 70] (nx_drop S s) S' ∧ CJ S')) := by
  have hR := hC.2.2
  have hJ := hI
  obtain ⟨i1, i2, i3, i4, i5, i6, iSt, iSi, iWa, iSh, iLa, iS0, iS1, iZe⟩ := hJ
  refine CM.of (by decide) (Nat.le_of_ble_eq_true rfl) (L := [(0, .ref (A 0 0)), (1, vI (s))]) rfl ?_
  refine ev_iload_n 1 rfl dX9_drop_0 ?_
  refine c_X9_258 (k_isSheet E (n := s) (by first | assumption | exact hR _ _ | decide | (simp only [InR]; omega))) rfl rfl (Nat.le_of_ble_eq_true rfl) (by decide) dX9_drop_1 (kB (fun b1 => ?_) (fun b1 => ?_))
  · refine ev_if_ne (tgt := 9) dX9_drop_4 (by decide) (by decide) (fun _ => ?_) (fun c => absurd c (by decide))
    refine ev_aload_n 0 rfl dX9_drop_9 ?_
    refine cg_X9_42 hC dX9_drop_10 ?_
    refine ev_iload_n 1 rfl dX9_drop_13 ?_
    refine c_aa8 hC dX9_drop_14 (by omega) (by omega) (fun c14 => ?_) (fun c14 => ?_)
    · refine ev_astore_n (L' := [(2, .ref (A 23 s)), (0, .ref (A 0 0)), (1, vI (s))]) dX9_drop_15 (by decide) rfl ?_
      refine ev_aload_n 0 rfl dX9_drop_16 ?_
      refine ev_ifnonnull (tgt := 23) dX9_drop_17 (by decide) ?_
      refine ev_aload_n 1 rfl dX9_drop_23 ?_
      refine cg_X9_42 hC dX9_drop_24 ?_
      refine ev_iload_n 2 rfl dX9_drop_27 ?_
      refine ev_null dX9_drop_28 ?_
      have l4 := iLa s (by omega) (by omega)
      have n8 : A 23 s ≠ A 8 0 := fun e => absurd (hC.2.1 23 s 8 0 ⟨by omega, by omega⟩ (dom_0 (by decide)) e).1 (by decide)
      have n84 : A 24 s ≠ A 8 0 := fun e => absurd (hC.2.1 24 s 8 0 ⟨by omega, by omega⟩ (dom_0 (by decide)) e).1 (by decide)
      refine ev_aastoreN (f := fun j => if 0 ≤ S 43 j then some (A 23 j) else none) (C := RX5) rfl dX9_drop_29 hC.k8 (by decide) (by omega) (by omega) ?_
      refine ev_aload_n 0 rfl dX9_drop_30 ?_
      refine g_X9_267_5 dX9_drop_31 ((ah_ne n8).trans (hC.k23 ⟨by omega, by omega⟩)) rfl ?_
      refine ev_alen (f := fun z => if 0 ≤ z ∧ z < 36 then S 45 (36 * s + z) else 0) dX9_drop_34 ((ah_ne n84).trans (hC.k24 ⟨by omega, by omega⟩)) ?_
      refine ev_ireturn dX9_drop_35 ?_
      refine ⟨_, rfl, ?_, A, _, hC.drop (s := s), rfl, ?_, hJ.x (l := [43]) (eqx.rf.up (by decide)) (by decide) (by decide) (by decide) (by decide) (by decide)⟩
      · simp only [sp_drop]; rw [if_neg (by omega), if_neg (by omega)]; omega
      · simp only [nx_drop]; rw [if_pos (by omega)]; exact eqx.rf
    · refine ev_astore_nN (L' := [(2, .null), (0, .ref (A 0 0)), (1, vI (s))]) dX9_drop_15 (by decide) rfl ?_
      refine ev_aload_nN 0 rfl dX9_drop_16 ?_
      refine ev_ifnonnullN dX9_drop_17 ?_
      refine ev_bipush dX9_drop_20 (by decide) ?_
      refine ev_ireturn dX9_drop_22 ?_
      exact ⟨_, rfl, by simp only [sp_drop]; (repeat' split) <;> first | rfl | omega, A, S, hC, rfl, by simp only [nx_drop]; rw [if_neg (by omega)]; exact eqx.rf, hJ⟩
  · refine ev_if_ne (tgt := 9) dX9_drop_4 (by decide) (by decide) (fun c => absurd c (by decide)) (fun _ => ?_)
    refine ev_iconst dX9_drop_7 ?_
    refine ev_ireturn dX9_drop_8 ?_
    exact ⟨_, rfl, by simp only [sp_drop]; (repeat' split) <;> first | rfl | omega, A, S, hC, rfl, by simp only [nx_drop]; rw [if_neg (by omega)]; exact eqx.rf, hJ⟩

set_option maxHeartbeats 4000000 in
set_option maxRecDepth 100000 in
theorem k_holds {E : EV} {h : AH} {A : AD} {S : MS} {s f n : Int} (hC : CR E A S h) (hI : Inv S) (gs : (0 ≤ s ∧ s < 4) ∧ 0 ≤ S 43 s) (g1 : InR f) (g2 : 0 ≤ n ∧ n ≤ 36) : CM E yX5_holds cX5_holds 3 (some .boolean) 0 0 0 [.ref (A 23 s), vI (f), vI (n)] h (qB (0 ≤ f ∧ f ≤ S 44 s - n) h) := by
  have hR := hC.2.2
  have hJ := hI
  obtain ⟨i1, i2, i3, i4, i5, i6, iSt, iSi, iWa, iSh, iLa, iS0, iS1, iZe⟩ := hJ
  have l4 := iLa s gs.1.1 gs.1.2
  refine CM.of (by decide) (Nat.le_of_ble_eq_true rfl) (L := [(0, .ref (A 23 s)), (1, vI (f)), (2, vI (n))]) rfl ?_
  refine ev_iload_n 1 rfl dX5_holds_0 ?_
  refine ev_if_lt (tgt := 19) dX5_holds_1 (by first | assumption | exact hR _ _ | decide | (simp only [InR]; omega)) (by decide) (fun c1 => ?_) (fun c1 => ?_)
  · refine ev_iconst dX5_holds_19 ?_
    refine ev_zreturn (by decide) dX5_holds_20 ?_
    first | exact ⟨rfl, Or.inl ⟨rfl, by omega⟩⟩ | exact ⟨rfl, Or.inr ⟨rfl, by omega⟩⟩
  · refine ev_iload_n 1 rfl dX5_holds_4 ?_
    refine ev_aload_n 0 rfl dX5_holds_5 ?_
    refine cg_X5_13 hC (by omega) dX5_holds_6 ?_
    refine c_lenI (i := s) hC (by omega) (by omega) dX5_holds_9 ?_
    refine ev_iload_n 2 rfl dX5_holds_10 ?_
    refine ev_isub dX5_holds_11 ?_
    refine ev_icmp_gt (tgt := 19) dX5_holds_12 (by first | assumption | exact hR _ _ | decide | (simp only [InR]; omega)) (by first | assumption | exact hR _ _ | decide | (simp only [InR]; omega)) (by decide) (fun c12 => ?_) (fun c12 => ?_)
    · refine ev_iconst dX5_holds_19 ?_
      refine ev_zreturn (by decide) dX5_holds_20 ?_
      first | exact ⟨rfl, Or.inl ⟨rfl, by omega⟩⟩ | exact ⟨rfl, Or.inr ⟨rfl, by omega⟩⟩
    · refine ev_iconst dX5_holds_15 ?_
      refine ev_goto (tgt := 20) dX5_holds_16 (by decide) ?_
      refine ev_zreturn (by decide) dX5_holds_20 ?_
      first | exact ⟨rfl, Or.inl ⟨rfl, by omega⟩⟩ | exact ⟨rfl, Or.inr ⟨rfl, by omega⟩⟩

set_option maxHeartbeats 4000000 in
set_option maxRecDepth 100000 in
theorem k_item {E : EV} {h : AH} {A : AD} {S : MS} {s l i v : Int} (hC : CR E A S h) (hI : Inv S) (hJ : CJ S) (g1 : InR s) (g2 : InR l) (g3 : InR i) (g4 : InR v) : CM E yX9_item cX9_item 6 (some .int) 2 0 0 [.ref (A 0 0), vI (s), vI (l), vI (i), vI (v)] h (qI (fun z h' => z = sp_item S s l i ∧ ∃ A' S', CR E A' S' h' ∧ A' 0 0 = A 0 0 ∧ eqx [69, 70] (nx_item S s l i v) S' ∧ CJ S')) := by
  have hR := hC.2.2
  have hJ := hI
  obtain ⟨i1, i2, i3, i4, i5, i6, iSt, iSi, iWa, iSh, iLa, iS0, iS1, iZe⟩ := hJ
  refine CM.of (by decide) (Nat.le_of_ble_eq_true rfl) (L := [(0, .ref (A 0 0)), (1, vI (s)), (2, vI (l)), (3, vI (i)), (4, vI (v))]) rfl ?_
  refine ev_iload_n 1 rfl dX9_item_0 ?_
  refine c_X9_258 (k_isSheet E (n := s) (by first | assumption | exact hR _ _ | decide | (simp only [InR]; omega))) rfl rfl (Nat.le_of_ble_eq_true rfl) (by decide) dX9_item_1 (kB (fun b1 => ?_) (fun b1 => ?_))
  · refine ev_if_eq (tgt := 14) dX9_item_4 (by decide) (by decide) (fun c => absurd c (by decide)) (fun _ => ?_)
    refine ev_iload_n 2 rfl dX9_item_7 ?_
    refine c_X9_261 (k_isLane E (n := l) (by first | assumption | exact hR _ _ | decide | (simp only [InR]; omega))) rfl rfl (Nat.le_of_ble_eq_true rfl) (by decide) dX9_item_8 (kB (fun b8 => ?_) (fun b8 => ?_))
    · refine ev_if_ne (tgt := 16) dX9_item_11 (by decide) (by decide) (fun _ => ?_) (fun c => absurd c (by decide))
      refine ev_aload_n 0 rfl dX9_item_16 ?_
      refine cg_X9_42 hC dX9_item_17 ?_
      refine ev_iload_n 1 rfl dX9_item_20 ?_
      refine c_aa8 hC dX9_item_21 (by omega) (by omega) (fun c21 => ?_) (fun c21 => ?_)
      · refine ev_astore (L' := [(5, .ref (A 23 s)), (0, .ref (A 0 0)), (1, vI (s)), (2, vI (l)), (3, vI (i)), (4, vI (v))]) dX9_item_22 (by decide) rfl ?_
        refine ev_aload 0 rfl dX9_item_24 ?_
        refine ev_ifnonnull (tgt := 32) dX9_item_26 (by decide) ?_
        have l4 := iLa s (by omega) (by omega)
        have hi2 : InR (i2sZ v) := iI_in _
        refine ev_aload 0 rfl dX9_item_32 ?_
        refine cg_X9_270 hC (by omega) dX9_item_34 ?_
        refine ev_iload_n 3 rfl dX9_item_37 ?_
        refine ev_icmp_eq (tgt := 44) dX9_item_38 (by first | assumption | exact hR _ _ | decide | (simp only [InR]; omega)) (by first | assumption | exact hR _ _ | decide | (simp only [InR]; omega)) (by decide) (fun c38 => ?_) (fun c38 => ?_)
        · refine ev_aload 0 rfl dX9_item_44 ?_
          refine ev_iload_n 4 rfl dX9_item_46 ?_
          refine ev_iconst dX9_item_47 ?_
          refine c_X9_273 (k_holds (s := s) (f := i) (n := 1) hC hI (by omega) (by first | assumption | exact hR _ _ | decide | (simp only [InR]; omega)) (by omega)) (hC.k23 (by omega)) rfl rfl (Nat.le_of_ble_eq_true rfl) (by decide) dX9_item_48 (kB (fun b48 => ?_) (fun b48 => ?_))
          · refine ev_if_ne (tgt := 57) dX9_item_51 (by decide) (by decide) (fun _ => ?_) (fun c => absurd c (by decide))
            refine ev_aload 0 rfl dX9_item_57 ?_
            refine cg_X9_267 hC (by omega) dX9_item_59 ?_
            refine ev_iload_n 4 rfl dX9_item_62 ?_
            refine ev_iload_n 3 rfl dX9_item_63 ?_
            refine ev_if_ne (tgt := 73) dX9_item_64 (by first | assumption | exact hR _ _ | decide | (simp only [InR]; omega)) (by decide) (fun c64 => ?_) (fun c64 => ?_)
            · refine ev_iload 5 rfl dX9_item_73 ?_
              refine c_stI (i := s) hC (by omega) dX9_item_75 (by omega) (by omega) (by omega) (by first | assumption | exact hR _ _ | decide | (simp only [InR]; omega)) (fun S1 h2 eS3 hC4 => ?_)
              have hRS1 := hC4.2.2
              refine ev_iconst dX9_item_76 ?_
              refine ev_ireturn dX9_item_77 ?_
              refine ⟨_, rfl, ?_, A, S1, hC4, rfl, ?_, hJ.x (l := [45]) (show eqx [45] S S1 from by rw [eS3]; exact (eqx.rf (l := [45]) (S := S)).up (by decide)) (by decide) (by decide) (by decide) (by decide) (by decide)⟩
              · simp only [sp_item]; (repeat' split) <;> first | rfl | omega
              · simp only [nx_item, itV]; rw [if_pos (by omega)]; first | (rw [if_pos (by omega), eS3]; exact eqx.rf) | (rw [if_neg (by omega), eS3]; exact eqx.rf)
            · refine ev_iload 5 rfl dX9_item_67 ?_
              refine ev_i2s dX9_item_69 ?_
              refine ev_goto (tgt := 75) dX9_item_70 (by decide) ?_
              refine c_stI (i := s) hC (by omega) dX9_item_75 (by omega) (by omega) (by omega) (by first | assumption | exact hR _ _ | decide | (simp only [InR]; omega)) (fun S5 h6 eS7 hC8 => ?_)
              have hRS5 := hC8.2.2
              refine ev_iconst dX9_item_76 ?_
              refine ev_ireturn dX9_item_77 ?_
              refine ⟨_, rfl, ?_, A, S5, hC8, rfl, ?_, hJ.x (l := [45]) (show eqx [45] S S5 from by rw [eS7]; exact (eqx.rf (l := [45]) (S := S)).up (by decide)) (by decide) (by decide) (by decide) (by decide) (by decide)⟩
              · simp only [sp_item]; (repeat' split) <;> first | rfl | omega
              · simp only [nx_item, itV]; rw [if_pos (by omega)]; first | (rw [if_pos (by omega), eS7]; exact eqx.rf) | (rw [if_neg (by omega), eS7]; exact eqx.rf)
          · refine ev_if_ne (tgt := 57) dX9_item_51 (by decide) (by decide) (fun c => absurd c (by decide)) (fun _ => ?_)
            refine ev_bipush dX9_item_54 (by decide) ?_
            refine ev_ireturn dX9_item_56 ?_
            exact ⟨_, rfl, by simp only [sp_item]; (repeat' split) <;> first | rfl | omega, A, S, hC, rfl, by simp only [nx_item]; rw [if_neg (by omega)]; exact eqx.rf, hJ⟩
        · refine ev_bipush dX9_item_41 (by decide) ?_
          refine ev_ireturn dX9_item_43 ?_
          exact ⟨_, rfl, by simp only [sp_item]; (repeat' split) <;> first | rfl | omega, A, S, hC, rfl, by simp only [nx_item]; rw [if_neg (by omega)]; exact eqx.rf, hJ⟩
      · refine ev_astoreN (L' := [(5, .null), (0, .ref (A 0 0)), (1, vI (s)), (2, vI (l)), (3, vI (i)), (4, vI (v))]) dX9_item_22 (by decide) rfl ?_
        refine ev_aloadN 0 rfl dX9_item_24 ?_
        refine ev_ifnonnullN dX9_item_26 ?_
        refine ev_bipush dX9_item_29 (by decide) ?_
        refine ev_ireturn dX9_item_31 ?_
        exact ⟨_, rfl, by simp only [sp_item]; (repeat' split) <;> first | rfl | omega, A, S, hC, rfl, by simp only [nx_item]; rw [if_neg (by omega)]; exact eqx.rf, hJ⟩
    · refine ev_if_ne (tgt := 16) dX9_item_11 (by decide) (by decide) (fun c => absurd c (by decide)) (fun _ => ?_)
      refine ev_iconst dX9_item_14 ?_
      refine ev_ireturn dX9_item_15 ?_
      exact ⟨_, rfl, by simp only [sp_item]; (repeat' split) <;> first | rfl | omega, A, S, hC, rfl, by simp only [nx_item]; rw [if_neg (by omega)]; exact eqx.rf, hJ⟩
  · refine ev_if_eq (tgt := 14) dX9_item_4 (by decide) (by decide) (fun _ => ?_) (fun c => absurd c (by decide))
    refine ev_iconst dX9_item_14 ?_
    refine ev_ireturn dX9_item_15 ?_
    exact ⟨_, rfl, by simp only [sp_item]; (repeat' split) <;> first | rfl | omega, A, S, hC, rfl, by simp only [nx_item]; rw [if_neg (by omega)]; exact eqx.rf, hJ⟩

