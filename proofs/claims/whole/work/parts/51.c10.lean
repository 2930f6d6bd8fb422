/-! a curtain's own numbers -/
/-- all curtains but k are as they were -/
def CuE (S S' : MS) (k : Int) : Prop := ∀ s ∈ [58, 59, 60, 61, 62, 63, 64, 65, 66, 67], ∀ z, z ≠ k → S' s z = S s z
theorem CuE.rf {S : MS} {k : Int} : CuE S S k := fun _ _ _ _ => rfl
theorem CuE.tr {S S1 S2 : MS} {k : Int} (h1 : CuE S S1 k) (h2 : CuE S1 S2 k) : CuE S S2 k := fun s hs z hz => (h2 s hs z hz).trans (h1 s hs z hz)
theorem CuE.up {S S1 : MS} {k : Int} {s : Nat} {w : Int} (h : CuE S S1 k) : CuE S (upS S1 s k w) k := fun s2 hs z hz => by
  by_cases e : s2 = s
  · subst e
    rw [upS_nz hz]
    exact h s2 hs z hz
  · rw [upS_ne e]
    exact h s2 hs z hz
theorem CuE.x {l : List Nat} {S S1 S2 : MS} {k : Int} (h : CuE S S1 k) (hx : eqx l S1 S2) (hl : ∀ s ∈ [58, 59, 60, 61, 62, 63, 64, 65, 66, 67], s ∉ l) : CuE S S2 k := fun s hs z hz => by
  rw [hx s (hl s hs)]
  exact h s hs z hz

set_option maxHeartbeats 4000000 in
set_option maxRecDepth 100000 in
theorem k_clear {E : EV} {h : AH} {A : AD} {S : MS} {k : Int} (hC : CR E A S h) (gk : 0 ≤ k ∧ k < 10) : CM E yX2_clear cX2_clear 1 none 0 0 0 [.ref (A 19 k)] h (qV (fun h' => ∃ S', CR E A S' h' ∧ eqx [58, 60, 61, 62, 64, 67] S S' ∧ CuE S S' k ∧ S' 58 k = 0 ∧ S' 67 k = 0 ∧ S' 60 k = 0 ∧ S' 61 k = 0 ∧ S' 62 k = 0 ∧ S' 64 k = -4)) := by
  have hR := hC.2.2
  refine CM.of (by decide) (Nat.le_of_ble_eq_true rfl) (L := [(0, .ref (A 19 k))]) rfl ?_
  refine ev_aload_n 0 rfl dX2_clear_0 ?_
  refine ev_iconst dX2_clear_1 ?_
  refine cp_X2_9 hC (by omega) (by decide) dX2_clear_2 (fun S1 h2 eS3 hC4 => ?_)
  have hRS1 := hC4.2.2
  refine ev_aload_n 0 rfl dX2_clear_5 ?_
  refine ev_iconst dX2_clear_6 ?_
  refine cp_X2_15 hC4 (by omega) (by decide) dX2_clear_7 (fun S5 h6 eS7 hC8 => ?_)
  have hRS5 := hC8.2.2
  refine ev_aload_n 0 rfl dX2_clear_10 ?_
  refine ev_iconst dX2_clear_11 ?_
  refine cp_X2_18 hC8 (by omega) (by decide) dX2_clear_12 (fun S9 h10 eS11 hC12 => ?_)
  have hRS9 := hC12.2.2
  refine ev_aload_n 0 rfl dX2_clear_15 ?_
  refine ev_iconst dX2_clear_16 ?_
  refine cp_X2_21 hC12 (by omega) (by decide) dX2_clear_17 (fun S13 h14 eS15 hC16 => ?_)
  have hRS13 := hC16.2.2
  refine ev_aload_n 0 rfl dX2_clear_20 ?_
  refine ev_iconst dX2_clear_21 ?_
  refine cp_X2_24 hC16 (by omega) (by decide) dX2_clear_22 (fun S17 h18 eS19 hC20 => ?_)
  have hRS17 := hC20.2.2
  refine ev_aload_n 0 rfl dX2_clear_25 ?_
  refine ev_bipush dX2_clear_26 (by decide) ?_
  refine cp_X2_27 hC20 (by omega) (by decide) dX2_clear_28 (fun S21 h22 eS23 hC24 => ?_)
  have hRS21 := hC24.2.2
  refine ev_return dX2_clear_31 ?_
  exact ⟨rfl, S21, hC24, (show eqx [58, 60, 61, 62, 64, 67] S S21 from by rw [eS23]; exact (show eqx [58, 60, 61, 62, 64, 67] S S17 from by rw [eS19]; exact (show eqx [58, 60, 61, 62, 64, 67] S S13 from by rw [eS15]; exact (show eqx [58, 60, 61, 62, 64, 67] S S9 from by rw [eS11]; exact (show eqx [58, 60, 61, 62, 64, 67] S S5 from by rw [eS7]; exact (show eqx [58, 60, 61, 62, 64, 67] S S1 from by rw [eS3]; exact (eqx.rf (l := [58, 60, 61, 62, 64, 67]) (S := S)).up (by decide)).up (by decide)).up (by decide)).up (by decide)).up (by decide)).up (by decide)), (show CuE S S21 k from by rw [eS23]; exact CuE.up ((show CuE S S17 k from by rw [eS19]; exact CuE.up ((show CuE S S13 k from by rw [eS15]; exact CuE.up ((show CuE S S9 k from by rw [eS11]; exact CuE.up ((show CuE S S5 k from by rw [eS7]; exact CuE.up ((show CuE S S1 k from by rw [eS3]; exact CuE.up (CuE.rf (S := S) (k := k))))))))))))), by rw [eS23, upS_ne (by decide), eS19, upS_ne (by decide), eS15, upS_ne (by decide), eS11, upS_ne (by decide), eS7, upS_ne (by decide), eS3, upS_at], by rw [eS23, upS_ne (by decide), eS19, upS_ne (by decide), eS15, upS_ne (by decide), eS11, upS_ne (by decide), eS7, upS_at], by rw [eS23, upS_ne (by decide), eS19, upS_ne (by decide), eS15, upS_ne (by decide), eS11, upS_at], by rw [eS23, upS_ne (by decide), eS19, upS_ne (by decide), eS15, upS_at], by rw [eS23, upS_ne (by decide), eS19, upS_at], by rw [eS23, upS_at]⟩

set_option maxHeartbeats 4000000 in
set_option maxRecDepth 100000 in
theorem k_take {E : EV} {h : AH} {A : AD} {S : MS} {k v a : Int} (hC : CR E A S h) (hI : Inv S) (gk : 0 ≤ k ∧ k < 10) (ga : SG S a) (g8 : S 8 a ≠ 0) (gv : InR v) (gs : 0 ≤ S 58 k ∧ S 58 k ≤ 10) : CM E yX2_take cX2_take 4 none 1 0 0 [.ref (A 19 k), vI (v), .ref (A 21 a)] h (qV (fun h' => ∃ S', CR E A S' h' ∧ eqx [58, 63, 65, 66] S S' ∧ CuE S S' k ∧ S' 58 k = S 58 k + 1 ∧ S' 63 k = (if S 58 k = 0 then v else S 63 k) ∧ S' 65 k = (if S 58 k = 0 then frZ S a else max (S 65 k) (frZ S a)) ∧ S' 66 k = (if S 58 k = 0 then laZ S a else min (S 66 k) (laZ S a)))) := by
  have hR := hC.2.2
  have fb := fr_b hI ga
  have r5 : InR (S 65 k) := hR 65 k
  have r6 : InR (S 66 k) := hR 66 k
  unfold InR at r5 r6
  refine CM.of (by decide) (Nat.le_of_ble_eq_true rfl) (L := [(0, .ref (A 19 k)), (1, vI (v)), (2, .ref (A 21 a))]) rfl ?_
  refine ev_aload_n 0 rfl dX2_take_0 ?_
  refine cg_X2_9 hC (by omega) dX2_take_1 ?_
  refine ev_if_ne (tgt := 11) dX2_take_4 (by first | assumption | exact hR _ _ | decide | (simp only [InR]; omega)) (by decide) (fun c4 => ?_) (fun c4 => ?_)
  · refine ev_iconst dX2_take_11 ?_
    refine ev_istore_n (L' := [(3, vI (0)), (0, .ref (A 19 k)), (1, vI (v)), (2, .ref (A 21 a))]) dX2_take_12 (by decide) rfl ?_
    refine ev_aload_n 1 rfl dX2_take_13 ?_
    refine ev_iload_n 0 rfl dX2_take_14 ?_
    refine ev_if_eq (tgt := 22) dX2_take_15 (by decide) (by decide) (fun _ => ?_) (fun c => absurd c (by decide))
    refine ev_aload_n 1 rfl dX2_take_22 ?_
    refine cg_X2_30 hC (by omega) dX2_take_23 ?_
    refine cp_X2_30 hC (by omega) (by first | assumption | exact hR _ _ | decide | (simp only [InR]; omega)) dX2_take_26 (fun S1 h2 eS3 hC4 => ?_)
    have hRS1 := hC4.2.2
    have hxS1 : eqx scc S S1 := by rw [eS3]; exact (eqx.rf (l := scc) (S := S)).up (by decide)
    have hIS1 := Inv.xc hI hxS1
    refine ev_aload_n 1 rfl dX2_take_29 ?_
    refine ev_iload_n 0 rfl dX2_take_30 ?_
    refine ev_if_eq (tgt := 41) dX2_take_31 (by decide) (by decide) (fun _ => ?_) (fun c => absurd c (by decide))
    refine ev_aload_n 1 rfl dX2_take_41 ?_
    refine cgE_X2_39 (v := S 65 k) hC4 (by omega) (by rw [eS3, upS_ne (by decide)]) dX2_take_42 ?_
    refine ev_aload_n 3 rfl dX2_take_45 ?_
    refine cv_X2_33 hC4 hIS1 (by unfold SG; rw [eS3, upS_ne (by decide)]; omega) (by rw [eS3, upS_ne (by decide)]; first | assumption | omega) (k_earliest (a := a) hC4 hIS1 (by unfold SG; rw [eS3, upS_ne (by decide)]; omega)) rfl rfl (Nat.le_of_ble_eq_true rfl) (by decide) dX2_take_46 (kP ?_)
    refine ev_ren (b := frZ S a) (frZ_xc hxS1) ?_
    refine c_X2_42 (j_max E (a := S 65 k) (b := frZ S a) (by first | assumption | exact hR _ _ | exact hRS1 _ _ | decide | (simp only [InR]; omega)) (by first | assumption | exact hR _ _ | exact hRS1 _ _ | decide | (simp only [InR]; omega))) rfl rfl (Nat.le_of_ble_eq_true rfl) (by decide) dX2_take_49 (kP ?_)
    refine cp_X2_39 hC4 (by omega) (by first | assumption | exact hR _ _ | exact hRS1 _ _ | decide | (simp only [InR]; omega)) dX2_take_52 (fun S5 h6 eS7 hC8 => ?_)
    have hRS5 := hC8.2.2
    have hxS5 : eqx scc S S5 := by rw [eS7]; exact (hxS1).up (by decide)
    have hIS5 := Inv.xc hI hxS5
    refine ev_aload_n 1 rfl dX2_take_55 ?_
    refine ev_iload_n 0 rfl dX2_take_56 ?_
    refine ev_if_eq (tgt := 67) dX2_take_57 (by decide) (by decide) (fun _ => ?_) (fun c => absurd c (by decide))
    refine ev_aload_n 1 rfl dX2_take_67 ?_
    refine cgE_X2_51 (v := S 66 k) hC8 (by omega) (by rw [eS7, upS_ne (by decide), eS3, upS_ne (by decide)]) dX2_take_68 ?_
    refine ev_aload_n 3 rfl dX2_take_71 ?_
    refine cv_X2_48 hC8 hIS5 (by unfold SG; rw [eS7, upS_ne (by decide), eS3, upS_ne (by decide)]; omega) (by rw [eS7, upS_ne (by decide), eS3, upS_ne (by decide)]; first | assumption | omega) (k_latest (a := a) hC8 hIS5 (by unfold SG; rw [eS7, upS_ne (by decide), eS3, upS_ne (by decide)]; omega)) rfl rfl (Nat.le_of_ble_eq_true rfl) (by decide) dX2_take_72 (kP ?_)
    refine ev_ren (b := laZ S a) (laZ_xc hxS5) ?_
    refine c_X2_54 (j_min E (a := S 66 k) (b := laZ S a) (by first | assumption | exact hR _ _ | exact hRS1 _ _ | exact hRS5 _ _ | decide | (simp only [InR]; omega)) (by first | assumption | exact hR _ _ | exact hRS1 _ _ | exact hRS5 _ _ | decide | (simp only [InR]; omega))) rfl rfl (Nat.le_of_ble_eq_true rfl) (by decide) dX2_take_75 (kP ?_)
    refine cp_X2_51 hC8 (by omega) (by first | assumption | exact hR _ _ | exact hRS1 _ _ | exact hRS5 _ _ | decide | (simp only [InR]; omega)) dX2_take_78 (fun S9 h10 eS11 hC12 => ?_)
    have hRS9 := hC12.2.2
    have hxS9 : eqx scc S S9 := by rw [eS11]; exact (hxS5).up (by decide)
    have hIS9 := Inv.xc hI hxS9
    refine ev_aload_n 1 rfl dX2_take_81 ?_
    refine ev_dup dX2_take_82 rfl ?_
    refine cgE_X2_9 (v := S 58 k) hC12 (by omega) (by rw [eS11, upS_ne (by decide), eS7, upS_ne (by decide), eS3, upS_ne (by decide)]) dX2_take_83 ?_
    refine ev_iconst dX2_take_86 ?_
    refine ev_iadd dX2_take_87 ?_
    refine cp_X2_9 hC12 (by omega) (by first | assumption | exact hR _ _ | exact hRS1 _ _ | exact hRS5 _ _ | exact hRS9 _ _ | decide | (simp only [InR]; omega)) dX2_take_88 (fun S13 h14 eS15 hC16 => ?_)
    have hRS13 := hC16.2.2
    have hxS13 : eqx scc S S13 := by rw [eS15]; exact (hxS9).up (by decide)
    have hIS13 := Inv.xc hI hxS13
    refine ev_return dX2_take_91 ?_
    exact ⟨rfl, S13, hC16, (show eqx [58, 63, 65, 66] S S13 from by rw [eS15]; exact (show eqx [58, 63, 65, 66] S S9 from by rw [eS11]; exact (show eqx [58, 63, 65, 66] S S5 from by rw [eS7]; exact (show eqx [58, 63, 65, 66] S S1 from by rw [eS3]; exact (eqx.rf (l := [58, 63, 65, 66]) (S := S)).up (by decide)).up (by decide)).up (by decide)).up (by decide)), (show CuE S S13 k from by rw [eS15]; exact CuE.up ((show CuE S S9 k from by rw [eS11]; exact CuE.up ((show CuE S S5 k from by rw [eS7]; exact CuE.up ((show CuE S S1 k from by rw [eS3]; exact CuE.up (CuE.rf (S := S) (k := k))))))))), by rw [eS15, upS_at], by rw [eS15, upS_ne (by decide), eS11, upS_ne (by decide), eS7, upS_ne (by decide), eS3, upS_at, if_neg (by omega)], by rw [eS15, upS_ne (by decide), eS11, upS_ne (by decide), eS7, upS_at, if_neg (by omega)], by rw [eS15, upS_ne (by decide), eS11, upS_at, if_neg (by omega)]⟩
  · refine ev_iconst dX2_take_7 ?_
    refine ev_goto (tgt := 12) dX2_take_8 (by decide) ?_
    refine ev_istore_n (L' := [(3, vI (1)), (0, .ref (A 19 k)), (1, vI (v)), (2, .ref (A 21 a))]) dX2_take_12 (by decide) rfl ?_
    refine ev_aload_n 1 rfl dX2_take_13 ?_
    refine ev_iload_n 0 rfl dX2_take_14 ?_
    refine ev_if_eq (tgt := 22) dX2_take_15 (by decide) (by decide) (fun c => absurd c (by decide)) (fun _ => ?_)
    refine ev_iload_n 2 rfl dX2_take_18 ?_
    refine ev_goto (tgt := 26) dX2_take_19 (by decide) ?_
    refine cp_X2_30 hC (by omega) (by first | assumption | exact hR _ _ | decide | (simp only [InR]; omega)) dX2_take_26 (fun S17 h18 eS19 hC20 => ?_)
    have hRS17 := hC20.2.2
    have hxS17 : eqx scc S S17 := by rw [eS19]; exact (eqx.rf (l := scc) (S := S)).up (by decide)
    have hIS17 := Inv.xc hI hxS17
    refine ev_aload_n 1 rfl dX2_take_29 ?_
    refine ev_iload_n 0 rfl dX2_take_30 ?_
    refine ev_if_eq (tgt := 41) dX2_take_31 (by decide) (by decide) (fun c => absurd c (by decide)) (fun _ => ?_)
    refine ev_aload_n 3 rfl dX2_take_34 ?_
    refine cv_X2_33 hC20 hIS17 (by unfold SG; rw [eS19, upS_ne (by decide)]; omega) (by rw [eS19, upS_ne (by decide)]; first | assumption | omega) (k_earliest (a := a) hC20 hIS17 (by unfold SG; rw [eS19, upS_ne (by decide)]; omega)) rfl rfl (Nat.le_of_ble_eq_true rfl) (by decide) dX2_take_35 (kP ?_)
    refine ev_ren (b := frZ S a) (frZ_xc hxS17) ?_
    refine ev_goto (tgt := 52) dX2_take_38 (by decide) ?_
    refine cp_X2_39 hC20 (by omega) (by first | assumption | exact hR _ _ | exact hRS17 _ _ | decide | (simp only [InR]; omega)) dX2_take_52 (fun S21 h22 eS23 hC24 => ?_)
    have hRS21 := hC24.2.2
    have hxS21 : eqx scc S S21 := by rw [eS23]; exact (hxS17).up (by decide)
    have hIS21 := Inv.xc hI hxS21
    refine ev_aload_n 1 rfl dX2_take_55 ?_
    refine ev_iload_n 0 rfl dX2_take_56 ?_
    refine ev_if_eq (tgt := 67) dX2_take_57 (by decide) (by decide) (fun c => absurd c (by decide)) (fun _ => ?_)
    refine ev_aload_n 3 rfl dX2_take_60 ?_
    refine cv_X2_48 hC24 hIS21 (by unfold SG; rw [eS23, upS_ne (by decide), eS19, upS_ne (by decide)]; omega) (by rw [eS23, upS_ne (by decide), eS19, upS_ne (by decide)]; first | assumption | omega) (k_latest (a := a) hC24 hIS21 (by unfold SG; rw [eS23, upS_ne (by decide), eS19, upS_ne (by decide)]; omega)) rfl rfl (Nat.le_of_ble_eq_true rfl) (by decide) dX2_take_61 (kP ?_)
    refine ev_ren (b := laZ S a) (laZ_xc hxS21) ?_
    refine ev_goto (tgt := 78) dX2_take_64 (by decide) ?_
    refine cp_X2_51 hC24 (by omega) (by first | assumption | exact hR _ _ | exact hRS17 _ _ | exact hRS21 _ _ | decide | (simp only [InR]; omega)) dX2_take_78 (fun S25 h26 eS27 hC28 => ?_)
    have hRS25 := hC28.2.2
    have hxS25 : eqx scc S S25 := by rw [eS27]; exact (hxS21).up (by decide)
    have hIS25 := Inv.xc hI hxS25
    refine ev_aload_n 1 rfl dX2_take_81 ?_
    refine ev_dup dX2_take_82 rfl ?_
    refine cgE_X2_9 (v := S 58 k) hC28 (by omega) (by rw [eS27, upS_ne (by decide), eS23, upS_ne (by decide), eS19, upS_ne (by decide)]) dX2_take_83 ?_
    refine ev_iconst dX2_take_86 ?_
    refine ev_iadd dX2_take_87 ?_
    refine cp_X2_9 hC28 (by omega) (by first | assumption | exact hR _ _ | exact hRS17 _ _ | exact hRS21 _ _ | exact hRS25 _ _ | decide | (simp only [InR]; omega)) dX2_take_88 (fun S29 h30 eS31 hC32 => ?_)
    have hRS29 := hC32.2.2
    have hxS29 : eqx scc S S29 := by rw [eS31]; exact (hxS25).up (by decide)
    have hIS29 := Inv.xc hI hxS29
    refine ev_return dX2_take_91 ?_
    exact ⟨rfl, S29, hC32, (show eqx [58, 63, 65, 66] S S29 from by rw [eS31]; exact (show eqx [58, 63, 65, 66] S S25 from by rw [eS27]; exact (show eqx [58, 63, 65, 66] S S21 from by rw [eS23]; exact (show eqx [58, 63, 65, 66] S S17 from by rw [eS19]; exact (eqx.rf (l := [58, 63, 65, 66]) (S := S)).up (by decide)).up (by decide)).up (by decide)).up (by decide)), (show CuE S S29 k from by rw [eS31]; exact CuE.up ((show CuE S S25 k from by rw [eS27]; exact CuE.up ((show CuE S S21 k from by rw [eS23]; exact CuE.up ((show CuE S S17 k from by rw [eS19]; exact CuE.up (CuE.rf (S := S) (k := k))))))))), by rw [eS31, upS_at], by rw [eS31, upS_ne (by decide), eS27, upS_ne (by decide), eS23, upS_ne (by decide), eS19, upS_at, if_pos (by omega)], by rw [eS31, upS_ne (by decide), eS27, upS_ne (by decide), eS23, upS_at, if_pos (by omega)], by rw [eS31, upS_ne (by decide), eS27, upS_at, if_pos (by omega)]⟩

set_option maxHeartbeats 4000000 in
set_option maxRecDepth 100000 in
theorem k_takePair {E : EV} {h : AH} {A : AD} {S : MS} {k : Int} (hC : CR E A S h) (gk : 0 ≤ k ∧ k < 10) (gp : 0 ≤ S 67 k ∧ S 67 k ≤ 1000) (gx : (-200000000 ≤ S 60 k ∧ S 60 k ≤ 200000000)) (gy : (-200000000 ≤ S 61 k ∧ S 61 k ≤ 200000000)) (gz : (-200000000 ≤ S 62 k ∧ S 62 k ≤ 200000000)) (v0 : (-1600000 ≤ S 50 0 ∧ S 50 0 ≤ 1600000)) (v1 : (-1600000 ≤ S 50 1 ∧ S 50 1 ≤ 1600000)) (v2 : (-1600000 ≤ S 50 2 ∧ S 50 2 ≤ 1600000)) : CM E yX2_takePair cX2_takePair 2 none 0 0 0 [.ref (A 19 k), .ref (A 10 0)] h (qV (fun h' => ∃ S', CR E A S' h' ∧ eqx [60, 61, 62, 67] S S' ∧ CuE S S' k ∧ S' 67 k = S 67 k + 1 ∧ S' 60 k = S 60 k + S 50 0 ∧ S' 61 k = S 61 k + S 50 1 ∧ S' 62 k = S 62 k + S 50 2)) := by
  have hR := hC.2.2
  refine CM.of (by decide) (Nat.le_of_ble_eq_true rfl) (L := [(0, .ref (A 19 k)), (1, .ref (A 10 0))]) rfl ?_
  refine ev_aload_n 0 rfl dX2_takePair_0 ?_
  refine ev_dup dX2_takePair_1 rfl ?_
  refine cg_X2_15 hC (by omega) dX2_takePair_2 ?_
  refine ev_iconst dX2_takePair_5 ?_
  refine ev_iadd dX2_takePair_6 ?_
  refine cp_X2_15 hC (by omega) (by first | assumption | exact hR _ _ | decide | (simp only [InR]; omega)) dX2_takePair_7 (fun S1 h2 eS3 hC4 => ?_)
  have hRS1 := hC4.2.2
  refine ev_aload_n 0 rfl dX2_takePair_10 ?_
  refine ev_dup dX2_takePair_11 rfl ?_
  refine cgE_X2_18 (v := S 60 k) hC4 (by omega) (by rw [eS3, upS_ne (by decide)]) dX2_takePair_12 ?_
  refine ev_aload_n 1 rfl dX2_takePair_15 ?_
  refine ev_iconst dX2_takePair_16 ?_
  refine c_ldE (k := 10) (s := 50) (v := S 50 0) hC4 (by decide) rfl (by rw [eS3, upS_ne (by decide)]) dX2_takePair_17 (by omega) (by show _ < ((7 : Nat) : Int); omega) ?_
  refine ev_iadd dX2_takePair_18 ?_
  refine cp_X2_18 hC4 (by omega) (by first | assumption | exact hR _ _ | exact hRS1 _ _ | decide | (simp only [InR]; omega)) dX2_takePair_19 (fun S5 h6 eS7 hC8 => ?_)
  have hRS5 := hC8.2.2
  refine ev_aload_n 0 rfl dX2_takePair_22 ?_
  refine ev_dup dX2_takePair_23 rfl ?_
  refine cgE_X2_21 (v := S 61 k) hC8 (by omega) (by rw [eS7, upS_ne (by decide), eS3, upS_ne (by decide)]) dX2_takePair_24 ?_
  refine ev_aload_n 1 rfl dX2_takePair_27 ?_
  refine ev_iconst dX2_takePair_28 ?_
  refine c_ldE (k := 10) (s := 50) (v := S 50 1) hC8 (by decide) rfl (by rw [eS7, upS_ne (by decide), eS3, upS_ne (by decide)]) dX2_takePair_29 (by omega) (by show _ < ((7 : Nat) : Int); omega) ?_
  refine ev_iadd dX2_takePair_30 ?_
  refine cp_X2_21 hC8 (by omega) (by first | assumption | exact hR _ _ | exact hRS1 _ _ | exact hRS5 _ _ | decide | (simp only [InR]; omega)) dX2_takePair_31 (fun S9 h10 eS11 hC12 => ?_)
  have hRS9 := hC12.2.2
  refine ev_aload_n 0 rfl dX2_takePair_34 ?_
  refine ev_dup dX2_takePair_35 rfl ?_
  refine cgE_X2_24 (v := S 62 k) hC12 (by omega) (by rw [eS11, upS_ne (by decide), eS7, upS_ne (by decide), eS3, upS_ne (by decide)]) dX2_takePair_36 ?_
  refine ev_aload_n 1 rfl dX2_takePair_39 ?_
  refine ev_iconst dX2_takePair_40 ?_
  refine c_ldE (k := 10) (s := 50) (v := S 50 2) hC12 (by decide) rfl (by rw [eS11, upS_ne (by decide), eS7, upS_ne (by decide), eS3, upS_ne (by decide)]) dX2_takePair_41 (by omega) (by show _ < ((7 : Nat) : Int); omega) ?_
  refine ev_iadd dX2_takePair_42 ?_
  refine cp_X2_24 hC12 (by omega) (by first | assumption | exact hR _ _ | exact hRS1 _ _ | exact hRS5 _ _ | exact hRS9 _ _ | decide | (simp only [InR]; omega)) dX2_takePair_43 (fun S13 h14 eS15 hC16 => ?_)
  have hRS13 := hC16.2.2
  refine ev_return dX2_takePair_46 ?_
  exact ⟨rfl, S13, hC16, (show eqx [60, 61, 62, 67] S S13 from by rw [eS15]; exact (show eqx [60, 61, 62, 67] S S9 from by rw [eS11]; exact (show eqx [60, 61, 62, 67] S S5 from by rw [eS7]; exact (show eqx [60, 61, 62, 67] S S1 from by rw [eS3]; exact (eqx.rf (l := [60, 61, 62, 67]) (S := S)).up (by decide)).up (by decide)).up (by decide)).up (by decide)), (show CuE S S13 k from by rw [eS15]; exact CuE.up ((show CuE S S9 k from by rw [eS11]; exact CuE.up ((show CuE S S5 k from by rw [eS7]; exact CuE.up ((show CuE S S1 k from by rw [eS3]; exact CuE.up (CuE.rf (S := S) (k := k))))))))), by rw [eS15, upS_ne (by decide), eS11, upS_ne (by decide), eS7, upS_ne (by decide), eS3, upS_at], by rw [eS15, upS_ne (by decide), eS11, upS_ne (by decide), eS7, upS_at], by rw [eS15, upS_ne (by decide), eS11, upS_at], by rw [eS15, upS_at]⟩

set_option maxHeartbeats 4000000 in
set_option maxRecDepth 100000 in
theorem k_finish {E : EV} {h : AH} {A : AD} {S : MS} {k : Int} (hC : CR E A S h) (gk : 0 ≤ k ∧ k < 10) (gp : 0 ≤ S 67 k ∧ S 67 k ≤ 1000) (gx : (-200000000 ≤ S 60 k ∧ S 60 k ≤ 200000000)) (gy : (-200000000 ≤ S 61 k ∧ S 61 k ≤ 200000000)) (gz : (-200000000 ≤ S 62 k ∧ S 62 k ≤ 200000000)) (g5 : -100000 ≤ S 65 k ∧ S 65 k ≤ 100000) (g6 : -100000 ≤ S 66 k ∧ S 66 k ≤ 100000) : CM E yX2_finish cX2_finish 1 none 1 0 0 [.ref (A 19 k)] h (qV (fun h' => ∃ S', CR E A S' h' ∧ eqx [59, 60, 61, 62] S S' ∧ CuE S S' k ∧ S' 59 k = (S 65 k + S 66 k) / 2 ∧ S' 60 k = (if 0 < S 67 k then (S 60 k).tdiv (S 67 k) else S 60 k) ∧ S' 61 k = (if 0 < S 67 k then (S 61 k).tdiv (S 67 k) else S 61 k) ∧ S' 62 k = (if 0 < S 67 k then (S 62 k).tdiv (S 67 k) else S 62 k))) := by
  have hR := hC.2.2
  have d0 := tdiv_b (a := S 60 k) (b := S 67 k) gx
  have d1 := tdiv_b (a := S 61 k) (b := S 67 k) gy
  have d2 := tdiv_b (a := S 62 k) (b := S 67 k) gz
  refine CM.of (by decide) (Nat.le_of_ble_eq_true rfl) (L := [(0, .ref (A 19 k))]) rfl ?_
  refine ev_aload_n 0 rfl dX2_finish_0 ?_
  refine ev_aload_n 0 rfl dX2_finish_1 ?_
  refine cg_X2_39 hC (by omega) dX2_finish_2 ?_
  refine ev_aload_n 0 rfl dX2_finish_5 ?_
  refine cg_X2_51 hC (by omega) dX2_finish_6 ?_
  refine ev_iadd dX2_finish_9 ?_
  refine ev_iconst dX2_finish_10 ?_
  refine c_X2_59 (j_floorDiv E (a := (S 65 k) + (S 66 k)) (by omega)) rfl rfl (Nat.le_of_ble_eq_true rfl) (by decide) dX2_finish_11 (kP ?_)
  refine cp_X2_62 hC (by omega) (by first | assumption | exact hR _ _ | decide | (simp only [InR]; omega)) dX2_finish_14 (fun S1 h2 eS3 hC4 => ?_)
  have hRS1 := hC4.2.2
  refine ev_aload_n 0 rfl dX2_finish_17 ?_
  refine cgE_X2_15 (v := S 67 k) hC4 (by omega) (by rw [eS3, upS_ne (by decide)]) dX2_finish_18 ?_
  refine ev_if_le (tgt := 63) dX2_finish_21 (by first | assumption | exact hR _ _ | exact hRS1 _ _ | decide | (simp only [InR]; omega)) (by decide) (fun c21 => ?_) (fun c21 => ?_)
  · refine ev_return dX2_finish_63 ?_
    exact ⟨rfl, S1, hC4, (show eqx [59, 60, 61, 62] S S1 from by rw [eS3]; exact (eqx.rf (l := [59, 60, 61, 62]) (S := S)).up (by decide)), (show CuE S S1 k from by rw [eS3]; exact CuE.up (CuE.rf (S := S) (k := k))), by rw [eS3, upS_at], by rw [eS3, upS_ne (by decide), if_neg (by omega)], by rw [eS3, upS_ne (by decide), if_neg (by omega)], by rw [eS3, upS_ne (by decide), if_neg (by omega)]⟩
  · refine ev_aload_n 0 rfl dX2_finish_24 ?_
    refine ev_dup dX2_finish_25 rfl ?_
    refine cgE_X2_18 (v := S 60 k) hC4 (by omega) (by rw [eS3, upS_ne (by decide)]) dX2_finish_26 ?_
    refine ev_aload_n 0 rfl dX2_finish_29 ?_
    refine cgE_X2_15 (v := S 67 k) hC4 (by omega) (by rw [eS3, upS_ne (by decide)]) dX2_finish_30 ?_
    refine ev_idiv dX2_finish_33 (by first | assumption | exact hR _ _ | exact hRS1 _ _ | decide | (simp only [InR]; omega)) (by first | assumption | exact hR _ _ | exact hRS1 _ _ | decide | (simp only [InR]; omega)) (by omega) (by first | assumption | exact hR _ _ | exact hRS1 _ _ | decide | (simp only [InR]; omega)) ?_
    refine cp_X2_18 hC4 (by omega) (by first | assumption | exact hR _ _ | exact hRS1 _ _ | decide | (simp only [InR]; omega)) dX2_finish_34 (fun S5 h6 eS7 hC8 => ?_)
    have hRS5 := hC8.2.2
    refine ev_aload_n 0 rfl dX2_finish_37 ?_
    refine ev_dup dX2_finish_38 rfl ?_
    refine cgE_X2_21 (v := S 61 k) hC8 (by omega) (by rw [eS7, upS_ne (by decide), eS3, upS_ne (by decide)]) dX2_finish_39 ?_
    refine ev_aload_n 0 rfl dX2_finish_42 ?_
    refine cgE_X2_15 (v := S 67 k) hC8 (by omega) (by rw [eS7, upS_ne (by decide), eS3, upS_ne (by decide)]) dX2_finish_43 ?_
    refine ev_idiv dX2_finish_46 (by first | assumption | exact hR _ _ | exact hRS1 _ _ | exact hRS5 _ _ | decide | (simp only [InR]; omega)) (by first | assumption | exact hR _ _ | exact hRS1 _ _ | exact hRS5 _ _ | decide | (simp only [InR]; omega)) (by omega) (by first | assumption | exact hR _ _ | exact hRS1 _ _ | exact hRS5 _ _ | decide | (simp only [InR]; omega)) ?_
    refine cp_X2_21 hC8 (by omega) (by first | assumption | exact hR _ _ | exact hRS1 _ _ | exact hRS5 _ _ | decide | (simp only [InR]; omega)) dX2_finish_47 (fun S9 h10 eS11 hC12 => ?_)
    have hRS9 := hC12.2.2
    refine ev_aload_n 0 rfl dX2_finish_50 ?_
    refine ev_dup dX2_finish_51 rfl ?_
    refine cgE_X2_24 (v := S 62 k) hC12 (by omega) (by rw [eS11, upS_ne (by decide), eS7, upS_ne (by decide), eS3, upS_ne (by decide)]) dX2_finish_52 ?_
    refine ev_aload_n 0 rfl dX2_finish_55 ?_
    refine cgE_X2_15 (v := S 67 k) hC12 (by omega) (by rw [eS11, upS_ne (by decide), eS7, upS_ne (by decide), eS3, upS_ne (by decide)]) dX2_finish_56 ?_
    refine ev_idiv dX2_finish_59 (by first | assumption | exact hR _ _ | exact hRS1 _ _ | exact hRS5 _ _ | exact hRS9 _ _ | decide | (simp only [InR]; omega)) (by first | assumption | exact hR _ _ | exact hRS1 _ _ | exact hRS5 _ _ | exact hRS9 _ _ | decide | (simp only [InR]; omega)) (by omega) (by first | assumption | exact hR _ _ | exact hRS1 _ _ | exact hRS5 _ _ | exact hRS9 _ _ | decide | (simp only [InR]; omega)) ?_
    refine cp_X2_24 hC12 (by omega) (by first | assumption | exact hR _ _ | exact hRS1 _ _ | exact hRS5 _ _ | exact hRS9 _ _ | decide | (simp only [InR]; omega)) dX2_finish_60 (fun S13 h14 eS15 hC16 => ?_)
    have hRS13 := hC16.2.2
    refine ev_return dX2_finish_63 ?_
    exact ⟨rfl, S13, hC16, (show eqx [59, 60, 61, 62] S S13 from by rw [eS15]; exact (show eqx [59, 60, 61, 62] S S9 from by rw [eS11]; exact (show eqx [59, 60, 61, 62] S S5 from by rw [eS7]; exact (show eqx [59, 60, 61, 62] S S1 from by rw [eS3]; exact (eqx.rf (l := [59, 60, 61, 62]) (S := S)).up (by decide)).up (by decide)).up (by decide)).up (by decide)), (show CuE S S13 k from by rw [eS15]; exact CuE.up ((show CuE S S9 k from by rw [eS11]; exact CuE.up ((show CuE S S5 k from by rw [eS7]; exact CuE.up ((show CuE S S1 k from by rw [eS3]; exact CuE.up (CuE.rf (S := S) (k := k))))))))), by rw [eS15, upS_ne (by decide), eS11, upS_ne (by decide), eS7, upS_ne (by decide), eS3, upS_at], by rw [eS15, upS_ne (by decide), eS11, upS_ne (by decide), eS7, upS_at, if_pos (by omega)], by rw [eS15, upS_ne (by decide), eS11, upS_at, if_pos (by omega)], by rw [eS15, upS_at, if_pos (by omega)]⟩

set_option maxHeartbeats 4000000 in
set_option maxRecDepth 100000 in
theorem k_hasPlace {E : EV} {h : AH} {A : AD} {S : MS} {k : Int} (hC : CR E A S h) (gk : 0 ≤ k ∧ k < 10) : CM E yX2_hasPlace cX2_hasPlace 1 (some .boolean) 0 0 0 [.ref (A 19 k)] h (qB (0 < S 67 k) h) := by
  have hR := hC.2.2
  refine CM.of (by decide) (Nat.le_of_ble_eq_true rfl) (L := [(0, .ref (A 19 k))]) rfl ?_
  refine ev_aload_n 0 rfl dX2_hasPlace_0 ?_
  refine cg_X2_15 hC (by omega) dX2_hasPlace_1 ?_
  refine ev_if_le (tgt := 11) dX2_hasPlace_4 (by first | assumption | exact hR _ _ | decide | (simp only [InR]; omega)) (by decide) (fun c4 => ?_) (fun c4 => ?_)
  · refine ev_iconst dX2_hasPlace_11 ?_
    refine ev_zreturn (by decide) dX2_hasPlace_12 ?_
    first | exact ⟨rfl, Or.inl ⟨rfl, by omega⟩⟩ | exact ⟨rfl, Or.inr ⟨rfl, by omega⟩⟩
  · refine ev_iconst dX2_hasPlace_7 ?_
    refine ev_goto (tgt := 12) dX2_hasPlace_8 (by decide) ?_
    refine ev_zreturn (by decide) dX2_hasPlace_12 ?_
    first | exact ⟨rfl, Or.inl ⟨rfl, by omega⟩⟩ | exact ⟨rfl, Or.inr ⟨rfl, by omega⟩⟩

set_option maxHeartbeats 4000000 in
set_option maxRecDepth 100000 in
theorem k_answer {E : EV} {h : AH} {A : AD} {S : MS} {k w : Int} (hC : CR E A S h) (gk : 0 ≤ k ∧ k < 10) (gw : InR w) : CM E yX2_answer cX2_answer 2 (some .int) 0 0 0 [.ref (A 19 k), vI (w)] h (qP (if w = 0 then S 58 k else if w = 1 then S 59 k else if w = 2 then S 60 k else if w = 3 then S 61 k else if w = 4 then S 62 k else S 63 k) h) := by
  have hR := hC.2.2
  refine CM.of (by decide) (Nat.le_of_ble_eq_true rfl) (L := [(0, .ref (A 19 k)), (1, vI (w))]) rfl ?_
  refine ev_iload_n 1 rfl dX2_answer_0 ?_
  rcases (show (w < 0 ∨ 4 < w) ∨ w = 0 ∨ w = 1 ∨ w = 2 ∨ w = 3 ∨ w = 4 by omega) with q | q | q | q | q | q
  · refine ev_tableOut (tgt := 61) dX2_answer_1 (by first | assumption | exact hR _ _ | decide | (simp only [InR]; omega)) q (by decide) ?_
    refine ev_aload_n 0 rfl dX2_answer_61 ?_
    refine cg_X2_30 hC (by omega) dX2_answer_62 ?_
    refine ev_ireturn dX2_answer_65 ?_
    refine ⟨rfl, congrArg (fun z => some (vI z)) ?_⟩
    first | rfl | ((repeat' split) <;> first | rfl | omega)
  · subst q
    refine ev_tableIn (tgt := 36) (off := 35) dX2_answer_1 (by decide) (by decide) (by decide) (by decide) (by decide) ?_
    refine ev_aload_n 0 rfl dX2_answer_36 ?_
    refine cg_X2_9 hC (by omega) dX2_answer_37 ?_
    refine ev_ireturn dX2_answer_40 ?_
    refine ⟨rfl, congrArg (fun z => some (vI z)) ?_⟩
    first | rfl | ((repeat' split) <;> first | rfl | omega)
  · subst q
    refine ev_tableIn (tgt := 41) (off := 40) dX2_answer_1 (by decide) (by decide) (by decide) (by decide) (by decide) ?_
    refine ev_aload_n 0 rfl dX2_answer_41 ?_
    refine cg_X2_62 hC (by omega) dX2_answer_42 ?_
    refine ev_ireturn dX2_answer_45 ?_
    refine ⟨rfl, congrArg (fun z => some (vI z)) ?_⟩
    first | rfl | ((repeat' split) <;> first | rfl | omega)
  · subst q
    refine ev_tableIn (tgt := 46) (off := 45) dX2_answer_1 (by decide) (by decide) (by decide) (by decide) (by decide) ?_
    refine ev_aload_n 0 rfl dX2_answer_46 ?_
    refine cg_X2_18 hC (by omega) dX2_answer_47 ?_
    refine ev_ireturn dX2_answer_50 ?_
    refine ⟨rfl, congrArg (fun z => some (vI z)) ?_⟩
    first | rfl | ((repeat' split) <;> first | rfl | omega)
  · subst q
    refine ev_tableIn (tgt := 51) (off := 50) dX2_answer_1 (by decide) (by decide) (by decide) (by decide) (by decide) ?_
    refine ev_aload_n 0 rfl dX2_answer_51 ?_
    refine cg_X2_21 hC (by omega) dX2_answer_52 ?_
    refine ev_ireturn dX2_answer_55 ?_
    refine ⟨rfl, congrArg (fun z => some (vI z)) ?_⟩
    first | rfl | ((repeat' split) <;> first | rfl | omega)
  · subst q
    refine ev_tableIn (tgt := 56) (off := 55) dX2_answer_1 (by decide) (by decide) (by decide) (by decide) (by decide) ?_
    refine ev_aload_n 0 rfl dX2_answer_56 ?_
    refine cg_X2_24 hC (by omega) dX2_answer_57 ?_
    refine ev_ireturn dX2_answer_60 ?_
    refine ⟨rfl, congrArg (fun z => some (vI z)) ?_⟩
    first | rfl | ((repeat' split) <;> first | rfl | omega)

theorem sum_dn {f : Int → Int} {n : Int} (hn : 0 ≤ n) : dnI ad2 0 f n 0 = sumI f n := by
  have key : ∀ i, i ≤ n → 0 ≤ i → dnI ad2 0 f n i = sumI f n - sumI f i := by
    refine up_ind (fun i ih hi i0 => ?_)
    by_cases q : i < n
    · rw [dnI_s q, ih (i + 1) (by omega) (by omega) (by omega), sumI_s _ i0]
      unfold ad2
      omega
    · rw [dnI_e (by omega), show i = n by omega]
      omega
  have h := key 0 hn (by omega)
  have h0 : sumI f 0 = 0 := rfl
  omega
def upN (op : Int → Int → Int) (e : Int) (f : Int → Int) : Nat → Int
  | 0 => e
  | m + 1 => op (upN op e f m) (f (m : Int))
def upI (op : Int → Int → Int) (e : Int) (f : Int → Int) (i : Int) : Int := upN op e f i.toNat
theorem upI_s {op : Int → Int → Int} {e : Int} {f : Int → Int} {i : Int} (h : 0 ≤ i) : upI op e f (i + 1) = op (upI op e f i) (f i) := by
  unfold upI
  rw [show (i + 1).toNat = i.toNat + 1 by omega, upN, Int.toNat_of_nonneg h]
/-- v is the greatest of e and the f's below n -/
def MaxP (f : Int → Int) (e lo hi v : Int) : Prop := e ≤ v ∧ (∀ i, lo ≤ i → i < hi → f i ≤ v) ∧ (v = e ∨ ∃ i, (lo ≤ i ∧ i < hi) ∧ v = f i)
theorem MaxP.uq {f : Int → Int} {e lo hi v w : Int} (h : MaxP f e lo hi v) (g : MaxP f e lo hi w) : v = w := by
  obtain ⟨h1, h2, h3⟩ := h
  obtain ⟨g1, g2, g3⟩ := g
  have a : v ≤ w := by
    rcases h3 with q | ⟨i, hi, q⟩
    · omega
    · have := g2 i hi.1 hi.2
      omega
  have b : w ≤ v := by
    rcases g3 with q | ⟨i, hi, q⟩
    · omega
    · have := h2 i hi.1 hi.2
      omega
  omega
theorem mx_up {f : Int → Int} {e : Int} {n : Int} (hn : 0 ≤ n) : dnI mx e f n 0 = upI mx e f n := by
  have k1 : ∀ i, i ≤ n → 0 ≤ i → MaxP f e i n (dnI mx e f n i) := by
    refine up_ind (fun i ih hi i0 => ?_)
    by_cases q : i < n
    · obtain ⟨a1, a2, a3⟩ := ih (i + 1) (by omega) (by omega) (by omega)
      rw [dnI_s q]
      generalize dnI mx e f n (i + 1) = g at a1 a2 a3 ⊢
      unfold mx
      split
      · refine ⟨by omega, fun j j0 j1 => ?_, Or.inr ⟨i, by omega, rfl⟩⟩
        by_cases ej : j = i
        · rw [ej]
          omega
        · have := a2 j (by omega) j1
          omega
      · refine ⟨by omega, fun j j0 j1 => ?_, ?_⟩
        · by_cases ej : j = i
          · rw [ej]
            omega
          · exact a2 j (by omega) j1
        · rcases a3 with w | ⟨j, hj, w⟩
          · exact Or.inl w
          · exact Or.inr ⟨j, by omega, w⟩
    · rw [dnI_e (by omega)]
      exact ⟨Int.le_refl _, fun j j0 j1 => by omega, Or.inl rfl⟩
  have k2 : ∀ m : Nat, MaxP f e 0 m (upN mx e f m) := by
    intro m
    induction m with
    | zero => exact ⟨Int.le_refl _, fun j j0 j1 => by omega, Or.inl rfl⟩
    | succ m ih =>
      obtain ⟨a1, a2, a3⟩ := ih
      rw [upN]
      generalize upN mx e f m = g at a1 a2 a3 ⊢
      unfold mx
      split
      · refine ⟨by omega, fun j j0 j1 => ?_, Or.inr ⟨m, by omega, rfl⟩⟩
        by_cases ej : j = m
        · rw [ej]
          omega
        · have := a2 j j0 (by omega)
          omega
      · refine ⟨a1, fun j j0 j1 => ?_, ?_⟩
        · by_cases ej : j = m
          · rw [ej]
            omega
          · exact a2 j j0 (by omega)
        · rcases a3 with w | ⟨j, hj, w⟩
          · exact Or.inl w
          · exact Or.inr ⟨j, by omega, w⟩
  have h2 := k2 n.toNat
  rw [Int.toNat_of_nonneg hn] at h2
  exact (k1 0 hn (by omega)).uq h2
theorem neg_mx {a b : Int} : mn a b = -(mx (-a) (-b)) := by
  unfold mn mx
  split <;> split <;> omega
theorem mn_up {f : Int → Int} {e : Int} {n : Int} (hn : 0 ≤ n) : dnI mn e f n 0 = upI mn e f n := by
  have k1 : ∀ i, i ≤ n → 0 ≤ i → dnI mn e f n i = -(dnI mx (-e) (fun j => -f j) n i) := by
    refine up_ind (fun i ih hi i0 => ?_)
    by_cases q : i < n
    · rw [dnI_s q, dnI_s q, ih (i + 1) (by omega) (by omega) (by omega), neg_mx, Int.neg_neg]
    · rw [dnI_e (by omega), dnI_e (by omega), Int.neg_neg]
  have k2 : ∀ m : Nat, upN mn e f m = -(upN mx (-e) (fun j => -f j) m) := by
    intro m
    induction m with
    | zero => unfold upN; omega
    | succ m ih =>
      rw [upN, upN, ih, neg_mx, Int.neg_neg]
  rw [k1 0 hn (by omega), mx_up hn]
  unfold upI
  rw [k2]
theorem fi_first {l r : List Int} {n k i : Int} (i0 : 0 ≤ i) (i1 : i < n) (hi : at0 r i = k) (hl : 0 ≤ at0 l i) (hb : ∀ j, 0 ≤ j → j < i → at0 r j ≠ k) : fiK l r k n = at0 l i := by
  have h1 : dnI fst2 (-1) (plB l r k) n i = at0 l i := by
    rw [dnI_s i1, show plB l r k i = at0 l i from if_pos hi]
    unfold fst2
    rw [if_neg (by omega)]
  have key : ∀ j, j ≤ i → 0 ≤ j → dnI fst2 (-1) (plB l r k) n j = at0 l i := by
    refine up_ind (fun j ih hj j0 => ?_)
    by_cases e : j = i
    · rw [e]
      exact h1
    · rw [dnI_s (by omega), ih (j + 1) (by omega) (by omega) (by omega), show plB l r k j = -1 from if_neg (hb j j0 (by omega))]
      rfl
  exact key 0 i0 (by omega)

theorem plM_b {r : List Int} {k i : Int} : 0 ≤ plM r k i ∧ plM r k i ≤ 1 := by unfold plM; split <;> omega
theorem rwP_b {r : List Int} {k i j : Int} : 0 ≤ rwP r k i j ∧ rwP r k i j ≤ 1 := by unfold rwP; split <;> omega
theorem plP_b {r : List Int} {k N i : Int} (hN : 0 ≤ N ∧ N ≤ 10) : 0 ≤ plP r k N i ∧ plP r k N i ≤ 10 := by
  have := sumI_b (f := rwP r k i) (a := 0) (b := 1) hN.1 (fun j _ _ => rwP_b)
  unfold plP
  split <;> omega
theorem rwX_b {S : MS} {l r : List Int} {k w N i j : Int} (hI : Inv S) (hok : Okl S l r N) (i0 : 0 ≤ i) (i1 : i < N) (hi : at0 r i = k) (j1 : j < N) : -1600000 ≤ rwX S l r k w i j ∧ rwX S l r k w i j ≤ 1600000 := by
  unfold rwX
  split
  · next h => exact partZ_b hI (hok.2.1 i i0 i1) (hok.2.2 i j i0 h.1 j1 (by omega))
  · omega
theorem plX_b {S : MS} {l r : List Int} {k w N i : Int} (hI : Inv S) (hok : Okl S l r N) (i0 : 0 ≤ i) (i1 : i < N) : -16000000 ≤ plX S l r k w N i ∧ plX S l r k w N i ≤ 16000000 := by
  have hN := hok.1
  unfold plX
  split
  · next h =>
    have := sumI_b (f := rwX S l r k w i) (a := -1600000) (b := 1600000) hN.1 (fun j j0 j1 => rwX_b hI hok i0 i1 h j1)
    omega
  · omega
/-- what is known of curtain k when the arcs before i have been taken -/
def TcI (S S1 : MS) (l r : List Int) (k N i : Int) : Prop := S1 58 k = sumI (plM r k) i ∧ S1 67 k = sumI (plP r k N) i ∧ S1 60 k = sumI (plX S l r k 0 N) i ∧ S1 61 k = sumI (plX S l r k 1 N) i ∧ S1 62 k = sumI (plX S l r k 2 N) i ∧ S1 64 k = -4 ∧ ((S1 58 k = 0 ∧ upI mx (-10000) (plF S l r k) i = -10000 ∧ upI mn 10000 (plT S l r k) i = 10000 ∧ ∀ j, 0 ≤ j → j < i → at0 r j ≠ k) ∨ (0 < S1 58 k ∧ S1 65 k = upI mx (-10000) (plF S l r k) i ∧ S1 66 k = upI mn 10000 (plT S l r k) i ∧ S1 63 k = fiK l r k N ∧ (-60 ≤ S1 65 k ∧ S1 65 k ≤ 1500) ∧ -60 ≤ S1 66 k ∧ S1 66 k ≤ 1500))
theorem Tc_no {S S1 : MS} {l r : List Int} {k N i : Int} (i0 : 0 ≤ i) (h : TcI S S1 l r k N i) (hn : at0 r i ≠ k) : TcI S S1 l r k N (i + 1) := by
  have e1 : plM r k i = 0 := if_neg hn
  have e2 : plP r k N i = 0 := if_neg hn
  have e3 : ∀ w, plX S l r k w N i = 0 := fun w => if_neg hn
  have e4 : plF S l r k i = -10000 := if_neg hn
  have e5 : plT S l r k i = 10000 := if_neg hn
  unfold TcI at h ⊢
  rw [sumI_s _ i0, sumI_s _ i0, sumI_s _ i0, sumI_s _ i0, sumI_s _ i0, e1, e2, e3, e3, e3, upI_s i0, upI_s i0, e4, e5]
  obtain ⟨h1, h2, h3, h4, h5, h6, h7⟩ := h
  refine ⟨by omega, by omega, by omega, by omega, by omega, h6, ?_⟩
  rcases h7 with ⟨a1, a2, a3, a4⟩ | ⟨a1, a2, a3, a4, a5, a6⟩
  · refine Or.inl ⟨a1, by rw [a2]; rfl, by rw [a3]; rfl, fun j j0 j1 => ?_⟩
    by_cases e : j = i
    · rw [e]
      exact hn
    · exact a4 j j0 (by omega)
  · refine Or.inr ⟨a1, ?_, ?_, a4, a5, a6⟩
    · rw [← a2]
      unfold mx
      rw [if_neg (by omega)]
    · rw [← a3]
      unfold mn
      rw [if_neg (by omega)]
/-- behind the taking of arc i and its pairs -/
theorem Tc_yes {S S1 S2 : MS} {l r : List Int} {k N i : Int} (hI : Inv S) (hok : Okl S l r N) (i0 : 0 ≤ i) (i1 : i < N) (h : TcI S S1 l r k N i) (hi : at0 r i = k)
    (t58 : S2 58 k = S1 58 k + 1) (t63 : S2 63 k = (if S1 58 k = 0 then at0 l i else S1 63 k)) (t65 : S2 65 k = (if S1 58 k = 0 then frZ S (at0 l i) else max (S1 65 k) (frZ S (at0 l i)))) (t66 : S2 66 k = (if S1 58 k = 0 then laZ S (at0 l i) else min (S1 66 k) (laZ S (at0 l i)))) (t64 : S2 64 k = S1 64 k)
    (t67 : S2 67 k = S1 67 k + sumI (rwP r k i) N) (t60 : S2 60 k = S1 60 k + sumI (rwX S l r k 0 i) N) (t61 : S2 61 k = S1 61 k + sumI (rwX S l r k 1 i) N) (t62 : S2 62 k = S1 62 k + sumI (rwX S l r k 2 i) N) : TcI S S2 l r k N (i + 1) := by
  have e1 : plM r k i = 1 := if_pos hi
  have e2 : plP r k N i = sumI (rwP r k i) N := if_pos hi
  have e3 : ∀ w, plX S l r k w N i = sumI (rwX S l r k w i) N := fun w => if_pos hi
  have e4 : plF S l r k i = frZ S (at0 l i) := if_pos hi
  have e5 : plT S l r k i = laZ S (at0 l i) := if_pos hi
  have fb := fr_b hI (hok.2.1 i i0 i1)
  unfold TcI at h ⊢
  rw [sumI_s _ i0, sumI_s _ i0, sumI_s _ i0, sumI_s _ i0, sumI_s _ i0, e1, e2, e3, e3, e3, upI_s i0, upI_s i0, e4, e5]
  obtain ⟨h1, h2, h3, h4, h5, h6, h7⟩ := h
  refine ⟨by omega, by omega, by omega, by omega, by omega, by omega, Or.inr ?_⟩
  rcases h7 with ⟨a1, a2, a3, a4⟩ | ⟨a1, a2, a3, a4, a5, a6⟩
  · rw [if_pos a1] at t63 t65 t66
    refine ⟨by omega, ?_, ?_, ?_, by omega, by omega⟩
    · rw [t65, a2]
      unfold mx
      rw [if_pos (by omega)]
    · rw [t66, a3]
      unfold mn
      rw [if_pos (by omega)]
    · rw [t63, fi_first i0 i1 hi (hok.2.1 i i0 i1).1 a4]
  · rw [if_neg (by omega)] at t63 t65 t66
    refine ⟨by omega, ?_, ?_, by rw [t63]; exact a4, by omega, by omega⟩
    · rw [t65, ← a2]
      unfold mx
      split <;> omega
    · rw [t66, ← a3]
      unfold mn
      split <;> omega
theorem Tc_b {S S1 : MS} {l r : List Int} {k N i : Int} (hI : Inv S) (hok : Okl S l r N) (i0 : 0 ≤ i) (i1 : i ≤ N) (h : TcI S S1 l r k N i) : (0 ≤ S1 58 k ∧ S1 58 k ≤ i) ∧ (0 ≤ S1 67 k ∧ S1 67 k ≤ 10 * i) ∧ (-16000000 * i ≤ S1 60 k ∧ S1 60 k ≤ 16000000 * i) ∧ (-16000000 * i ≤ S1 61 k ∧ S1 61 k ≤ 16000000 * i) ∧ -16000000 * i ≤ S1 62 k ∧ S1 62 k ≤ 16000000 * i := by
  have hN := hok.1
  obtain ⟨h1, h2, h3, h4, h5, h6, h7⟩ := h
  have b1 := sumI_b (f := plM r k) (a := 0) (b := 1) i0 (fun j _ _ => plM_b)
  have b2 := sumI_b (f := plP r k N) (a := 0) (b := 10) i0 (fun j _ _ => plP_b hN)
  have b3 := sumI_b (f := plX S l r k 0 N) (a := -16000000) (b := 16000000) i0 (fun j j0 j1 => plX_b hI hok j0 (by omega))
  have b4 := sumI_b (f := plX S l r k 1 N) (a := -16000000) (b := 16000000) i0 (fun j j0 j1 => plX_b hI hok j0 (by omega))
  have b5 := sumI_b (f := plX S l r k 2 N) (a := -16000000) (b := 16000000) i0 (fun j j0 j1 => plX_b hI hok j0 (by omega))
  omega

