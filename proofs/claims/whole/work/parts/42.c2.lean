set_option maxHeartbeats 4000000 in
set_option maxRecDepth 100000 in
theorem k_rise (E : EV) {h : AH} {f t : Int} (gf : 0 ≤ f ∧ f ≤ 1500) (gt : 1 ≤ t ∧ t ≤ 89) : CM E yX1_rise cX1_rise 2 (some .int) 2 0 0 [vI (f), vI (t)] h (qP (riseZ f t) h) := by
  have q1 := tabT_b t
  have q2 := mul_b (a := f) (b := tabT t) (A := 1500) (B := 57290) (by omega) (by omega) (by decide)
  have q3 := tdiv_b (b := 1000) q2
  have gfr : InR f := by simp only [InR]; omega
  have gtr : InR t := by simp only [InR]; omega
  refine CM.of (by decide) (Nat.le_of_ble_eq_true rfl) (L := [(0, vI (f)), (1, vI (t))]) rfl ?_
  refine ev_iload_n 1 rfl dX1_rise_0 ?_
  refine ev_iconst dX1_rise_1 ?_
  refine ev_icmp_lt (tgt := 25) dX1_rise_2 (by first | assumption | exact hR _ _ | decide | (simp only [InR]; omega)) (by decide) (by decide) (fun c2 => ?_) (fun c2 => ?_)
  · refine ev_iconst dX1_rise_25 ?_
    refine ev_ireturn dX1_rise_26 ?_
    exact absurd gt (by omega)
  · refine ev_iload_n 1 rfl dX1_rise_5 ?_
    refine ev_bipush dX1_rise_6 (by decide) ?_
    refine ev_icmp_gt (tgt := 25) dX1_rise_8 (by first | assumption | exact hR _ _ | decide | (simp only [InR]; omega)) (by decide) (by decide) (fun c8 => ?_) (fun c8 => ?_)
    · refine ev_iconst dX1_rise_25 ?_
      refine ev_ireturn dX1_rise_26 ?_
      exact absurd gt (by omega)
    · refine ev_iload_n 0 rfl dX1_rise_11 ?_
      refine gsN_TANGENTS dX1_rise_12 ?_
      refine ev_iload_n 1 rfl dX1_rise_15 ?_
      refine tl_TANGENTS dX1_rise_16 (by omega) (by omega) ?_
      refine ev_imul dX1_rise_17 ?_
      refine ev_sipush dX1_rise_18 (by decide) ?_
      refine ev_idiv dX1_rise_21 (by first | assumption | exact hR _ _ | decide | (simp only [InR]; omega)) (by first | assumption | exact hR _ _ | decide | (simp only [InR]; omega)) (by omega) (by first | assumption | exact hR _ _ | decide | (simp only [InR]; omega)) ?_
      refine ev_goto (tgt := 26) dX1_rise_22 (by decide) ?_
      refine ev_ireturn dX1_rise_26 ?_
      exact ⟨rfl, rfl⟩

set_option maxHeartbeats 4000000 in
set_option maxRecDepth 100000 in
theorem k_findHeights {E : EV} {h : AH} {A : AD} {S : MS} {a b r s th : Int} (hC : CR E A S h) (hI : Inv S) (ga : SG S a) (gb : SG S b) (ka : S 8 a ≠ 0) (kb : S 8 b ≠ 0) (hr : S 50 5 = r) (hs : S 50 6 = s) (gr : 1 ≤ r ∧ r ≤ 1500) (gs : 1 ≤ s ∧ s ≤ 1500) (gth : 0 ≤ th ∧ th ≤ 200) : CM E yX1_findHeights cX1_findHeights 8 (some .boolean) 3 0 0 [.ref (A 9 0), .ref (A 21 a), .ref (A 21 b), vI (th)] h (qI (fun z h' => ∃ S', CR E A S' h' ∧ eqx [50] S S' ∧ ((z = 1 ∧ (-th ≤ riseZ r (S 13 a) - riseZ s (S 13 b) ∧ riseZ r (S 13 a) - riseZ s (S 13 b) ≤ th) ∧ S' 50 0 = S 3 (S 9 a) + (r * sinZ (S 12 a)).tdiv 1000 ∧ S' 50 1 = S 4 (S 9 a) + (r * cosZ (S 12 a)).tdiv 1000 ∧ S' 50 2 = (riseZ r (S 13 a) + riseZ s (S 13 b)).tdiv 2 ∧ S' 50 3 = max (riseZ r (S 13 a - 1)) (riseZ s (S 13 b - 1)) ∧ S' 50 4 = min (riseZ r (S 13 a + 1)) (riseZ s (S 13 b + 1)) ∧ S' 50 5 = r ∧ S' 50 6 = s) ∨ (z = 0 ∧ ¬ (-th ≤ riseZ r (S 13 a) - riseZ s (S 13 b) ∧ riseZ r (S 13 a) - riseZ s (S 13 b) ≤ th))))) := by
  have hR := hC.2.2
  have hJ := hI
  obtain ⟨i1, i2, i3, i4, i5, i6, iSt, iSi, iWa, iSh, iLa, iS0, iS1, iZe⟩ := hJ
  obtain ⟨p1, p2, p3, p4, p5, p6, p7, p8⟩ := iSi a ga.1 ga.2
  obtain ⟨pt1, pt2, pt3⟩ := iSt _ p2.1 p2.2
  obtain ⟨q1, q2, q3, q4, q5, q6, q7, q8⟩ := iSi b gb.1 gb.2
  obtain ⟨qt1, qt2, qt3⟩ := iSt _ q2.1 q2.2
  have v0 := riseZ_b (f := r) (t := S 13 a) (by omega)
  have v1 := riseZ_b (f := s) (t := S 13 b) (by omega)
  have v2 := riseZ_b (f := r) (t := S 13 a - 1) (by omega)
  have v3 := riseZ_b (f := s) (t := S 13 b - 1) (by omega)
  have v4 := riseZ_b (f := r) (t := S 13 a + 1) (by omega)
  have v5 := riseZ_b (f := s) (t := S 13 b + 1) (by omega)
  have w5 := cosZ_b (S 12 a)
  have w6 := sinZ_b (S 12 a)
  have y1 := mul_b (a := r) (b := sinZ (S 12 a)) (A := 1500) (B := 1000) (by omega) (by omega) (by decide)
  have y2 := mul_b (a := r) (b := cosZ (S 12 a)) (A := 1500) (B := 1000) (by omega) (by omega) (by decide)
  have y3 := tdiv_b (b := 1000) y1
  have y4 := tdiv_b (b := 1000) y2
  have y5 := tdiv_b (a := riseZ r (S 13 a) + riseZ s (S 13 b)) (b := 2) (A := 171870) (by omega)
  refine CM.of (by decide) (Nat.le_of_ble_eq_true rfl) (L := [(0, .ref (A 9 0)), (1, .ref (A 21 a)), (2, .ref (A 21 b)), (3, vI (th))]) rfl ?_
  refine ev_aload_n 0 rfl dX1_findHeights_0 ?_
  refine cg_X1_9 hC dX1_findHeights_1 ?_
  refine ev_iconst dX1_findHeights_4 ?_
  refine c_ld (k := 10) (s := 50) hC (by decide) rfl dX1_findHeights_5 (by omega) (by show _ < ((7 : Nat) : Int); omega) ?_
  refine ev_ren (b := r) (hr) ?_
  refine ev_istore (L' := [(4, vI (r)), (0, .ref (A 9 0)), (1, .ref (A 21 a)), (2, .ref (A 21 b)), (3, vI (th))]) dX1_findHeights_6 (by decide) rfl ?_
  refine ev_aload_n 1 rfl dX1_findHeights_8 ?_
  refine cg_X1_9 hC dX1_findHeights_9 ?_
  refine ev_bipush dX1_findHeights_12 (by decide) ?_
  refine c_ld (k := 10) (s := 50) hC (by decide) rfl dX1_findHeights_14 (by omega) (by show _ < ((7 : Nat) : Int); omega) ?_
  refine ev_ren (b := s) (hs) ?_
  refine ev_istore (L' := [(5, vI (s)), (4, vI (r)), (0, .ref (A 9 0)), (1, .ref (A 21 a)), (2, .ref (A 21 b)), (3, vI (th))]) dX1_findHeights_15 (by decide) rfl ?_
  refine ev_iload 1 rfl dX1_findHeights_17 ?_
  refine ev_aload_n 3 rfl dX1_findHeights_19 ?_
  refine cg_X1_52 hC hI (by unfold SG; omega) (by first | assumption | omega) dX1_findHeights_20 ?_
  refine c_X1_55 (k_rise E (f := r) (t := S 13 a) (by omega) (by omega)) rfl rfl (Nat.le_of_ble_eq_true rfl) (by decide) dX1_findHeights_23 (kP ?_)
  refine ev_istore (L' := [(6, vI (riseZ r (S 13 a))), (5, vI (s)), (4, vI (r)), (0, .ref (A 9 0)), (1, .ref (A 21 a)), (2, .ref (A 21 b)), (3, vI (th))]) dX1_findHeights_26 (by decide) rfl ?_
  refine ev_iload 1 rfl dX1_findHeights_28 ?_
  refine ev_aload_n 5 rfl dX1_findHeights_30 ?_
  refine cg_X1_52 hC hI (by unfold SG; omega) (by first | assumption | omega) dX1_findHeights_31 ?_
  refine c_X1_55 (k_rise E (f := s) (t := S 13 b) (by omega) (by omega)) rfl rfl (Nat.le_of_ble_eq_true rfl) (by decide) dX1_findHeights_34 (kP ?_)
  refine ev_istore (L' := [(7, vI (riseZ s (S 13 b))), (6, vI (riseZ r (S 13 a))), (5, vI (s)), (4, vI (r)), (0, .ref (A 9 0)), (1, .ref (A 21 a)), (2, .ref (A 21 b)), (3, vI (th))]) dX1_findHeights_37 (by decide) rfl ?_
  refine ev_iload 1 rfl dX1_findHeights_39 ?_
  refine ev_iload 0 rfl dX1_findHeights_41 ?_
  refine ev_isub dX1_findHeights_43 ?_
  refine c_X1_31 (j_abs E (a := (riseZ r (S 13 a)) - (riseZ s (S 13 b))) (by first | assumption | exact hR _ _ | decide | (simp only [InR]; omega))) rfl rfl (Nat.le_of_ble_eq_true rfl) (by decide) dX1_findHeights_44 (kP ?_)
  refine ev_iload_n 7 rfl dX1_findHeights_47 ?_
  refine ev_icmp_le (tgt := 53) dX1_findHeights_48 (by first | assumption | exact hR _ _ | decide | (simp only [InR]; omega)) (by first | assumption | exact hR _ _ | decide | (simp only [InR]; omega)) (by decide) (fun c48 => ?_) (fun c48 => ?_)
  · refine ev_aload_n 4 rfl dX1_findHeights_53 ?_
    refine cg_X1_9 hC dX1_findHeights_54 ?_
    refine ev_iconst dX1_findHeights_57 ?_
    refine ev_aload_n 5 rfl dX1_findHeights_58 ?_
    refine cgR_X1_13 (i := a) (v := S 9 a) hC hI (by unfold SG; omega) (by first | assumption | omega) rfl dX1_findHeights_59 ?_
    refine cg_X1_38 hC (by omega) dX1_findHeights_62 ?_
    refine ev_iload 3 rfl dX1_findHeights_65 ?_
    refine ev_aload_n 5 rfl dX1_findHeights_67 ?_
    refine cg_X1_25 hC hI (by unfold SG; omega) (by first | assumption | omega) dX1_findHeights_68 ?_
    refine ev_imul dX1_findHeights_71 ?_
    refine ev_sipush dX1_findHeights_72 (by decide) ?_
    refine ev_idiv dX1_findHeights_75 (by first | assumption | exact hR _ _ | decide | (simp only [InR]; omega)) (by first | assumption | exact hR _ _ | decide | (simp only [InR]; omega)) (by omega) (by first | assumption | exact hR _ _ | decide | (simp only [InR]; omega)) ?_
    refine ev_iadd dX1_findHeights_76 ?_
    refine c_st (k := 10) (s := 50) hC (by decide) rfl (by decide) dX1_findHeights_77 (by omega) (by show _ < ((7 : Nat) : Int); omega) (by first | assumption | exact hR _ _ | decide | (simp only [InR]; omega)) (fun S1 h2 eS3 hC4 => ?_)
    have hRS1 := hC4.2.2
    have hxS1 : eqx scc S S1 := by rw [eS3]; exact (eqx.rf (l := scc) (S := S)).up (by decide)
    have hIS1 := Inv.xc hI hxS1
    refine ev_aload_n 4 rfl dX1_findHeights_78 ?_
    refine cg_X1_9 hC4 dX1_findHeights_79 ?_
    refine ev_iconst dX1_findHeights_82 ?_
    refine ev_aload_n 5 rfl dX1_findHeights_83 ?_
    refine cgR_X1_13 (i := a) (v := S 9 a) hC4 hIS1 (by unfold SG; rw [eS3, upS_ne (by decide)]; omega) (by rw [eS3, upS_ne (by decide)]; first | assumption | omega) (by rw [eS3, upS_ne (by decide)]) dX1_findHeights_84 ?_
    refine cgE_X1_41 (v := S 4 (S 9 a)) hC4 (by rw [eS3, upS_ne (by decide)]; omega) (by rw [eS3, upS_ne (by decide)]) dX1_findHeights_87 ?_
    refine ev_iload 3 rfl dX1_findHeights_90 ?_
    refine ev_aload_n 5 rfl dX1_findHeights_92 ?_
    refine cgE_X1_28 (v := cosZ (S 12 a)) hC4 hIS1 (by unfold SG; rw [eS3, upS_ne (by decide)]; omega) (by rw [eS3, upS_ne (by decide)]; first | assumption | omega) (by rw [eS3, upS_ne (by decide)]) dX1_findHeights_93 ?_
    refine ev_imul dX1_findHeights_96 ?_
    refine ev_sipush dX1_findHeights_97 (by decide) ?_
    refine ev_idiv dX1_findHeights_100 (by first | assumption | exact hR _ _ | exact hRS1 _ _ | decide | (simp only [InR]; omega)) (by first | assumption | exact hR _ _ | exact hRS1 _ _ | decide | (simp only [InR]; omega)) (by omega) (by first | assumption | exact hR _ _ | exact hRS1 _ _ | decide | (simp only [InR]; omega)) ?_
    refine ev_iadd dX1_findHeights_101 ?_
    refine c_st (k := 10) (s := 50) hC4 (by decide) rfl (by decide) dX1_findHeights_102 (by omega) (by show _ < ((7 : Nat) : Int); omega) (by first | assumption | exact hR _ _ | exact hRS1 _ _ | decide | (simp only [InR]; omega)) (fun S5 h6 eS7 hC8 => ?_)
    have hRS5 := hC8.2.2
    have hxS5 : eqx scc S S5 := by rw [eS7]; exact (hxS1).up (by decide)
    have hIS5 := Inv.xc hI hxS5
    refine ev_aload_n 4 rfl dX1_findHeights_103 ?_
    refine cg_X1_9 hC8 dX1_findHeights_104 ?_
    refine ev_iconst dX1_findHeights_107 ?_
    refine ev_iload 1 rfl dX1_findHeights_108 ?_
    refine ev_iload 0 rfl dX1_findHeights_110 ?_
    refine ev_iadd dX1_findHeights_112 ?_
    refine ev_iconst dX1_findHeights_113 ?_
    refine ev_idiv dX1_findHeights_114 (by first | assumption | exact hR _ _ | exact hRS1 _ _ | exact hRS5 _ _ | decide | (simp only [InR]; omega)) (by first | assumption | exact hR _ _ | exact hRS1 _ _ | exact hRS5 _ _ | decide | (simp only [InR]; omega)) (by omega) (by first | assumption | exact hR _ _ | exact hRS1 _ _ | exact hRS5 _ _ | decide | (simp only [InR]; omega)) ?_
    refine c_st (k := 10) (s := 50) hC8 (by decide) rfl (by decide) dX1_findHeights_115 (by omega) (by show _ < ((7 : Nat) : Int); omega) (by first | assumption | exact hR _ _ | exact hRS1 _ _ | exact hRS5 _ _ | decide | (simp only [InR]; omega)) (fun S9 h10 eS11 hC12 => ?_)
    have hRS9 := hC12.2.2
    have hxS9 : eqx scc S S9 := by rw [eS11]; exact (hxS5).up (by decide)
    have hIS9 := Inv.xc hI hxS9
    refine ev_aload_n 4 rfl dX1_findHeights_116 ?_
    refine cg_X1_9 hC12 dX1_findHeights_117 ?_
    refine ev_iconst dX1_findHeights_120 ?_
    refine ev_iload 3 rfl dX1_findHeights_121 ?_
    refine ev_aload_n 5 rfl dX1_findHeights_123 ?_
    refine cgE_X1_52 (v := S 13 a) hC12 hIS9 (by unfold SG; rw [eS11, upS_ne (by decide), eS7, upS_ne (by decide), eS3, upS_ne (by decide)]; omega) (by rw [eS11, upS_ne (by decide), eS7, upS_ne (by decide), eS3, upS_ne (by decide)]; first | assumption | omega) (by rw [eS11, upS_ne (by decide), eS7, upS_ne (by decide), eS3, upS_ne (by decide)]) dX1_findHeights_124 ?_
    refine ev_iconst dX1_findHeights_127 ?_
    refine ev_isub dX1_findHeights_128 ?_
    refine c_X1_55 (k_rise E (f := r) (t := (S 13 a) - 1) (by omega) (by omega)) rfl rfl (Nat.le_of_ble_eq_true rfl) (by decide) dX1_findHeights_129 (kP ?_)
    refine ev_iload 2 rfl dX1_findHeights_132 ?_
    refine ev_aload_n 6 rfl dX1_findHeights_134 ?_
    refine cgE_X1_52 (v := S 13 b) hC12 hIS9 (by unfold SG; rw [eS11, upS_ne (by decide), eS7, upS_ne (by decide), eS3, upS_ne (by decide)]; omega) (by rw [eS11, upS_ne (by decide), eS7, upS_ne (by decide), eS3, upS_ne (by decide)]; first | assumption | omega) (by rw [eS11, upS_ne (by decide), eS7, upS_ne (by decide), eS3, upS_ne (by decide)]) dX1_findHeights_135 ?_
    refine ev_iconst dX1_findHeights_138 ?_
    refine ev_isub dX1_findHeights_139 ?_
    refine c_X1_55 (k_rise E (f := s) (t := (S 13 b) - 1) (by omega) (by omega)) rfl rfl (Nat.le_of_ble_eq_true rfl) (by decide) dX1_findHeights_140 (kP ?_)
    refine c_X1_59 (j_max E (a := riseZ r ((S 13 a) - 1)) (b := riseZ s ((S 13 b) - 1)) (by first | assumption | exact hR _ _ | exact hRS1 _ _ | exact hRS5 _ _ | exact hRS9 _ _ | decide | (simp only [InR]; omega)) (by first | assumption | exact hR _ _ | exact hRS1 _ _ | exact hRS5 _ _ | exact hRS9 _ _ | decide | (simp only [InR]; omega))) rfl rfl (Nat.le_of_ble_eq_true rfl) (by decide) dX1_findHeights_143 (kP ?_)
    refine c_st (k := 10) (s := 50) hC12 (by decide) rfl (by decide) dX1_findHeights_146 (by omega) (by show _ < ((7 : Nat) : Int); omega) (by first | assumption | exact hR _ _ | exact hRS1 _ _ | exact hRS5 _ _ | exact hRS9 _ _ | decide | (simp only [InR]; omega)) (fun S13 h14 eS15 hC16 => ?_)
    have hRS13 := hC16.2.2
    have hxS13 : eqx scc S S13 := by rw [eS15]; exact (hxS9).up (by decide)
    have hIS13 := Inv.xc hI hxS13
    refine ev_aload_n 4 rfl dX1_findHeights_147 ?_
    refine cg_X1_9 hC16 dX1_findHeights_148 ?_
    refine ev_iconst dX1_findHeights_151 ?_
    refine ev_iload 3 rfl dX1_findHeights_152 ?_
    refine ev_aload_n 5 rfl dX1_findHeights_154 ?_
    refine cgE_X1_52 (v := S 13 a) hC16 hIS13 (by unfold SG; rw [eS15, upS_ne (by decide), eS11, upS_ne (by decide), eS7, upS_ne (by decide), eS3, upS_ne (by decide)]; omega) (by rw [eS15, upS_ne (by decide), eS11, upS_ne (by decide), eS7, upS_ne (by decide), eS3, upS_ne (by decide)]; first | assumption | omega) (by rw [eS15, upS_ne (by decide), eS11, upS_ne (by decide), eS7, upS_ne (by decide), eS3, upS_ne (by decide)]) dX1_findHeights_155 ?_
    refine ev_iconst dX1_findHeights_158 ?_
    refine ev_iadd dX1_findHeights_159 ?_
    refine c_X1_55 (k_rise E (f := r) (t := (S 13 a) + 1) (by omega) (by omega)) rfl rfl (Nat.le_of_ble_eq_true rfl) (by decide) dX1_findHeights_160 (kP ?_)
    refine ev_iload 2 rfl dX1_findHeights_163 ?_
    refine ev_aload_n 6 rfl dX1_findHeights_165 ?_
    refine cgE_X1_52 (v := S 13 b) hC16 hIS13 (by unfold SG; rw [eS15, upS_ne (by decide), eS11, upS_ne (by decide), eS7, upS_ne (by decide), eS3, upS_ne (by decide)]; omega) (by rw [eS15, upS_ne (by decide), eS11, upS_ne (by decide), eS7, upS_ne (by decide), eS3, upS_ne (by decide)]; first | assumption | omega) (by rw [eS15, upS_ne (by decide), eS11, upS_ne (by decide), eS7, upS_ne (by decide), eS3, upS_ne (by decide)]) dX1_findHeights_166 ?_
    refine ev_iconst dX1_findHeights_169 ?_
    refine ev_iadd dX1_findHeights_170 ?_
    refine c_X1_55 (k_rise E (f := s) (t := (S 13 b) + 1) (by omega) (by omega)) rfl rfl (Nat.le_of_ble_eq_true rfl) (by decide) dX1_findHeights_171 (kP ?_)
    refine c_X1_62 (j_min E (a := riseZ r ((S 13 a) + 1)) (b := riseZ s ((S 13 b) + 1)) (by first | assumption | exact hR _ _ | exact hRS1 _ _ | exact hRS5 _ _ | exact hRS9 _ _ | exact hRS13 _ _ | decide | (simp only [InR]; omega)) (by first | assumption | exact hR _ _ | exact hRS1 _ _ | exact hRS5 _ _ | exact hRS9 _ _ | exact hRS13 _ _ | decide | (simp only [InR]; omega))) rfl rfl (Nat.le_of_ble_eq_true rfl) (by decide) dX1_findHeights_174 (kP ?_)
    refine c_st (k := 10) (s := 50) hC16 (by decide) rfl (by decide) dX1_findHeights_177 (by omega) (by show _ < ((7 : Nat) : Int); omega) (by first | assumption | exact hR _ _ | exact hRS1 _ _ | exact hRS5 _ _ | exact hRS9 _ _ | exact hRS13 _ _ | decide | (simp only [InR]; omega)) (fun S17 h18 eS19 hC20 => ?_)
    have hRS17 := hC20.2.2
    have hxS17 : eqx scc S S17 := by rw [eS19]; exact (hxS13).up (by decide)
    have hIS17 := Inv.xc hI hxS17
    refine ev_iconst dX1_findHeights_178 ?_
    refine ev_zreturn (by decide) dX1_findHeights_179 ?_
    exact ⟨_, rfl, S17, hC20, (show eqx [50] S S17 from by rw [eS19]; exact (show eqx [50] S S13 from by rw [eS15]; exact (show eqx [50] S S9 from by rw [eS11]; exact (show eqx [50] S S5 from by rw [eS7]; exact (show eqx [50] S S1 from by rw [eS3]; exact (eqx.rf (l := [50]) (S := S)).up (by decide)).up (by decide)).up (by decide)).up (by decide)).up (by decide)), Or.inl ⟨rfl, by omega, by rw [eS19, upS_nz (by decide), eS15, upS_nz (by decide), eS11, upS_nz (by decide), eS7, upS_nz (by decide), eS3, upS_at], by rw [eS19, upS_nz (by decide), eS15, upS_nz (by decide), eS11, upS_nz (by decide), eS7, upS_at], by rw [eS19, upS_nz (by decide), eS15, upS_nz (by decide), eS11, upS_at], by rw [eS19, upS_nz (by decide), eS15, upS_at], by rw [eS19, upS_at], by rw [eS19, upS_nz (by decide), eS15, upS_nz (by decide), eS11, upS_nz (by decide), eS7, upS_nz (by decide), eS3, upS_nz (by decide)]; exact hr, by rw [eS19, upS_nz (by decide), eS15, upS_nz (by decide), eS11, upS_nz (by decide), eS7, upS_nz (by decide), eS3, upS_nz (by decide)]; exact hs⟩⟩
  · refine ev_iconst dX1_findHeights_51 ?_
    refine ev_zreturn (by decide) dX1_findHeights_52 ?_
    exact ⟨_, rfl, S, hC, eqx.rf, Or.inr ⟨rfl, by omega⟩⟩

set_option maxHeartbeats 4000000 in
set_option maxRecDepth 100000 in
theorem k_find {E : EV} {h : AH} {A : AD} {S : MS} {a b th : Int} (hC : CR E A S h) (hI : Inv S) (ga : SG S a) (gb : SG S b) (ka : S 8 a ≠ 0) (kb : S 8 b ≠ 0) (hth : th = S 16 0) : CM E yX1_find cX1_find 11 (some .boolean) 4 0 0 [.ref (A 9 0), .ref (A 21 a), .ref (A 21 b), vI (th)] h (qI (fun z h' => ∃ S', CR E A S' h' ∧ eqx [50] S S' ∧ ((z = 1 ∧ CrP S a b ∧ S' 50 0 = xZ S a b ∧ S' 50 1 = yZ S a b ∧ S' 50 2 = hZ S a b ∧ S' 50 3 = loZ S a b ∧ S' 50 4 = upZ S a b ∧ S' 50 5 = rZ S a b ∧ S' 50 6 = sZ S a b) ∨ (z = 0 ∧ ¬ CrP S a b)))) := by
  have hR := hC.2.2
  have hJ := hI
  obtain ⟨i1, i2, i3, i4, i5, i6, iSt, iSi, iWa, iSh, iLa, iS0, iS1, iZe⟩ := hJ
  obtain ⟨p1, p2, p3, p4, p5, p6, p7, p8⟩ := iSi a ga.1 ga.2
  obtain ⟨pt1, pt2, pt3⟩ := iSt _ p2.1 p2.2
  obtain ⟨q1, q2, q3, q4, q5, q6, q7, q8⟩ := iSi b gb.1 gb.2
  obtain ⟨qt1, qt2, qt3⟩ := iSt _ q2.1 q2.2
  have w0 := dZ_b S a b
  have w1 := nZ_b (X := S 3 (S 9 b) - S 3 (S 9 a)) (Y := S 4 (S 9 b) - S 4 (S 9 a)) (c := S 12 b) (by omega) (by omega)
  have w2 := nZ_b (X := S 3 (S 9 b) - S 3 (S 9 a)) (Y := S 4 (S 9 b) - S 4 (S 9 a)) (c := S 12 a) (by omega) (by omega)
  have w3 := tdiv_b (b := dZ S a b) w1
  have w4 := tdiv_b (b := dZ S a b) w2
  have w5 := cosZ_b (S 12 b)
  have w6 := sinZ_b (S 12 b)
  have w7 := cosZ_b (S 12 a)
  have w8 := sinZ_b (S 12 a)
  have w9 : -4000000000 ≤ rZ S a b ∧ rZ S a b ≤ 4000000000 := w3
  have w10 : -4000000000 ≤ sZ S a b ∧ sZ S a b ≤ 4000000000 := w4
  have w11 := mul_b (sinZ_b (S 12 a)) (cosZ_b (S 12 b)) (by decide)
  have w12 := mul_b (cosZ_b (S 12 a)) (sinZ_b (S 12 b)) (by decide)
  refine CM.of (by decide) (Nat.le_of_ble_eq_true rfl) (L := [(0, .ref (A 9 0)), (1, .ref (A 21 a)), (2, .ref (A 21 b)), (3, vI (th))]) rfl ?_
  refine ev_aload_n 1 rfl dX1_find_0 ?_
  refine cgR_X1_13 (i := a) (v := S 9 a) hC hI (by unfold SG; omega) (by first | assumption | omega) rfl dX1_find_1 ?_
  refine cg_X1_19 hC (by omega) dX1_find_4 ?_
  refine ev_aload_n 2 rfl dX1_find_7 ?_
  refine cgR_X1_13 (i := b) (v := S 9 b) hC hI (by unfold SG; omega) (by first | assumption | omega) rfl dX1_find_8 ?_
  refine cg_X1_19 hC (by omega) dX1_find_11 ?_
  refine ev_icmp_ne (tgt := 19) dX1_find_14 (by first | assumption | exact hR _ _ | decide | (simp only [InR]; omega)) (by first | assumption | exact hR _ _ | decide | (simp only [InR]; omega)) (by decide) (fun c14 => ?_) (fun c14 => ?_)
  · refine ev_aload_n 1 rfl dX1_find_19 ?_
    refine cg_X1_25 hC hI (by unfold SG; omega) (by first | assumption | omega) dX1_find_20 ?_
    refine ev_aload_n 2 rfl dX1_find_23 ?_
    refine cg_X1_28 hC hI (by unfold SG; omega) (by first | assumption | omega) dX1_find_24 ?_
    refine ev_imul dX1_find_27 ?_
    refine ev_aload_n 1 rfl dX1_find_28 ?_
    refine cg_X1_28 hC hI (by unfold SG; omega) (by first | assumption | omega) dX1_find_29 ?_
    refine ev_aload_n 2 rfl dX1_find_32 ?_
    refine cg_X1_25 hC hI (by unfold SG; omega) (by first | assumption | omega) dX1_find_33 ?_
    refine ev_imul dX1_find_36 ?_
    refine ev_isub dX1_find_37 ?_
    refine ev_ren (b := dZ S a b) (rfl) ?_
    refine ev_istore (L' := [(4, vI (dZ S a b)), (0, .ref (A 9 0)), (1, .ref (A 21 a)), (2, .ref (A 21 b)), (3, vI (th))]) dX1_find_38 (by decide) rfl ?_
    refine ev_iload 0 rfl dX1_find_40 ?_
    refine c_X1_31 (j_abs E (a := dZ S a b) (by first | assumption | exact hR _ _ | decide | (simp only [InR]; omega))) rfl rfl (Nat.le_of_ble_eq_true rfl) (by decide) dX1_find_42 (kP ?_)
    refine ev_ldc (z := 50000) dX1_find_45 k_X1_37 (by decide) ?_
    refine ev_icmp_ge (tgt := 52) dX1_find_47 (by first | assumption | exact hR _ _ | decide | (simp only [InR]; omega)) (by decide) (by decide) (fun c47 => ?_) (fun c47 => ?_)
    · refine ev_aload_n 3 rfl dX1_find_52 ?_
      refine cgR_X1_13 (i := b) (v := S 9 b) hC hI (by unfold SG; omega) (by first | assumption | omega) rfl dX1_find_53 ?_
      refine cg_X1_38 hC (by omega) dX1_find_56 ?_
      refine ev_aload_n 2 rfl dX1_find_59 ?_
      refine cgR_X1_13 (i := a) (v := S 9 a) hC hI (by unfold SG; omega) (by first | assumption | omega) rfl dX1_find_60 ?_
      refine cg_X1_38 hC (by omega) dX1_find_63 ?_
      refine ev_isub dX1_find_66 ?_
      refine ev_istore (L' := [(5, vI ((S 3 (S 9 b)) - (S 3 (S 9 a)))), (4, vI (dZ S a b)), (0, .ref (A 9 0)), (1, .ref (A 21 a)), (2, .ref (A 21 b)), (3, vI (th))]) dX1_find_67 (by decide) rfl ?_
      refine ev_aload_n 4 rfl dX1_find_69 ?_
      refine cgR_X1_13 (i := b) (v := S 9 b) hC hI (by unfold SG; omega) (by first | assumption | omega) rfl dX1_find_70 ?_
      refine cg_X1_41 hC (by omega) dX1_find_73 ?_
      refine ev_aload_n 3 rfl dX1_find_76 ?_
      refine cgR_X1_13 (i := a) (v := S 9 a) hC hI (by unfold SG; omega) (by first | assumption | omega) rfl dX1_find_77 ?_
      refine cg_X1_41 hC (by omega) dX1_find_80 ?_
      refine ev_isub dX1_find_83 ?_
      refine ev_istore (L' := [(6, vI ((S 4 (S 9 b)) - (S 4 (S 9 a)))), (5, vI ((S 3 (S 9 b)) - (S 3 (S 9 a)))), (4, vI (dZ S a b)), (0, .ref (A 9 0)), (1, .ref (A 21 a)), (2, .ref (A 21 b)), (3, vI (th))]) dX1_find_84 (by decide) rfl ?_
      refine ev_ldc2 (z := 1000) dX1_find_86 k_X1_44 (by decide) ?_
      refine ev_iload 1 rfl dX1_find_89 ?_
      refine ev_aload_n 5 rfl dX1_find_91 ?_
      refine cg_X1_28 hC hI (by unfold SG; omega) (by first | assumption | omega) dX1_find_92 ?_
      refine ev_imul dX1_find_95 ?_
      refine ev_iload 0 rfl dX1_find_96 ?_
      refine ev_aload_n 5 rfl dX1_find_98 ?_
      refine cg_X1_25 hC hI (by unfold SG; omega) (by first | assumption | omega) dX1_find_99 ?_
      refine ev_imul dX1_find_102 ?_
      refine ev_isub dX1_find_103 ?_
      refine ev_i2l dX1_find_104 (by first | assumption | exact hR _ _ | decide | (simp only [InR]; omega)) ?_
      refine ev_lmul dX1_find_105 ?_
      refine ev_iload 2 rfl dX1_find_106 ?_
      refine ev_i2l dX1_find_108 (by first | assumption | exact hR _ _ | decide | (simp only [InR]; omega)) ?_
      refine ev_ldiv dX1_find_109 (by first | assumption | exact hR _ _ | exact (hR _ _).l | decide | (simp only [InL]; omega)) (by first | assumption | exact hR _ _ | exact (hR _ _).l | decide | (simp only [InL]; omega)) (by omega) (by first | assumption | exact hR _ _ | exact (hR _ _).l | decide | (simp only [InL]; omega)) ?_
      refine ev_renL (b := rZ S a b) (rfl) ?_
      refine ev_lstore (L' := [(7, vL (rZ S a b)), (6, vI ((S 4 (S 9 b)) - (S 4 (S 9 a)))), (5, vI ((S 3 (S 9 b)) - (S 3 (S 9 a)))), (4, vI (dZ S a b)), (0, .ref (A 9 0)), (1, .ref (A 21 a)), (2, .ref (A 21 b)), (3, vI (th))]) dX1_find_110 (by decide) rfl ?_
      refine ev_ldc2 (z := 1000) dX1_find_112 k_X1_44 (by decide) ?_
      refine ev_iload 2 rfl dX1_find_115 ?_
      refine ev_aload_n 5 rfl dX1_find_117 ?_
      refine cg_X1_28 hC hI (by unfold SG; omega) (by first | assumption | omega) dX1_find_118 ?_
      refine ev_imul dX1_find_121 ?_
      refine ev_iload 1 rfl dX1_find_122 ?_
      refine ev_aload_n 5 rfl dX1_find_124 ?_
      refine cg_X1_25 hC hI (by unfold SG; omega) (by first | assumption | omega) dX1_find_125 ?_
      refine ev_imul dX1_find_128 ?_
      refine ev_isub dX1_find_129 ?_
      refine ev_i2l dX1_find_130 (by first | assumption | exact hR _ _ | decide | (simp only [InR]; omega)) ?_
      refine ev_lmul dX1_find_131 ?_
      refine ev_iload 3 rfl dX1_find_132 ?_
      refine ev_i2l dX1_find_134 (by first | assumption | exact hR _ _ | decide | (simp only [InR]; omega)) ?_
      refine ev_ldiv dX1_find_135 (by first | assumption | exact hR _ _ | exact (hR _ _).l | decide | (simp only [InL]; omega)) (by first | assumption | exact hR _ _ | exact (hR _ _).l | decide | (simp only [InL]; omega)) (by omega) (by first | assumption | exact hR _ _ | exact (hR _ _).l | decide | (simp only [InL]; omega)) ?_
      refine ev_renL (b := sZ S a b) (rfl) ?_
      refine ev_lstore (L' := [(9, vL (sZ S a b)), (7, vL (rZ S a b)), (6, vI ((S 4 (S 9 b)) - (S 4 (S 9 a)))), (5, vI ((S 3 (S 9 b)) - (S 3 (S 9 a)))), (4, vI (dZ S a b)), (0, .ref (A 9 0)), (1, .ref (A 21 a)), (2, .ref (A 21 b)), (3, vI (th))]) dX1_find_136 (by decide) rfl ?_
      refine ev_lload 1 rfl dX1_find_138 ?_
      refine ev_lconst (z := 1) dX1_find_140 (by decide) ?_
      refine ev_lcmp_lt (tgt := 170) dX1_find_141 dX1_find_142 (by first | assumption | exact hR _ _ | exact (hR _ _).l | decide | (simp only [InL]; omega)) (by decide) (by decide) (fun c141 => ?_) (fun c141 => ?_)
      · refine ev_iconst dX1_find_170 ?_
        refine ev_zreturn (by decide) dX1_find_171 ?_
        exact ⟨_, rfl, S, hC, (eqx.rf (l := [50]) (S := S)), Or.inr ⟨rfl, fun q => by unfold CrP at q; omega⟩⟩
      · refine ev_lload 1 rfl dX1_find_145 ?_
        refine ev_ldc2 (z := 1500) dX1_find_147 k_X1_46 (by decide) ?_
        refine ev_lcmp_gt (tgt := 170) dX1_find_150 dX1_find_151 (by first | assumption | exact hR _ _ | exact (hR _ _).l | decide | (simp only [InL]; omega)) (by decide) (by decide) (fun c150 => ?_) (fun c150 => ?_)
        · refine ev_iconst dX1_find_170 ?_
          refine ev_zreturn (by decide) dX1_find_171 ?_
          exact ⟨_, rfl, S, hC, (eqx.rf (l := [50]) (S := S)), Or.inr ⟨rfl, fun q => by unfold CrP at q; omega⟩⟩
        · refine ev_lload 0 rfl dX1_find_154 ?_
          refine ev_lconst (z := 1) dX1_find_156 (by decide) ?_
          refine ev_lcmp_lt (tgt := 170) dX1_find_157 dX1_find_158 (by first | assumption | exact hR _ _ | exact (hR _ _).l | decide | (simp only [InL]; omega)) (by decide) (by decide) (fun c157 => ?_) (fun c157 => ?_)
          · refine ev_iconst dX1_find_170 ?_
            refine ev_zreturn (by decide) dX1_find_171 ?_
            exact ⟨_, rfl, S, hC, (eqx.rf (l := [50]) (S := S)), Or.inr ⟨rfl, fun q => by unfold CrP at q; omega⟩⟩
          · refine ev_lload 0 rfl dX1_find_161 ?_
            refine ev_ldc2 (z := 1500) dX1_find_163 k_X1_46 (by decide) ?_
            refine ev_lcmp_le (tgt := 172) dX1_find_166 dX1_find_167 (by first | assumption | exact hR _ _ | exact (hR _ _).l | decide | (simp only [InL]; omega)) (by decide) (by decide) (fun c166 => ?_) (fun c166 => ?_)
            · refine ev_aload_n 5 rfl dX1_find_172 ?_
              refine cg_X1_9 hC dX1_find_173 ?_
              refine ev_iconst dX1_find_176 ?_
              refine ev_lload 1 rfl dX1_find_177 ?_
              refine ev_l2i dX1_find_179 ?_
              refine c_st (k := 10) (s := 50) hC (by decide) rfl (by decide) dX1_find_180 (by omega) (by show _ < ((7 : Nat) : Int); omega) (by first | assumption | exact hR _ _ | decide | (simp only [InR]; omega)) (fun S1 h2 eS3 hC4 => ?_)
              have hRS1 := hC4.2.2
              have hxS1 : eqx scc S S1 := by rw [eS3]; exact (eqx.rf (l := scc) (S := S)).up (by decide)
              have hIS1 := Inv.xc hI hxS1
              refine ev_aload_n 5 rfl dX1_find_181 ?_
              refine cg_X1_9 hC4 dX1_find_182 ?_
              refine ev_bipush dX1_find_185 (by decide) ?_
              refine ev_lload 0 rfl dX1_find_187 ?_
              refine ev_l2i dX1_find_189 ?_
              refine c_st (k := 10) (s := 50) hC4 (by decide) rfl (by decide) dX1_find_190 (by omega) (by show _ < ((7 : Nat) : Int); omega) (by first | assumption | exact hR _ _ | exact hRS1 _ _ | decide | (simp only [InR]; omega)) (fun S5 h6 eS7 hC8 => ?_)
              have hRS5 := hC8.2.2
              have hxS5 : eqx scc S S5 := by rw [eS7]; exact (hxS1).up (by decide)
              have hIS5 := Inv.xc hI hxS5
              refine ev_aload_n 5 rfl dX1_find_191 ?_
              refine ev_aload_n 6 rfl dX1_find_192 ?_
              refine ev_aload_n 7 rfl dX1_find_193 ?_
              refine ev_iload_n 8 rfl dX1_find_194 ?_
              refine c_X1_48 (k_findHeights (a := a) (b := b) (r := rZ S a b) (s := sZ S a b) (th := th) hC8 hIS5 (by unfold SG; rw [hxS5 7 (by decide)]; omega) (by unfold SG; rw [hxS5 7 (by decide)]; omega) (by rw [hxS5 8 (by decide)]; exact ka) (by rw [hxS5 8 (by decide)]; exact kb) (by rw [eS7, upS_nz (by decide), eS3, upS_at]) (by rw [eS7, upS_at]) (by omega) (by omega) (by omega)) hC8.k9 rfl rfl (Nat.le_of_ble_eq_true rfl) (by decide) dX1_find_195 (kI (fun z9 h10 hqz9 => ?_))
              rw [hxS5 3 (by decide), hxS5 4 (by decide), hxS5 9 (by decide), hxS5 12 (by decide), hxS5 13 (by decide)] at hqz9
              obtain ⟨S11, hC12, ex13, hh⟩ := hqz9
              rcases hh with ⟨rfl, h0, h1⟩ | ⟨rfl, h0⟩
              · refine ev_zreturn (by decide) dX1_find_198 ?_
                exact ⟨_, rfl, S11, hC12, (eqx.tr (l := [50]) (show eqx [50] S S5 from by rw [eS7]; exact (show eqx [50] S S1 from by rw [eS3]; exact (eqx.rf (l := [50]) (S := S)).up (by decide)).up (by decide)) ex13 (by decide) (by decide)), Or.inl ⟨rfl, by unfold CrP; omega, h1.1, h1.2.1, h1.2.2.1, h1.2.2.2.1.trans (by unfold loZ; split <;> omega), h1.2.2.2.2.1.trans (by unfold upZ; split <;> omega), h1.2.2.2.2.2.1, h1.2.2.2.2.2.2⟩⟩
              · refine ev_zreturn (by decide) dX1_find_198 ?_
                exact ⟨_, rfl, S11, hC12, (eqx.tr (l := [50]) (show eqx [50] S S5 from by rw [eS7]; exact (show eqx [50] S S1 from by rw [eS3]; exact (eqx.rf (l := [50]) (S := S)).up (by decide)).up (by decide)) ex13 (by decide) (by decide)), Or.inr ⟨rfl, fun q => by unfold CrP at q; omega⟩⟩
            · refine ev_iconst dX1_find_170 ?_
              refine ev_zreturn (by decide) dX1_find_171 ?_
              exact ⟨_, rfl, S, hC, (eqx.rf (l := [50]) (S := S)), Or.inr ⟨rfl, fun q => by unfold CrP at q; omega⟩⟩
    · refine ev_iconst dX1_find_50 ?_
      refine ev_zreturn (by decide) dX1_find_51 ?_
      exact ⟨_, rfl, S, hC, (eqx.rf (l := [50]) (S := S)), Or.inr ⟨rfl, fun q => by unfold CrP at q; omega⟩⟩
  · refine ev_iconst dX1_find_17 ?_
    refine ev_zreturn (by decide) dX1_find_18 ?_
    exact ⟨_, rfl, S, hC, (eqx.rf (l := [50]) (S := S)), Or.inr ⟨rfl, fun q => by unfold CrP at q; omega⟩⟩

set_option maxHeartbeats 4000000 in
set_option maxRecDepth 100000 in
theorem k_meets {E : EV} {h : AH} {A : AD} {S : MS} {a b : Int} (hC : CR E A S h) (hI : Inv S) (g1 : InR a) (g2 : InR b) : CM E yX9_meets cX9_meets 7 (some .int) 5 0 0 [.ref (A 0 0), vI (a), vI (b)] h (qI (fun z h' => z = sp_meets S a b ∧ ∃ S', CR E A S' h' ∧ eqx [50] S S')) := by
  have hR := hC.2.2
  have hJ := hI
  obtain ⟨i1, i2, i3, i4, i5, i6, iSt, iSi, iWa, iSh, iLa, iS0, iS1, iZe⟩ := hJ
  refine CM.of (by decide) (Nat.le_of_ble_eq_true rfl) (L := [(0, .ref (A 0 0)), (1, vI (a)), (2, vI (b))]) rfl ?_
  refine ev_aload_n 0 rfl dX9_meets_0 ?_
  refine ev_iload_n 1 rfl dX9_meets_1 ?_
  refine c_X9_115 (k_sightingAt (a := a) hC hI (by first | assumption | exact hR _ _ | decide | (simp only [InR]; omega))) hC.k0 rfl rfl (Nat.le_of_ble_eq_true rfl) (by decide) dX9_meets_2 (kN (fun b2 => ?_) (fun b2 => ?_))
  · refine ev_astore_n (L' := [(3, .ref (A 21 a)), (0, .ref (A 0 0)), (1, vI (a)), (2, vI (b))]) dX9_meets_5 (by decide) rfl ?_
    refine ev_aload_n 1 rfl dX9_meets_6 ?_
    refine ev_iload_n 3 rfl dX9_meets_7 ?_
    refine c_X9_115 (k_sightingAt (a := b) hC hI (by first | assumption | exact hR _ _ | decide | (simp only [InR]; omega))) hC.k0 rfl rfl (Nat.le_of_ble_eq_true rfl) (by decide) dX9_meets_8 (kN (fun b8 => ?_) (fun b8 => ?_))
    · refine ev_astore (L' := [(4, .ref (A 21 b)), (3, .ref (A 21 a)), (0, .ref (A 0 0)), (1, vI (a)), (2, vI (b))]) dX9_meets_11 (by decide) rfl ?_
      refine ev_aload_n 1 rfl dX9_meets_13 ?_
      refine ev_ifnull dX9_meets_14 ?_
      refine ev_aload 0 rfl dX9_meets_17 ?_
      refine ev_ifnull dX9_meets_19 ?_
      refine ev_iload_n 3 rfl dX9_meets_22 ?_
      refine ev_iload_n 4 rfl dX9_meets_23 ?_
      refine ev_icmp_ne (tgt := 29) dX9_meets_24 (by first | assumption | exact hR _ _ | decide | (simp only [InR]; omega)) (by first | assumption | exact hR _ _ | decide | (simp only [InR]; omega)) (by decide) (fun c24 => ?_) (fun c24 => ?_)
      · refine ev_aload_n 1 rfl dX9_meets_29 ?_
        refine cio_X9_105 (i := a) hC hI (by unfold SG; omega) dX9_meets_30 (fun c30 => ?_) (fun c30 => ?_)
        · refine ev_if_eq (tgt := 93) dX9_meets_33 (by decide) (by decide) (fun c => absurd c (by decide)) (fun _ => ?_)
          refine ev_aload_n 1 rfl dX9_meets_36 ?_
          refine ccs_X9_105 (i := a) hC hI (by unfold SG; omega) (by first | assumption | omega) dX9_meets_37 ?_
          refine ev_astore (L' := [(5, .ref (A 21 a)), (4, .ref (A 21 b)), (3, .ref (A 21 a)), (0, .ref (A 0 0)), (1, vI (a)), (2, vI (b))]) dX9_meets_40 (by decide) rfl ?_
          refine ev_aload 1 rfl dX9_meets_42 ?_
          refine cio_X9_105 (i := b) hC hI (by unfold SG; omega) dX9_meets_44 (fun c44 => ?_) (fun c44 => ?_)
          · refine ev_if_eq (tgt := 93) dX9_meets_47 (by decide) (by decide) (fun c => absurd c (by decide)) (fun _ => ?_)
            refine ev_aload 1 rfl dX9_meets_50 ?_
            refine ccs_X9_105 (i := b) hC hI (by unfold SG; omega) (by first | assumption | omega) dX9_meets_52 ?_
            refine ev_astore (L' := [(6, .ref (A 21 b)), (5, .ref (A 21 a)), (4, .ref (A 21 b)), (3, .ref (A 21 a)), (0, .ref (A 0 0)), (1, vI (a)), (2, vI (b))]) dX9_meets_55 (by decide) rfl ?_
            refine ev_aload_n 4 rfl dX9_meets_57 ?_
            refine cg_X9_49 hC dX9_meets_58 ?_
            refine ev_aload 1 rfl dX9_meets_61 ?_
            refine ev_aload 0 rfl dX9_meets_63 ?_
            refine ev_aload_n 4 rfl dX9_meets_65 ?_
            refine cg_X9_60 hC dX9_meets_66 ?_
            refine c_X9_165 (k_find (a := a) (b := b) (th := S 16 0) hC hI (by unfold SG; omega) (by unfold SG; omega) (by first | assumption | omega) (by first | assumption | omega) rfl) hC.k9 rfl rfl (Nat.le_of_ble_eq_true rfl) (by decide) dX9_meets_69 (kI (fun z1 h2 hqz1 => ?_))
            obtain ⟨S3, hC4, ex5, ⟨rfl, b69, v69⟩ | ⟨rfl, b69⟩⟩ := hqz1
            · have hRS3 := hC4.2.2
              have hxS3 : eqx scc S S3 := (eqx.rf (l := scc) (S := S)).tr ex5 (by decide) (by decide)
              have hIS3 := Inv.xc hI hxS3
              refine ev_if_ne (tgt := 77) dX9_meets_72 (by decide) (by decide) (fun _ => ?_) (fun c => absurd c (by decide))
              refine ev_aload 1 rfl dX9_meets_77 ?_
              refine ev_aload 0 rfl dX9_meets_79 ?_
              refine cv_X9_169 hC4 hIS3 (by unfold SG; rw [ex5 7 (by decide)]; omega) (by rw [ex5 8 (by decide)]; first | assumption | omega) (k_atOnce (a := a) (b := b) hC4 hIS3 (by unfold SG; rw [ex5 7 (by decide)]; omega) (by unfold SG; rw [ex5 7 (by decide)]; omega) (by rw [ex5 8 (by decide)]; first | assumption | omega) (by rw [ex5 8 (by decide)]; first | assumption | omega)) rfl rfl (Nat.le_of_ble_eq_true rfl) (by decide) dX9_meets_81 (kB (fun b81 => ?_) (fun b81 => ?_))
              · rw [hxS3 10 (by decide), frZ_xc hxS3, laZ_xc hxS3, frZ_xc hxS3, laZ_xc hxS3] at b81
                refine ev_if_eq (tgt := 91) dX9_meets_84 (by decide) (by decide) (fun c => absurd c (by decide)) (fun _ => ?_)
                refine ev_iconst dX9_meets_87 ?_
                refine ev_goto (tgt := 92) dX9_meets_88 (by decide) ?_
                refine ev_ireturn dX9_meets_92 ?_
                refine ⟨_, rfl, ?_, S3, hC4, (eqx.tr (l := [50]) (eqx.rf (l := [50]) (S := S)) ex5 (by decide) (by decide))⟩
                simp only [sp_meets]; rw [if_neg (by omega), if_neg (by omega)]; rw [iteP_pos ⟨b69, b81.1, b81.2.1, b81.2.2⟩]
              · rw [hxS3 10 (by decide), frZ_xc hxS3, laZ_xc hxS3, frZ_xc hxS3, laZ_xc hxS3] at b81
                refine ev_if_eq (tgt := 91) dX9_meets_84 (by decide) (by decide) (fun _ => ?_) (fun c => absurd c (by decide))
                refine ev_iconst dX9_meets_91 ?_
                refine ev_ireturn dX9_meets_92 ?_
                refine ⟨_, rfl, ?_, S3, hC4, (eqx.tr (l := [50]) (eqx.rf (l := [50]) (S := S)) ex5 (by decide) (by decide))⟩
                simp only [sp_meets]; rw [if_neg (by omega), if_neg (by omega)]; rw [iteP_neg (fun q => b81 ⟨q.2.1, q.2.2.1, q.2.2.2⟩), iteP_pos b69]
            · have hRS3 := hC4.2.2
              have hxS3 : eqx scc S S3 := (eqx.rf (l := scc) (S := S)).tr ex5 (by decide) (by decide)
              have hIS3 := Inv.xc hI hxS3
              refine ev_if_ne (tgt := 77) dX9_meets_72 (by decide) (by decide) (fun c => absurd c (by decide)) (fun _ => ?_)
              refine ev_iconst dX9_meets_75 ?_
              refine ev_ireturn dX9_meets_76 ?_
              refine ⟨_, rfl, ?_, S3, hC4, (eqx.tr (l := [50]) (eqx.rf (l := [50]) (S := S)) ex5 (by decide) (by decide))⟩
              simp only [sp_meets]; rw [if_neg (by omega), if_neg (by omega)]; rw [iteP_neg (fun q => absurd q.1 b69), iteP_neg b69]
          · refine ev_if_eq (tgt := 93) dX9_meets_47 (by decide) (by decide) (fun _ => ?_) (fun c => absurd c (by decide))
            refine ev_bipush dX9_meets_93 (by decide) ?_
            refine ev_ireturn dX9_meets_95 ?_
            refine ⟨_, rfl, ?_, S, hC, (eqx.rf (l := [50]) (S := S))⟩
            simp only [sp_meets]; first | (rw [if_pos (by omega)]; done) | (rw [if_neg (by omega), if_pos (by omega)]; done)
        · refine ev_if_eq (tgt := 93) dX9_meets_33 (by decide) (by decide) (fun _ => ?_) (fun c => absurd c (by decide))
          refine ev_bipush dX9_meets_93 (by decide) ?_
          refine ev_ireturn dX9_meets_95 ?_
          refine ⟨_, rfl, ?_, S, hC, (eqx.rf (l := [50]) (S := S))⟩
          simp only [sp_meets]; first | (rw [if_pos (by omega)]; done) | (rw [if_neg (by omega), if_pos (by omega)]; done)
      · refine ev_iconst dX9_meets_27 ?_
        refine ev_ireturn dX9_meets_28 ?_
        refine ⟨_, rfl, ?_, S, hC, (eqx.rf (l := [50]) (S := S))⟩
        simp only [sp_meets]; first | (rw [if_pos (by omega)]; done) | (rw [if_neg (by omega), if_pos (by omega)]; done)
    · refine ev_astoreN (L' := [(4, .null), (3, .ref (A 21 a)), (0, .ref (A 0 0)), (1, vI (a)), (2, vI (b))]) dX9_meets_11 (by decide) rfl ?_
      refine ev_aload_n 1 rfl dX9_meets_13 ?_
      refine ev_ifnull dX9_meets_14 ?_
      refine ev_aloadN 0 rfl dX9_meets_17 ?_
      refine ev_ifnullN (tgt := 27) dX9_meets_19 (by decide) ?_
      refine ev_iconst dX9_meets_27 ?_
      refine ev_ireturn dX9_meets_28 ?_
      refine ⟨_, rfl, ?_, S, hC, (eqx.rf (l := [50]) (S := S))⟩
      simp only [sp_meets]; first | (rw [if_pos (by omega)]; done) | (rw [if_neg (by omega), if_pos (by omega)]; done)
  · refine ev_astore_nN (L' := [(3, .null), (0, .ref (A 0 0)), (1, vI (a)), (2, vI (b))]) dX9_meets_5 (by decide) rfl ?_
    refine ev_aload_n 1 rfl dX9_meets_6 ?_
    refine ev_iload_n 3 rfl dX9_meets_7 ?_
    refine c_X9_115 (k_sightingAt (a := b) hC hI (by first | assumption | exact hR _ _ | decide | (simp only [InR]; omega))) hC.k0 rfl rfl (Nat.le_of_ble_eq_true rfl) (by decide) dX9_meets_8 (kN (fun b8 => ?_) (fun b8 => ?_))
    · refine ev_astore (L' := [(4, .ref (A 21 b)), (3, .null), (0, .ref (A 0 0)), (1, vI (a)), (2, vI (b))]) dX9_meets_11 (by decide) rfl ?_
      refine ev_aload_nN 1 rfl dX9_meets_13 ?_
      refine ev_ifnullN (tgt := 27) dX9_meets_14 (by decide) ?_
      refine ev_iconst dX9_meets_27 ?_
      refine ev_ireturn dX9_meets_28 ?_
      refine ⟨_, rfl, ?_, S, hC, (eqx.rf (l := [50]) (S := S))⟩
      simp only [sp_meets]; first | (rw [if_pos (by omega)]; done) | (rw [if_neg (by omega), if_pos (by omega)]; done)
    · refine ev_astoreN (L' := [(4, .null), (3, .null), (0, .ref (A 0 0)), (1, vI (a)), (2, vI (b))]) dX9_meets_11 (by decide) rfl ?_
      refine ev_aload_nN 1 rfl dX9_meets_13 ?_
      refine ev_ifnullN (tgt := 27) dX9_meets_14 (by decide) ?_
      refine ev_iconst dX9_meets_27 ?_
      refine ev_ireturn dX9_meets_28 ?_
      refine ⟨_, rfl, ?_, S, hC, (eqx.rf (l := [50]) (S := S))⟩
      simp only [sp_meets]; first | (rw [if_pos (by omega)]; done) | (rw [if_neg (by omega), if_pos (by omega)]; done)

set_option maxHeartbeats 4000000 in
set_option maxRecDepth 100000 in
theorem k_cross {E : EV} {h : AH} {A : AD} {S : MS} {a b w : Int} (hC : CR E A S h) (hI : Inv S) (g1 : InR a) (g2 : InR b) (g3 : InR w) : CM E yX9_cross cX9_cross 8 (some .int) 5 0 0 [.ref (A 0 0), vI (a), vI (b), vI (w)] h (qI (fun z h' => z = sp_cross S a b w ∧ ∃ S', CR E A S' h' ∧ eqx [50] S S')) := by
  have hR := hC.2.2
  have hJ := hI
  obtain ⟨i1, i2, i3, i4, i5, i6, iSt, iSi, iWa, iSh, iLa, iS0, iS1, iZe⟩ := hJ
  refine CM.of (by decide) (Nat.le_of_ble_eq_true rfl) (L := [(0, .ref (A 0 0)), (1, vI (a)), (2, vI (b)), (3, vI (w))]) rfl ?_
  refine ev_aload_n 0 rfl dX9_cross_0 ?_
  refine ev_iload_n 1 rfl dX9_cross_1 ?_
  refine c_X9_115 (k_sightingAt (a := a) hC hI (by first | assumption | exact hR _ _ | decide | (simp only [InR]; omega))) hC.k0 rfl rfl (Nat.le_of_ble_eq_true rfl) (by decide) dX9_cross_2 (kN (fun b2 => ?_) (fun b2 => ?_))
  · refine ev_astore (L' := [(4, .ref (A 21 a)), (0, .ref (A 0 0)), (1, vI (a)), (2, vI (b)), (3, vI (w))]) dX9_cross_5 (by decide) rfl ?_
    refine ev_aload_n 1 rfl dX9_cross_7 ?_
    refine ev_iload_n 3 rfl dX9_cross_8 ?_
    refine c_X9_115 (k_sightingAt (a := b) hC hI (by first | assumption | exact hR _ _ | decide | (simp only [InR]; omega))) hC.k0 rfl rfl (Nat.le_of_ble_eq_true rfl) (by decide) dX9_cross_9 (kN (fun b9 => ?_) (fun b9 => ?_))
    · refine ev_astore (L' := [(5, .ref (A 21 b)), (4, .ref (A 21 a)), (0, .ref (A 0 0)), (1, vI (a)), (2, vI (b)), (3, vI (w))]) dX9_cross_12 (by decide) rfl ?_
      refine ev_aload 1 rfl dX9_cross_14 ?_
      refine ev_ifnull dX9_cross_16 ?_
      refine ev_aload 0 rfl dX9_cross_19 ?_
      refine ev_ifnull dX9_cross_21 ?_
      refine ev_iload_n 3 rfl dX9_cross_24 ?_
      refine ev_iload_n 4 rfl dX9_cross_25 ?_
      refine ev_icmp_eq (tgt := 39) dX9_cross_26 (by first | assumption | exact hR _ _ | decide | (simp only [InR]; omega)) (by first | assumption | exact hR _ _ | decide | (simp only [InR]; omega)) (by decide) (fun c26 => ?_) (fun c26 => ?_)
      · refine ev_ldc (z := -100001) dX9_cross_39 k_X9_164 (by decide) ?_
        refine ev_ireturn dX9_cross_41 ?_
        refine ⟨_, rfl, ?_, S, hC, (eqx.rf (l := [50]) (S := S))⟩
        simp only [sp_cross]; first | (rw [if_pos (by omega)]; done) | (rw [if_neg (by omega), if_pos (by omega)]; done)
      · refine ev_iload_n 5 rfl dX9_cross_29 ?_
        refine ev_iconst dX9_cross_30 ?_
        refine ev_bipush dX9_cross_31 (by decide) ?_
        refine c_X9_67 (k_isWithin E (v := w) (a := 0) (b := 6) (by first | assumption | exact hR _ _ | decide | (simp only [InR]; omega)) (by decide) (by decide)) rfl rfl (Nat.le_of_ble_eq_true rfl) (by decide) dX9_cross_33 (kB (fun b33 => ?_) (fun b33 => ?_))
        · refine ev_if_ne (tgt := 42) dX9_cross_36 (by decide) (by decide) (fun _ => ?_) (fun c => absurd c (by decide))
          refine ev_aload 1 rfl dX9_cross_42 ?_
          refine cio_X9_105 (i := a) hC hI (by unfold SG; omega) dX9_cross_44 (fun c44 => ?_) (fun c44 => ?_)
          · refine ev_if_eq (tgt := 105) dX9_cross_47 (by decide) (by decide) (fun c => absurd c (by decide)) (fun _ => ?_)
            refine ev_aload 1 rfl dX9_cross_50 ?_
            refine ccs_X9_105 (i := a) hC hI (by unfold SG; omega) (by first | assumption | omega) dX9_cross_52 ?_
            refine ev_astore (L' := [(6, .ref (A 21 a)), (5, .ref (A 21 b)), (4, .ref (A 21 a)), (0, .ref (A 0 0)), (1, vI (a)), (2, vI (b)), (3, vI (w))]) dX9_cross_55 (by decide) rfl ?_
            refine ev_aload 1 rfl dX9_cross_57 ?_
            refine cio_X9_105 (i := b) hC hI (by unfold SG; omega) dX9_cross_59 (fun c59 => ?_) (fun c59 => ?_)
            · refine ev_if_eq (tgt := 105) dX9_cross_62 (by decide) (by decide) (fun c => absurd c (by decide)) (fun _ => ?_)
              refine ev_aload 1 rfl dX9_cross_65 ?_
              refine ccs_X9_105 (i := b) hC hI (by unfold SG; omega) (by first | assumption | omega) dX9_cross_67 ?_
              refine ev_astore (L' := [(7, .ref (A 21 b)), (6, .ref (A 21 a)), (5, .ref (A 21 b)), (4, .ref (A 21 a)), (0, .ref (A 0 0)), (1, vI (a)), (2, vI (b)), (3, vI (w))]) dX9_cross_70 (by decide) rfl ?_
              refine ev_aload_n 4 rfl dX9_cross_72 ?_
              refine cg_X9_49 hC dX9_cross_73 ?_
              refine ev_aload 1 rfl dX9_cross_76 ?_
              refine ev_aload 0 rfl dX9_cross_78 ?_
              refine ev_aload_n 4 rfl dX9_cross_80 ?_
              refine cg_X9_60 hC dX9_cross_81 ?_
              refine c_X9_165 (k_find (a := a) (b := b) (th := S 16 0) hC hI (by unfold SG; omega) (by unfold SG; omega) (by first | assumption | omega) (by first | assumption | omega) rfl) hC.k9 rfl rfl (Nat.le_of_ble_eq_true rfl) (by decide) dX9_cross_84 (kI (fun z1 h2 hqz1 => ?_))
              obtain ⟨S3, hC4, ex5, ⟨rfl, b84, v84⟩ | ⟨rfl, b84⟩⟩ := hqz1
              · have hRS3 := hC4.2.2
                have hxS3 : eqx scc S S3 := (eqx.rf (l := scc) (S := S)).tr ex5 (by decide) (by decide)
                have hIS3 := Inv.xc hI hxS3
                refine ev_if_eq (tgt := 102) dX9_cross_87 (by decide) (by decide) (fun c => absurd c (by decide)) (fun _ => ?_)
                refine ev_aload_n 4 rfl dX9_cross_90 ?_
                refine cg_X9_49 hC4 dX9_cross_91 ?_
                refine cg_X9_173 hC4 dX9_cross_94 ?_
                refine ev_iload_n 7 rfl dX9_cross_97 ?_
                refine c_ld (k := 10) (s := 50) hC4 (by decide) rfl dX9_cross_98 (by omega) (by show _ < ((7 : Nat) : Int); omega) ?_
                refine ev_goto (tgt := 104) dX9_cross_99 (by decide) ?_
                refine ev_ireturn dX9_cross_104 ?_
                refine ⟨_, rfl, ?_, S3, hC4, (eqx.tr (l := [50]) (eqx.rf (l := [50]) (S := S)) ex5 (by decide) (by decide))⟩
                simp only [sp_cross]; rw [if_neg (by omega), if_neg (by omega)]; rw [iteP_pos b84]
                obtain ⟨x0, x1, x2, x3, x4, x5, x6⟩ := v84
                unfold partZ
                rcases (show w = 0 ∨ w = 1 ∨ w = 2 ∨ w = 3 ∨ w = 4 ∨ w = 5 ∨ w = 6 by omega) with q | q | q | q | q | q | q <;> subst q
                · exact x0
                · exact x1
                · exact x2
                · exact x3
                · exact x4
                · exact x5
                · exact x6
              · have hRS3 := hC4.2.2
                have hxS3 : eqx scc S S3 := (eqx.rf (l := scc) (S := S)).tr ex5 (by decide) (by decide)
                have hIS3 := Inv.xc hI hxS3
                refine ev_if_eq (tgt := 102) dX9_cross_87 (by decide) (by decide) (fun _ => ?_) (fun c => absurd c (by decide))
                refine ev_ldc (z := -100004) dX9_cross_102 k_X9_176 (by decide) ?_
                refine ev_ireturn dX9_cross_104 ?_
                refine ⟨_, rfl, ?_, S3, hC4, (eqx.tr (l := [50]) (eqx.rf (l := [50]) (S := S)) ex5 (by decide) (by decide))⟩
                simp only [sp_cross]; rw [if_neg (by omega), if_neg (by omega)]; rw [iteP_neg b84]
            · refine ev_if_eq (tgt := 105) dX9_cross_62 (by decide) (by decide) (fun _ => ?_) (fun c => absurd c (by decide))
              refine ev_ldc (z := -100012) dX9_cross_105 k_X9_177 (by decide) ?_
              refine ev_ireturn dX9_cross_107 ?_
              refine ⟨_, rfl, ?_, S, hC, (eqx.rf (l := [50]) (S := S))⟩
              simp only [sp_cross]; first | (rw [if_pos (by omega)]; done) | (rw [if_neg (by omega), if_pos (by omega)]; done)
          · refine ev_if_eq (tgt := 105) dX9_cross_47 (by decide) (by decide) (fun _ => ?_) (fun c => absurd c (by decide))
            refine ev_ldc (z := -100012) dX9_cross_105 k_X9_177 (by decide) ?_
            refine ev_ireturn dX9_cross_107 ?_
            refine ⟨_, rfl, ?_, S, hC, (eqx.rf (l := [50]) (S := S))⟩
            simp only [sp_cross]; first | (rw [if_pos (by omega)]; done) | (rw [if_neg (by omega), if_pos (by omega)]; done)
        · refine ev_if_ne (tgt := 42) dX9_cross_36 (by decide) (by decide) (fun c => absurd c (by decide)) (fun _ => ?_)
          refine ev_ldc (z := -100001) dX9_cross_39 k_X9_164 (by decide) ?_
          refine ev_ireturn dX9_cross_41 ?_
          refine ⟨_, rfl, ?_, S, hC, (eqx.rf (l := [50]) (S := S))⟩
          simp only [sp_cross]; first | (rw [if_pos (by omega)]; done) | (rw [if_neg (by omega), if_pos (by omega)]; done)
    · refine ev_astoreN (L' := [(5, .null), (4, .ref (A 21 a)), (0, .ref (A 0 0)), (1, vI (a)), (2, vI (b)), (3, vI (w))]) dX9_cross_12 (by decide) rfl ?_
      refine ev_aload 1 rfl dX9_cross_14 ?_
      refine ev_ifnull dX9_cross_16 ?_
      refine ev_aloadN 0 rfl dX9_cross_19 ?_
      refine ev_ifnullN (tgt := 39) dX9_cross_21 (by decide) ?_
      refine ev_ldc (z := -100001) dX9_cross_39 k_X9_164 (by decide) ?_
      refine ev_ireturn dX9_cross_41 ?_
      refine ⟨_, rfl, ?_, S, hC, (eqx.rf (l := [50]) (S := S))⟩
      simp only [sp_cross]; first | (rw [if_pos (by omega)]; done) | (rw [if_neg (by omega), if_pos (by omega)]; done)
  · refine ev_astoreN (L' := [(4, .null), (0, .ref (A 0 0)), (1, vI (a)), (2, vI (b)), (3, vI (w))]) dX9_cross_5 (by decide) rfl ?_
    refine ev_aload_n 1 rfl dX9_cross_7 ?_
    refine ev_iload_n 3 rfl dX9_cross_8 ?_
    refine c_X9_115 (k_sightingAt (a := b) hC hI (by first | assumption | exact hR _ _ | decide | (simp only [InR]; omega))) hC.k0 rfl rfl (Nat.le_of_ble_eq_true rfl) (by decide) dX9_cross_9 (kN (fun b9 => ?_) (fun b9 => ?_))
    · refine ev_astore (L' := [(5, .ref (A 21 b)), (4, .null), (0, .ref (A 0 0)), (1, vI (a)), (2, vI (b)), (3, vI (w))]) dX9_cross_12 (by decide) rfl ?_
      refine ev_aloadN 1 rfl dX9_cross_14 ?_
      refine ev_ifnullN (tgt := 39) dX9_cross_16 (by decide) ?_
      refine ev_ldc (z := -100001) dX9_cross_39 k_X9_164 (by decide) ?_
      refine ev_ireturn dX9_cross_41 ?_
      refine ⟨_, rfl, ?_, S, hC, (eqx.rf (l := [50]) (S := S))⟩
      simp only [sp_cross]; first | (rw [if_pos (by omega)]; done) | (rw [if_neg (by omega), if_pos (by omega)]; done)
    · refine ev_astoreN (L' := [(5, .null), (4, .null), (0, .ref (A 0 0)), (1, vI (a)), (2, vI (b)), (3, vI (w))]) dX9_cross_12 (by decide) rfl ?_
      refine ev_aloadN 1 rfl dX9_cross_14 ?_
      refine ev_ifnullN (tgt := 39) dX9_cross_16 (by decide) ?_
      refine ev_ldc (z := -100001) dX9_cross_39 k_X9_164 (by decide) ?_
      refine ev_ireturn dX9_cross_41 ?_
      refine ⟨_, rfl, ?_, S, hC, (eqx.rf (l := [50]) (S := S))⟩
      simp only [sp_cross]; first | (rw [if_pos (by omega)]; done) | (rw [if_neg (by omega), if_pos (by omega)]; done)

set_option maxHeartbeats 4000000 in
set_option maxRecDepth 100000 in
theorem k_moved {E : EV} {h : AH} {A : AD} {S : MS} {a : Int} (hC : CR E A S h) (hI : Inv S) (g1 : InR a) : CM E yX9_moved cX9_moved 10 (some .int) 5 0 0 [.ref (A 0 0), vI (a)] h (qI (fun z h' => z = sp_moved S a ∧ ∃ S', CR E A S' h' ∧ eqx [50] S S')) := by
  have hR := hC.2.2
  have hJ := hI
  obtain ⟨i1, i2, i3, i4, i5, i6, iSt, iSi, iWa, iSh, iLa, iS0, iS1, iZe⟩ := hJ
  refine CM.of (by decide) (Nat.le_of_ble_eq_true rfl) (L := [(0, .ref (A 0 0)), (1, vI (a))]) rfl ?_
  refine ev_aload_n 0 rfl dX9_moved_0 ?_
  refine ev_iload_n 1 rfl dX9_moved_1 ?_
  refine c_X9_77 (k_stationAt (a := a) hC hI (by first | assumption | exact hR _ _ | decide | (simp only [InR]; omega))) hC.k0 rfl rfl (Nat.le_of_ble_eq_true rfl) (by decide) dX9_moved_2 (kN (fun b2 => ?_) (fun b2 => ?_))
  · refine ev_ifnonnull (tgt := 10) dX9_moved_5 (by decide) ?_
    refine ev_iconst dX9_moved_10 ?_
    refine ev_istore_n (L' := [(2, vI (0)), (0, .ref (A 0 0)), (1, vI (a))]) dX9_moved_11 (by decide) rfl ?_
    refine ev_iconst dX9_moved_12 ?_
    refine ev_istore_n (L' := [(3, vI (0)), (2, vI (0)), (0, .ref (A 0 0)), (1, vI (a))]) dX9_moved_13 (by decide) rfl ?_
    refine ev_iconst dX9_moved_14 ?_
    refine ev_istore (L' := [(4, vI (0)), (3, vI (0)), (2, vI (0)), (0, .ref (A 0 0)), (1, vI (a))]) dX9_moved_15 (by decide) rfl ?_
    refine up_ind (P := fun i : Int => ∀ (xm : Int) (xn : Int) (S1 : MS) (h2 : AH), 0 ≤ i → CR E A S1 h2 → eqx [50] S S1 → xm = sumI (mvM S a) i → xn = sumI (mvN S a) i → ((0 ≤ xm ∧ xm ≤ i) ∧ 0 ≤ xn ∧ xn ≤ i) → Ev E RX9 cX9_moved 10 (some .int) "moved" (qI (fun z h' => z = sp_moved S a ∧ ∃ S', CR E A S' h' ∧ eqx [50] S S')) 5 0 0 17 [(4, vI (i)), (3, vI (xn)), (2, vI (xm)), (0, .ref (A 0 0)), (1, vI (a))] [] h2) (N := S 40 0) ?_ 0 (by omega) 0 0 S h (by omega) hC eqx.rf (rfl) (rfl) (by omega)
    intro i ihi hiN xm xn S1 h2 pi hM3 hx4 hxm hxn hxb
    have hRS1 := hM3.2.2
    have hxS1 : eqx scc S S1 := (eqx.rf (l := scc) (S := S)).tr hx4 (by decide) (by decide)
    have hIS1 := Inv.xc hI hxS1
    refine ev_iload 0 rfl dX9_moved_17 ?_
    refine ev_aload_n 3 rfl dX9_moved_19 ?_
    refine cgE_X9_247 (v := S 40 0) hM3 (by rw [hx4 40 (by decide)]) dX9_moved_20 ?_
    refine ev_icmp_ge (tgt := 155) dX9_moved_23 (by first | assumption | exact hR _ _ | exact hRS1 _ _ | decide | (simp only [InR]; omega)) (by first | assumption | exact hR _ _ | exact hRS1 _ _ | decide | (simp only [InR]; omega)) (by decide) (fun c23 => ?_) (fun c23 => ?_)
    · refine ev_iload_n 2 rfl dX9_moved_155 ?_
      refine ev_iconst dX9_moved_156 ?_
      refine ev_icmp_ge (tgt := 163) dX9_moved_157 (by first | assumption | exact hR _ _ | exact hRS1 _ _ | decide | (simp only [InR]; omega)) (by decide) (by decide) (fun c157 => ?_) (fun c157 => ?_)
      · refine ev_iconst dX9_moved_163 ?_
        refine ev_iload_n 1 rfl dX9_moved_164 ?_
        refine ev_imul dX9_moved_165 ?_
        refine ev_iload_n 2 rfl dX9_moved_166 ?_
        refine ev_icmp_le (tgt := 174) dX9_moved_167 (by first | assumption | exact hR _ _ | exact hRS1 _ _ | decide | (simp only [InR]; omega)) (by first | assumption | exact hR _ _ | exact hRS1 _ _ | decide | (simp only [InR]; omega)) (by decide) (fun c167 => ?_) (fun c167 => ?_)
        · refine ev_iconst dX9_moved_174 ?_
          refine ev_ireturn dX9_moved_175 ?_
          refine ⟨_, rfl, ?_, S1, hM3, (eqx.tr (l := [50]) (eqx.rf (l := [50]) (S := S)) hx4 (by decide) (by decide))⟩
          rw [show i = S 40 0 by omega] at hxm hxn
          simp only [sp_moved]; rw [if_neg (by omega), ← hxm, ← hxn]; (repeat' split) <;> first | rfl | omega
        · refine ev_iconst dX9_moved_170 ?_
          refine ev_goto (tgt := 175) dX9_moved_171 (by decide) ?_
          refine ev_ireturn dX9_moved_175 ?_
          refine ⟨_, rfl, ?_, S1, hM3, (eqx.tr (l := [50]) (eqx.rf (l := [50]) (S := S)) hx4 (by decide) (by decide))⟩
          rw [show i = S 40 0 by omega] at hxm hxn
          simp only [sp_moved]; rw [if_neg (by omega), ← hxm, ← hxn]; (repeat' split) <;> first | rfl | omega
      · refine ev_bipush dX9_moved_160 (by decide) ?_
        refine ev_ireturn dX9_moved_162 ?_
        refine ⟨_, rfl, ?_, S1, hM3, (eqx.tr (l := [50]) (eqx.rf (l := [50]) (S := S)) hx4 (by decide) (by decide))⟩
        rw [show i = S 40 0 by omega] at hxm hxn
        simp only [sp_moved]; rw [if_neg (by omega), ← hxm, ← hxn]; (repeat' split) <;> first | rfl | omega
    · obtain ⟨sh1, sh2, sh3⟩ := iSh i (by omega) (by omega)
      have si1 := iSi _ sh1.1 sh1.2
      have si2 := iSi _ sh2.1 sh2.2
      refine ev_aload_n 3 rfl dX9_moved_26 ?_
      refine cg_X9_17 hM3 dX9_moved_27 ?_
      refine ev_aload_n 3 rfl dX9_moved_30 ?_
      refine cg_X9_27 hM3 dX9_moved_31 ?_
      refine ev_iload 0 rfl dX9_moved_34 ?_
      refine c_ldE (k := 4) (s := 41) (v := S 41 i) hM3 (by decide) rfl (by rw [hx4 41 (by decide)]) dX9_moved_36 (by omega) (by show _ < ((20 : Nat) : Int); omega) ?_
      refine c_aa2 hM3 dX9_moved_37 (by omega) (by omega) (by rw [hx4 7 (by decide)]; omega) ?_
      refine ev_astore (L' := [(5, .ref (A 21 (S 41 i))), (4, vI (i)), (3, vI (xn)), (2, vI (xm)), (0, .ref (A 0 0)), (1, vI (a))]) dX9_moved_38 (by decide) rfl ?_
      refine ev_aload_n 4 rfl dX9_moved_40 ?_
      refine cg_X9_17 hM3 dX9_moved_41 ?_
      refine ev_aload_n 4 rfl dX9_moved_44 ?_
      refine cg_X9_31 hM3 dX9_moved_45 ?_
      refine ev_iload 1 rfl dX9_moved_48 ?_
      refine c_ldE (k := 5) (s := 42) (v := S 42 i) hM3 (by decide) rfl (by rw [hx4 42 (by decide)]) dX9_moved_50 (by omega) (by show _ < ((20 : Nat) : Int); omega) ?_
      refine c_aa2 hM3 dX9_moved_51 (by omega) (by omega) (by rw [hx4 7 (by decide)]; omega) ?_
      refine ev_astore (L' := [(6, .ref (A 21 (S 42 i))), (5, .ref (A 21 (S 41 i))), (4, vI (i)), (3, vI (xn)), (2, vI (xm)), (0, .ref (A 0 0)), (1, vI (a))]) dX9_moved_52 (by decide) rfl ?_
      refine ev_aload 1 rfl dX9_moved_54 ?_
      refine cgR_X9_123 (i := S 41 i) (v := S 9 (S 41 i)) hM3 hIS1 (by unfold SG; rw [hx4 7 (by decide)]; omega) (by rw [hx4 9 (by decide)]) dX9_moved_56 ?_
      refine cg_X9_127 hM3 (by rw [hx4 2 (by decide)]; omega) dX9_moved_59 ?_
      refine ev_iload_n 6 rfl dX9_moved_62 ?_
      refine ev_icmp_eq (tgt := 78) dX9_moved_63 (by first | assumption | exact hR _ _ | exact hRS1 _ _ | decide | (simp only [InR]; omega)) (by first | assumption | exact hR _ _ | exact hRS1 _ _ | decide | (simp only [InR]; omega)) (by decide) (fun c63 => ?_) (fun c63 => ?_)
      · refine ev_iconst dX9_moved_78 ?_
        refine ev_goto (tgt := 83) dX9_moved_79 (by decide) ?_
        refine ev_istore (L' := [(7, vI (1)), (6, .ref (A 21 (S 42 i))), (5, .ref (A 21 (S 41 i))), (4, vI (i)), (3, vI (xn)), (2, vI (xm)), (0, .ref (A 0 0)), (1, vI (a))]) dX9_moved_83 (by decide) rfl ?_
        refine ev_iload 0 rfl dX9_moved_85 ?_
        refine ev_if_eq (tgt := 149) dX9_moved_87 (by decide) (by decide) (fun c => absurd c (by decide)) (fun _ => ?_)
        refine ev_aload 2 rfl dX9_moved_90 ?_
        refine cio_X9_105 (i := S 41 i) hM3 hIS1 (by unfold SG; rw [hx4 7 (by decide)]; omega) dX9_moved_92 (fun c92 => ?_) (fun c92 => ?_)
        · rw [hx4 8 (by decide)] at c92
          refine ev_if_eq (tgt := 149) dX9_moved_95 (by decide) (by decide) (fun c => absurd c (by decide)) (fun _ => ?_)
          refine ev_aload 2 rfl dX9_moved_98 ?_
          refine ccs_X9_105 (i := S 41 i) hM3 hIS1 (by unfold SG; rw [hx4 7 (by decide)]; omega) (by rw [hx4 8 (by decide)]; first | assumption | omega) dX9_moved_100 ?_
          refine ev_astore (L' := [(8, .ref (A 21 (S 41 i))), (7, vI (1)), (6, .ref (A 21 (S 42 i))), (5, .ref (A 21 (S 41 i))), (4, vI (i)), (3, vI (xn)), (2, vI (xm)), (0, .ref (A 0 0)), (1, vI (a))]) dX9_moved_103 (by decide) rfl ?_
          refine ev_aload 2 rfl dX9_moved_105 ?_
          refine cio_X9_105 (i := S 42 i) hM3 hIS1 (by unfold SG; rw [hx4 7 (by decide)]; omega) dX9_moved_107 (fun c107 => ?_) (fun c107 => ?_)
          · rw [hx4 8 (by decide)] at c107
            refine ev_if_eq (tgt := 149) dX9_moved_110 (by decide) (by decide) (fun c => absurd c (by decide)) (fun _ => ?_)
            refine ev_aload 2 rfl dX9_moved_113 ?_
            refine ccs_X9_105 (i := S 42 i) hM3 hIS1 (by unfold SG; rw [hx4 7 (by decide)]; omega) (by rw [hx4 8 (by decide)]; first | assumption | omega) dX9_moved_115 ?_
            refine ev_astore (L' := [(9, .ref (A 21 (S 42 i))), (8, .ref (A 21 (S 41 i))), (7, vI (1)), (6, .ref (A 21 (S 42 i))), (5, .ref (A 21 (S 41 i))), (4, vI (i)), (3, vI (xn)), (2, vI (xm)), (0, .ref (A 0 0)), (1, vI (a))]) dX9_moved_118 (by decide) rfl ?_
            refine ev_iinc (L' := [(2, vI (xm + 1)), (9, .ref (A 21 (S 42 i))), (8, .ref (A 21 (S 41 i))), (7, vI (1)), (6, .ref (A 21 (S 42 i))), (5, .ref (A 21 (S 41 i))), (4, vI (i)), (3, vI (xn)), (0, .ref (A 0 0)), (1, vI (a))]) 7 rfl dX9_moved_120 (by decide) rfl ?_
            refine ev_iload_n 7 rfl dX9_moved_123 ?_
            refine ev_aload_n 8 rfl dX9_moved_124 ?_
            refine cg_X9_49 hM3 dX9_moved_125 ?_
            refine ev_aload 2 rfl dX9_moved_128 ?_
            refine ev_aload 1 rfl dX9_moved_130 ?_
            refine ev_aload_n 8 rfl dX9_moved_132 ?_
            refine cgE_X9_60 (v := S 16 0) hM3 (by rw [hx4 16 (by decide)]) dX9_moved_133 ?_
            refine c_X9_165 (k_find (a := S 41 i) (b := S 42 i) (th := S 16 0) hM3 hIS1 (by unfold SG; rw [hx4 7 (by decide)]; omega) (by unfold SG; rw [hx4 7 (by decide)]; omega) (by rw [hx4 8 (by decide)]; first | assumption | omega) (by rw [hx4 8 (by decide)]; first | assumption | omega) (by rw [hx4 16 (by decide)])) hM3.k9 rfl rfl (Nat.le_of_ble_eq_true rfl) (by decide) dX9_moved_136 (kI (fun z5 h6 hqz5 => ?_))
            obtain ⟨S7, hC8, ex9, ⟨rfl, b136, v136⟩ | ⟨rfl, b136⟩⟩ := hqz5
            · rw [CrP_xc hxS1] at b136
              have hRS7 := hC8.2.2
              have hxS7 : eqx scc S S7 := (hxS1).tr ex9 (by decide) (by decide)
              have hIS7 := Inv.xc hI hxS7
              refine ev_if_eq (tgt := 146) dX9_moved_139 (by decide) (by decide) (fun c => absurd c (by decide)) (fun _ => ?_)
              refine ev_iconst dX9_moved_142 ?_
              refine ev_goto (tgt := 147) dX9_moved_143 (by decide) ?_
              refine ev_iadd dX9_moved_147 ?_
              refine ev_istore_n (L' := [(3, vI (xn + 0)), (2, vI (xm + 1)), (9, .ref (A 21 (S 42 i))), (8, .ref (A 21 (S 41 i))), (7, vI (1)), (6, .ref (A 21 (S 42 i))), (5, .ref (A 21 (S 41 i))), (4, vI (i)), (0, .ref (A 0 0)), (1, vI (a))]) dX9_moved_148 (by decide) rfl ?_
              refine ev_iinc (L' := [(4, vI (i + 1)), (3, vI (xn + 0)), (2, vI (xm + 1)), (9, .ref (A 21 (S 42 i))), (8, .ref (A 21 (S 41 i))), (7, vI (1)), (6, .ref (A 21 (S 42 i))), (5, .ref (A 21 (S 41 i))), (0, .ref (A 0 0)), (1, vI (a))]) 7 rfl dX9_moved_149 (by decide) rfl ?_
              refine ev_goto (tgt := 17) dX9_moved_152 (by decide) ?_
              refine ev_pick (L' := [(4, vI (i + 1)), (3, vI (xn + 0)), (2, vI (xm + 1)), (0, .ref (A 0 0)), (1, vI (a))]) [0, 1, 2, 8, 9] rfl ?_
              exact ihi (i + 1) (by omega) (by omega) (xm + 1) (xn + 0) S7 h6 (by omega) hC8 (eqx.tr (l := [50]) hx4 ex9 (by decide) (by decide)) (by rw [sumI_s _ (by omega), ← hxm]; unfold mvM; rw [if_pos (by unfold MvP; omega)]) (by rw [sumI_s _ (by omega), ← hxn]; unfold mvN; rw [if_pos (by unfold MvP; omega), iteP_pos b136]) (by omega)
            · rw [CrP_xc hxS1] at b136
              have hRS7 := hC8.2.2
              have hxS7 : eqx scc S S7 := (hxS1).tr ex9 (by decide) (by decide)
              have hIS7 := Inv.xc hI hxS7
              refine ev_if_eq (tgt := 146) dX9_moved_139 (by decide) (by decide) (fun _ => ?_) (fun c => absurd c (by decide))
              refine ev_iconst dX9_moved_146 ?_
              refine ev_iadd dX9_moved_147 ?_
              refine ev_istore_n (L' := [(3, vI (xn + 1)), (2, vI (xm + 1)), (9, .ref (A 21 (S 42 i))), (8, .ref (A 21 (S 41 i))), (7, vI (1)), (6, .ref (A 21 (S 42 i))), (5, .ref (A 21 (S 41 i))), (4, vI (i)), (0, .ref (A 0 0)), (1, vI (a))]) dX9_moved_148 (by decide) rfl ?_
              refine ev_iinc (L' := [(4, vI (i + 1)), (3, vI (xn + 1)), (2, vI (xm + 1)), (9, .ref (A 21 (S 42 i))), (8, .ref (A 21 (S 41 i))), (7, vI (1)), (6, .ref (A 21 (S 42 i))), (5, .ref (A 21 (S 41 i))), (0, .ref (A 0 0)), (1, vI (a))]) 7 rfl dX9_moved_149 (by decide) rfl ?_
              refine ev_goto (tgt := 17) dX9_moved_152 (by decide) ?_
              refine ev_pick (L' := [(4, vI (i + 1)), (3, vI (xn + 1)), (2, vI (xm + 1)), (0, .ref (A 0 0)), (1, vI (a))]) [0, 1, 2, 8, 9] rfl ?_
              exact ihi (i + 1) (by omega) (by omega) (xm + 1) (xn + 1) S7 h6 (by omega) hC8 (eqx.tr (l := [50]) hx4 ex9 (by decide) (by decide)) (by rw [sumI_s _ (by omega), ← hxm]; unfold mvM; rw [if_pos (by unfold MvP; omega)]) (by rw [sumI_s _ (by omega), ← hxn]; unfold mvN; rw [if_pos (by unfold MvP; omega), iteP_neg b136]) (by omega)
          · rw [hx4 8 (by decide)] at c107
            refine ev_if_eq (tgt := 149) dX9_moved_110 (by decide) (by decide) (fun _ => ?_) (fun c => absurd c (by decide))
            refine ev_iinc (L' := [(4, vI (i + 1)), (8, .ref (A 21 (S 41 i))), (7, vI (1)), (6, .ref (A 21 (S 42 i))), (5, .ref (A 21 (S 41 i))), (3, vI (xn)), (2, vI (xm)), (0, .ref (A 0 0)), (1, vI (a))]) 4 rfl dX9_moved_149 (by decide) rfl ?_
            refine ev_goto (tgt := 17) dX9_moved_152 (by decide) ?_
            refine ev_pick (L' := [(4, vI (i + 1)), (3, vI (xn)), (2, vI (xm)), (0, .ref (A 0 0)), (1, vI (a))]) [0, 5, 6, 7, 8] rfl ?_
            exact ihi (i + 1) (by omega) (by omega) xm xn S1 h2 (by omega) hM3 hx4 (by rw [sumI_s _ (by omega), ← hxm]; unfold mvM; rw [if_neg (by unfold MvP; omega)]; omega) (by rw [sumI_s _ (by omega), ← hxn]; unfold mvN; rw [if_neg (by unfold MvP; omega)]; omega) (by omega)
        · rw [hx4 8 (by decide)] at c92
          refine ev_if_eq (tgt := 149) dX9_moved_95 (by decide) (by decide) (fun _ => ?_) (fun c => absurd c (by decide))
          refine ev_iinc (L' := [(4, vI (i + 1)), (7, vI (1)), (6, .ref (A 21 (S 42 i))), (5, .ref (A 21 (S 41 i))), (3, vI (xn)), (2, vI (xm)), (0, .ref (A 0 0)), (1, vI (a))]) 3 rfl dX9_moved_149 (by decide) rfl ?_
          refine ev_goto (tgt := 17) dX9_moved_152 (by decide) ?_
          refine ev_pick (L' := [(4, vI (i + 1)), (3, vI (xn)), (2, vI (xm)), (0, .ref (A 0 0)), (1, vI (a))]) [0, 4, 5, 6, 7] rfl ?_
          exact ihi (i + 1) (by omega) (by omega) xm xn S1 h2 (by omega) hM3 hx4 (by rw [sumI_s _ (by omega), ← hxm]; unfold mvM; rw [if_neg (by unfold MvP; omega)]; omega) (by rw [sumI_s _ (by omega), ← hxn]; unfold mvN; rw [if_neg (by unfold MvP; omega)]; omega) (by omega)
      · refine ev_aload 0 rfl dX9_moved_66 ?_
        refine cgR_X9_123 (i := S 42 i) (v := S 9 (S 42 i)) hM3 hIS1 (by unfold SG; rw [hx4 7 (by decide)]; omega) (by rw [hx4 9 (by decide)]) dX9_moved_68 ?_
        refine cg_X9_127 hM3 (by rw [hx4 2 (by decide)]; omega) dX9_moved_71 ?_
        refine ev_iload_n 6 rfl dX9_moved_74 ?_
        refine ev_icmp_ne (tgt := 82) dX9_moved_75 (by first | assumption | exact hR _ _ | exact hRS1 _ _ | decide | (simp only [InR]; omega)) (by first | assumption | exact hR _ _ | exact hRS1 _ _ | decide | (simp only [InR]; omega)) (by decide) (fun c75 => ?_) (fun c75 => ?_)
        · refine ev_iconst dX9_moved_82 ?_
          refine ev_istore (L' := [(7, vI (0)), (6, .ref (A 21 (S 42 i))), (5, .ref (A 21 (S 41 i))), (4, vI (i)), (3, vI (xn)), (2, vI (xm)), (0, .ref (A 0 0)), (1, vI (a))]) dX9_moved_83 (by decide) rfl ?_
          refine ev_iload 0 rfl dX9_moved_85 ?_
          refine ev_if_eq (tgt := 149) dX9_moved_87 (by decide) (by decide) (fun _ => ?_) (fun c => absurd c (by decide))
          refine ev_iinc (L' := [(4, vI (i + 1)), (7, vI (0)), (6, .ref (A 21 (S 42 i))), (5, .ref (A 21 (S 41 i))), (3, vI (xn)), (2, vI (xm)), (0, .ref (A 0 0)), (1, vI (a))]) 3 rfl dX9_moved_149 (by decide) rfl ?_
          refine ev_goto (tgt := 17) dX9_moved_152 (by decide) ?_
          refine ev_pick (L' := [(4, vI (i + 1)), (3, vI (xn)), (2, vI (xm)), (0, .ref (A 0 0)), (1, vI (a))]) [0, 4, 5, 6, 7] rfl ?_
          exact ihi (i + 1) (by omega) (by omega) xm xn S1 h2 (by omega) hM3 hx4 (by rw [sumI_s _ (by omega), ← hxm]; unfold mvM; rw [if_neg (by unfold MvP; omega)]; omega) (by rw [sumI_s _ (by omega), ← hxn]; unfold mvN; rw [if_neg (by unfold MvP; omega)]; omega) (by omega)
        · refine ev_iconst dX9_moved_78 ?_
          refine ev_goto (tgt := 83) dX9_moved_79 (by decide) ?_
          refine ev_istore (L' := [(7, vI (1)), (6, .ref (A 21 (S 42 i))), (5, .ref (A 21 (S 41 i))), (4, vI (i)), (3, vI (xn)), (2, vI (xm)), (0, .ref (A 0 0)), (1, vI (a))]) dX9_moved_83 (by decide) rfl ?_
          refine ev_iload 0 rfl dX9_moved_85 ?_
          refine ev_if_eq (tgt := 149) dX9_moved_87 (by decide) (by decide) (fun c => absurd c (by decide)) (fun _ => ?_)
          refine ev_aload 2 rfl dX9_moved_90 ?_
          refine cio_X9_105 (i := S 41 i) hM3 hIS1 (by unfold SG; rw [hx4 7 (by decide)]; omega) dX9_moved_92 (fun c92 => ?_) (fun c92 => ?_)
          · rw [hx4 8 (by decide)] at c92
            refine ev_if_eq (tgt := 149) dX9_moved_95 (by decide) (by decide) (fun c => absurd c (by decide)) (fun _ => ?_)
            refine ev_aload 2 rfl dX9_moved_98 ?_
            refine ccs_X9_105 (i := S 41 i) hM3 hIS1 (by unfold SG; rw [hx4 7 (by decide)]; omega) (by rw [hx4 8 (by decide)]; first | assumption | omega) dX9_moved_100 ?_
            refine ev_astore (L' := [(8, .ref (A 21 (S 41 i))), (7, vI (1)), (6, .ref (A 21 (S 42 i))), (5, .ref (A 21 (S 41 i))), (4, vI (i)), (3, vI (xn)), (2, vI (xm)), (0, .ref (A 0 0)), (1, vI (a))]) dX9_moved_103 (by decide) rfl ?_
            refine ev_aload 2 rfl dX9_moved_105 ?_
            refine cio_X9_105 (i := S 42 i) hM3 hIS1 (by unfold SG; rw [hx4 7 (by decide)]; omega) dX9_moved_107 (fun c107 => ?_) (fun c107 => ?_)
            · rw [hx4 8 (by decide)] at c107
              refine ev_if_eq (tgt := 149) dX9_moved_110 (by decide) (by decide) (fun c => absurd c (by decide)) (fun _ => ?_)
              refine ev_aload 2 rfl dX9_moved_113 ?_
              refine ccs_X9_105 (i := S 42 i) hM3 hIS1 (by unfold SG; rw [hx4 7 (by decide)]; omega) (by rw [hx4 8 (by decide)]; first | assumption | omega) dX9_moved_115 ?_
              refine ev_astore (L' := [(9, .ref (A 21 (S 42 i))), (8, .ref (A 21 (S 41 i))), (7, vI (1)), (6, .ref (A 21 (S 42 i))), (5, .ref (A 21 (S 41 i))), (4, vI (i)), (3, vI (xn)), (2, vI (xm)), (0, .ref (A 0 0)), (1, vI (a))]) dX9_moved_118 (by decide) rfl ?_
              refine ev_iinc (L' := [(2, vI (xm + 1)), (9, .ref (A 21 (S 42 i))), (8, .ref (A 21 (S 41 i))), (7, vI (1)), (6, .ref (A 21 (S 42 i))), (5, .ref (A 21 (S 41 i))), (4, vI (i)), (3, vI (xn)), (0, .ref (A 0 0)), (1, vI (a))]) 7 rfl dX9_moved_120 (by decide) rfl ?_
              refine ev_iload_n 7 rfl dX9_moved_123 ?_
              refine ev_aload_n 8 rfl dX9_moved_124 ?_
              refine cg_X9_49 hM3 dX9_moved_125 ?_
              refine ev_aload 2 rfl dX9_moved_128 ?_
              refine ev_aload 1 rfl dX9_moved_130 ?_
              refine ev_aload_n 8 rfl dX9_moved_132 ?_
              refine cgE_X9_60 (v := S 16 0) hM3 (by rw [hx4 16 (by decide)]) dX9_moved_133 ?_
              refine c_X9_165 (k_find (a := S 41 i) (b := S 42 i) (th := S 16 0) hM3 hIS1 (by unfold SG; rw [hx4 7 (by decide)]; omega) (by unfold SG; rw [hx4 7 (by decide)]; omega) (by rw [hx4 8 (by decide)]; first | assumption | omega) (by rw [hx4 8 (by decide)]; first | assumption | omega) (by rw [hx4 16 (by decide)])) hM3.k9 rfl rfl (Nat.le_of_ble_eq_true rfl) (by decide) dX9_moved_136 (kI (fun z10 h11 hqz10 => ?_))
              obtain ⟨S12, hC13, ex14, ⟨rfl, b136, v136⟩ | ⟨rfl, b136⟩⟩ := hqz10
              · rw [CrP_xc hxS1] at b136
                have hRS12 := hC13.2.2
                have hxS12 : eqx scc S S12 := (hxS1).tr ex14 (by decide) (by decide)
                have hIS12 := Inv.xc hI hxS12
                refine ev_if_eq (tgt := 146) dX9_moved_139 (by decide) (by decide) (fun c => absurd c (by decide)) (fun _ => ?_)
                refine ev_iconst dX9_moved_142 ?_
                refine ev_goto (tgt := 147) dX9_moved_143 (by decide) ?_
                refine ev_iadd dX9_moved_147 ?_
                refine ev_istore_n (L' := [(3, vI (xn + 0)), (2, vI (xm + 1)), (9, .ref (A 21 (S 42 i))), (8, .ref (A 21 (S 41 i))), (7, vI (1)), (6, .ref (A 21 (S 42 i))), (5, .ref (A 21 (S 41 i))), (4, vI (i)), (0, .ref (A 0 0)), (1, vI (a))]) dX9_moved_148 (by decide) rfl ?_
                refine ev_iinc (L' := [(4, vI (i + 1)), (3, vI (xn + 0)), (2, vI (xm + 1)), (9, .ref (A 21 (S 42 i))), (8, .ref (A 21 (S 41 i))), (7, vI (1)), (6, .ref (A 21 (S 42 i))), (5, .ref (A 21 (S 41 i))), (0, .ref (A 0 0)), (1, vI (a))]) 7 rfl dX9_moved_149 (by decide) rfl ?_
                refine ev_goto (tgt := 17) dX9_moved_152 (by decide) ?_
                refine ev_pick (L' := [(4, vI (i + 1)), (3, vI (xn + 0)), (2, vI (xm + 1)), (0, .ref (A 0 0)), (1, vI (a))]) [0, 1, 2, 8, 9] rfl ?_
                exact ihi (i + 1) (by omega) (by omega) (xm + 1) (xn + 0) S12 h11 (by omega) hC13 (eqx.tr (l := [50]) hx4 ex14 (by decide) (by decide)) (by rw [sumI_s _ (by omega), ← hxm]; unfold mvM; rw [if_pos (by unfold MvP; omega)]) (by rw [sumI_s _ (by omega), ← hxn]; unfold mvN; rw [if_pos (by unfold MvP; omega), iteP_pos b136]) (by omega)
              · rw [CrP_xc hxS1] at b136
                have hRS12 := hC13.2.2
                have hxS12 : eqx scc S S12 := (hxS1).tr ex14 (by decide) (by decide)
                have hIS12 := Inv.xc hI hxS12
                refine ev_if_eq (tgt := 146) dX9_moved_139 (by decide) (by decide) (fun _ => ?_) (fun c => absurd c (by decide))
                refine ev_iconst dX9_moved_146 ?_
                refine ev_iadd dX9_moved_147 ?_
                refine ev_istore_n (L' := [(3, vI (xn + 1)), (2, vI (xm + 1)), (9, .ref (A 21 (S 42 i))), (8, .ref (A 21 (S 41 i))), (7, vI (1)), (6, .ref (A 21 (S 42 i))), (5, .ref (A 21 (S 41 i))), (4, vI (i)), (0, .ref (A 0 0)), (1, vI (a))]) dX9_moved_148 (by decide) rfl ?_
                refine ev_iinc (L' := [(4, vI (i + 1)), (3, vI (xn + 1)), (2, vI (xm + 1)), (9, .ref (A 21 (S 42 i))), (8, .ref (A 21 (S 41 i))), (7, vI (1)), (6, .ref (A 21 (S 42 i))), (5, .ref (A 21 (S 41 i))), (0, .ref (A 0 0)), (1, vI (a))]) 7 rfl dX9_moved_149 (by decide) rfl ?_
                refine ev_goto (tgt := 17) dX9_moved_152 (by decide) ?_
                refine ev_pick (L' := [(4, vI (i + 1)), (3, vI (xn + 1)), (2, vI (xm + 1)), (0, .ref (A 0 0)), (1, vI (a))]) [0, 1, 2, 8, 9] rfl ?_
                exact ihi (i + 1) (by omega) (by omega) (xm + 1) (xn + 1) S12 h11 (by omega) hC13 (eqx.tr (l := [50]) hx4 ex14 (by decide) (by decide)) (by rw [sumI_s _ (by omega), ← hxm]; unfold mvM; rw [if_pos (by unfold MvP; omega)]) (by rw [sumI_s _ (by omega), ← hxn]; unfold mvN; rw [if_pos (by unfold MvP; omega), iteP_neg b136]) (by omega)
            · rw [hx4 8 (by decide)] at c107
              refine ev_if_eq (tgt := 149) dX9_moved_110 (by decide) (by decide) (fun _ => ?_) (fun c => absurd c (by decide))
              refine ev_iinc (L' := [(4, vI (i + 1)), (8, .ref (A 21 (S 41 i))), (7, vI (1)), (6, .ref (A 21 (S 42 i))), (5, .ref (A 21 (S 41 i))), (3, vI (xn)), (2, vI (xm)), (0, .ref (A 0 0)), (1, vI (a))]) 4 rfl dX9_moved_149 (by decide) rfl ?_
              refine ev_goto (tgt := 17) dX9_moved_152 (by decide) ?_
              refine ev_pick (L' := [(4, vI (i + 1)), (3, vI (xn)), (2, vI (xm)), (0, .ref (A 0 0)), (1, vI (a))]) [0, 5, 6, 7, 8] rfl ?_
              exact ihi (i + 1) (by omega) (by omega) xm xn S1 h2 (by omega) hM3 hx4 (by rw [sumI_s _ (by omega), ← hxm]; unfold mvM; rw [if_neg (by unfold MvP; omega)]; omega) (by rw [sumI_s _ (by omega), ← hxn]; unfold mvN; rw [if_neg (by unfold MvP; omega)]; omega) (by omega)
          · rw [hx4 8 (by decide)] at c92
            refine ev_if_eq (tgt := 149) dX9_moved_95 (by decide) (by decide) (fun _ => ?_) (fun c => absurd c (by decide))
            refine ev_iinc (L' := [(4, vI (i + 1)), (7, vI (1)), (6, .ref (A 21 (S 42 i))), (5, .ref (A 21 (S 41 i))), (3, vI (xn)), (2, vI (xm)), (0, .ref (A 0 0)), (1, vI (a))]) 3 rfl dX9_moved_149 (by decide) rfl ?_
            refine ev_goto (tgt := 17) dX9_moved_152 (by decide) ?_
            refine ev_pick (L' := [(4, vI (i + 1)), (3, vI (xn)), (2, vI (xm)), (0, .ref (A 0 0)), (1, vI (a))]) [0, 4, 5, 6, 7] rfl ?_
            exact ihi (i + 1) (by omega) (by omega) xm xn S1 h2 (by omega) hM3 hx4 (by rw [sumI_s _ (by omega), ← hxm]; unfold mvM; rw [if_neg (by unfold MvP; omega)]; omega) (by rw [sumI_s _ (by omega), ← hxn]; unfold mvN; rw [if_neg (by unfold MvP; omega)]; omega) (by omega)
  · refine ev_ifnonnullN dX9_moved_5 ?_
    refine ev_iconst dX9_moved_8 ?_
    refine ev_ireturn dX9_moved_9 ?_
    refine ⟨_, rfl, ?_, S, hC, (eqx.rf (l := [50]) (S := S))⟩
    simp only [sp_moved]; rw [if_pos (by omega)]

