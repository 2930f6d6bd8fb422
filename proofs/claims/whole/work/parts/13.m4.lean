set_option maxHeartbeats 4000000 in
set_option maxRecDepth 100000 in
theorem m_meets {E : EV} {h : AH} {o : Nat} {ad : Nat → Nat} {S : MS} {a b : Int} (hM : MR E o ad S h) (hI : Inv S) (g1 : InR a) (g2 : InR b) : CM E yX10_meets cX10_meets 3 (some .int) 4 0 0 [.ref (o), vI (a), vI (b)] h (qI (fun z h' => z = sp_meets S a b ∧ ∃ S', MR E o ad S' h' ∧ eqx [17, 18] S S')) := by
  have hR := hM.2.2.2.2
  have hJ := hI
  obtain ⟨i1, i2, i3, i4, i5, i6, iSt, iSi, iWa, iSh, iLa, iS0, iS1, iZe⟩ := hJ
  refine CM.of (by decide) (Nat.le_of_ble_eq_true rfl) (L := [(0, .ref (o)), (1, vI (a)), (2, vI (b))]) rfl ?_
  refine ev_aload_n 0 rfl dX10_meets_0 ?_
  refine ev_iload_n 1 rfl dX10_meets_1 ?_
  refine c_X10_194 (m_isSighting hM hI (by first | assumption | exact hR _ _ | decide | (simp only [InR]; omega))) hM.1 rfl rfl (Nat.le_of_ble_eq_true rfl) (by decide) dX10_meets_2 (kB (fun b2 => ?_) (fun b2 => ?_))
  · refine ev_if_eq (tgt := 21) dX10_meets_5 (by decide) (by decide) (fun c => absurd c (by decide)) (fun _ => ?_)
    refine ev_aload_n 0 rfl dX10_meets_8 ?_
    refine ev_iload_n 2 rfl dX10_meets_9 ?_
    refine c_X10_194 (m_isSighting hM hI (by first | assumption | exact hR _ _ | decide | (simp only [InR]; omega))) hM.1 rfl rfl (Nat.le_of_ble_eq_true rfl) (by decide) dX10_meets_10 (kB (fun b10 => ?_) (fun b10 => ?_))
    · refine ev_if_eq (tgt := 21) dX10_meets_13 (by decide) (by decide) (fun c => absurd c (by decide)) (fun _ => ?_)
      refine ev_iload_n 1 rfl dX10_meets_16 ?_
      refine ev_iload_n 2 rfl dX10_meets_17 ?_
      refine ev_icmp_ne (tgt := 23) dX10_meets_18 (by first | assumption | exact hR _ _ | decide | (simp only [InR]; omega)) (by first | assumption | exact hR _ _ | decide | (simp only [InR]; omega)) (by decide) (fun c18 => ?_) (fun c18 => ?_)
      · refine ev_aload_n 0 rfl dX10_meets_23 ?_
        refine mg_28 hM dX10_meets_24 ?_
        refine ev_iload_n 1 rfl dX10_meets_27 ?_
        refine m_ld (k := 8) hM (by decide) dX10_meets_28 (by omega) (by show _ < ((40 : Nat) : Int); omega) ?_
        refine ev_if_eq (tgt := 41) dX10_meets_29 (by first | assumption | exact hR _ _ | decide | (simp only [InR]; omega)) (by decide) (fun c29 => ?_) (fun c29 => ?_)
        · refine ev_bipush dX10_meets_41 (by decide) ?_
          refine ev_ireturn dX10_meets_43 ?_
          refine ⟨_, rfl, ?_, S, hM, (eqx.rf (l := [17, 18]) (S := S))⟩
          simp only [sp_meets]; first | (rw [if_pos (by omega)]; done) | (rw [if_neg (by omega), if_pos (by omega)]; done) | (rw [if_neg (by omega), if_neg (by omega)]; first | (rw [iteP_pos (by assumption)]; done) | (rw [iteP_neg (by assumption), iteP_pos (by assumption)]; done) | (rw [iteP_neg (by assumption), iteP_neg (by assumption)]; done))
        · refine ev_aload_n 0 rfl dX10_meets_32 ?_
          refine mg_28 hM dX10_meets_33 ?_
          refine ev_iload_n 2 rfl dX10_meets_36 ?_
          refine m_ld (k := 8) hM (by decide) dX10_meets_37 (by omega) (by show _ < ((40 : Nat) : Int); omega) ?_
          refine ev_if_ne (tgt := 44) dX10_meets_38 (by first | assumption | exact hR _ _ | decide | (simp only [InR]; omega)) (by decide) (fun c38 => ?_) (fun c38 => ?_)
          · refine ev_aload_n 0 rfl dX10_meets_44 ?_
            refine ev_iload_n 1 rfl dX10_meets_45 ?_
            refine ev_iload_n 2 rfl dX10_meets_46 ?_
            refine c_X10_227 (m_areMet (a := a) (b := b) hM hI (by omega) (by omega)) hM.1 rfl rfl (Nat.le_of_ble_eq_true rfl) (by decide) dX10_meets_47 (kI (fun z1 h2 hqz1 => ?_))
            obtain ⟨S3, hM4, ex5, ⟨rfl, b47⟩ | ⟨rfl, b47⟩⟩ := hqz1
            · have hRS3 := hM4.2.2.2.2
              have hxS3 : eqx scr S S3 := (eqx.rf (l := scr) (S := S)).tr ex5 (by decide) (by decide)
              have hIS3 := Inv.x hI hxS3
              refine ev_if_eq (tgt := 57) dX10_meets_50 (by decide) (by decide) (fun c => absurd c (by decide)) (fun _ => ?_)
              refine ev_iconst dX10_meets_53 ?_
              refine ev_goto (tgt := 71) dX10_meets_54 (by decide) ?_
              refine ev_ireturn dX10_meets_71 ?_
              refine ⟨_, rfl, ?_, S3, hM4, (eqx.tr (l := [17, 18]) (eqx.rf (l := [17, 18]) (S := S)) ex5 (by decide) (by decide))⟩
              simp only [sp_meets]; first | (rw [if_pos (by omega)]; done) | (rw [if_neg (by omega), if_pos (by omega)]; done) | (rw [if_neg (by omega), if_neg (by omega)]; first | (rw [iteP_pos (by assumption)]; done) | (rw [iteP_neg (by assumption), iteP_pos (by assumption)]; done) | (rw [iteP_neg (by assumption), iteP_neg (by assumption)]; done))
            · have hRS3 := hM4.2.2.2.2
              have hxS3 : eqx scr S S3 := (eqx.rf (l := scr) (S := S)).tr ex5 (by decide) (by decide)
              have hIS3 := Inv.x hI hxS3
              refine ev_if_eq (tgt := 57) dX10_meets_50 (by decide) (by decide) (fun _ => ?_) (fun c => absurd c (by decide))
              refine ev_aload_n 0 rfl dX10_meets_57 ?_
              refine ev_iload_n 1 rfl dX10_meets_58 ?_
              refine ev_iload_n 2 rfl dX10_meets_59 ?_
              refine c_X10_223 (m_crosses (a := a) (b := b) hM4 hIS3 (by rw [hxS3 7 (by decide)]; omega) (by rw [hxS3 7 (by decide)]; omega)) hM4.1 rfl rfl (Nat.le_of_ble_eq_true rfl) (by decide) dX10_meets_60 (kI (fun z6 h7 hqz6 => ?_))
              obtain ⟨S8, hM9, ex10, ⟨rfl, b60, r60, s60⟩ | ⟨rfl, b60⟩⟩ := hqz6
              · rw [CrP_x hxS3] at b60
                rw [rZ_x hxS3] at r60
                rw [sZ_x hxS3] at s60
                have hRS8 := hM9.2.2.2.2
                have hxS8 : eqx scr S S8 := (hxS3).tr ex10 (by decide) (by decide)
                have hIS8 := Inv.x hI hxS8
                refine ev_if_eq (tgt := 70) dX10_meets_63 (by decide) (by decide) (fun c => absurd c (by decide)) (fun _ => ?_)
                refine ev_iconst dX10_meets_66 ?_
                refine ev_goto (tgt := 71) dX10_meets_67 (by decide) ?_
                refine ev_ireturn dX10_meets_71 ?_
                refine ⟨_, rfl, ?_, S8, hM9, (eqx.tr (l := [17, 18]) (eqx.tr (l := [17, 18]) (eqx.rf (l := [17, 18]) (S := S)) ex5 (by decide) (by decide)) ex10 (by decide) (by decide))⟩
                simp only [sp_meets]; first | (rw [if_pos (by omega)]; done) | (rw [if_neg (by omega), if_pos (by omega)]; done) | (rw [if_neg (by omega), if_neg (by omega)]; first | (rw [iteP_pos (by assumption)]; done) | (rw [iteP_neg (by assumption), iteP_pos (by assumption)]; done) | (rw [iteP_neg (by assumption), iteP_neg (by assumption)]; done))
              · rw [CrP_x hxS3] at b60
                have hRS8 := hM9.2.2.2.2
                have hxS8 : eqx scr S S8 := (hxS3).tr ex10 (by decide) (by decide)
                have hIS8 := Inv.x hI hxS8
                refine ev_if_eq (tgt := 70) dX10_meets_63 (by decide) (by decide) (fun _ => ?_) (fun c => absurd c (by decide))
                refine ev_iconst dX10_meets_70 ?_
                refine ev_ireturn dX10_meets_71 ?_
                refine ⟨_, rfl, ?_, S8, hM9, (eqx.tr (l := [17, 18]) (eqx.tr (l := [17, 18]) (eqx.rf (l := [17, 18]) (S := S)) ex5 (by decide) (by decide)) ex10 (by decide) (by decide))⟩
                simp only [sp_meets]; first | (rw [if_pos (by omega)]; done) | (rw [if_neg (by omega), if_pos (by omega)]; done) | (rw [if_neg (by omega), if_neg (by omega)]; first | (rw [iteP_pos (by assumption)]; done) | (rw [iteP_neg (by assumption), iteP_pos (by assumption)]; done) | (rw [iteP_neg (by assumption), iteP_neg (by assumption)]; done))
          · refine ev_bipush dX10_meets_41 (by decide) ?_
            refine ev_ireturn dX10_meets_43 ?_
            refine ⟨_, rfl, ?_, S, hM, (eqx.rf (l := [17, 18]) (S := S))⟩
            simp only [sp_meets]; first | (rw [if_pos (by omega)]; done) | (rw [if_neg (by omega), if_pos (by omega)]; done) | (rw [if_neg (by omega), if_neg (by omega)]; first | (rw [iteP_pos (by assumption)]; done) | (rw [iteP_neg (by assumption), iteP_pos (by assumption)]; done) | (rw [iteP_neg (by assumption), iteP_neg (by assumption)]; done))
      · refine ev_iconst dX10_meets_21 ?_
        refine ev_ireturn dX10_meets_22 ?_
        refine ⟨_, rfl, ?_, S, hM, (eqx.rf (l := [17, 18]) (S := S))⟩
        simp only [sp_meets]; first | (rw [if_pos (by omega)]; done) | (rw [if_neg (by omega), if_pos (by omega)]; done) | (rw [if_neg (by omega), if_neg (by omega)]; first | (rw [iteP_pos (by assumption)]; done) | (rw [iteP_neg (by assumption), iteP_pos (by assumption)]; done) | (rw [iteP_neg (by assumption), iteP_neg (by assumption)]; done))
    · refine ev_if_eq (tgt := 21) dX10_meets_13 (by decide) (by decide) (fun _ => ?_) (fun c => absurd c (by decide))
      refine ev_iconst dX10_meets_21 ?_
      refine ev_ireturn dX10_meets_22 ?_
      refine ⟨_, rfl, ?_, S, hM, (eqx.rf (l := [17, 18]) (S := S))⟩
      simp only [sp_meets]; first | (rw [if_pos (by omega)]; done) | (rw [if_neg (by omega), if_pos (by omega)]; done) | (rw [if_neg (by omega), if_neg (by omega)]; first | (rw [iteP_pos (by assumption)]; done) | (rw [iteP_neg (by assumption), iteP_pos (by assumption)]; done) | (rw [iteP_neg (by assumption), iteP_neg (by assumption)]; done))
  · refine ev_if_eq (tgt := 21) dX10_meets_5 (by decide) (by decide) (fun _ => ?_) (fun c => absurd c (by decide))
    refine ev_iconst dX10_meets_21 ?_
    refine ev_ireturn dX10_meets_22 ?_
    refine ⟨_, rfl, ?_, S, hM, (eqx.rf (l := [17, 18]) (S := S))⟩
    simp only [sp_meets]; first | (rw [if_pos (by omega)]; done) | (rw [if_neg (by omega), if_pos (by omega)]; done) | (rw [if_neg (by omega), if_neg (by omega)]; first | (rw [iteP_pos (by assumption)]; done) | (rw [iteP_neg (by assumption), iteP_pos (by assumption)]; done) | (rw [iteP_neg (by assumption), iteP_neg (by assumption)]; done))

set_option maxHeartbeats 4000000 in
set_option maxRecDepth 100000 in
theorem m_crossPart {E : EV} {h : AH} {o : Nat} {ad : Nat → Nat} {S : MS} {a b w : Int} (hM : MR E o ad S h) (hI : Inv S) (ga : 0 ≤ a ∧ a < S 7 0) (gb : 0 ≤ b ∧ b < S 7 0) (hc : CrP S a b) (gw : InR w) : CM E yX10_crossPart cX10_crossPart 7 (some .int) 3 0 0 [.ref (o), vI (a), vI (b), vI (w)] h (qI (fun z h' => z = partZ S a b w ∧ ∃ S', MR E o ad S' h' ∧ eqx [17, 18] S S')) := by
  have hR := hM.2.2.2.2
  have hJ := hI
  obtain ⟨i1, i2, i3, i4, i5, i6, iSt, iSi, iWa, iSh, iLa, iS0, iS1, iZe⟩ := hJ
  obtain ⟨p1, p2, p3, p4, p5, p6, p7, p8⟩ := iSi a ga.1 ga.2
  obtain ⟨pt1, pt2, pt3⟩ := iSt _ p2.1 p2.2
  obtain ⟨q1, q2, q3, q4, q5, q6, q7, q8⟩ := iSi b gb.1 gb.2
  obtain ⟨qt1, qt2, qt3⟩ := iSt _ q2.1 q2.2
  have hc0 := hc
  obtain ⟨_, _, _, _, x1, x2, _⟩ := hc0
  have w5 := cosZ_b (S 12 a)
  have w6 := sinZ_b (S 12 a)
  have y1 := mul_b (a := rZ S a b) (b := sinZ (S 12 a)) (A := 1500) (B := 1000) (by omega) (by omega) (by decide)
  have y2 := mul_b (a := rZ S a b) (b := cosZ (S 12 a)) (A := 1500) (B := 1000) (by omega) (by omega) (by decide)
  have y3 := tdiv_b (b := 1000) y1
  have y4 := tdiv_b (b := 1000) y2
  have v0 := riseZ_b (f := rZ S a b) (t := S 13 a) (by omega)
  have v1 := riseZ_b (f := sZ S a b) (t := S 13 b) (by omega)
  have y5 := tdiv_b (a := riseZ (rZ S a b) (S 13 a) + riseZ (sZ S a b) (S 13 b)) (b := 2) (A := 171870) (by omega)
  refine CM.of (by decide) (Nat.le_of_ble_eq_true rfl) (L := [(0, .ref (o)), (1, vI (a)), (2, vI (b)), (3, vI (w))]) rfl ?_
  refine ev_aload_n 0 rfl dX10_crossPart_0 ?_
  refine ev_iload_n 1 rfl dX10_crossPart_1 ?_
  refine ev_iload_n 2 rfl dX10_crossPart_2 ?_
  refine c_X10_223 (m_crosses (a := a) (b := b) hM hI (by omega) (by omega)) hM.1 rfl rfl (Nat.le_of_ble_eq_true rfl) (by decide) dX10_crossPart_3 (kI (fun z1 h2 hqz1 => ?_))
  obtain ⟨S3, hM4, ex5, ⟨rfl, b3, r3, s3⟩ | ⟨rfl, b3⟩⟩ := hqz1
  · have hRS3 := hM4.2.2.2.2
    have hxS3 : eqx scr S S3 := (eqx.rf (l := scr) (S := S)).tr ex5 (by decide) (by decide)
    have hIS3 := Inv.x hI hxS3
    refine ev_istore (L' := [(4, vI (1)), (0, .ref (o)), (1, vI (a)), (2, vI (b)), (3, vI (w))]) dX10_crossPart_6 (by decide) rfl ?_
    refine ev_aload_n 1 rfl dX10_crossPart_8 ?_
    refine mg_16 hM4 dX10_crossPart_9 ?_
    refine ev_aload_n 1 rfl dX10_crossPart_12 ?_
    refine mg_31 hM4 dX10_crossPart_13 ?_
    refine ev_iload_n 2 rfl dX10_crossPart_16 ?_
    refine m_ldE (k := 9) (v := S 9 a) hM4 (by decide) (by rw [ex5 9 (by decide)]) dX10_crossPart_17 (by omega) (by show _ < ((40 : Nat) : Int); omega) ?_
    refine m_ldE (k := 3) (v := S 3 (S 9 a)) hM4 (by decide) (by rw [ex5 3 (by decide)]) dX10_crossPart_18 (by omega) (by show _ < ((8 : Nat) : Int); omega) ?_
    refine ev_aload_n 1 rfl dX10_crossPart_19 ?_
    refine mgE_213 (v := rZ S a b) hM4 (by rw [r3]) dX10_crossPart_20 ?_
    refine ev_aload_n 1 rfl dX10_crossPart_23 ?_
    refine ev_aload_n 1 rfl dX10_crossPart_24 ?_
    refine mg_40 hM4 dX10_crossPart_25 ?_
    refine ev_iload_n 2 rfl dX10_crossPart_28 ?_
    refine m_ldE (k := 12) (v := S 12 a) hM4 (by decide) (by rw [ex5 12 (by decide)]) dX10_crossPart_29 (by omega) (by show _ < ((40 : Nat) : Int); omega) ?_
    refine c_X10_137 (m_sinOf hM4 hIS3 (by omega)) hM4.1 rfl rfl (Nat.le_of_ble_eq_true rfl) (by decide) dX10_crossPart_30 (kP ?_)
    refine ev_imul dX10_crossPart_33 ?_
    refine ev_sipush dX10_crossPart_34 (by decide) ?_
    refine ev_idiv dX10_crossPart_37 (by first | assumption | exact hR _ _ | exact hRS3 _ _ | decide | (simp only [InR]; omega)) (by first | assumption | exact hR _ _ | exact hRS3 _ _ | decide | (simp only [InR]; omega)) (by omega) (by first | assumption | exact hR _ _ | exact hRS3 _ _ | decide | (simp only [InR]; omega)) ?_
    refine ev_iadd dX10_crossPart_38 ?_
    refine ev_istore (L' := [(5, vI ((S 3 (S 9 a)) + (((rZ S a b) * (sinZ (S 12 a))).tdiv 1000))), (4, vI (1)), (0, .ref (o)), (1, vI (a)), (2, vI (b)), (3, vI (w))]) dX10_crossPart_39 (by decide) rfl ?_
    refine ev_aload_n 2 rfl dX10_crossPart_41 ?_
    refine mg_19 hM4 dX10_crossPart_42 ?_
    refine ev_aload_n 2 rfl dX10_crossPart_45 ?_
    refine mg_31 hM4 dX10_crossPart_46 ?_
    refine ev_iload_n 3 rfl dX10_crossPart_49 ?_
    refine m_ldE (k := 9) (v := S 9 a) hM4 (by decide) (by rw [ex5 9 (by decide)]) dX10_crossPart_50 (by omega) (by show _ < ((40 : Nat) : Int); omega) ?_
    refine m_ldE (k := 4) (v := S 4 (S 9 a)) hM4 (by decide) (by rw [ex5 4 (by decide)]) dX10_crossPart_51 (by omega) (by show _ < ((8 : Nat) : Int); omega) ?_
    refine ev_aload_n 2 rfl dX10_crossPart_52 ?_
    refine mgE_213 (v := rZ S a b) hM4 (by rw [r3]) dX10_crossPart_53 ?_
    refine ev_aload_n 2 rfl dX10_crossPart_56 ?_
    refine ev_aload_n 2 rfl dX10_crossPart_57 ?_
    refine mg_40 hM4 dX10_crossPart_58 ?_
    refine ev_iload_n 3 rfl dX10_crossPart_61 ?_
    refine m_ldE (k := 12) (v := S 12 a) hM4 (by decide) (by rw [ex5 12 (by decide)]) dX10_crossPart_62 (by omega) (by show _ < ((40 : Nat) : Int); omega) ?_
    refine c_X10_152 (m_cosOf hM4 hIS3 (by omega)) hM4.1 rfl rfl (Nat.le_of_ble_eq_true rfl) (by decide) dX10_crossPart_63 (kP ?_)
    refine ev_imul dX10_crossPart_66 ?_
    refine ev_sipush dX10_crossPart_67 (by decide) ?_
    refine ev_idiv dX10_crossPart_70 (by first | assumption | exact hR _ _ | exact hRS3 _ _ | decide | (simp only [InR]; omega)) (by first | assumption | exact hR _ _ | exact hRS3 _ _ | decide | (simp only [InR]; omega)) (by omega) (by first | assumption | exact hR _ _ | exact hRS3 _ _ | decide | (simp only [InR]; omega)) ?_
    refine ev_iadd dX10_crossPart_71 ?_
    refine ev_istore (L' := [(6, vI ((S 4 (S 9 a)) + (((rZ S a b) * (cosZ (S 12 a))).tdiv 1000))), (5, vI ((S 3 (S 9 a)) + (((rZ S a b) * (sinZ (S 12 a))).tdiv 1000))), (4, vI (1)), (0, .ref (o)), (1, vI (a)), (2, vI (b)), (3, vI (w))]) dX10_crossPart_72 (by decide) rfl ?_
    refine ev_iload_n 6 rfl dX10_crossPart_74 ?_
    refine ev_if_ne (tgt := 83) dX10_crossPart_75 (by first | assumption | exact hR _ _ | exact hRS3 _ _ | decide | (simp only [InR]; omega)) (by decide) (fun c75 => ?_) (fun c75 => ?_)
    · refine ev_iload_n 6 rfl dX10_crossPart_83 ?_
      refine ev_iconst dX10_crossPart_84 ?_
      refine ev_icmp_ne (tgt := 93) dX10_crossPart_85 (by first | assumption | exact hR _ _ | exact hRS3 _ _ | decide | (simp only [InR]; omega)) (by decide) (by decide) (fun c85 => ?_) (fun c85 => ?_)
      · refine ev_iload 2 rfl dX10_crossPart_93 ?_
        refine ev_if_eq (tgt := 132) dX10_crossPart_95 (by decide) (by decide) (fun c => absurd c (by decide)) (fun _ => ?_)
        refine ev_aload_n 3 rfl dX10_crossPart_98 ?_
        refine ev_aload_n 3 rfl dX10_crossPart_99 ?_
        refine mgE_213 (v := rZ S a b) hM4 (by rw [r3]) dX10_crossPart_100 ?_
        refine ev_aload_n 3 rfl dX10_crossPart_103 ?_
        refine mg_43 hM4 dX10_crossPart_104 ?_
        refine ev_iload_n 4 rfl dX10_crossPart_107 ?_
        refine m_ldE (k := 13) (v := S 13 a) hM4 (by decide) (by rw [ex5 13 (by decide)]) dX10_crossPart_108 (by omega) (by show _ < ((40 : Nat) : Int); omega) ?_
        refine c_X10_219 (m_rise hM4 hIS3 (by omega) (by omega)) hM4.1 rfl rfl (Nat.le_of_ble_eq_true rfl) (by decide) dX10_crossPart_109 (kP ?_)
        refine ev_aload_n 3 rfl dX10_crossPart_112 ?_
        refine ev_aload_n 3 rfl dX10_crossPart_113 ?_
        refine mgE_216 (v := sZ S a b) hM4 (by rw [s3]) dX10_crossPart_114 ?_
        refine ev_aload_n 3 rfl dX10_crossPart_117 ?_
        refine mg_43 hM4 dX10_crossPart_118 ?_
        refine ev_iload_n 5 rfl dX10_crossPart_121 ?_
        refine m_ldE (k := 13) (v := S 13 b) hM4 (by decide) (by rw [ex5 13 (by decide)]) dX10_crossPart_122 (by omega) (by show _ < ((40 : Nat) : Int); omega) ?_
        refine c_X10_219 (m_rise hM4 hIS3 (by omega) (by omega)) hM4.1 rfl rfl (Nat.le_of_ble_eq_true rfl) (by decide) dX10_crossPart_123 (kP ?_)
        refine ev_iadd dX10_crossPart_126 ?_
        refine ev_iconst dX10_crossPart_127 ?_
        refine ev_idiv dX10_crossPart_128 (by first | assumption | exact hR _ _ | exact hRS3 _ _ | decide | (simp only [InR]; omega)) (by first | assumption | exact hR _ _ | exact hRS3 _ _ | decide | (simp only [InR]; omega)) (by omega) (by first | assumption | exact hR _ _ | exact hRS3 _ _ | decide | (simp only [InR]; omega)) ?_
        refine ev_goto (tgt := 133) dX10_crossPart_129 (by decide) ?_
        refine ev_ireturn dX10_crossPart_133 ?_
        refine ⟨_, rfl, ?_, S3, hM4, (eqx.tr (l := [17, 18]) (eqx.rf (l := [17, 18]) (S := S)) ex5 (by decide) (by decide))⟩
        simp only [partZ, xZ, yZ, hZ]; (repeat' split) <;> first | rfl | omega
      · refine ev_iload 0 rfl dX10_crossPart_88 ?_
        refine ev_goto (tgt := 133) dX10_crossPart_90 (by decide) ?_
        refine ev_ireturn dX10_crossPart_133 ?_
        refine ⟨_, rfl, ?_, S3, hM4, (eqx.tr (l := [17, 18]) (eqx.rf (l := [17, 18]) (S := S)) ex5 (by decide) (by decide))⟩
        simp only [partZ, xZ, yZ, hZ]; (repeat' split) <;> first | rfl | omega
    · refine ev_iload 1 rfl dX10_crossPart_78 ?_
      refine ev_goto (tgt := 133) dX10_crossPart_80 (by decide) ?_
      refine ev_ireturn dX10_crossPart_133 ?_
      refine ⟨_, rfl, ?_, S3, hM4, (eqx.tr (l := [17, 18]) (eqx.rf (l := [17, 18]) (S := S)) ex5 (by decide) (by decide))⟩
      simp only [partZ, xZ, yZ, hZ]; (repeat' split) <;> first | rfl | omega
  · exact absurd hc b3

theorem partZ_x {S S' : MS} {a b w : Int} (hx : eqx scr S S') : partZ S' a b w = partZ S a b w := by
  unfold partZ xZ yZ hZ
  rw [rZ_x hx, sZ_x hx, hx 3 (by decide), hx 4 (by decide), hx 9 (by decide), hx 12 (by decide), hx 13 (by decide)]

set_option maxHeartbeats 4000000 in
set_option maxRecDepth 100000 in
theorem m_cross {E : EV} {h : AH} {o : Nat} {ad : Nat → Nat} {S : MS} {a b w : Int} (hM : MR E o ad S h) (hI : Inv S) (g1 : InR a) (g2 : InR b) (g3 : InR w) : CM E yX10_cross cX10_cross 6 (some .int) 4 0 0 [.ref (o), vI (a), vI (b), vI (w)] h (qI (fun z h' => z = sp_cross S a b w ∧ ∃ S', MR E o ad S' h' ∧ eqx [17, 18] S S')) := by
  have hR := hM.2.2.2.2
  have hJ := hI
  obtain ⟨i1, i2, i3, i4, i5, i6, iSt, iSi, iWa, iSh, iLa, iS0, iS1, iZe⟩ := hJ
  refine CM.of (by decide) (Nat.le_of_ble_eq_true rfl) (L := [(0, .ref (o)), (1, vI (a)), (2, vI (b)), (3, vI (w))]) rfl ?_
  refine ev_aload_n 0 rfl dX10_cross_0 ?_
  refine ev_iload_n 1 rfl dX10_cross_1 ?_
  refine c_X10_194 (m_isSighting hM hI (by first | assumption | exact hR _ _ | decide | (simp only [InR]; omega))) hM.1 rfl rfl (Nat.le_of_ble_eq_true rfl) (by decide) dX10_cross_2 (kB (fun b2 => ?_) (fun b2 => ?_))
  · refine ev_if_eq (tgt := 33) dX10_cross_5 (by decide) (by decide) (fun c => absurd c (by decide)) (fun _ => ?_)
    refine ev_aload_n 0 rfl dX10_cross_8 ?_
    refine ev_iload_n 2 rfl dX10_cross_9 ?_
    refine c_X10_194 (m_isSighting hM hI (by first | assumption | exact hR _ _ | decide | (simp only [InR]; omega))) hM.1 rfl rfl (Nat.le_of_ble_eq_true rfl) (by decide) dX10_cross_10 (kB (fun b10 => ?_) (fun b10 => ?_))
    · refine ev_if_eq (tgt := 33) dX10_cross_13 (by decide) (by decide) (fun c => absurd c (by decide)) (fun _ => ?_)
      refine ev_iload_n 1 rfl dX10_cross_16 ?_
      refine ev_iload_n 2 rfl dX10_cross_17 ?_
      refine ev_icmp_eq (tgt := 33) dX10_cross_18 (by first | assumption | exact hR _ _ | decide | (simp only [InR]; omega)) (by first | assumption | exact hR _ _ | decide | (simp only [InR]; omega)) (by decide) (fun c18 => ?_) (fun c18 => ?_)
      · refine ev_ldc (z := -100001) dX10_cross_33 k_X10_151 (by decide) ?_
        refine ev_ireturn dX10_cross_35 ?_
        refine ⟨_, rfl, ?_, S, hM, (eqx.rf (l := [17, 18]) (S := S))⟩
        simp only [sp_cross]; first | (rw [if_pos (by omega)]; done) | (rw [if_neg (by omega), if_pos (by omega)]; done) | (rw [if_neg (by omega), if_neg (by omega)]; first | (rw [iteP_neg (by assumption)]; done) | (rw [iteP_pos (by assumption)]; simp only [loZ, upZ]; (repeat' split) <;> first | rfl | omega))
      · refine ev_iload_n 3 rfl dX10_cross_21 ?_
        refine ev_i2l dX10_cross_22 (by first | assumption | exact hR _ _ | decide | (simp only [InR]; omega)) ?_
        refine ev_lconst (z := 0) dX10_cross_23 (by decide) ?_
        refine ev_ldc2 (z := 6) dX10_cross_24 k_X10_230 (by decide) ?_
        refine c_X10_143 (m_in E (v := w) (a := 0) (b := 6) (by first | assumption | exact hR _ _ | decide | (simp only [InL]; omega)) (by decide) (by decide)) rfl rfl (Nat.le_of_ble_eq_true rfl) (by decide) dX10_cross_27 (kB (fun b27 => ?_) (fun b27 => ?_))
        · refine ev_if_ne (tgt := 36) dX10_cross_30 (by decide) (by decide) (fun _ => ?_) (fun c => absurd c (by decide))
          refine ev_aload_n 0 rfl dX10_cross_36 ?_
          obtain ⟨p1, p2, p3, p4, p5, p6, p7, p8⟩ := iSi a (show SG S a by omega).1 (show SG S a by omega).2
          obtain ⟨q1, q2, q3, q4, q5, q6, q7, q8⟩ := iSi b (show SG S b by omega).1 (show SG S b by omega).2
          refine mg_28 hM dX10_cross_37 ?_
          refine ev_iload_n 1 rfl dX10_cross_40 ?_
          refine m_ld (k := 8) hM (by decide) dX10_cross_41 (by omega) (by show _ < ((40 : Nat) : Int); omega) ?_
          refine ev_if_eq (tgt := 54) dX10_cross_42 (by first | assumption | exact hR _ _ | decide | (simp only [InR]; omega)) (by decide) (fun c42 => ?_) (fun c42 => ?_)
          · refine ev_ldc (z := -100012) dX10_cross_54 k_X10_232 (by decide) ?_
            refine ev_ireturn dX10_cross_56 ?_
            refine ⟨_, rfl, ?_, S, hM, (eqx.rf (l := [17, 18]) (S := S))⟩
            simp only [sp_cross]; first | (rw [if_pos (by omega)]; done) | (rw [if_neg (by omega), if_pos (by omega)]; done) | (rw [if_neg (by omega), if_neg (by omega)]; first | (rw [iteP_neg (by assumption)]; done) | (rw [iteP_pos (by assumption)]; simp only [loZ, upZ]; (repeat' split) <;> first | rfl | omega))
          · refine ev_aload_n 0 rfl dX10_cross_45 ?_
            refine mg_28 hM dX10_cross_46 ?_
            refine ev_iload_n 2 rfl dX10_cross_49 ?_
            refine m_ld (k := 8) hM (by decide) dX10_cross_50 (by omega) (by show _ < ((40 : Nat) : Int); omega) ?_
            refine ev_if_ne (tgt := 57) dX10_cross_51 (by first | assumption | exact hR _ _ | decide | (simp only [InR]; omega)) (by decide) (fun c51 => ?_) (fun c51 => ?_)
            · refine ev_aload_n 0 rfl dX10_cross_57 ?_
              refine ev_iload_n 1 rfl dX10_cross_58 ?_
              refine ev_iload_n 2 rfl dX10_cross_59 ?_
              refine c_X10_223 (m_crosses (a := a) (b := b) hM hI (by omega) (by omega)) hM.1 rfl rfl (Nat.le_of_ble_eq_true rfl) (by decide) dX10_cross_60 (kI (fun z1 h2 hqz1 => ?_))
              obtain ⟨S3, hM4, ex5, ⟨rfl, b60, r60, s60⟩ | ⟨rfl, b60⟩⟩ := hqz1
              · have hRS3 := hM4.2.2.2.2
                have hxS3 : eqx scr S S3 := (eqx.rf (l := scr) (S := S)).tr ex5 (by decide) (by decide)
                have hIS3 := Inv.x hI hxS3
                refine ev_if_ne (tgt := 69) dX10_cross_63 (by decide) (by decide) (fun _ => ?_) (fun c => absurd c (by decide))
                have hc := b60
                have hc0 := hc
                obtain ⟨_, _, _, _, x1, x2, _⟩ := hc0
                have u0 := riseZ_b (f := rZ S a b) (t := S 13 a - 1) (by omega)
                have u1 := riseZ_b (f := sZ S a b) (t := S 13 b - 1) (by omega)
                have u2 := riseZ_b (f := rZ S a b) (t := S 13 a + 1) (by omega)
                have u3 := riseZ_b (f := sZ S a b) (t := S 13 b + 1) (by omega)
                refine ev_iload_n 3 rfl dX10_cross_69 ?_
                rcases (show (w < 3 ∨ 6 < w) ∨ w = 3 ∨ w = 4 ∨ w = 5 ∨ w = 6 by omega) with q | q | q | q | q
                · refine ev_tableOut (tgt := 212) dX10_cross_70 (by first | assumption | exact hR _ _ | exact hRS3 _ _ | decide | (simp only [InR]; omega)) q (by decide) ?_
                  refine ev_aload_n 0 rfl dX10_cross_212 ?_
                  refine ev_iload_n 1 rfl dX10_cross_213 ?_
                  refine ev_iload_n 2 rfl dX10_cross_214 ?_
                  refine ev_iload_n 3 rfl dX10_cross_215 ?_
                  refine c_X10_234 (m_crossPart (a := a) (b := b) (w := w) hM4 hIS3 (by rw [hxS3 7 (by decide)]; omega) (by rw [hxS3 7 (by decide)]; omega) ((CrP_x hxS3).mpr hc) (by first | assumption | exact hR _ _ | exact hRS3 _ _ | decide | (simp only [InR]; omega))) hM4.1 rfl rfl (Nat.le_of_ble_eq_true rfl) (by decide) dX10_cross_216 (kI (fun z6 h7 hqz6 => ?_))
                  obtain ⟨hz11, S8, hM9, ex10⟩ := hqz6
                  rw [partZ_x hxS3] at hz11
                  have hRS8 := hM9.2.2.2.2
                  have hxS8 : eqx scr S S8 := (hxS3).tr ex10 (by decide) (by decide)
                  have hIS8 := Inv.x hI hxS8
                  refine ev_ren (b := partZ S a b w) hz11 ?_
                  refine ev_ireturn dX10_cross_219 ?_
                  refine ⟨_, rfl, ?_, S8, hM9, (eqx.tr (l := [17, 18]) (eqx.tr (l := [17, 18]) (eqx.rf (l := [17, 18]) (S := S)) ex5 (by decide) (by decide)) ex10 (by decide) (by decide))⟩
                  simp only [sp_cross]; first | (rw [if_pos (by omega)]; done) | (rw [if_neg (by omega), if_pos (by omega)]; done) | (rw [if_neg (by omega), if_neg (by omega)]; first | (rw [iteP_neg (by assumption)]; done) | (rw [iteP_pos (by assumption)]; simp only [loZ, upZ]; (repeat' split) <;> first | rfl | omega))
                · subst q
                  refine ev_tableIn (tgt := 100) (off := 30) dX10_cross_70 (by decide) (by decide) (by decide) (by decide) (by decide) ?_
                  refine ev_aload_n 0 rfl dX10_cross_100 ?_
                  refine ev_aload_n 0 rfl dX10_cross_101 ?_
                  refine mgE_213 (v := rZ S a b) hM4 (by rw [r60]) dX10_cross_102 ?_
                  refine ev_aload_n 0 rfl dX10_cross_105 ?_
                  refine mg_43 hM4 dX10_cross_106 ?_
                  refine ev_iload_n 1 rfl dX10_cross_109 ?_
                  refine m_ldE (k := 13) (v := S 13 a) hM4 (by decide) (by rw [ex5 13 (by decide)]) dX10_cross_110 (by omega) (by show _ < ((40 : Nat) : Int); omega) ?_
                  refine ev_iconst dX10_cross_111 ?_
                  refine ev_isub dX10_cross_112 ?_
                  refine c_X10_219 (m_rise hM4 hIS3 (by omega) (by omega)) hM4.1 rfl rfl (Nat.le_of_ble_eq_true rfl) (by decide) dX10_cross_113 (kP ?_)
                  refine ev_istore (L' := [(4, vI (riseZ (rZ S a b) ((S 13 a) - 1))), (0, .ref (o)), (1, vI (a)), (2, vI (b)), (3, vI (3))]) dX10_cross_116 (by decide) rfl ?_
                  refine ev_aload_n 1 rfl dX10_cross_118 ?_
                  refine ev_aload_n 1 rfl dX10_cross_119 ?_
                  refine mgE_216 (v := sZ S a b) hM4 (by rw [s60]) dX10_cross_120 ?_
                  refine ev_aload_n 1 rfl dX10_cross_123 ?_
                  refine mg_43 hM4 dX10_cross_124 ?_
                  refine ev_iload_n 3 rfl dX10_cross_127 ?_
                  refine m_ldE (k := 13) (v := S 13 b) hM4 (by decide) (by rw [ex5 13 (by decide)]) dX10_cross_128 (by omega) (by show _ < ((40 : Nat) : Int); omega) ?_
                  refine ev_iconst dX10_cross_129 ?_
                  refine ev_isub dX10_cross_130 ?_
                  refine c_X10_219 (m_rise hM4 hIS3 (by omega) (by omega)) hM4.1 rfl rfl (Nat.le_of_ble_eq_true rfl) (by decide) dX10_cross_131 (kP ?_)
                  refine ev_istore (L' := [(5, vI (riseZ (sZ S a b) ((S 13 b) - 1))), (4, vI (riseZ (rZ S a b) ((S 13 a) - 1))), (0, .ref (o)), (1, vI (a)), (2, vI (b)), (3, vI (3))]) dX10_cross_134 (by decide) rfl ?_
                  refine ev_iload 1 rfl dX10_cross_136 ?_
                  refine ev_iload 0 rfl dX10_cross_138 ?_
                  refine ev_icmp_le (tgt := 148) dX10_cross_140 (by first | assumption | exact hR _ _ | exact hRS3 _ _ | decide | (simp only [InR]; omega)) (by first | assumption | exact hR _ _ | exact hRS3 _ _ | decide | (simp only [InR]; omega)) (by decide) (fun c140 => ?_) (fun c140 => ?_)
                  · refine ev_iload 0 rfl dX10_cross_148 ?_
                    refine ev_ireturn dX10_cross_150 ?_
                    refine ⟨_, rfl, ?_, S3, hM4, (eqx.tr (l := [17, 18]) (eqx.rf (l := [17, 18]) (S := S)) ex5 (by decide) (by decide))⟩
                    simp only [sp_cross]; rw [if_neg (by omega), if_neg (by omega), iteP_pos hc]
                    show _ = loZ S a b
                    simp only [loZ]; split <;> first | rfl | omega
                  · refine ev_iload 1 rfl dX10_cross_143 ?_
                    refine ev_goto (tgt := 150) dX10_cross_145 (by decide) ?_
                    refine ev_ireturn dX10_cross_150 ?_
                    refine ⟨_, rfl, ?_, S3, hM4, (eqx.tr (l := [17, 18]) (eqx.rf (l := [17, 18]) (S := S)) ex5 (by decide) (by decide))⟩
                    simp only [sp_cross]; rw [if_neg (by omega), if_neg (by omega), iteP_pos hc]
                    show _ = loZ S a b
                    simp only [loZ]; split <;> first | rfl | omega
                · subst q
                  refine ev_tableIn (tgt := 151) (off := 81) dX10_cross_70 (by decide) (by decide) (by decide) (by decide) (by decide) ?_
                  refine ev_aload_n 0 rfl dX10_cross_151 ?_
                  refine ev_aload_n 0 rfl dX10_cross_152 ?_
                  refine mgE_213 (v := rZ S a b) hM4 (by rw [r60]) dX10_cross_153 ?_
                  refine ev_aload_n 0 rfl dX10_cross_156 ?_
                  refine mg_43 hM4 dX10_cross_157 ?_
                  refine ev_iload_n 1 rfl dX10_cross_160 ?_
                  refine m_ldE (k := 13) (v := S 13 a) hM4 (by decide) (by rw [ex5 13 (by decide)]) dX10_cross_161 (by omega) (by show _ < ((40 : Nat) : Int); omega) ?_
                  refine ev_iconst dX10_cross_162 ?_
                  refine ev_iadd dX10_cross_163 ?_
                  refine c_X10_219 (m_rise hM4 hIS3 (by omega) (by omega)) hM4.1 rfl rfl (Nat.le_of_ble_eq_true rfl) (by decide) dX10_cross_164 (kP ?_)
                  refine ev_istore (L' := [(4, vI (riseZ (rZ S a b) ((S 13 a) + 1))), (0, .ref (o)), (1, vI (a)), (2, vI (b)), (3, vI (4))]) dX10_cross_167 (by decide) rfl ?_
                  refine ev_aload_n 1 rfl dX10_cross_169 ?_
                  refine ev_aload_n 1 rfl dX10_cross_170 ?_
                  refine mgE_216 (v := sZ S a b) hM4 (by rw [s60]) dX10_cross_171 ?_
                  refine ev_aload_n 1 rfl dX10_cross_174 ?_
                  refine mg_43 hM4 dX10_cross_175 ?_
                  refine ev_iload_n 3 rfl dX10_cross_178 ?_
                  refine m_ldE (k := 13) (v := S 13 b) hM4 (by decide) (by rw [ex5 13 (by decide)]) dX10_cross_179 (by omega) (by show _ < ((40 : Nat) : Int); omega) ?_
                  refine ev_iconst dX10_cross_180 ?_
                  refine ev_iadd dX10_cross_181 ?_
                  refine c_X10_219 (m_rise hM4 hIS3 (by omega) (by omega)) hM4.1 rfl rfl (Nat.le_of_ble_eq_true rfl) (by decide) dX10_cross_182 (kP ?_)
                  refine ev_istore (L' := [(5, vI (riseZ (sZ S a b) ((S 13 b) + 1))), (4, vI (riseZ (rZ S a b) ((S 13 a) + 1))), (0, .ref (o)), (1, vI (a)), (2, vI (b)), (3, vI (4))]) dX10_cross_185 (by decide) rfl ?_
                  refine ev_iload 1 rfl dX10_cross_187 ?_
                  refine ev_iload 0 rfl dX10_cross_189 ?_
                  refine ev_icmp_ge (tgt := 199) dX10_cross_191 (by first | assumption | exact hR _ _ | exact hRS3 _ _ | decide | (simp only [InR]; omega)) (by first | assumption | exact hR _ _ | exact hRS3 _ _ | decide | (simp only [InR]; omega)) (by decide) (fun c191 => ?_) (fun c191 => ?_)
                  · refine ev_iload 0 rfl dX10_cross_199 ?_
                    refine ev_ireturn dX10_cross_201 ?_
                    refine ⟨_, rfl, ?_, S3, hM4, (eqx.tr (l := [17, 18]) (eqx.rf (l := [17, 18]) (S := S)) ex5 (by decide) (by decide))⟩
                    simp only [sp_cross]; rw [if_neg (by omega), if_neg (by omega), iteP_pos hc]
                    show _ = upZ S a b
                    simp only [upZ]; split <;> first | rfl | omega
                  · refine ev_iload 1 rfl dX10_cross_194 ?_
                    refine ev_goto (tgt := 201) dX10_cross_196 (by decide) ?_
                    refine ev_ireturn dX10_cross_201 ?_
                    refine ⟨_, rfl, ?_, S3, hM4, (eqx.tr (l := [17, 18]) (eqx.rf (l := [17, 18]) (S := S)) ex5 (by decide) (by decide))⟩
                    simp only [sp_cross]; rw [if_neg (by omega), if_neg (by omega), iteP_pos hc]
                    show _ = upZ S a b
                    simp only [upZ]; split <;> first | rfl | omega
                · subst q
                  refine ev_tableIn (tgt := 202) (off := 132) dX10_cross_70 (by decide) (by decide) (by decide) (by decide) (by decide) ?_
                  refine ev_aload_n 0 rfl dX10_cross_202 ?_
                  refine mgE_213 (v := rZ S a b) hM4 (by rw [r60]) dX10_cross_203 ?_
                  refine ev_ireturn dX10_cross_206 ?_
                  refine ⟨_, rfl, ?_, S3, hM4, (eqx.tr (l := [17, 18]) (eqx.rf (l := [17, 18]) (S := S)) ex5 (by decide) (by decide))⟩
                  simp only [sp_cross]; rw [if_neg (by omega), if_neg (by omega), iteP_pos hc]
                  rfl
                · subst q
                  refine ev_tableIn (tgt := 207) (off := 137) dX10_cross_70 (by decide) (by decide) (by decide) (by decide) (by decide) ?_
                  refine ev_aload_n 0 rfl dX10_cross_207 ?_
                  refine mgE_216 (v := sZ S a b) hM4 (by rw [s60]) dX10_cross_208 ?_
                  refine ev_ireturn dX10_cross_211 ?_
                  refine ⟨_, rfl, ?_, S3, hM4, (eqx.tr (l := [17, 18]) (eqx.rf (l := [17, 18]) (S := S)) ex5 (by decide) (by decide))⟩
                  simp only [sp_cross]; rw [if_neg (by omega), if_neg (by omega), iteP_pos hc]
                  rfl
              · have hRS3 := hM4.2.2.2.2
                have hxS3 : eqx scr S S3 := (eqx.rf (l := scr) (S := S)).tr ex5 (by decide) (by decide)
                have hIS3 := Inv.x hI hxS3
                refine ev_if_ne (tgt := 69) dX10_cross_63 (by decide) (by decide) (fun c => absurd c (by decide)) (fun _ => ?_)
                refine ev_ldc (z := -100004) dX10_cross_66 k_X10_233 (by decide) ?_
                refine ev_ireturn dX10_cross_68 ?_
                refine ⟨_, rfl, ?_, S3, hM4, (eqx.tr (l := [17, 18]) (eqx.rf (l := [17, 18]) (S := S)) ex5 (by decide) (by decide))⟩
                simp only [sp_cross]; first | (rw [if_pos (by omega)]; done) | (rw [if_neg (by omega), if_pos (by omega)]; done) | (rw [if_neg (by omega), if_neg (by omega)]; first | (rw [iteP_neg (by assumption)]; done) | (rw [iteP_pos (by assumption)]; simp only [loZ, upZ]; (repeat' split) <;> first | rfl | omega))
            · refine ev_ldc (z := -100012) dX10_cross_54 k_X10_232 (by decide) ?_
              refine ev_ireturn dX10_cross_56 ?_
              refine ⟨_, rfl, ?_, S, hM, (eqx.rf (l := [17, 18]) (S := S))⟩
              simp only [sp_cross]; first | (rw [if_pos (by omega)]; done) | (rw [if_neg (by omega), if_pos (by omega)]; done) | (rw [if_neg (by omega), if_neg (by omega)]; first | (rw [iteP_neg (by assumption)]; done) | (rw [iteP_pos (by assumption)]; simp only [loZ, upZ]; (repeat' split) <;> first | rfl | omega))
        · refine ev_if_ne (tgt := 36) dX10_cross_30 (by decide) (by decide) (fun c => absurd c (by decide)) (fun _ => ?_)
          refine ev_ldc (z := -100001) dX10_cross_33 k_X10_151 (by decide) ?_
          refine ev_ireturn dX10_cross_35 ?_
          refine ⟨_, rfl, ?_, S, hM, (eqx.rf (l := [17, 18]) (S := S))⟩
          simp only [sp_cross]; first | (rw [if_pos (by omega)]; done) | (rw [if_neg (by omega), if_pos (by omega)]; done) | (rw [if_neg (by omega), if_neg (by omega)]; first | (rw [iteP_neg (by assumption)]; done) | (rw [iteP_pos (by assumption)]; simp only [loZ, upZ]; (repeat' split) <;> first | rfl | omega))
    · refine ev_if_eq (tgt := 33) dX10_cross_13 (by decide) (by decide) (fun _ => ?_) (fun c => absurd c (by decide))
      refine ev_ldc (z := -100001) dX10_cross_33 k_X10_151 (by decide) ?_
      refine ev_ireturn dX10_cross_35 ?_
      refine ⟨_, rfl, ?_, S, hM, (eqx.rf (l := [17, 18]) (S := S))⟩
      simp only [sp_cross]; first | (rw [if_pos (by omega)]; done) | (rw [if_neg (by omega), if_pos (by omega)]; done) | (rw [if_neg (by omega), if_neg (by omega)]; first | (rw [iteP_neg (by assumption)]; done) | (rw [iteP_pos (by assumption)]; simp only [loZ, upZ]; (repeat' split) <;> first | rfl | omega))
  · refine ev_if_eq (tgt := 33) dX10_cross_5 (by decide) (by decide) (fun _ => ?_) (fun c => absurd c (by decide))
    refine ev_ldc (z := -100001) dX10_cross_33 k_X10_151 (by decide) ?_
    refine ev_ireturn dX10_cross_35 ?_
    refine ⟨_, rfl, ?_, S, hM, (eqx.rf (l := [17, 18]) (S := S))⟩
    simp only [sp_cross]; first | (rw [if_pos (by omega)]; done) | (rw [if_neg (by omega), if_pos (by omega)]; done) | (rw [if_neg (by omega), if_neg (by omega)]; first | (rw [iteP_neg (by assumption)]; done) | (rw [iteP_pos (by assumption)]; simp only [loZ, upZ]; (repeat' split) <;> first | rfl | omega))
