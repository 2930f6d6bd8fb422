set_option maxHeartbeats 4000000 in
set_option maxRecDepth 100000 in
theorem m_station {E : EV} {h : AH} {o : Nat} {ad : Nat → Nat} {S : MS} {x y : Int} (hM : MR E o ad S h) (hI : Inv S) (g1 : InR x) (g2 : InR y) : CM E yX10_station cX10_station 3 (some .int) 2 0 0 [.ref (o), vI (x), vI (y)] h (qI (fun z h' => z = sp_station S x y ∧ MR E o ad (nx_station S x y) h')) := by
  have hR := hM.2.2.2.2
  have hJ := hI
  obtain ⟨i1, i2, i3, i4, i5, i6, iSt, iSi, iWa, iSh, iLa, iS0, iS1, iZe⟩ := hJ
  refine CM.of (by decide) (Nat.le_of_ble_eq_true rfl) (L := [(0, .ref (o)), (1, vI (x)), (2, vI (y))]) rfl ?_
  refine ev_iload_n 1 rfl dX10_station_0 ?_
  refine ev_i2l dX10_station_1 (by first | assumption | exact hR _ _ | decide | (simp only [InR]; omega)) ?_
  refine ev_lconst (z := 0) dX10_station_2 (by decide) ?_
  refine ev_ldc2 (z := 2000) dX10_station_3 k_X10_158 (by decide) ?_
  refine c_X10_143 (m_in E (v := x) (a := 0) (b := 2000) (by first | assumption | exact hR _ _ | decide | (simp only [InL]; omega)) (by decide) (by decide)) rfl rfl (Nat.le_of_ble_eq_true rfl) (by decide) dX10_station_6 (kB (fun b6 => ?_) (fun b6 => ?_))
  · refine ev_if_eq (tgt := 24) dX10_station_9 (by decide) (by decide) (fun c => absurd c (by decide)) (fun _ => ?_)
    refine ev_iload_n 2 rfl dX10_station_12 ?_
    refine ev_i2l dX10_station_13 (by first | assumption | exact hR _ _ | decide | (simp only [InR]; omega)) ?_
    refine ev_lconst (z := 0) dX10_station_14 (by decide) ?_
    refine ev_ldc2 (z := 2000) dX10_station_15 k_X10_158 (by decide) ?_
    refine c_X10_143 (m_in E (v := y) (a := 0) (b := 2000) (by first | assumption | exact hR _ _ | decide | (simp only [InL]; omega)) (by decide) (by decide)) rfl rfl (Nat.le_of_ble_eq_true rfl) (by decide) dX10_station_18 (kB (fun b18 => ?_) (fun b18 => ?_))
    · refine ev_if_ne (tgt := 26) dX10_station_21 (by decide) (by decide) (fun _ => ?_) (fun c => absurd c (by decide))
      refine ev_aload_n 0 rfl dX10_station_26 ?_
      refine mg_155 hM dX10_station_27 ?_
      refine ev_bipush dX10_station_30 (by decide) ?_
      refine ev_icmp_ne (tgt := 38) dX10_station_32 (by first | assumption | exact hR _ _ | decide | (simp only [InR]; omega)) (by decide) (by decide) (fun c32 => ?_) (fun c32 => ?_)
      · refine ev_aload_n 0 rfl dX10_station_38 ?_
        refine mg_16 hM dX10_station_39 ?_
        refine ev_aload_n 0 rfl dX10_station_42 ?_
        refine mg_155 hM dX10_station_43 ?_
        refine ev_iload_n 1 rfl dX10_station_46 ?_
        refine m_st (k := 3) hM (by decide) dX10_station_47 (by omega) (by show _ < ((8 : Nat) : Int); omega) (by first | assumption | exact hR _ _ | decide | (simp only [InR]; omega)) (fun S1 h2 eS3 hM4 => ?_)
        have hRS1 := hM4.2.2.2.2
        refine ev_aload_n 0 rfl dX10_station_48 ?_
        refine mg_19 hM4 dX10_station_49 ?_
        refine ev_aload_n 0 rfl dX10_station_52 ?_
        refine mgE_155 (v := S 2 0) hM4 (by rw [eS3, upS_ne (by decide)]) dX10_station_53 ?_
        refine ev_iload_n 2 rfl dX10_station_56 ?_
        refine m_st (k := 4) hM4 (by decide) dX10_station_57 (by omega) (by show _ < ((8 : Nat) : Int); omega) (by first | assumption | exact hR _ _ | exact hRS1 _ _ | decide | (simp only [InR]; omega)) (fun S5 h6 eS7 hM8 => ?_)
        have hRS5 := hM8.2.2.2.2
        refine ev_aload_n 0 rfl dX10_station_58 ?_
        refine ev_dup dX10_station_59 rfl ?_
        refine mgE_155 (v := S 2 0) hM8 (by rw [eS7, upS_ne (by decide), eS3, upS_ne (by decide)]) dX10_station_60 ?_
        refine ev_iconst dX10_station_63 ?_
        refine ev_iadd dX10_station_64 ?_
        refine mp_155 hM8 (by first | assumption | exact hR _ _ | exact hRS1 _ _ | exact hRS5 _ _ | decide | (simp only [InR]; omega)) dX10_station_65 (fun S9 h10 eS11 hM12 => ?_)
        have hRS9 := hM12.2.2.2.2
        refine ev_aload_n 0 rfl dX10_station_68 ?_
        refine mgE_155 (v := (S 2 0) + 1) hM12 (by rw [eS11]; exact upS_at) dX10_station_69 ?_
        refine ev_iconst dX10_station_72 ?_
        refine ev_isub dX10_station_73 ?_
        refine ev_ireturn dX10_station_74 ?_
        refine ⟨_, rfl, ?_, ?_⟩
        · simp only [sp_station]; (repeat' split) <;> first | rfl | omega
        · subst eS11 eS7 eS3
          simp only [nx_station]; first | (rw [if_pos (by omega)]; exact hM12) | (rw [if_neg (by omega)]; exact hM12)
      · refine ev_bipush dX10_station_35 (by decide) ?_
        refine ev_ireturn dX10_station_37 ?_
        refine ⟨_, rfl, ?_, ?_⟩
        · simp only [sp_station]; (repeat' split) <;> first | rfl | omega
        · simp only [nx_station]; first | (rw [if_pos (by omega)]; exact hM) | (rw [if_neg (by omega)]; exact hM)
    · refine ev_if_ne (tgt := 26) dX10_station_21 (by decide) (by decide) (fun c => absurd c (by decide)) (fun _ => ?_)
      refine ev_iconst dX10_station_24 ?_
      refine ev_ireturn dX10_station_25 ?_
      refine ⟨_, rfl, ?_, ?_⟩
      · simp only [sp_station]; (repeat' split) <;> first | rfl | omega
      · simp only [nx_station]; first | (rw [if_pos (by omega)]; exact hM) | (rw [if_neg (by omega)]; exact hM)
  · refine ev_if_eq (tgt := 24) dX10_station_9 (by decide) (by decide) (fun _ => ?_) (fun c => absurd c (by decide))
    refine ev_iconst dX10_station_24 ?_
    refine ev_ireturn dX10_station_25 ?_
    refine ⟨_, rfl, ?_, ?_⟩
    · simp only [sp_station]; (repeat' split) <;> first | rfl | omega
    · simp only [nx_station]; first | (rw [if_pos (by omega)]; exact hM) | (rw [if_neg (by omega)]; exact hM)

set_option maxHeartbeats 4000000 in
set_option maxRecDepth 100000 in
theorem m_clock {E : EV} {h : AH} {o : Nat} {ad : Nat → Nat} {S : MS} {a lo hi : Int} (hM : MR E o ad S h) (hI : Inv S) (g1 : InR a) (g2 : InR lo) (g3 : InR hi) : CM E yX10_clock cX10_clock 4 (some .int) 2 0 0 [.ref (o), vI (a), vI (lo), vI (hi)] h (qI (fun z h' => z = sp_clock S a lo hi ∧ MR E o ad (nx_clock S a lo hi) h')) := by
  have hR := hM.2.2.2.2
  have hJ := hI
  obtain ⟨i1, i2, i3, i4, i5, i6, iSt, iSi, iWa, iSh, iLa, iS0, iS1, iZe⟩ := hJ
  refine CM.of (by decide) (Nat.le_of_ble_eq_true rfl) (L := [(0, .ref (o)), (1, vI (a)), (2, vI (lo)), (3, vI (hi))]) rfl ?_
  refine ev_aload_n 0 rfl dX10_clock_0 ?_
  refine ev_iload_n 1 rfl dX10_clock_1 ?_
  refine c_X10_160 (m_isStation hM hI (by first | assumption | exact hR _ _ | decide | (simp only [InR]; omega))) hM.1 rfl rfl (Nat.le_of_ble_eq_true rfl) (by decide) dX10_clock_2 (kB (fun b2 => ?_) (fun b2 => ?_))
  · refine ev_if_eq (tgt := 35) dX10_clock_5 (by decide) (by decide) (fun c => absurd c (by decide)) (fun _ => ?_)
    refine ev_iload_n 2 rfl dX10_clock_8 ?_
    refine ev_i2l dX10_clock_9 (by first | assumption | exact hR _ _ | decide | (simp only [InR]; omega)) ?_
    refine ev_ldc2 (z := -60) dX10_clock_10 k_X10_164 (by decide) ?_
    refine ev_iload_n 3 rfl dX10_clock_13 ?_
    refine ev_i2l dX10_clock_14 (by first | assumption | exact hR _ _ | decide | (simp only [InR]; omega)) ?_
    refine c_X10_143 (m_in E (v := lo) (a := -60) (b := hi) (by first | assumption | exact hR _ _ | decide | (simp only [InL]; omega)) (by decide) (by first | assumption | exact hR _ _ | decide | (simp only [InL]; omega))) rfl rfl (Nat.le_of_ble_eq_true rfl) (by decide) dX10_clock_15 (kB (fun b15 => ?_) (fun b15 => ?_))
    · refine ev_if_eq (tgt := 35) dX10_clock_18 (by decide) (by decide) (fun c => absurd c (by decide)) (fun _ => ?_)
      refine ev_iload_n 3 rfl dX10_clock_21 ?_
      refine ev_i2l dX10_clock_22 (by first | assumption | exact hR _ _ | decide | (simp only [InR]; omega)) ?_
      refine ev_ldc2 (z := -60) dX10_clock_23 k_X10_164 (by decide) ?_
      refine ev_ldc2 (z := 60) dX10_clock_26 k_X10_166 (by decide) ?_
      refine c_X10_143 (m_in E (v := hi) (a := -60) (b := 60) (by first | assumption | exact hR _ _ | decide | (simp only [InL]; omega)) (by decide) (by decide)) rfl rfl (Nat.le_of_ble_eq_true rfl) (by decide) dX10_clock_29 (kB (fun b29 => ?_) (fun b29 => ?_))
      · refine ev_if_ne (tgt := 37) dX10_clock_32 (by decide) (by decide) (fun _ => ?_) (fun c => absurd c (by decide))
        refine ev_aload_n 0 rfl dX10_clock_37 ?_
        refine mg_22 hM dX10_clock_38 ?_
        refine ev_iload_n 1 rfl dX10_clock_41 ?_
        refine ev_iload_n 2 rfl dX10_clock_42 ?_
        refine m_st (k := 5) hM (by decide) dX10_clock_43 (by omega) (by show _ < ((8 : Nat) : Int); omega) (by first | assumption | exact hR _ _ | decide | (simp only [InR]; omega)) (fun S1 h2 eS3 hM4 => ?_)
        have hRS1 := hM4.2.2.2.2
        refine ev_aload_n 0 rfl dX10_clock_44 ?_
        refine mg_25 hM4 dX10_clock_45 ?_
        refine ev_iload_n 1 rfl dX10_clock_48 ?_
        refine ev_iload_n 3 rfl dX10_clock_49 ?_
        refine m_st (k := 6) hM4 (by decide) dX10_clock_50 (by omega) (by show _ < ((8 : Nat) : Int); omega) (by first | assumption | exact hR _ _ | exact hRS1 _ _ | decide | (simp only [InR]; omega)) (fun S5 h6 eS7 hM8 => ?_)
        have hRS5 := hM8.2.2.2.2
        refine ev_iconst dX10_clock_51 ?_
        refine ev_ireturn dX10_clock_52 ?_
        refine ⟨_, rfl, ?_, ?_⟩
        · simp only [sp_clock]; (repeat' split) <;> first | rfl | omega
        · subst eS7 eS3
          simp only [nx_clock]; first | (rw [if_pos (by omega)]; exact hM8) | (rw [if_neg (by omega)]; exact hM8)
      · refine ev_if_ne (tgt := 37) dX10_clock_32 (by decide) (by decide) (fun c => absurd c (by decide)) (fun _ => ?_)
        refine ev_iconst dX10_clock_35 ?_
        refine ev_ireturn dX10_clock_36 ?_
        refine ⟨_, rfl, ?_, ?_⟩
        · simp only [sp_clock]; (repeat' split) <;> first | rfl | omega
        · simp only [nx_clock]; first | (rw [if_pos (by omega)]; exact hM) | (rw [if_neg (by omega)]; exact hM)
    · refine ev_if_eq (tgt := 35) dX10_clock_18 (by decide) (by decide) (fun _ => ?_) (fun c => absurd c (by decide))
      refine ev_iconst dX10_clock_35 ?_
      refine ev_ireturn dX10_clock_36 ?_
      refine ⟨_, rfl, ?_, ?_⟩
      · simp only [sp_clock]; (repeat' split) <;> first | rfl | omega
      · simp only [nx_clock]; first | (rw [if_pos (by omega)]; exact hM) | (rw [if_neg (by omega)]; exact hM)
  · refine ev_if_eq (tgt := 35) dX10_clock_5 (by decide) (by decide) (fun _ => ?_) (fun c => absurd c (by decide))
    refine ev_iconst dX10_clock_35 ?_
    refine ev_ireturn dX10_clock_36 ?_
    refine ⟨_, rfl, ?_, ?_⟩
    · simp only [sp_clock]; (repeat' split) <;> first | rfl | omega
    · simp only [nx_clock]; first | (rw [if_pos (by omega)]; exact hM) | (rw [if_neg (by omega)]; exact hM)

set_option maxHeartbeats 4000000 in
set_option maxRecDepth 100000 in
theorem m_add {E : EV} {h : AH} {o : Nat} {ad : Nat → Nat} {S : MS} {k a1 a2 a3 a4 a5 c l : Int} (hM : MR E o ad S h) (hI : Inv S) (g1 : InR k) (g2 : InR a1) (g3 : InR a2) (g4 : InR a3) (g5 : InR a4) (g6 : InR a5) (g7 : InR c) (g8 : InR l) : CM E yX10_add cX10_add 9 (some .int) 0 0 0 [.ref (o), vI (k), vI (a1), vI (a2), vI (a3), vI (a4), vI (a5), vI (c), vI (l)] h (qI (fun z h' => z = sp_add S ∧ MR E o ad (nx_add S k a1 a2 a3 a4 a5 c l) h')) := by
  have hR := hM.2.2.2.2
  have hJ := hI
  obtain ⟨i1, i2, i3, i4, i5, i6, iSt, iSi, iWa, iSh, iLa, iS0, iS1, iZe⟩ := hJ
  refine CM.of (by decide) (Nat.le_of_ble_eq_true rfl) (L := [(0, .ref (o)), (1, vI (k)), (2, vI (a1)), (3, vI (a2)), (4, vI (a3)), (5, vI (a4)), (6, vI (a5)), (7, vI (c)), (8, vI (l))]) rfl ?_
  refine ev_aload_n 0 rfl dX10_add_0 ?_
  refine mg_177 hM dX10_add_1 ?_
  refine ev_bipush dX10_add_4 (by decide) ?_
  refine ev_icmp_ne (tgt := 12) dX10_add_6 (by first | assumption | exact hR _ _ | decide | (simp only [InR]; omega)) (by decide) (by decide) (fun c6 => ?_) (fun c6 => ?_)
  · refine ev_aload_n 0 rfl dX10_add_12 ?_
    refine mg_28 hM dX10_add_13 ?_
    refine ev_aload_n 0 rfl dX10_add_16 ?_
    refine mg_177 hM dX10_add_17 ?_
    refine ev_iload_n 1 rfl dX10_add_20 ?_
    refine m_st (k := 8) hM (by decide) dX10_add_21 (by omega) (by show _ < ((40 : Nat) : Int); omega) (by first | assumption | exact hR _ _ | decide | (simp only [InR]; omega)) (fun S1 h2 eS3 hM4 => ?_)
    have hRS1 := hM4.2.2.2.2
    refine ev_aload_n 0 rfl dX10_add_22 ?_
    refine mg_31 hM4 dX10_add_23 ?_
    refine ev_aload_n 0 rfl dX10_add_26 ?_
    refine mgE_177 (v := S 7 0) hM4 (by rw [eS3, upS_ne (by decide)]) dX10_add_27 ?_
    refine ev_iload_n 2 rfl dX10_add_30 ?_
    refine m_st (k := 9) hM4 (by decide) dX10_add_31 (by omega) (by show _ < ((40 : Nat) : Int); omega) (by first | assumption | exact hR _ _ | exact hRS1 _ _ | decide | (simp only [InR]; omega)) (fun S5 h6 eS7 hM8 => ?_)
    have hRS5 := hM8.2.2.2.2
    refine ev_aload_n 0 rfl dX10_add_32 ?_
    refine mg_34 hM8 dX10_add_33 ?_
    refine ev_aload_n 0 rfl dX10_add_36 ?_
    refine mgE_177 (v := S 7 0) hM8 (by rw [eS7, upS_ne (by decide), eS3, upS_ne (by decide)]) dX10_add_37 ?_
    refine ev_iload_n 3 rfl dX10_add_40 ?_
    refine m_st (k := 10) hM8 (by decide) dX10_add_41 (by omega) (by show _ < ((40 : Nat) : Int); omega) (by first | assumption | exact hR _ _ | exact hRS1 _ _ | exact hRS5 _ _ | decide | (simp only [InR]; omega)) (fun S9 h10 eS11 hM12 => ?_)
    have hRS9 := hM12.2.2.2.2
    refine ev_aload_n 0 rfl dX10_add_42 ?_
    refine mg_37 hM12 dX10_add_43 ?_
    refine ev_aload_n 0 rfl dX10_add_46 ?_
    refine mgE_177 (v := S 7 0) hM12 (by rw [eS11, upS_ne (by decide), eS7, upS_ne (by decide), eS3, upS_ne (by decide)]) dX10_add_47 ?_
    refine ev_iload 4 rfl dX10_add_50 ?_
    refine m_st (k := 11) hM12 (by decide) dX10_add_52 (by omega) (by show _ < ((40 : Nat) : Int); omega) (by first | assumption | exact hR _ _ | exact hRS1 _ _ | exact hRS5 _ _ | exact hRS9 _ _ | decide | (simp only [InR]; omega)) (fun S13 h14 eS15 hM16 => ?_)
    have hRS13 := hM16.2.2.2.2
    refine ev_aload_n 0 rfl dX10_add_53 ?_
    refine mg_40 hM16 dX10_add_54 ?_
    refine ev_aload_n 0 rfl dX10_add_57 ?_
    refine mgE_177 (v := S 7 0) hM16 (by rw [eS15, upS_ne (by decide), eS11, upS_ne (by decide), eS7, upS_ne (by decide), eS3, upS_ne (by decide)]) dX10_add_58 ?_
    refine ev_iload 5 rfl dX10_add_61 ?_
    refine m_st (k := 12) hM16 (by decide) dX10_add_63 (by omega) (by show _ < ((40 : Nat) : Int); omega) (by first | assumption | exact hR _ _ | exact hRS1 _ _ | exact hRS5 _ _ | exact hRS9 _ _ | exact hRS13 _ _ | decide | (simp only [InR]; omega)) (fun S17 h18 eS19 hM20 => ?_)
    have hRS17 := hM20.2.2.2.2
    refine ev_aload_n 0 rfl dX10_add_64 ?_
    refine mg_43 hM20 dX10_add_65 ?_
    refine ev_aload_n 0 rfl dX10_add_68 ?_
    refine mgE_177 (v := S 7 0) hM20 (by rw [eS19, upS_ne (by decide), eS15, upS_ne (by decide), eS11, upS_ne (by decide), eS7, upS_ne (by decide), eS3, upS_ne (by decide)]) dX10_add_69 ?_
    refine ev_iload 6 rfl dX10_add_72 ?_
    refine m_st (k := 13) hM20 (by decide) dX10_add_74 (by omega) (by show _ < ((40 : Nat) : Int); omega) (by first | assumption | exact hR _ _ | exact hRS1 _ _ | exact hRS5 _ _ | exact hRS9 _ _ | exact hRS13 _ _ | exact hRS17 _ _ | decide | (simp only [InR]; omega)) (fun S21 h22 eS23 hM24 => ?_)
    have hRS21 := hM24.2.2.2.2
    refine ev_aload_n 0 rfl dX10_add_75 ?_
    refine mg_46 hM24 dX10_add_76 ?_
    refine ev_aload_n 0 rfl dX10_add_79 ?_
    refine mgE_177 (v := S 7 0) hM24 (by rw [eS23, upS_ne (by decide), eS19, upS_ne (by decide), eS15, upS_ne (by decide), eS11, upS_ne (by decide), eS7, upS_ne (by decide), eS3, upS_ne (by decide)]) dX10_add_80 ?_
    refine ev_iload 7 rfl dX10_add_83 ?_
    refine m_st (k := 14) hM24 (by decide) dX10_add_85 (by omega) (by show _ < ((40 : Nat) : Int); omega) (by first | assumption | exact hR _ _ | exact hRS1 _ _ | exact hRS5 _ _ | exact hRS9 _ _ | exact hRS13 _ _ | exact hRS17 _ _ | exact hRS21 _ _ | decide | (simp only [InR]; omega)) (fun S25 h26 eS27 hM28 => ?_)
    have hRS25 := hM28.2.2.2.2
    refine ev_aload_n 0 rfl dX10_add_86 ?_
    refine mg_49 hM28 dX10_add_87 ?_
    refine ev_aload_n 0 rfl dX10_add_90 ?_
    refine mgE_177 (v := S 7 0) hM28 (by rw [eS27, upS_ne (by decide), eS23, upS_ne (by decide), eS19, upS_ne (by decide), eS15, upS_ne (by decide), eS11, upS_ne (by decide), eS7, upS_ne (by decide), eS3, upS_ne (by decide)]) dX10_add_91 ?_
    refine ev_iload 8 rfl dX10_add_94 ?_
    refine m_st (k := 15) hM28 (by decide) dX10_add_96 (by omega) (by show _ < ((40 : Nat) : Int); omega) (by first | assumption | exact hR _ _ | exact hRS1 _ _ | exact hRS5 _ _ | exact hRS9 _ _ | exact hRS13 _ _ | exact hRS17 _ _ | exact hRS21 _ _ | exact hRS25 _ _ | decide | (simp only [InR]; omega)) (fun S29 h30 eS31 hM32 => ?_)
    have hRS29 := hM32.2.2.2.2
    refine ev_aload_n 0 rfl dX10_add_97 ?_
    refine ev_dup dX10_add_98 rfl ?_
    refine mgE_177 (v := S 7 0) hM32 (by rw [eS31, upS_ne (by decide), eS27, upS_ne (by decide), eS23, upS_ne (by decide), eS19, upS_ne (by decide), eS15, upS_ne (by decide), eS11, upS_ne (by decide), eS7, upS_ne (by decide), eS3, upS_ne (by decide)]) dX10_add_99 ?_
    refine ev_iconst dX10_add_102 ?_
    refine ev_iadd dX10_add_103 ?_
    refine mp_177 hM32 (by first | assumption | exact hR _ _ | exact hRS1 _ _ | exact hRS5 _ _ | exact hRS9 _ _ | exact hRS13 _ _ | exact hRS17 _ _ | exact hRS21 _ _ | exact hRS25 _ _ | exact hRS29 _ _ | decide | (simp only [InR]; omega)) dX10_add_104 (fun S33 h34 eS35 hM36 => ?_)
    have hRS33 := hM36.2.2.2.2
    refine ev_aload_n 0 rfl dX10_add_107 ?_
    refine mgE_177 (v := (S 7 0) + 1) hM36 (by rw [eS35]; exact upS_at) dX10_add_108 ?_
    refine ev_iconst dX10_add_111 ?_
    refine ev_isub dX10_add_112 ?_
    refine ev_ireturn dX10_add_113 ?_
    refine ⟨_, rfl, ?_, ?_⟩
    · simp only [sp_add]; (repeat' split) <;> first | rfl | omega
    · subst eS35 eS31 eS27 eS23 eS19 eS15 eS11 eS7 eS3
      simp only [nx_add, nx_put]; first | (rw [if_pos (by omega)]; exact hM36) | (rw [if_neg (by omega)]; exact hM36)
  · refine ev_bipush dX10_add_9 (by decide) ?_
    refine ev_ireturn dX10_add_11 ?_
    refine ⟨_, rfl, ?_, ?_⟩
    · simp only [sp_add]; (repeat' split) <;> first | rfl | omega
    · simp only [nx_add, nx_put]; first | (rw [if_pos (by omega)]; exact hM) | (rw [if_neg (by omega)]; exact hM)

set_option maxHeartbeats 4000000 in
set_option maxRecDepth 100000 in
theorem m_glow {E : EV} {h : AH} {o : Nat} {ad : Nat → Nat} {S : MS} {a1 a2 a3 a4 a5 : Int} (hM : MR E o ad S h) (hI : Inv S) (g1 : InR a1) (g2 : InR a2) (g3 : InR a3) (g4 : InR a4) (g5 : InR a5) : CM E yX10_glow cX10_glow 6 (some .int) 3 0 0 [.ref (o), vI (a1), vI (a2), vI (a3), vI (a4), vI (a5)] h (qI (fun z h' => z = sp_glow S a1 a2 a3 a4 a5 ∧ MR E o ad (nx_glow S a1 a2 a3 a4 a5) h')) := by
  have hR := hM.2.2.2.2
  have hJ := hI
  obtain ⟨i1, i2, i3, i4, i5, i6, iSt, iSi, iWa, iSh, iLa, iS0, iS1, iZe⟩ := hJ
  refine CM.of (by decide) (Nat.le_of_ble_eq_true rfl) (L := [(0, .ref (o)), (1, vI (a1)), (2, vI (a2)), (3, vI (a3)), (4, vI (a4)), (5, vI (a5))]) rfl ?_
  refine ev_aload_n 0 rfl dX10_glow_0 ?_
  refine ev_iload_n 1 rfl dX10_glow_1 ?_
  refine ev_iload_n 2 rfl dX10_glow_2 ?_
  refine ev_iload_n 3 rfl dX10_glow_3 ?_
  refine ev_iload 4 rfl dX10_glow_4 ?_
  refine ev_iload 5 rfl dX10_glow_6 ?_
  refine c_X10_180 (m_isTold hM hI (by first | assumption | exact hR _ _ | decide | (simp only [InR]; omega)) (by first | assumption | exact hR _ _ | decide | (simp only [InR]; omega)) (by first | assumption | exact hR _ _ | decide | (simp only [InR]; omega)) (by first | assumption | exact hR _ _ | decide | (simp only [InR]; omega)) (by first | assumption | exact hR _ _ | decide | (simp only [InR]; omega))) hM.1 rfl rfl (Nat.le_of_ble_eq_true rfl) (by decide) dX10_glow_8 (kB (fun b8 => ?_) (fun b8 => ?_))
  · refine ev_if_eq (tgt := 31) dX10_glow_11 (by decide) (by decide) (fun c => absurd c (by decide)) (fun _ => ?_)
    refine ev_aload_n 0 rfl dX10_glow_14 ?_
    refine ev_iconst dX10_glow_15 ?_
    refine ev_iload_n 1 rfl dX10_glow_16 ?_
    refine ev_iload_n 2 rfl dX10_glow_17 ?_
    refine ev_iload_n 3 rfl dX10_glow_18 ?_
    refine ev_iload 4 rfl dX10_glow_19 ?_
    refine ev_iload 5 rfl dX10_glow_21 ?_
    refine ev_iconst dX10_glow_23 ?_
    refine ev_iconst dX10_glow_24 ?_
    refine c_X10_184 (m_add hM hI (by decide) (by first | assumption | exact hR _ _ | decide | (simp only [InR]; omega)) (by first | assumption | exact hR _ _ | decide | (simp only [InR]; omega)) (by first | assumption | exact hR _ _ | decide | (simp only [InR]; omega)) (by first | assumption | exact hR _ _ | decide | (simp only [InR]; omega)) (by first | assumption | exact hR _ _ | decide | (simp only [InR]; omega)) (by decide) (by decide)) hM.1 rfl rfl (Nat.le_of_ble_eq_true rfl) (by decide) dX10_glow_25 (kI (fun z1 h2 hqz1 => ?_))
    obtain ⟨hz3, hM4⟩ := hqz1
    refine ev_goto (tgt := 32) dX10_glow_28 (by decide) ?_
    refine ev_ireturn dX10_glow_32 ?_
    refine ⟨_, rfl, ?_, ?_⟩
    · simp only [sp_glow]; rw [if_pos (by omega)]; exact hz3
    · simp only [nx_glow]; rw [if_pos (by omega)]; exact hM4
  · refine ev_if_eq (tgt := 31) dX10_glow_11 (by decide) (by decide) (fun _ => ?_) (fun c => absurd c (by decide))
    refine ev_iconst dX10_glow_31 ?_
    refine ev_ireturn dX10_glow_32 ?_
    refine ⟨_, rfl, ?_, ?_⟩
    · simp only [sp_glow]; rw [if_neg (by omega)]
    · simp only [nx_glow]; rw [if_neg (by omega)]; exact hM

set_option maxHeartbeats 4000000 in
set_option maxRecDepth 100000 in
theorem m_arc {E : EV} {h : AH} {o : Nat} {ad : Nat → Nat} {S : MS} {a1 a2 a3 a4 a5 a6 : Int} (hM : MR E o ad S h) (hI : Inv S) (g1 : InR a1) (g2 : InR a2) (g3 : InR a3) (g4 : InR a4) (g5 : InR a5) (g6 : InR a6) : CM E yX10_arc cX10_arc 8 (some .int) 3 0 0 [.ref (o), vI (a1), vI (a2), vI (a3), vI (a4), vI (a5), vI (a6)] h (qI (fun z h' => z = sp_arc S a1 a2 a3 a4 a5 a6 ∧ MR E o ad (nx_arc S a1 a2 a3 a4 a5 a6) h')) := by
  have hR := hM.2.2.2.2
  have hJ := hI
  obtain ⟨i1, i2, i3, i4, i5, i6, iSt, iSi, iWa, iSh, iLa, iS0, iS1, iZe⟩ := hJ
  refine CM.of (by decide) (Nat.le_of_ble_eq_true rfl) (L := [(0, .ref (o)), (1, vI (a1)), (2, vI (a2)), (3, vI (a3)), (4, vI (a4)), (5, vI (a5)), (6, vI (a6))]) rfl ?_
  refine ev_aload_n 0 rfl dX10_arc_0 ?_
  refine ev_iload_n 1 rfl dX10_arc_1 ?_
  refine ev_iload_n 2 rfl dX10_arc_2 ?_
  refine ev_iload_n 3 rfl dX10_arc_3 ?_
  refine ev_iload 4 rfl dX10_arc_4 ?_
  refine ev_iload 5 rfl dX10_arc_6 ?_
  refine c_X10_180 (m_isTold hM hI (by first | assumption | exact hR _ _ | decide | (simp only [InR]; omega)) (by first | assumption | exact hR _ _ | decide | (simp only [InR]; omega)) (by first | assumption | exact hR _ _ | decide | (simp only [InR]; omega)) (by first | assumption | exact hR _ _ | decide | (simp only [InR]; omega)) (by first | assumption | exact hR _ _ | decide | (simp only [InR]; omega))) hM.1 rfl rfl (Nat.le_of_ble_eq_true rfl) (by decide) dX10_arc_8 (kB (fun b8 => ?_) (fun b8 => ?_))
  · refine ev_if_eq (tgt := 31) dX10_arc_11 (by decide) (by decide) (fun c => absurd c (by decide)) (fun _ => ?_)
    refine ev_iload 6 rfl dX10_arc_14 ?_
    refine ev_i2l dX10_arc_16 (by first | assumption | exact hR _ _ | decide | (simp only [InR]; omega)) ?_
    refine ev_lconst (z := 0) dX10_arc_17 (by decide) ?_
    refine ev_ldc2 (z := 4) dX10_arc_18 k_X10_188 (by decide) ?_
    refine c_X10_143 (m_in E (v := a6) (a := 0) (b := 4) (by first | assumption | exact hR _ _ | decide | (simp only [InL]; omega)) (by decide) (by decide)) rfl rfl (Nat.le_of_ble_eq_true rfl) (by decide) dX10_arc_21 (kB (fun b21 => ?_) (fun b21 => ?_))
    · refine ev_if_eq (tgt := 31) dX10_arc_24 (by decide) (by decide) (fun c => absurd c (by decide)) (fun _ => ?_)
      refine ev_iconst dX10_arc_27 ?_
      refine ev_goto (tgt := 32) dX10_arc_28 (by decide) ?_
      refine ev_istore (L' := [(7, vI (1)), (0, .ref (o)), (1, vI (a1)), (2, vI (a2)), (3, vI (a3)), (4, vI (a4)), (5, vI (a5)), (6, vI (a6))]) dX10_arc_32 (by decide) rfl ?_
      refine ev_iload 0 rfl dX10_arc_34 ?_
      refine ev_if_eq (tgt := 57) dX10_arc_36 (by decide) (by decide) (fun c => absurd c (by decide)) (fun _ => ?_)
      refine ev_aload_n 1 rfl dX10_arc_39 ?_
      refine ev_iconst dX10_arc_40 ?_
      refine ev_iload_n 2 rfl dX10_arc_41 ?_
      refine ev_iload_n 3 rfl dX10_arc_42 ?_
      refine ev_iload_n 4 rfl dX10_arc_43 ?_
      refine ev_iload 5 rfl dX10_arc_44 ?_
      refine ev_iload 6 rfl dX10_arc_46 ?_
      refine ev_iload 7 rfl dX10_arc_48 ?_
      refine ev_iconst dX10_arc_50 ?_
      refine c_X10_184 (m_add hM hI (by decide) (by first | assumption | exact hR _ _ | decide | (simp only [InR]; omega)) (by first | assumption | exact hR _ _ | decide | (simp only [InR]; omega)) (by first | assumption | exact hR _ _ | decide | (simp only [InR]; omega)) (by first | assumption | exact hR _ _ | decide | (simp only [InR]; omega)) (by first | assumption | exact hR _ _ | decide | (simp only [InR]; omega)) (by first | assumption | exact hR _ _ | decide | (simp only [InR]; omega)) (by decide)) hM.1 rfl rfl (Nat.le_of_ble_eq_true rfl) (by decide) dX10_arc_51 (kI (fun z1 h2 hqz1 => ?_))
      obtain ⟨hz3, hM4⟩ := hqz1
      refine ev_goto (tgt := 58) dX10_arc_54 (by decide) ?_
      refine ev_ireturn dX10_arc_58 ?_
      refine ⟨_, rfl, ?_, ?_⟩
      · simp only [sp_arc]; rw [if_pos (by omega)]; exact hz3
      · simp only [nx_arc]; rw [if_pos (by omega)]; exact hM4
    · refine ev_if_eq (tgt := 31) dX10_arc_24 (by decide) (by decide) (fun _ => ?_) (fun c => absurd c (by decide))
      refine ev_iconst dX10_arc_31 ?_
      refine ev_istore (L' := [(7, vI (0)), (0, .ref (o)), (1, vI (a1)), (2, vI (a2)), (3, vI (a3)), (4, vI (a4)), (5, vI (a5)), (6, vI (a6))]) dX10_arc_32 (by decide) rfl ?_
      refine ev_iload 0 rfl dX10_arc_34 ?_
      refine ev_if_eq (tgt := 57) dX10_arc_36 (by decide) (by decide) (fun _ => ?_) (fun c => absurd c (by decide))
      refine ev_iconst dX10_arc_57 ?_
      refine ev_ireturn dX10_arc_58 ?_
      refine ⟨_, rfl, ?_, ?_⟩
      · simp only [sp_arc]; rw [if_neg (by omega)]
      · simp only [nx_arc]; rw [if_neg (by omega)]; exact hM
  · refine ev_if_eq (tgt := 31) dX10_arc_11 (by decide) (by decide) (fun _ => ?_) (fun c => absurd c (by decide))
    refine ev_iconst dX10_arc_31 ?_
    refine ev_istore (L' := [(7, vI (0)), (0, .ref (o)), (1, vI (a1)), (2, vI (a2)), (3, vI (a3)), (4, vI (a4)), (5, vI (a5)), (6, vI (a6))]) dX10_arc_32 (by decide) rfl ?_
    refine ev_iload 0 rfl dX10_arc_34 ?_
    refine ev_if_eq (tgt := 57) dX10_arc_36 (by decide) (by decide) (fun _ => ?_) (fun c => absurd c (by decide))
    refine ev_iconst dX10_arc_57 ?_
    refine ev_ireturn dX10_arc_58 ?_
    refine ⟨_, rfl, ?_, ?_⟩
    · simp only [sp_arc]; rw [if_neg (by omega)]
    · simp only [nx_arc]; rw [if_neg (by omega)]; exact hM

set_option maxHeartbeats 4000000 in
set_option maxRecDepth 100000 in
theorem m_ray {E : EV} {h : AH} {o : Nat} {ad : Nat → Nat} {S : MS} {a1 a2 a3 a4 a5 a6 a7 : Int} (hM : MR E o ad S h) (hI : Inv S) (g1 : InR a1) (g2 : InR a2) (g3 : InR a3) (g4 : InR a4) (g5 : InR a5) (g6 : InR a6) (g7 : InR a7) : CM E yX10_ray cX10_ray 9 (some .int) 3 0 0 [.ref (o), vI (a1), vI (a2), vI (a3), vI (a4), vI (a5), vI (a6), vI (a7)] h (qI (fun z h' => z = sp_ray S a1 a2 a3 a4 a5 a6 a7 ∧ MR E o ad (nx_ray S a1 a2 a3 a4 a5 a6 a7) h')) := by
  have hR := hM.2.2.2.2
  have hJ := hI
  obtain ⟨i1, i2, i3, i4, i5, i6, iSt, iSi, iWa, iSh, iLa, iS0, iS1, iZe⟩ := hJ
  refine CM.of (by decide) (Nat.le_of_ble_eq_true rfl) (L := [(0, .ref (o)), (1, vI (a1)), (2, vI (a2)), (3, vI (a3)), (4, vI (a4)), (5, vI (a5)), (6, vI (a6)), (7, vI (a7))]) rfl ?_
  refine ev_aload_n 0 rfl dX10_ray_0 ?_
  refine ev_iload_n 1 rfl dX10_ray_1 ?_
  refine ev_iload_n 2 rfl dX10_ray_2 ?_
  refine ev_iload_n 3 rfl dX10_ray_3 ?_
  refine ev_iload 4 rfl dX10_ray_4 ?_
  refine ev_iload 5 rfl dX10_ray_6 ?_
  refine c_X10_180 (m_isTold hM hI (by first | assumption | exact hR _ _ | decide | (simp only [InR]; omega)) (by first | assumption | exact hR _ _ | decide | (simp only [InR]; omega)) (by first | assumption | exact hR _ _ | decide | (simp only [InR]; omega)) (by first | assumption | exact hR _ _ | decide | (simp only [InR]; omega)) (by first | assumption | exact hR _ _ | decide | (simp only [InR]; omega))) hM.1 rfl rfl (Nat.le_of_ble_eq_true rfl) (by decide) dX10_ray_8 (kB (fun b8 => ?_) (fun b8 => ?_))
  · refine ev_if_eq (tgt := 46) dX10_ray_11 (by decide) (by decide) (fun c => absurd c (by decide)) (fun _ => ?_)
    refine ev_iload 6 rfl dX10_ray_14 ?_
    refine ev_i2l dX10_ray_16 (by first | assumption | exact hR _ _ | decide | (simp only [InR]; omega)) ?_
    refine ev_lconst (z := 0) dX10_ray_17 (by decide) ?_
    refine ev_ldc2 (z := 4) dX10_ray_18 k_X10_188 (by decide) ?_
    refine c_X10_143 (m_in E (v := a6) (a := 0) (b := 4) (by first | assumption | exact hR _ _ | decide | (simp only [InL]; omega)) (by decide) (by decide)) rfl rfl (Nat.le_of_ble_eq_true rfl) (by decide) dX10_ray_21 (kB (fun b21 => ?_) (fun b21 => ?_))
    · refine ev_if_eq (tgt := 46) dX10_ray_24 (by decide) (by decide) (fun c => absurd c (by decide)) (fun _ => ?_)
      refine ev_iload 7 rfl dX10_ray_27 ?_
      refine ev_i2l dX10_ray_29 (by first | assumption | exact hR _ _ | decide | (simp only [InR]; omega)) ?_
      refine ev_ldc2 (z := -45) dX10_ray_30 k_X10_190 (by decide) ?_
      refine ev_ldc2 (z := 45) dX10_ray_33 k_X10_192 (by decide) ?_
      refine c_X10_143 (m_in E (v := a7) (a := -45) (b := 45) (by first | assumption | exact hR _ _ | decide | (simp only [InL]; omega)) (by decide) (by decide)) rfl rfl (Nat.le_of_ble_eq_true rfl) (by decide) dX10_ray_36 (kB (fun b36 => ?_) (fun b36 => ?_))
      · refine ev_if_eq (tgt := 46) dX10_ray_39 (by decide) (by decide) (fun c => absurd c (by decide)) (fun _ => ?_)
        refine ev_iconst dX10_ray_42 ?_
        refine ev_goto (tgt := 47) dX10_ray_43 (by decide) ?_
        refine ev_istore (L' := [(8, vI (1)), (0, .ref (o)), (1, vI (a1)), (2, vI (a2)), (3, vI (a3)), (4, vI (a4)), (5, vI (a5)), (6, vI (a6)), (7, vI (a7))]) dX10_ray_47 (by decide) rfl ?_
        refine ev_iload 0 rfl dX10_ray_49 ?_
        refine ev_if_eq (tgt := 73) dX10_ray_51 (by decide) (by decide) (fun c => absurd c (by decide)) (fun _ => ?_)
        refine ev_aload_n 1 rfl dX10_ray_54 ?_
        refine ev_iconst dX10_ray_55 ?_
        refine ev_iload_n 2 rfl dX10_ray_56 ?_
        refine ev_iload_n 3 rfl dX10_ray_57 ?_
        refine ev_iload_n 4 rfl dX10_ray_58 ?_
        refine ev_iload 5 rfl dX10_ray_59 ?_
        refine ev_iload 6 rfl dX10_ray_61 ?_
        refine ev_iload 7 rfl dX10_ray_63 ?_
        refine ev_iload 8 rfl dX10_ray_65 ?_
        refine c_X10_184 (m_add hM hI (by decide) (by first | assumption | exact hR _ _ | decide | (simp only [InR]; omega)) (by first | assumption | exact hR _ _ | decide | (simp only [InR]; omega)) (by first | assumption | exact hR _ _ | decide | (simp only [InR]; omega)) (by first | assumption | exact hR _ _ | decide | (simp only [InR]; omega)) (by first | assumption | exact hR _ _ | decide | (simp only [InR]; omega)) (by first | assumption | exact hR _ _ | decide | (simp only [InR]; omega)) (by first | assumption | exact hR _ _ | decide | (simp only [InR]; omega))) hM.1 rfl rfl (Nat.le_of_ble_eq_true rfl) (by decide) dX10_ray_67 (kI (fun z1 h2 hqz1 => ?_))
        obtain ⟨hz3, hM4⟩ := hqz1
        refine ev_goto (tgt := 74) dX10_ray_70 (by decide) ?_
        refine ev_ireturn dX10_ray_74 ?_
        refine ⟨_, rfl, ?_, ?_⟩
        · simp only [sp_ray]; rw [if_pos (by omega)]; exact hz3
        · simp only [nx_ray]; rw [if_pos (by omega)]; exact hM4
      · refine ev_if_eq (tgt := 46) dX10_ray_39 (by decide) (by decide) (fun _ => ?_) (fun c => absurd c (by decide))
        refine ev_iconst dX10_ray_46 ?_
        refine ev_istore (L' := [(8, vI (0)), (0, .ref (o)), (1, vI (a1)), (2, vI (a2)), (3, vI (a3)), (4, vI (a4)), (5, vI (a5)), (6, vI (a6)), (7, vI (a7))]) dX10_ray_47 (by decide) rfl ?_
        refine ev_iload 0 rfl dX10_ray_49 ?_
        refine ev_if_eq (tgt := 73) dX10_ray_51 (by decide) (by decide) (fun _ => ?_) (fun c => absurd c (by decide))
        refine ev_iconst dX10_ray_73 ?_
        refine ev_ireturn dX10_ray_74 ?_
        refine ⟨_, rfl, ?_, ?_⟩
        · simp only [sp_ray]; rw [if_neg (by omega)]
        · simp only [nx_ray]; rw [if_neg (by omega)]; exact hM
    · refine ev_if_eq (tgt := 46) dX10_ray_24 (by decide) (by decide) (fun _ => ?_) (fun c => absurd c (by decide))
      refine ev_iconst dX10_ray_46 ?_
      refine ev_istore (L' := [(8, vI (0)), (0, .ref (o)), (1, vI (a1)), (2, vI (a2)), (3, vI (a3)), (4, vI (a4)), (5, vI (a5)), (6, vI (a6)), (7, vI (a7))]) dX10_ray_47 (by decide) rfl ?_
      refine ev_iload 0 rfl dX10_ray_49 ?_
      refine ev_if_eq (tgt := 73) dX10_ray_51 (by decide) (by decide) (fun _ => ?_) (fun c => absurd c (by decide))
      refine ev_iconst dX10_ray_73 ?_
      refine ev_ireturn dX10_ray_74 ?_
      refine ⟨_, rfl, ?_, ?_⟩
      · simp only [sp_ray]; rw [if_neg (by omega)]
      · simp only [nx_ray]; rw [if_neg (by omega)]; exact hM
  · refine ev_if_eq (tgt := 46) dX10_ray_11 (by decide) (by decide) (fun _ => ?_) (fun c => absurd c (by decide))
    refine ev_iconst dX10_ray_46 ?_
    refine ev_istore (L' := [(8, vI (0)), (0, .ref (o)), (1, vI (a1)), (2, vI (a2)), (3, vI (a3)), (4, vI (a4)), (5, vI (a5)), (6, vI (a6)), (7, vI (a7))]) dX10_ray_47 (by decide) rfl ?_
    refine ev_iload 0 rfl dX10_ray_49 ?_
    refine ev_if_eq (tgt := 73) dX10_ray_51 (by decide) (by decide) (fun _ => ?_) (fun c => absurd c (by decide))
    refine ev_iconst dX10_ray_73 ?_
    refine ev_ireturn dX10_ray_74 ?_
    refine ⟨_, rfl, ?_, ?_⟩
    · simp only [sp_ray]; rw [if_neg (by omega)]
    · simp only [nx_ray]; rw [if_neg (by omega)]; exact hM

set_option maxHeartbeats 4000000 in
set_option maxRecDepth 100000 in
theorem m_firstOf {E : EV} {h : AH} {o : Nat} {ad : Nat → Nat} {S : MS} {a : Int} (hM : MR E o ad S h) (hI : Inv S) (ga : 0 ≤ a ∧ a < S 7 0) : CM E yX10_firstOf cX10_firstOf 2 (some .int) 0 0 0 [.ref (o), vI (a)] h (qP (frZ S a) h) := by
  have hR := hM.2.2.2.2
  have hJ := hI
  obtain ⟨i1, i2, i3, i4, i5, i6, iSt, iSi, iWa, iSh, iLa, iS0, iS1, iZe⟩ := hJ
  obtain ⟨s1, s2, s3, s4, s5, s6, s7, s8⟩ := iSi a ga.1 ga.2
  obtain ⟨t1, t2, t3⟩ := iSt _ s2.1 s2.2
  refine CM.of (by decide) (Nat.le_of_ble_eq_true rfl) (L := [(0, .ref (o)), (1, vI (a))]) rfl ?_
  refine ev_aload_n 0 rfl dX10_firstOf_0 ?_
  refine mg_37 hM dX10_firstOf_1 ?_
  refine ev_iload_n 1 rfl dX10_firstOf_4 ?_
  refine m_ld (k := 11) hM (by decide) dX10_firstOf_5 (by omega) (by show _ < ((40 : Nat) : Int); omega) ?_
  refine ev_aload_n 0 rfl dX10_firstOf_6 ?_
  refine mg_25 hM dX10_firstOf_7 ?_
  refine ev_aload_n 0 rfl dX10_firstOf_10 ?_
  refine mg_31 hM dX10_firstOf_11 ?_
  refine ev_iload_n 1 rfl dX10_firstOf_14 ?_
  refine m_ld (k := 9) hM (by decide) dX10_firstOf_15 (by omega) (by show _ < ((40 : Nat) : Int); omega) ?_
  refine m_ld (k := 6) hM (by decide) dX10_firstOf_16 (by omega) (by show _ < ((8 : Nat) : Int); omega) ?_
  refine ev_isub dX10_firstOf_17 ?_
  refine ev_ireturn dX10_firstOf_18 ?_
  exact ⟨rfl, rfl⟩

set_option maxHeartbeats 4000000 in
set_option maxRecDepth 100000 in
theorem m_lastOf {E : EV} {h : AH} {o : Nat} {ad : Nat → Nat} {S : MS} {a : Int} (hM : MR E o ad S h) (hI : Inv S) (ga : 0 ≤ a ∧ a < S 7 0) : CM E yX10_lastOf cX10_lastOf 2 (some .int) 0 0 0 [.ref (o), vI (a)] h (qP (laZ S a) h) := by
  have hR := hM.2.2.2.2
  have hJ := hI
  obtain ⟨i1, i2, i3, i4, i5, i6, iSt, iSi, iWa, iSh, iLa, iS0, iS1, iZe⟩ := hJ
  obtain ⟨s1, s2, s3, s4, s5, s6, s7, s8⟩ := iSi a ga.1 ga.2
  obtain ⟨t1, t2, t3⟩ := iSt _ s2.1 s2.2
  refine CM.of (by decide) (Nat.le_of_ble_eq_true rfl) (L := [(0, .ref (o)), (1, vI (a))]) rfl ?_
  refine ev_aload_n 0 rfl dX10_lastOf_0 ?_
  refine mg_37 hM dX10_lastOf_1 ?_
  refine ev_iload_n 1 rfl dX10_lastOf_4 ?_
  refine m_ld (k := 11) hM (by decide) dX10_lastOf_5 (by omega) (by show _ < ((40 : Nat) : Int); omega) ?_
  refine ev_aload_n 0 rfl dX10_lastOf_6 ?_
  refine mg_22 hM dX10_lastOf_7 ?_
  refine ev_aload_n 0 rfl dX10_lastOf_10 ?_
  refine mg_31 hM dX10_lastOf_11 ?_
  refine ev_iload_n 1 rfl dX10_lastOf_14 ?_
  refine m_ld (k := 9) hM (by decide) dX10_lastOf_15 (by omega) (by show _ < ((40 : Nat) : Int); omega) ?_
  refine m_ld (k := 5) hM (by decide) dX10_lastOf_16 (by omega) (by show _ < ((8 : Nat) : Int); omega) ?_
  refine ev_isub dX10_lastOf_17 ?_
  refine ev_ireturn dX10_lastOf_18 ?_
  exact ⟨rfl, rfl⟩

set_option maxHeartbeats 4000000 in
set_option maxRecDepth 100000 in
theorem m_told {E : EV} {h : AH} {o : Nat} {ad : Nat → Nat} {S : MS} {a w : Int} (hM : MR E o ad S h) (hI : Inv S) (g1 : InR a) (g2 : InR w) : CM E yX10_told cX10_told 3 (some .int) 2 0 0 [.ref (o), vI (a), vI (w)] h (qI (fun z h' => z = sp_told S a w ∧ MR E o ad (S) h')) := by
  have hR := hM.2.2.2.2
  have hJ := hI
  obtain ⟨i1, i2, i3, i4, i5, i6, iSt, iSi, iWa, iSh, iLa, iS0, iS1, iZe⟩ := hJ
  refine CM.of (by decide) (Nat.le_of_ble_eq_true rfl) (L := [(0, .ref (o)), (1, vI (a)), (2, vI (w))]) rfl ?_
  refine ev_aload_n 0 rfl dX10_told_0 ?_
  refine ev_iload_n 1 rfl dX10_told_1 ?_
  refine c_X10_194 (m_isSighting hM hI (by first | assumption | exact hR _ _ | decide | (simp only [InR]; omega))) hM.1 rfl rfl (Nat.le_of_ble_eq_true rfl) (by decide) dX10_told_2 (kB (fun b2 => ?_) (fun b2 => ?_))
  · refine ev_if_ne (tgt := 12) dX10_told_5 (by decide) (by decide) (fun _ => ?_) (fun c => absurd c (by decide))
    refine ev_iload_n 2 rfl dX10_told_12 ?_
    rcases (show (w < 0 ∨ 7 < w) ∨ w = 0 ∨ w = 1 ∨ w = 2 ∨ w = 3 ∨ w = 4 ∨ w = 5 ∨ w = 6 ∨ w = 7 by omega) with q | q | q | q | q | q | q | q | q
    · refine ev_tableOut (tgt := 114) dX10_told_13 (by first | assumption | exact hR _ _ | decide | (simp only [InR]; omega)) q (by decide) ?_
      refine ev_sipush dX10_told_114 (by decide) ?_
      refine ev_ireturn dX10_told_117 ?_
      refine ⟨_, rfl, ?_, hM⟩
      simp only [sp_told]; first | (rw [if_neg (by omega)]; rfl) | (rw [if_pos (by omega)]; done) | ((repeat' split) <;> first | rfl | omega)
    · subst q
      refine ev_tableIn (tgt := 60) (off := 47) dX10_told_13 (by decide) (by decide) (by decide) (by decide) (by decide) ?_
      refine ev_aload_n 0 rfl dX10_told_60 ?_
      refine mg_28 hM dX10_told_61 ?_
      refine ev_iload_n 1 rfl dX10_told_64 ?_
      refine m_ld (k := 8) hM (by decide) dX10_told_65 (by omega) (by show _ < ((40 : Nat) : Int); omega) ?_
      refine ev_ireturn dX10_told_66 ?_
      refine ⟨_, rfl, ?_, hM⟩
      simp only [sp_told]; first | (rw [if_neg (by omega)]; rfl) | (rw [if_pos (by omega)]; done) | ((repeat' split) <;> first | rfl | omega)
    · subst q
      refine ev_tableIn (tgt := 67) (off := 54) dX10_told_13 (by decide) (by decide) (by decide) (by decide) (by decide) ?_
      refine ev_aload_n 0 rfl dX10_told_67 ?_
      refine mg_31 hM dX10_told_68 ?_
      refine ev_iload_n 1 rfl dX10_told_71 ?_
      refine m_ld (k := 9) hM (by decide) dX10_told_72 (by omega) (by show _ < ((40 : Nat) : Int); omega) ?_
      refine ev_ireturn dX10_told_73 ?_
      refine ⟨_, rfl, ?_, hM⟩
      simp only [sp_told]; first | (rw [if_neg (by omega)]; rfl) | (rw [if_pos (by omega)]; done) | ((repeat' split) <;> first | rfl | omega)
    · subst q
      refine ev_tableIn (tgt := 74) (off := 61) dX10_told_13 (by decide) (by decide) (by decide) (by decide) (by decide) ?_
      refine ev_aload_n 0 rfl dX10_told_74 ?_
      refine mg_34 hM dX10_told_75 ?_
      refine ev_iload_n 1 rfl dX10_told_78 ?_
      refine m_ld (k := 10) hM (by decide) dX10_told_79 (by omega) (by show _ < ((40 : Nat) : Int); omega) ?_
      refine ev_ireturn dX10_told_80 ?_
      refine ⟨_, rfl, ?_, hM⟩
      simp only [sp_told]; first | (rw [if_neg (by omega)]; rfl) | (rw [if_pos (by omega)]; done) | ((repeat' split) <;> first | rfl | omega)
    · subst q
      refine ev_tableIn (tgt := 81) (off := 68) dX10_told_13 (by decide) (by decide) (by decide) (by decide) (by decide) ?_
      refine ev_aload_n 0 rfl dX10_told_81 ?_
      refine mg_37 hM dX10_told_82 ?_
      refine ev_iload_n 1 rfl dX10_told_85 ?_
      refine m_ld (k := 11) hM (by decide) dX10_told_86 (by omega) (by show _ < ((40 : Nat) : Int); omega) ?_
      refine ev_ireturn dX10_told_87 ?_
      refine ⟨_, rfl, ?_, hM⟩
      simp only [sp_told]; first | (rw [if_neg (by omega)]; rfl) | (rw [if_pos (by omega)]; done) | ((repeat' split) <;> first | rfl | omega)
    · subst q
      refine ev_tableIn (tgt := 88) (off := 75) dX10_told_13 (by decide) (by decide) (by decide) (by decide) (by decide) ?_
      refine ev_aload_n 0 rfl dX10_told_88 ?_
      refine mg_40 hM dX10_told_89 ?_
      refine ev_iload_n 1 rfl dX10_told_92 ?_
      refine m_ld (k := 12) hM (by decide) dX10_told_93 (by omega) (by show _ < ((40 : Nat) : Int); omega) ?_
      refine ev_ireturn dX10_told_94 ?_
      refine ⟨_, rfl, ?_, hM⟩
      simp only [sp_told]; first | (rw [if_neg (by omega)]; rfl) | (rw [if_pos (by omega)]; done) | ((repeat' split) <;> first | rfl | omega)
    · subst q
      refine ev_tableIn (tgt := 95) (off := 82) dX10_told_13 (by decide) (by decide) (by decide) (by decide) (by decide) ?_
      refine ev_aload_n 0 rfl dX10_told_95 ?_
      refine mg_43 hM dX10_told_96 ?_
      refine ev_iload_n 1 rfl dX10_told_99 ?_
      refine m_ld (k := 13) hM (by decide) dX10_told_100 (by omega) (by show _ < ((40 : Nat) : Int); omega) ?_
      refine ev_ireturn dX10_told_101 ?_
      refine ⟨_, rfl, ?_, hM⟩
      simp only [sp_told]; first | (rw [if_neg (by omega)]; rfl) | (rw [if_pos (by omega)]; done) | ((repeat' split) <;> first | rfl | omega)
    · subst q
      refine ev_tableIn (tgt := 102) (off := 89) dX10_told_13 (by decide) (by decide) (by decide) (by decide) (by decide) ?_
      refine ev_aload_n 0 rfl dX10_told_102 ?_
      refine ev_iload_n 1 rfl dX10_told_103 ?_
      refine c_X10_197 (m_firstOf hM hI (by omega)) hM.1 rfl rfl (Nat.le_of_ble_eq_true rfl) (by decide) dX10_told_104 (kP ?_)
      refine ev_ireturn dX10_told_107 ?_
      refine ⟨_, rfl, ?_, hM⟩
      simp only [sp_told]; first | (rw [if_neg (by omega)]; rfl) | (rw [if_pos (by omega)]; done) | ((repeat' split) <;> first | rfl | omega)
    · subst q
      refine ev_tableIn (tgt := 108) (off := 95) dX10_told_13 (by decide) (by decide) (by decide) (by decide) (by decide) ?_
      refine ev_aload_n 0 rfl dX10_told_108 ?_
      refine ev_iload_n 1 rfl dX10_told_109 ?_
      refine c_X10_200 (m_lastOf hM hI (by omega)) hM.1 rfl rfl (Nat.le_of_ble_eq_true rfl) (by decide) dX10_told_110 (kP ?_)
      refine ev_ireturn dX10_told_113 ?_
      refine ⟨_, rfl, ?_, hM⟩
      simp only [sp_told]; first | (rw [if_neg (by omega)]; rfl) | (rw [if_pos (by omega)]; done) | ((repeat' split) <;> first | rfl | omega)
  · refine ev_if_ne (tgt := 12) dX10_told_5 (by decide) (by decide) (fun c => absurd c (by decide)) (fun _ => ?_)
    refine ev_sipush dX10_told_8 (by decide) ?_
    refine ev_ireturn dX10_told_11 ?_
    refine ⟨_, rfl, ?_, hM⟩
    simp only [sp_told]; first | (rw [if_neg (by omega)]; rfl) | (rw [if_pos (by omega)]; done) | ((repeat' split) <;> first | rfl | omega)

set_option maxHeartbeats 4000000 in
set_option maxRecDepth 100000 in
theorem m_colour {E : EV} {h : AH} {o : Nat} {ad : Nat → Nat} {S : MS} {a : Int} (hM : MR E o ad S h) (hI : Inv S) (g1 : InR a) : CM E yX10_colour cX10_colour 2 (some .int) 2 0 0 [.ref (o), vI (a)] h (qI (fun z h' => z = sp_colour S a ∧ MR E o ad (S) h')) := by
  have hR := hM.2.2.2.2
  have hJ := hI
  obtain ⟨i1, i2, i3, i4, i5, i6, iSt, iSi, iWa, iSh, iLa, iS0, iS1, iZe⟩ := hJ
  refine CM.of (by decide) (Nat.le_of_ble_eq_true rfl) (L := [(0, .ref (o)), (1, vI (a))]) rfl ?_
  refine ev_aload_n 0 rfl dX10_colour_0 ?_
  refine ev_iload_n 1 rfl dX10_colour_1 ?_
  refine c_X10_194 (m_isSighting hM hI (by first | assumption | exact hR _ _ | decide | (simp only [InR]; omega))) hM.1 rfl rfl (Nat.le_of_ble_eq_true rfl) (by decide) dX10_colour_2 (kB (fun b2 => ?_) (fun b2 => ?_))
  · refine ev_if_ne (tgt := 12) dX10_colour_5 (by decide) (by decide) (fun _ => ?_) (fun c => absurd c (by decide))
    refine ev_aload_n 0 rfl dX10_colour_12 ?_
    refine mg_28 hM dX10_colour_13 ?_
    refine ev_iload_n 1 rfl dX10_colour_16 ?_
    refine m_ld (k := 8) hM (by decide) dX10_colour_17 (by omega) (by show _ < ((40 : Nat) : Int); omega) ?_
    refine ev_if_ne (tgt := 26) dX10_colour_18 (by first | assumption | exact hR _ _ | decide | (simp only [InR]; omega)) (by decide) (fun c18 => ?_) (fun c18 => ?_)
    · refine ev_aload_n 0 rfl dX10_colour_26 ?_
      refine mg_46 hM dX10_colour_27 ?_
      refine ev_iload_n 1 rfl dX10_colour_30 ?_
      refine m_ld (k := 14) hM (by decide) dX10_colour_31 (by omega) (by show _ < ((40 : Nat) : Int); omega) ?_
      refine ev_ireturn dX10_colour_32 ?_
      refine ⟨_, rfl, ?_, ?_⟩
      · simp only [sp_colour]; (repeat' split) <;> first | rfl | omega
      · exact hM
    · refine ev_bipush dX10_colour_21 (by decide) ?_
      refine ev_goto (tgt := 32) dX10_colour_23 (by decide) ?_
      refine ev_ireturn dX10_colour_32 ?_
      refine ⟨_, rfl, ?_, ?_⟩
      · simp only [sp_colour]; (repeat' split) <;> first | rfl | omega
      · exact hM
  · refine ev_if_ne (tgt := 12) dX10_colour_5 (by decide) (by decide) (fun c => absurd c (by decide)) (fun _ => ?_)
    refine ev_iconst dX10_colour_8 ?_
    refine ev_goto (tgt := 32) dX10_colour_9 (by decide) ?_
    refine ev_ireturn dX10_colour_32 ?_
    refine ⟨_, rfl, ?_, ?_⟩
    · simp only [sp_colour]; (repeat' split) <;> first | rfl | omega
    · exact hM

set_option maxHeartbeats 4000000 in
set_option maxRecDepth 100000 in
theorem m_lean {E : EV} {h : AH} {o : Nat} {ad : Nat → Nat} {S : MS} {a : Int} (hM : MR E o ad S h) (hI : Inv S) (g1 : InR a) : CM E yX10_lean cX10_lean 2 (some .int) 2 0 0 [.ref (o), vI (a)] h (qI (fun z h' => z = sp_lean S a ∧ MR E o ad (S) h')) := by
  have hR := hM.2.2.2.2
  have hJ := hI
  obtain ⟨i1, i2, i3, i4, i5, i6, iSt, iSi, iWa, iSh, iLa, iS0, iS1, iZe⟩ := hJ
  refine CM.of (by decide) (Nat.le_of_ble_eq_true rfl) (L := [(0, .ref (o)), (1, vI (a))]) rfl ?_
  refine ev_aload_n 0 rfl dX10_lean_0 ?_
  refine ev_iload_n 1 rfl dX10_lean_1 ?_
  refine c_X10_194 (m_isSighting hM hI (by first | assumption | exact hR _ _ | decide | (simp only [InR]; omega))) hM.1 rfl rfl (Nat.le_of_ble_eq_true rfl) (by decide) dX10_lean_2 (kB (fun b2 => ?_) (fun b2 => ?_))
  · refine ev_if_ne (tgt := 13) dX10_lean_5 (by decide) (by decide) (fun _ => ?_) (fun c => absurd c (by decide))
    refine ev_aload_n 0 rfl dX10_lean_13 ?_
    refine mg_28 hM dX10_lean_14 ?_
    refine ev_iload_n 1 rfl dX10_lean_17 ?_
    refine m_ld (k := 8) hM (by decide) dX10_lean_18 (by omega) (by show _ < ((40 : Nat) : Int); omega) ?_
    refine ev_iconst dX10_lean_19 ?_
    refine ev_icmp_ge (tgt := 28) dX10_lean_20 (by first | assumption | exact hR _ _ | decide | (simp only [InR]; omega)) (by decide) (by decide) (fun c20 => ?_) (fun c20 => ?_)
    · refine ev_aload_n 0 rfl dX10_lean_28 ?_
      refine mg_49 hM dX10_lean_29 ?_
      refine ev_iload_n 1 rfl dX10_lean_32 ?_
      refine m_ld (k := 15) hM (by decide) dX10_lean_33 (by omega) (by show _ < ((40 : Nat) : Int); omega) ?_
      refine ev_ireturn dX10_lean_34 ?_
      refine ⟨_, rfl, ?_, ?_⟩
      · simp only [sp_lean]; (repeat' split) <;> first | rfl | omega
      · exact hM
    · refine ev_bipush dX10_lean_23 (by decide) ?_
      refine ev_goto (tgt := 34) dX10_lean_25 (by decide) ?_
      refine ev_ireturn dX10_lean_34 ?_
      refine ⟨_, rfl, ?_, ?_⟩
      · simp only [sp_lean]; (repeat' split) <;> first | rfl | omega
      · exact hM
  · refine ev_if_ne (tgt := 13) dX10_lean_5 (by decide) (by decide) (fun c => absurd c (by decide)) (fun _ => ?_)
    refine ev_bipush dX10_lean_8 (by decide) ?_
    refine ev_goto (tgt := 34) dX10_lean_10 (by decide) ?_
    refine ev_ireturn dX10_lean_34 ?_
    refine ⟨_, rfl, ?_, ?_⟩
    · simp only [sp_lean]; (repeat' split) <;> first | rfl | omega
    · exact hM

set_option maxHeartbeats 4000000 in
set_option maxRecDepth 100000 in
theorem m_thick {E : EV} {h : AH} {o : Nat} {ad : Nat → Nat} {S : MS} {n : Int} (hM : MR E o ad S h) (hI : Inv S) (g1 : InR n) : CM E yX10_thick cX10_thick 3 (some .int) 2 0 0 [.ref (o), vI (n)] h (qI (fun z h' => z = sp_thick S n ∧ MR E o ad (nx_thick S n) h')) := by
  have hR := hM.2.2.2.2
  have hJ := hI
  obtain ⟨i1, i2, i3, i4, i5, i6, iSt, iSi, iWa, iSh, iLa, iS0, iS1, iZe⟩ := hJ
  refine CM.of (by decide) (Nat.le_of_ble_eq_true rfl) (L := [(0, .ref (o)), (1, vI (n))]) rfl ?_
  refine ev_iload_n 1 rfl dX10_thick_0 ?_
  refine ev_i2l dX10_thick_1 (by first | assumption | exact hR _ _ | decide | (simp only [InR]; omega)) ?_
  refine ev_lconst (z := 0) dX10_thick_2 (by decide) ?_
  refine ev_ldc2 (z := 200) dX10_thick_3 k_X10_203 (by decide) ?_
  refine c_X10_143 (m_in E (v := n) (a := 0) (b := 200) (by first | assumption | exact hR _ _ | decide | (simp only [InL]; omega)) (by decide) (by decide)) rfl rfl (Nat.le_of_ble_eq_true rfl) (by decide) dX10_thick_6 (kB (fun b6 => ?_) (fun b6 => ?_))
  · refine ev_if_ne (tgt := 14) dX10_thick_9 (by decide) (by decide) (fun _ => ?_) (fun c => absurd c (by decide))
    refine ev_aload_n 0 rfl dX10_thick_14 ?_
    refine mg_52 hM dX10_thick_15 ?_
    refine ev_istore_n (L' := [(2, vI (S 16 0)), (0, .ref (o)), (1, vI (n))]) dX10_thick_18 (by decide) rfl ?_
    refine ev_aload_n 1 rfl dX10_thick_19 ?_
    refine ev_iload_n 2 rfl dX10_thick_20 ?_
    refine mp_52 hM (by first | assumption | exact hR _ _ | decide | (simp only [InR]; omega)) dX10_thick_21 (fun S1 h2 eS3 hM4 => ?_)
    have hRS1 := hM4.2.2.2.2
    refine ev_iload_n 0 rfl dX10_thick_24 ?_
    refine ev_ireturn dX10_thick_25 ?_
    refine ⟨_, rfl, ?_, ?_⟩
    · simp only [sp_thick]; (repeat' split) <;> first | rfl | omega
    · subst eS3
      simp only [nx_thick]; first | (rw [if_pos (by omega)]; exact hM4) | (rw [if_neg (by omega)]; exact hM4)
  · refine ev_if_ne (tgt := 14) dX10_thick_9 (by decide) (by decide) (fun c => absurd c (by decide)) (fun _ => ?_)
    refine ev_iconst dX10_thick_12 ?_
    refine ev_ireturn dX10_thick_13 ?_
    refine ⟨_, rfl, ?_, ?_⟩
    · simp only [sp_thick]; (repeat' split) <;> first | rfl | omega
    · simp only [nx_thick]; first | (rw [if_pos (by omega)]; exact hM) | (rw [if_neg (by omega)]; exact hM)

set_option maxHeartbeats 4000000 in
set_option maxRecDepth 100000 in
theorem m_speed {E : EV} {h : AH} {o : Nat} {ad : Nat → Nat} {S : MS} {n : Int} (hM : MR E o ad S h) (hI : Inv S) (g1 : InR n) : CM E yX10_speed cX10_speed 3 (some .int) 2 0 0 [.ref (o), vI (n)] h (qI (fun z h' => z = sp_speed S n ∧ MR E o ad (nx_speed S n) h')) := by
  have hR := hM.2.2.2.2
  have hJ := hI
  obtain ⟨i1, i2, i3, i4, i5, i6, iSt, iSi, iWa, iSh, iLa, iS0, iS1, iZe⟩ := hJ
  refine CM.of (by decide) (Nat.le_of_ble_eq_true rfl) (L := [(0, .ref (o)), (1, vI (n))]) rfl ?_
  refine ev_iload_n 1 rfl dX10_speed_0 ?_
  refine ev_i2l dX10_speed_1 (by first | assumption | exact hR _ _ | decide | (simp only [InR]; omega)) ?_
  refine ev_lconst (z := 1) dX10_speed_2 (by decide) ?_
  refine ev_ldc2 (z := 60) dX10_speed_3 k_X10_166 (by decide) ?_
  refine c_X10_143 (m_in E (v := n) (a := 1) (b := 60) (by first | assumption | exact hR _ _ | decide | (simp only [InL]; omega)) (by decide) (by decide)) rfl rfl (Nat.le_of_ble_eq_true rfl) (by decide) dX10_speed_6 (kB (fun b6 => ?_) (fun b6 => ?_))
  · refine ev_if_ne (tgt := 14) dX10_speed_9 (by decide) (by decide) (fun _ => ?_) (fun c => absurd c (by decide))
    refine ev_aload_n 0 rfl dX10_speed_14 ?_
    refine mg_86 hM dX10_speed_15 ?_
    refine ev_istore_n (L' := [(2, vI (S 31 0)), (0, .ref (o)), (1, vI (n))]) dX10_speed_18 (by decide) rfl ?_
    refine ev_aload_n 1 rfl dX10_speed_19 ?_
    refine ev_iload_n 2 rfl dX10_speed_20 ?_
    refine mp_86 hM (by first | assumption | exact hR _ _ | decide | (simp only [InR]; omega)) dX10_speed_21 (fun S1 h2 eS3 hM4 => ?_)
    have hRS1 := hM4.2.2.2.2
    refine ev_iload_n 0 rfl dX10_speed_24 ?_
    refine ev_ireturn dX10_speed_25 ?_
    refine ⟨_, rfl, ?_, ?_⟩
    · simp only [sp_speed]; (repeat' split) <;> first | rfl | omega
    · subst eS3
      simp only [nx_speed]; first | (rw [if_pos (by omega)]; exact hM4) | (rw [if_neg (by omega)]; exact hM4)
  · refine ev_if_ne (tgt := 14) dX10_speed_9 (by decide) (by decide) (fun c => absurd c (by decide)) (fun _ => ?_)
    refine ev_iconst dX10_speed_12 ?_
    refine ev_ireturn dX10_speed_13 ?_
    refine ⟨_, rfl, ?_, ?_⟩
    · simp only [sp_speed]; (repeat' split) <;> first | rfl | omega
    · simp only [nx_speed]; first | (rw [if_pos (by omega)]; exact hM) | (rw [if_neg (by omega)]; exact hM)
