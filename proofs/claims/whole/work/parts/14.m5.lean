set_option maxHeartbeats 4000000 in
set_option maxRecDepth 100000 in
theorem m_watchOf {E : EV} {h : AH} {o : Nat} {ad : Nat → Nat} {S : MS} {a n : Int} (hM : MR E o ad S h) (hI : Inv S) (g1 : InR a) (g2 : InR n) : CM E yX10_watchOf cX10_watchOf 4 (some .int) 0 0 0 [.ref (o), vI (a), vI (n)] h (qP (watchZ S a n) h) := by
  have hR := hM.2.2.2.2
  have hJ := hI
  obtain ⟨i1, i2, i3, i4, i5, i6, iSt, iSi, iWa, iSh, iLa, iS0, iS1, iZe⟩ := hJ
  refine CM.of (by decide) (Nat.le_of_ble_eq_true rfl) (L := [(0, .ref (o)), (1, vI (a)), (2, vI (n))]) rfl ?_
  refine ev_iconst dX10_watchOf_0 ?_
  refine ev_istore_n (L' := [(3, vI (0)), (0, .ref (o)), (1, vI (a)), (2, vI (n))]) dX10_watchOf_1 (by decide) rfl ?_
  refine up_ind (P := fun i : Int => 0 ≤ i → watchZ S a n = scanI (WaB S a n) i (S 34 0) → Ev E RX10 cX10_watchOf 4 (some .int) "watchOf" (qP (watchZ S a n) h) 0 0 0 2 [(3, vI (i)), (0, .ref (o)), (1, vI (a)), (2, vI (n))] [] h) (N := S 34 0) ?_ 0 (by omega)  (by omega) (rfl)
  intro i ihi hiN pi hs
  refine ev_iload_n 0 rfl dX10_watchOf_2 ?_
  refine ev_aload_n 1 rfl dX10_watchOf_3 ?_
  refine mg_278 hM dX10_watchOf_4 ?_
  refine ev_icmp_ge (tgt := 38) dX10_watchOf_7 (by first | assumption | exact hR _ _ | decide | (simp only [InR]; omega)) (by first | assumption | exact hR _ _ | decide | (simp only [InR]; omega)) (by decide) (fun c7 => ?_) (fun c7 => ?_)
  · refine ev_iconst dX10_watchOf_38 ?_
    refine ev_ireturn dX10_watchOf_39 ?_
    exact ⟨rfl, congrArg (fun z => some (vI z)) (show (-1 : Int) = watchZ S a n from by rw [hs, scanI_end _ (by omega)])⟩
  · refine ev_aload_n 1 rfl dX10_watchOf_10 ?_
    refine mg_95 hM dX10_watchOf_11 ?_
    refine ev_iload_n 0 rfl dX10_watchOf_14 ?_
    refine m_ld (k := 35) hM (by decide) dX10_watchOf_15 (by omega) (by show _ < ((60 : Nat) : Int); omega) ?_
    refine ev_iload_n 2 rfl dX10_watchOf_16 ?_
    refine ev_icmp_ne (tgt := 32) dX10_watchOf_17 (by first | assumption | exact hR _ _ | decide | (simp only [InR]; omega)) (by first | assumption | exact hR _ _ | decide | (simp only [InR]; omega)) (by decide) (fun c17 => ?_) (fun c17 => ?_)
    · refine ev_iinc (L' := [(3, vI (i + 1)), (0, .ref (o)), (1, vI (a)), (2, vI (n))]) 0 rfl dX10_watchOf_32 (by decide) rfl ?_
      refine ev_goto (tgt := 2) dX10_watchOf_35 (by decide) ?_
      exact ihi (i + 1) (by omega) (by omega) (by omega) (by rw [hs, scanI_s _ (by omega), if_neg (by simp only [WaB, decide_eq_true_eq]; omega)])
    · refine ev_aload_n 1 rfl dX10_watchOf_20 ?_
      refine mg_98 hM dX10_watchOf_21 ?_
      refine ev_iload_n 0 rfl dX10_watchOf_24 ?_
      refine m_ld (k := 36) hM (by decide) dX10_watchOf_25 (by omega) (by show _ < ((60 : Nat) : Int); omega) ?_
      refine ev_iload_n 3 rfl dX10_watchOf_26 ?_
      refine ev_icmp_ne (tgt := 32) dX10_watchOf_27 (by first | assumption | exact hR _ _ | decide | (simp only [InR]; omega)) (by first | assumption | exact hR _ _ | decide | (simp only [InR]; omega)) (by decide) (fun c27 => ?_) (fun c27 => ?_)
      · refine ev_iinc (L' := [(3, vI (i + 1)), (0, .ref (o)), (1, vI (a)), (2, vI (n))]) 0 rfl dX10_watchOf_32 (by decide) rfl ?_
        refine ev_goto (tgt := 2) dX10_watchOf_35 (by decide) ?_
        exact ihi (i + 1) (by omega) (by omega) (by omega) (by rw [hs, scanI_s _ (by omega), if_neg (by simp only [WaB, decide_eq_true_eq]; omega)])
      · refine ev_iload_n 0 rfl dX10_watchOf_30 ?_
        refine ev_ireturn dX10_watchOf_31 ?_
        exact ⟨rfl, congrArg (fun z => some (vI z)) (show i = watchZ S a n from by rw [hs, scanI_s _ (by omega), if_pos (by simp only [WaB, decide_eq_true_eq]; omega)])⟩

set_option maxHeartbeats 4000000 in
set_option maxRecDepth 100000 in
theorem m_isSeen {E : EV} {h : AH} {o : Nat} {ad : Nat → Nat} {S : MS} {a n : Int} (hM : MR E o ad S h) (hI : Inv S) (g1 : InR a) (g2 : InR n) : CM E yX10_isSeen cX10_isSeen 4 (some .boolean) 0 0 0 [.ref (o), vI (a), vI (n)] h (qB (SeenP S a n) h) := by
  have hR := hM.2.2.2.2
  have hJ := hI
  obtain ⟨i1, i2, i3, i4, i5, i6, iSt, iSi, iWa, iSh, iLa, iS0, iS1, iZe⟩ := hJ
  refine CM.of (by decide) (Nat.le_of_ble_eq_true rfl) (L := [(0, .ref (o)), (1, vI (a)), (2, vI (n))]) rfl ?_
  refine ev_iconst dX10_isSeen_0 ?_
  refine ev_istore_n (L' := [(3, vI (0)), (0, .ref (o)), (1, vI (a)), (2, vI (n))]) dX10_isSeen_1 (by decide) rfl ?_
  refine up_ind (P := fun i : Int => 0 ≤ i → (∀ k : Int, 0 ≤ k → k < i → ¬ (S 10 k = n ∧ (a < 0 ∨ S 9 k = a))) → Ev E RX10 cX10_isSeen 4 (some .boolean) "isSeen" (qB (SeenP S a n) h) 0 0 0 2 [(3, vI (i)), (0, .ref (o)), (1, vI (a)), (2, vI (n))] [] h) (N := S 7 0) ?_ 0 (by omega)  (by omega) (fun k h1 h2 => absurd h1 (by omega))
  intro i ihi hiN pi hs
  refine ev_iload_n 0 rfl dX10_isSeen_2 ?_
  refine ev_aload_n 1 rfl dX10_isSeen_3 ?_
  refine mg_177 hM dX10_isSeen_4 ?_
  refine ev_icmp_ge (tgt := 42) dX10_isSeen_7 (by first | assumption | exact hR _ _ | decide | (simp only [InR]; omega)) (by first | assumption | exact hR _ _ | decide | (simp only [InR]; omega)) (by decide) (fun c7 => ?_) (fun c7 => ?_)
  · refine ev_iconst dX10_isSeen_42 ?_
    refine ev_zreturn (by decide) dX10_isSeen_43 ?_
    exact ⟨rfl, Or.inr ⟨rfl, fun ⟨k, k1, k2, k3, k4⟩ => hs k k1 (by omega) ⟨k3, k4⟩⟩⟩
  · refine ev_aload_n 1 rfl dX10_isSeen_10 ?_
    refine mg_34 hM dX10_isSeen_11 ?_
    refine ev_iload_n 0 rfl dX10_isSeen_14 ?_
    refine m_ld (k := 10) hM (by decide) dX10_isSeen_15 (by omega) (by show _ < ((40 : Nat) : Int); omega) ?_
    refine ev_iload_n 3 rfl dX10_isSeen_16 ?_
    refine ev_icmp_ne (tgt := 36) dX10_isSeen_17 (by first | assumption | exact hR _ _ | decide | (simp only [InR]; omega)) (by first | assumption | exact hR _ _ | decide | (simp only [InR]; omega)) (by decide) (fun c17 => ?_) (fun c17 => ?_)
    · refine ev_iinc (L' := [(3, vI (i + 1)), (0, .ref (o)), (1, vI (a)), (2, vI (n))]) 0 rfl dX10_isSeen_36 (by decide) rfl ?_
      refine ev_goto (tgt := 2) dX10_isSeen_39 (by decide) ?_
      exact ihi (i + 1) (by omega) (by omega) (by omega) (fun k h1 h2 => (Int.lt_or_eq_of_le (show k ≤ i by omega)).elim (fun q => hs k h1 q) (fun q => by subst q; omega))
    · refine ev_iload_n 2 rfl dX10_isSeen_20 ?_
      refine ev_if_lt (tgt := 34) dX10_isSeen_21 (by first | assumption | exact hR _ _ | decide | (simp only [InR]; omega)) (by decide) (fun c21 => ?_) (fun c21 => ?_)
      · refine ev_iconst dX10_isSeen_34 ?_
        refine ev_zreturn (by decide) dX10_isSeen_35 ?_
        exact ⟨rfl, Or.inl ⟨rfl, i, by omega, by omega, by omega, by omega⟩⟩
      · refine ev_aload_n 1 rfl dX10_isSeen_24 ?_
        refine mg_31 hM dX10_isSeen_25 ?_
        refine ev_iload_n 0 rfl dX10_isSeen_28 ?_
        refine m_ld (k := 9) hM (by decide) dX10_isSeen_29 (by omega) (by show _ < ((40 : Nat) : Int); omega) ?_
        refine ev_iload_n 2 rfl dX10_isSeen_30 ?_
        refine ev_icmp_ne (tgt := 36) dX10_isSeen_31 (by first | assumption | exact hR _ _ | decide | (simp only [InR]; omega)) (by first | assumption | exact hR _ _ | decide | (simp only [InR]; omega)) (by decide) (fun c31 => ?_) (fun c31 => ?_)
        · refine ev_iinc (L' := [(3, vI (i + 1)), (0, .ref (o)), (1, vI (a)), (2, vI (n))]) 0 rfl dX10_isSeen_36 (by decide) rfl ?_
          refine ev_goto (tgt := 2) dX10_isSeen_39 (by decide) ?_
          exact ihi (i + 1) (by omega) (by omega) (by omega) (fun k h1 h2 => (Int.lt_or_eq_of_le (show k ≤ i by omega)).elim (fun q => hs k h1 q) (fun q => by subst q; omega))
        · refine ev_iconst dX10_isSeen_34 ?_
          refine ev_zreturn (by decide) dX10_isSeen_35 ?_
          exact ⟨rfl, Or.inl ⟨rfl, i, by omega, by omega, by omega, by omega⟩⟩

set_option maxHeartbeats 4000000 in
set_option maxRecDepth 100000 in
theorem m_watch {E : EV} {h : AH} {o : Nat} {ad : Nat → Nat} {S : MS} {a n hrs cl mo : Int} (hM : MR E o ad S h) (hI : Inv S) (g1 : InR a) (g2 : InR n) (g3 : InR hrs) (g4 : InR cl) (g5 : InR mo) : CM E yX10_watch cX10_watch 6 (some .int) 2 0 0 [.ref (o), vI (a), vI (n), vI (hrs), vI (cl), vI (mo)] h (qI (fun z h' => z = sp_watch S a n hrs cl mo ∧ MR E o ad (nx_watch S a n hrs cl mo) h')) := by
  have hR := hM.2.2.2.2
  have hJ := hI
  obtain ⟨i1, i2, i3, i4, i5, i6, iSt, iSi, iWa, iSh, iLa, iS0, iS1, iZe⟩ := hJ
  have wz := scanI_b (WaB S a n) 0 i3.1
  change watchZ S a n = -1 ∨ (0 ≤ watchZ S a n ∧ watchZ S a n < S 34 0 ∧ _) at wz
  refine CM.of (by decide) (Nat.le_of_ble_eq_true rfl) (L := [(0, .ref (o)), (1, vI (a)), (2, vI (n)), (3, vI (hrs)), (4, vI (cl)), (5, vI (mo))]) rfl ?_
  refine ev_aload_n 0 rfl dX10_watch_0 ?_
  refine ev_iload_n 1 rfl dX10_watch_1 ?_
  refine c_X10_160 (m_isStation hM hI (by first | assumption | exact hR _ _ | decide | (simp only [InR]; omega))) hM.1 rfl rfl (Nat.le_of_ble_eq_true rfl) (by decide) dX10_watch_2 (kB (fun b2 => ?_) (fun b2 => ?_))
  · refine ev_if_eq (tgt := 54) dX10_watch_5 (by decide) (by decide) (fun c => absurd c (by decide)) (fun _ => ?_)
    refine ev_iload_n 2 rfl dX10_watch_8 ?_
    refine c_X10_170 (m_isNight E (by first | assumption | exact hR _ _ | decide | (simp only [InR]; omega))) rfl rfl (Nat.le_of_ble_eq_true rfl) (by decide) dX10_watch_9 (kB (fun b9 => ?_) (fun b9 => ?_))
    · refine ev_if_eq (tgt := 54) dX10_watch_12 (by decide) (by decide) (fun c => absurd c (by decide)) (fun _ => ?_)
      refine ev_iload_n 3 rfl dX10_watch_15 ?_
      refine ev_i2l dX10_watch_16 (by first | assumption | exact hR _ _ | decide | (simp only [InR]; omega)) ?_
      refine ev_lconst (z := 0) dX10_watch_17 (by decide) ?_
      refine ev_ldc2 (z := 24) dX10_watch_18 k_X10_281 (by decide) ?_
      refine c_X10_143 (m_in E (v := hrs) (a := 0) (b := 24) (by first | assumption | exact hR _ _ | decide | (simp only [InL]; omega)) (by decide) (by decide)) rfl rfl (Nat.le_of_ble_eq_true rfl) (by decide) dX10_watch_21 (kB (fun b21 => ?_) (fun b21 => ?_))
      · refine ev_if_eq (tgt := 54) dX10_watch_24 (by decide) (by decide) (fun c => absurd c (by decide)) (fun _ => ?_)
        refine ev_iload 4 rfl dX10_watch_27 ?_
        refine ev_i2l dX10_watch_29 (by first | assumption | exact hR _ _ | decide | (simp only [InR]; omega)) ?_
        refine ev_lconst (z := 0) dX10_watch_30 (by decide) ?_
        refine ev_iload_n 3 rfl dX10_watch_31 ?_
        refine ev_i2l dX10_watch_32 (by first | assumption | exact hR _ _ | decide | (simp only [InR]; omega)) ?_
        refine c_X10_143 (m_in E (v := cl) (a := 0) (b := hrs) (by first | assumption | exact hR _ _ | decide | (simp only [InL]; omega)) (by decide) (by first | assumption | exact hR _ _ | decide | (simp only [InL]; omega))) rfl rfl (Nat.le_of_ble_eq_true rfl) (by decide) dX10_watch_33 (kB (fun b33 => ?_) (fun b33 => ?_))
        · refine ev_if_eq (tgt := 54) dX10_watch_36 (by decide) (by decide) (fun c => absurd c (by decide)) (fun _ => ?_)
          refine ev_iload 5 rfl dX10_watch_39 ?_
          refine ev_i2l dX10_watch_41 (by first | assumption | exact hR _ _ | decide | (simp only [InR]; omega)) ?_
          refine ev_lconst (z := 0) dX10_watch_42 (by decide) ?_
          refine ev_iload_n 3 rfl dX10_watch_43 ?_
          refine ev_iload 4 rfl dX10_watch_44 ?_
          refine ev_isub dX10_watch_46 ?_
          refine ev_i2l dX10_watch_47 (by first | assumption | exact hR _ _ | decide | (simp only [InR]; omega)) ?_
          refine c_X10_143 (m_in E (v := mo) (a := 0) (b := hrs - cl) (by first | assumption | exact hR _ _ | decide | (simp only [InL]; omega)) (by decide) (by first | assumption | exact hR _ _ | decide | (simp only [InL]; omega))) rfl rfl (Nat.le_of_ble_eq_true rfl) (by decide) dX10_watch_48 (kB (fun b48 => ?_) (fun b48 => ?_))
          · refine ev_if_ne (tgt := 56) dX10_watch_51 (by decide) (by decide) (fun _ => ?_) (fun c => absurd c (by decide))
            refine ev_aload_n 0 rfl dX10_watch_56 ?_
            refine ev_iload_n 1 rfl dX10_watch_57 ?_
            refine ev_iload_n 2 rfl dX10_watch_58 ?_
            refine c_X10_283 (m_watchOf hM hI (by first | assumption | exact hR _ _ | decide | (simp only [InR]; omega)) (by first | assumption | exact hR _ _ | decide | (simp only [InR]; omega))) hM.1 rfl rfl (Nat.le_of_ble_eq_true rfl) (by decide) dX10_watch_59 (kP ?_)
            refine ev_if_lt (tgt := 68) dX10_watch_62 (by first | assumption | exact hR _ _ | decide | (simp only [InR]; omega)) (by decide) (fun c62 => ?_) (fun c62 => ?_)
            · refine ev_aload_n 0 rfl dX10_watch_68 ?_
              refine mg_278 hM dX10_watch_69 ?_
              refine ev_bipush dX10_watch_72 (by decide) ?_
              refine ev_icmp_ne (tgt := 80) dX10_watch_74 (by first | assumption | exact hR _ _ | decide | (simp only [InR]; omega)) (by decide) (by decide) (fun c74 => ?_) (fun c74 => ?_)
              · refine ev_aload_n 0 rfl dX10_watch_80 ?_
                refine mg_95 hM dX10_watch_81 ?_
                refine ev_aload_n 0 rfl dX10_watch_84 ?_
                refine mg_278 hM dX10_watch_85 ?_
                refine ev_iload_n 1 rfl dX10_watch_88 ?_
                refine m_st (k := 35) hM (by decide) dX10_watch_89 (by omega) (by show _ < ((60 : Nat) : Int); omega) (by first | assumption | exact hR _ _ | decide | (simp only [InR]; omega)) (fun S1 h2 eS3 hM4 => ?_)
                have hRS1 := hM4.2.2.2.2
                refine ev_aload_n 0 rfl dX10_watch_90 ?_
                refine mg_98 hM4 dX10_watch_91 ?_
                refine ev_aload_n 0 rfl dX10_watch_94 ?_
                refine mgE_278 (v := S 34 0) hM4 (by rw [eS3, upS_ne (by decide)]) dX10_watch_95 ?_
                refine ev_iload_n 2 rfl dX10_watch_98 ?_
                refine m_st (k := 36) hM4 (by decide) dX10_watch_99 (by omega) (by show _ < ((60 : Nat) : Int); omega) (by first | assumption | exact hR _ _ | exact hRS1 _ _ | decide | (simp only [InR]; omega)) (fun S5 h6 eS7 hM8 => ?_)
                have hRS5 := hM8.2.2.2.2
                refine ev_aload_n 0 rfl dX10_watch_100 ?_
                refine mg_101 hM8 dX10_watch_101 ?_
                refine ev_aload_n 0 rfl dX10_watch_104 ?_
                refine mgE_278 (v := S 34 0) hM8 (by rw [eS7, upS_ne (by decide), eS3, upS_ne (by decide)]) dX10_watch_105 ?_
                refine ev_iload_n 3 rfl dX10_watch_108 ?_
                refine ev_iload 4 rfl dX10_watch_109 ?_
                refine ev_isub dX10_watch_111 ?_
                refine m_st (k := 37) hM8 (by decide) dX10_watch_112 (by omega) (by show _ < ((60 : Nat) : Int); omega) (by first | assumption | exact hR _ _ | exact hRS1 _ _ | exact hRS5 _ _ | decide | (simp only [InR]; omega)) (fun S9 h10 eS11 hM12 => ?_)
                have hRS9 := hM12.2.2.2.2
                refine ev_aload_n 0 rfl dX10_watch_113 ?_
                refine mg_104 hM12 dX10_watch_114 ?_
                refine ev_aload_n 0 rfl dX10_watch_117 ?_
                refine mgE_278 (v := S 34 0) hM12 (by rw [eS11, upS_ne (by decide), eS7, upS_ne (by decide), eS3, upS_ne (by decide)]) dX10_watch_118 ?_
                refine ev_iload_n 3 rfl dX10_watch_121 ?_
                refine ev_iload 4 rfl dX10_watch_122 ?_
                refine ev_isub dX10_watch_124 ?_
                refine ev_iload 5 rfl dX10_watch_125 ?_
                refine ev_isub dX10_watch_127 ?_
                refine m_st (k := 38) hM12 (by decide) dX10_watch_128 (by omega) (by show _ < ((60 : Nat) : Int); omega) (by first | assumption | exact hR _ _ | exact hRS1 _ _ | exact hRS5 _ _ | exact hRS9 _ _ | decide | (simp only [InR]; omega)) (fun S13 h14 eS15 hM16 => ?_)
                have hRS13 := hM16.2.2.2.2
                refine ev_aload_n 0 rfl dX10_watch_129 ?_
                refine ev_dup dX10_watch_130 rfl ?_
                refine mgE_278 (v := S 34 0) hM16 (by rw [eS15, upS_ne (by decide), eS11, upS_ne (by decide), eS7, upS_ne (by decide), eS3, upS_ne (by decide)]) dX10_watch_131 ?_
                refine ev_iconst dX10_watch_134 ?_
                refine ev_iadd dX10_watch_135 ?_
                refine mp_278 hM16 (by first | assumption | exact hR _ _ | exact hRS1 _ _ | exact hRS5 _ _ | exact hRS9 _ _ | exact hRS13 _ _ | decide | (simp only [InR]; omega)) dX10_watch_136 (fun S17 h18 eS19 hM20 => ?_)
                have hRS17 := hM20.2.2.2.2
                refine ev_iload_n 3 rfl dX10_watch_139 ?_
                refine ev_iload 4 rfl dX10_watch_140 ?_
                refine ev_isub dX10_watch_142 ?_
                refine ev_ireturn dX10_watch_143 ?_
                refine ⟨_, rfl, ?_, ?_⟩
                · simp only [sp_watch]; (repeat' split) <;> first | rfl | omega
                · subst eS19 eS15 eS11 eS7 eS3
                  simp only [nx_watch]; first | (rw [if_pos (by omega)]; exact hM20) | (rw [if_neg (by omega)]; exact hM20)
              · refine ev_bipush dX10_watch_77 (by decide) ?_
                refine ev_ireturn dX10_watch_79 ?_
                refine ⟨_, rfl, ?_, ?_⟩
                · simp only [sp_watch]; (repeat' split) <;> first | rfl | omega
                · simp only [nx_watch]; first | (rw [if_pos (by omega)]; exact hM) | (rw [if_neg (by omega)]; exact hM)
            · refine ev_bipush dX10_watch_65 (by decide) ?_
              refine ev_ireturn dX10_watch_67 ?_
              refine ⟨_, rfl, ?_, ?_⟩
              · simp only [sp_watch]; (repeat' split) <;> first | rfl | omega
              · simp only [nx_watch]; first | (rw [if_pos (by omega)]; exact hM) | (rw [if_neg (by omega)]; exact hM)
          · refine ev_if_ne (tgt := 56) dX10_watch_51 (by decide) (by decide) (fun c => absurd c (by decide)) (fun _ => ?_)
            refine ev_iconst dX10_watch_54 ?_
            refine ev_ireturn dX10_watch_55 ?_
            refine ⟨_, rfl, ?_, ?_⟩
            · simp only [sp_watch]; (repeat' split) <;> first | rfl | omega
            · simp only [nx_watch]; first | (rw [if_pos (by omega)]; exact hM) | (rw [if_neg (by omega)]; exact hM)
        · refine ev_if_eq (tgt := 54) dX10_watch_36 (by decide) (by decide) (fun _ => ?_) (fun c => absurd c (by decide))
          refine ev_iconst dX10_watch_54 ?_
          refine ev_ireturn dX10_watch_55 ?_
          refine ⟨_, rfl, ?_, ?_⟩
          · simp only [sp_watch]; (repeat' split) <;> first | rfl | omega
          · simp only [nx_watch]; first | (rw [if_pos (by omega)]; exact hM) | (rw [if_neg (by omega)]; exact hM)
      · refine ev_if_eq (tgt := 54) dX10_watch_24 (by decide) (by decide) (fun _ => ?_) (fun c => absurd c (by decide))
        refine ev_iconst dX10_watch_54 ?_
        refine ev_ireturn dX10_watch_55 ?_
        refine ⟨_, rfl, ?_, ?_⟩
        · simp only [sp_watch]; (repeat' split) <;> first | rfl | omega
        · simp only [nx_watch]; first | (rw [if_pos (by omega)]; exact hM) | (rw [if_neg (by omega)]; exact hM)
    · refine ev_if_eq (tgt := 54) dX10_watch_12 (by decide) (by decide) (fun _ => ?_) (fun c => absurd c (by decide))
      refine ev_iconst dX10_watch_54 ?_
      refine ev_ireturn dX10_watch_55 ?_
      refine ⟨_, rfl, ?_, ?_⟩
      · simp only [sp_watch]; (repeat' split) <;> first | rfl | omega
      · simp only [nx_watch]; first | (rw [if_pos (by omega)]; exact hM) | (rw [if_neg (by omega)]; exact hM)
  · refine ev_if_eq (tgt := 54) dX10_watch_5 (by decide) (by decide) (fun _ => ?_) (fun c => absurd c (by decide))
    refine ev_iconst dX10_watch_54 ?_
    refine ev_ireturn dX10_watch_55 ?_
    refine ⟨_, rfl, ?_, ?_⟩
    · simp only [sp_watch]; (repeat' split) <;> first | rfl | omega
    · simp only [nx_watch]; first | (rw [if_pos (by omega)]; exact hM) | (rw [if_neg (by omega)]; exact hM)

set_option maxHeartbeats 4000000 in
set_option maxRecDepth 100000 in
theorem m_seen {E : EV} {h : AH} {o : Nat} {ad : Nat → Nat} {S : MS} {a n : Int} (hM : MR E o ad S h) (hI : Inv S) (g1 : InR a) (g2 : InR n) : CM E yX10_seen cX10_seen 4 (some .int) 2 0 0 [.ref (o), vI (a), vI (n)] h (qI (fun z h' => z = sp_seen S a n ∧ MR E o ad (S) h')) := by
  have hR := hM.2.2.2.2
  have hJ := hI
  obtain ⟨i1, i2, i3, i4, i5, i6, iSt, iSi, iWa, iSh, iLa, iS0, iS1, iZe⟩ := hJ
  have wz := scanI_b (WaB S a n) 0 i3.1
  change watchZ S a n = -1 ∨ (0 ≤ watchZ S a n ∧ watchZ S a n < S 34 0 ∧ _) at wz
  refine CM.of (by decide) (Nat.le_of_ble_eq_true rfl) (L := [(0, .ref (o)), (1, vI (a)), (2, vI (n))]) rfl ?_
  refine ev_aload_n 0 rfl dX10_seen_0 ?_
  refine ev_iload_n 1 rfl dX10_seen_1 ?_
  refine c_X10_160 (m_isStation hM hI (by first | assumption | exact hR _ _ | decide | (simp only [InR]; omega))) hM.1 rfl rfl (Nat.le_of_ble_eq_true rfl) (by decide) dX10_seen_2 (kB (fun b2 => ?_) (fun b2 => ?_))
  · refine ev_if_eq (tgt := 15) dX10_seen_5 (by decide) (by decide) (fun c => absurd c (by decide)) (fun _ => ?_)
    refine ev_iload_n 2 rfl dX10_seen_8 ?_
    refine c_X10_170 (m_isNight E (by first | assumption | exact hR _ _ | decide | (simp only [InR]; omega))) rfl rfl (Nat.le_of_ble_eq_true rfl) (by decide) dX10_seen_9 (kB (fun b9 => ?_) (fun b9 => ?_))
    · refine ev_if_ne (tgt := 17) dX10_seen_12 (by decide) (by decide) (fun _ => ?_) (fun c => absurd c (by decide))
      refine ev_aload_n 0 rfl dX10_seen_17 ?_
      refine ev_iload_n 1 rfl dX10_seen_18 ?_
      refine ev_iload_n 2 rfl dX10_seen_19 ?_
      refine c_X10_286 (m_isSeen (a := a) (n := n) hM hI (by first | assumption | exact hR _ _ | decide | (simp only [InR]; omega)) (by first | assumption | exact hR _ _ | decide | (simp only [InR]; omega))) hM.1 rfl rfl (Nat.le_of_ble_eq_true rfl) (by decide) dX10_seen_20 (kB (fun b20 => ?_) (fun b20 => ?_))
      · refine ev_if_eq (tgt := 28) dX10_seen_23 (by decide) (by decide) (fun c => absurd c (by decide)) (fun _ => ?_)
        refine ev_iconst dX10_seen_26 ?_
        refine ev_ireturn dX10_seen_27 ?_
        refine ⟨_, rfl, ?_, hM⟩
        simp only [sp_seen]; first | (rw [if_pos (by omega)]; done) | (rw [if_neg (by omega)]; first | (rw [iteP_pos (by assumption)]; done) | (rw [iteP_neg (by assumption)]; (repeat' split) <;> first | rfl | omega))
      · refine ev_if_eq (tgt := 28) dX10_seen_23 (by decide) (by decide) (fun _ => ?_) (fun c => absurd c (by decide))
        refine ev_aload_n 0 rfl dX10_seen_28 ?_
        refine ev_iload_n 1 rfl dX10_seen_29 ?_
        refine ev_iload_n 2 rfl dX10_seen_30 ?_
        refine c_X10_283 (m_watchOf hM hI (by first | assumption | exact hR _ _ | decide | (simp only [InR]; omega)) (by first | assumption | exact hR _ _ | decide | (simp only [InR]; omega))) hM.1 rfl rfl (Nat.le_of_ble_eq_true rfl) (by decide) dX10_seen_31 (kP ?_)
        refine ev_istore_n (L' := [(3, vI (watchZ S a n)), (0, .ref (o)), (1, vI (a)), (2, vI (n))]) dX10_seen_34 (by decide) rfl ?_
        refine ev_iload_n 0 rfl dX10_seen_35 ?_
        refine ev_if_ge (tgt := 44) dX10_seen_36 (by first | assumption | exact hR _ _ | decide | (simp only [InR]; omega)) (by decide) (fun c36 => ?_) (fun c36 => ?_)
        · refine ev_aload_n 1 rfl dX10_seen_44 ?_
          refine mg_104 hM dX10_seen_45 ?_
          refine ev_iload_n 0 rfl dX10_seen_48 ?_
          refine m_ld (k := 38) hM (by decide) dX10_seen_49 (by omega) (by show _ < ((60 : Nat) : Int); omega) ?_
          refine ev_if_le (tgt := 57) dX10_seen_50 (by first | assumption | exact hR _ _ | decide | (simp only [InR]; omega)) (by decide) (fun c50 => ?_) (fun c50 => ?_)
          · refine ev_bipush dX10_seen_57 (by decide) ?_
            refine ev_ireturn dX10_seen_59 ?_
            refine ⟨_, rfl, ?_, hM⟩
            simp only [sp_seen]; first | (rw [if_pos (by omega)]; done) | (rw [if_neg (by omega)]; first | (rw [iteP_pos (by assumption)]; done) | (rw [iteP_neg (by assumption)]; (repeat' split) <;> first | rfl | omega))
          · refine ev_iconst dX10_seen_53 ?_
            refine ev_goto (tgt := 59) dX10_seen_54 (by decide) ?_
            refine ev_ireturn dX10_seen_59 ?_
            refine ⟨_, rfl, ?_, hM⟩
            simp only [sp_seen]; first | (rw [if_pos (by omega)]; done) | (rw [if_neg (by omega)]; first | (rw [iteP_pos (by assumption)]; done) | (rw [iteP_neg (by assumption)]; (repeat' split) <;> first | rfl | omega))
        · refine ev_bipush dX10_seen_39 (by decide) ?_
          refine ev_goto (tgt := 59) dX10_seen_41 (by decide) ?_
          refine ev_ireturn dX10_seen_59 ?_
          refine ⟨_, rfl, ?_, hM⟩
          simp only [sp_seen]; first | (rw [if_pos (by omega)]; done) | (rw [if_neg (by omega)]; first | (rw [iteP_pos (by assumption)]; done) | (rw [iteP_neg (by assumption)]; (repeat' split) <;> first | rfl | omega))
    · refine ev_if_ne (tgt := 17) dX10_seen_12 (by decide) (by decide) (fun c => absurd c (by decide)) (fun _ => ?_)
      refine ev_iconst dX10_seen_15 ?_
      refine ev_ireturn dX10_seen_16 ?_
      refine ⟨_, rfl, ?_, hM⟩
      simp only [sp_seen]; first | (rw [if_pos (by omega)]; done) | (rw [if_neg (by omega)]; first | (rw [iteP_pos (by assumption)]; done) | (rw [iteP_neg (by assumption)]; (repeat' split) <;> first | rfl | omega))
  · refine ev_if_eq (tgt := 15) dX10_seen_5 (by decide) (by decide) (fun _ => ?_) (fun c => absurd c (by decide))
    refine ev_iconst dX10_seen_15 ?_
    refine ev_ireturn dX10_seen_16 ?_
    refine ⟨_, rfl, ?_, hM⟩
    simp only [sp_seen]; first | (rw [if_pos (by omega)]; done) | (rw [if_neg (by omega)]; first | (rw [iteP_pos (by assumption)]; done) | (rw [iteP_neg (by assumption)]; (repeat' split) <;> first | rfl | omega))

set_option maxHeartbeats 4000000 in
set_option maxRecDepth 100000 in
theorem m_rate {E : EV} {h : AH} {o : Nat} {ad : Nat → Nat} {S : MS} {a f t w : Int} (hM : MR E o ad S h) (hI : Inv S) (g1 : InR a) (g2 : InR f) (g3 : InR t) (g4 : InR w) : CM E yX10_rate cX10_rate 9 (some .int) 2 0 0 [.ref (o), vI (a), vI (f), vI (t), vI (w)] h (qI (fun z h' => z = sp_rate S a f t w ∧ MR E o ad (S) h')) := by
  have hR := hM.2.2.2.2
  have hJ := hI
  obtain ⟨i1, i2, i3, i4, i5, i6, iSt, iSi, iWa, iSh, iLa, iS0, iS1, iZe⟩ := hJ
  refine CM.of (by decide) (Nat.le_of_ble_eq_true rfl) (L := [(0, .ref (o)), (1, vI (a)), (2, vI (f)), (3, vI (t)), (4, vI (w))]) rfl ?_
  refine ev_iload_n 1 rfl dX10_rate_0 ?_
  refine ev_iconst dX10_rate_1 ?_
  refine ev_icmp_eq (tgt := 13) dX10_rate_2 (by first | assumption | exact hR _ _ | decide | (simp only [InR]; omega)) (by decide) (by decide) (fun c2 => ?_) (fun c2 => ?_)
  · refine ev_iload_n 2 rfl dX10_rate_13 ?_
    refine c_X10_170 (m_isNight E (by first | assumption | exact hR _ _ | decide | (simp only [InR]; omega))) rfl rfl (Nat.le_of_ble_eq_true rfl) (by decide) dX10_rate_14 (kB (fun b14 => ?_) (fun b14 => ?_))
    · refine ev_if_eq (tgt := 45) dX10_rate_17 (by decide) (by decide) (fun c => absurd c (by decide)) (fun _ => ?_)
      refine ev_iload_n 3 rfl dX10_rate_20 ?_
      refine c_X10_170 (m_isNight E (by first | assumption | exact hR _ _ | decide | (simp only [InR]; omega))) rfl rfl (Nat.le_of_ble_eq_true rfl) (by decide) dX10_rate_21 (kB (fun b21 => ?_) (fun b21 => ?_))
      · refine ev_if_eq (tgt := 45) dX10_rate_24 (by decide) (by decide) (fun c => absurd c (by decide)) (fun _ => ?_)
        refine ev_iload_n 3 rfl dX10_rate_27 ?_
        refine ev_iload_n 2 rfl dX10_rate_28 ?_
        refine ev_icmp_lt (tgt := 45) dX10_rate_29 (by first | assumption | exact hR _ _ | decide | (simp only [InR]; omega)) (by first | assumption | exact hR _ _ | decide | (simp only [InR]; omega)) (by decide) (fun c29 => ?_) (fun c29 => ?_)
        · refine ev_iconst dX10_rate_45 ?_
          refine ev_ireturn dX10_rate_46 ?_
          refine ⟨_, rfl, ?_, hM⟩
          simp only [sp_rate]; rw [if_pos (by omega)]
        · refine ev_iload 4 rfl dX10_rate_32 ?_
          refine ev_i2l dX10_rate_34 (by first | assumption | exact hR _ _ | decide | (simp only [InR]; omega)) ?_
          refine ev_lconst (z := 0) dX10_rate_35 (by decide) ?_
          refine ev_ldc2 (z := 3) dX10_rate_36 k_X10_289 (by decide) ?_
          refine c_X10_143 (m_in E (v := w) (a := 0) (b := 3) (by first | assumption | exact hR _ _ | decide | (simp only [InL]; omega)) (by decide) (by decide)) rfl rfl (Nat.le_of_ble_eq_true rfl) (by decide) dX10_rate_39 (kB (fun b39 => ?_) (fun b39 => ?_))
          · refine ev_if_ne (tgt := 47) dX10_rate_42 (by decide) (by decide) (fun _ => ?_) (fun c => absurd c (by decide))
            refine ev_iconst dX10_rate_47 ?_
            refine ev_istore (L' := [(5, vI (0)), (0, .ref (o)), (1, vI (a)), (2, vI (f)), (3, vI (t)), (4, vI (w))]) dX10_rate_48 (by decide) rfl ?_
            refine ev_iconst dX10_rate_50 ?_
            refine ev_istore (L' := [(6, vI (0)), (5, vI (0)), (0, .ref (o)), (1, vI (a)), (2, vI (f)), (3, vI (t)), (4, vI (w))]) dX10_rate_51 (by decide) rfl ?_
            refine ev_iconst dX10_rate_53 ?_
            refine ev_istore (L' := [(7, vI (0)), (6, vI (0)), (5, vI (0)), (0, .ref (o)), (1, vI (a)), (2, vI (f)), (3, vI (t)), (4, vI (w))]) dX10_rate_54 (by decide) rfl ?_
            refine ev_iconst dX10_rate_56 ?_
            refine ev_istore (L' := [(8, vI (0)), (7, vI (0)), (6, vI (0)), (5, vI (0)), (0, .ref (o)), (1, vI (a)), (2, vI (f)), (3, vI (t)), (4, vI (w))]) dX10_rate_57 (by decide) rfl ?_
            refine up_ind (P := fun i : Int => ∀ (xm : Int) (xs : Int) (xh : Int), 0 ≤ i → xm = sumI (raM S a f t) i → xs = sumI (raS S a f t) i → xh = sumI (raH S a f t) i → ((0 ≤ xm ∧ xm ≤ i) ∧ (0 ≤ xs ∧ xs ≤ i) ∧ 0 ≤ xh ∧ xh ≤ 24 * i) → Ev E RX10 cX10_rate 9 (some .int) "rate" (qI (fun z h' => z = sp_rate S a f t w ∧ MR E o ad (S) h')) 2 0 0 59 [(8, vI (i)), (7, vI (xh)), (6, vI (xs)), (5, vI (xm)), (0, .ref (o)), (1, vI (a)), (2, vI (f)), (3, vI (t)), (4, vI (w))] [] h) (N := S 34 0) ?_ 0 (by omega) 0 0 0 (by omega) (rfl) (rfl) (rfl) (by omega)
            intro i ihi hiN xm xs xh pi hxm hxs hxh hxb
            refine ev_iload 0 rfl dX10_rate_59 ?_
            refine ev_aload_n 4 rfl dX10_rate_61 ?_
            refine mg_278 hM dX10_rate_62 ?_
            refine ev_icmp_ge (tgt := 163) dX10_rate_65 (by first | assumption | exact hR _ _ | decide | (simp only [InR]; omega)) (by first | assumption | exact hR _ _ | decide | (simp only [InR]; omega)) (by decide) (fun c65 => ?_) (fun c65 => ?_)
            · refine ev_iload 8 rfl dX10_rate_163 ?_
              refine ev_if_ne (tgt := 173) dX10_rate_165 (by first | assumption | exact hR _ _ | decide | (simp only [InR]; omega)) (by decide) (fun c165 => ?_) (fun c165 => ?_)
              · refine ev_iload 8 rfl dX10_rate_173 ?_
                refine ev_iconst dX10_rate_175 ?_
                refine ev_icmp_ne (tgt := 184) dX10_rate_176 (by first | assumption | exact hR _ _ | decide | (simp only [InR]; omega)) (by decide) (by decide) (fun c176 => ?_) (fun c176 => ?_)
                · refine ev_iload 8 rfl dX10_rate_184 ?_
                  refine ev_iconst dX10_rate_186 ?_
                  refine ev_icmp_ne (tgt := 195) dX10_rate_187 (by first | assumption | exact hR _ _ | decide | (simp only [InR]; omega)) (by decide) (by decide) (fun c187 => ?_) (fun c187 => ?_)
                  · refine ev_iload 1 rfl dX10_rate_195 ?_
                    refine ev_if_ne (tgt := 204) dX10_rate_197 (by first | assumption | exact hR _ _ | decide | (simp only [InR]; omega)) (by decide) (fun c197 => ?_) (fun c197 => ?_)
                    · refine ev_sipush dX10_rate_204 (by decide) ?_
                      refine ev_iload 2 rfl dX10_rate_207 ?_
                      refine ev_imul dX10_rate_209 ?_
                      refine ev_iload 1 rfl dX10_rate_210 ?_
                      have td := tdiv_b (a := 1000 * xs) (b := xh) (A := 60000) (by omega)
                      refine ev_idiv dX10_rate_212 (by first | assumption | exact hR _ _ | decide | (simp only [InR]; omega)) (by first | assumption | exact hR _ _ | decide | (simp only [InR]; omega)) (by omega) (by first | assumption | exact hR _ _ | decide | (simp only [InR]; omega)) ?_
                      refine ev_ireturn dX10_rate_213 ?_
                      refine ⟨_, rfl, ?_, hM⟩
                      have e0 : i = S 34 0 := by omega
                      rw [e0] at hxm hxs hxh
                      simp only [sp_rate]; rw [if_neg (by omega), ← hxm, ← hxs, ← hxh]; (repeat' split) <;> first | rfl | omega
                    · refine ev_iconst dX10_rate_200 ?_
                      refine ev_goto (tgt := 213) dX10_rate_201 (by decide) ?_
                      refine ev_ireturn dX10_rate_213 ?_
                      refine ⟨_, rfl, ?_, hM⟩
                      have e0 : i = S 34 0 := by omega
                      rw [e0] at hxm hxs hxh
                      simp only [sp_rate]; rw [if_neg (by omega), ← hxm, ← hxs, ← hxh]; (repeat' split) <;> first | rfl | omega
                  · refine ev_iload 1 rfl dX10_rate_190 ?_
                    refine ev_goto (tgt := 213) dX10_rate_192 (by decide) ?_
                    refine ev_ireturn dX10_rate_213 ?_
                    refine ⟨_, rfl, ?_, hM⟩
                    have e0 : i = S 34 0 := by omega
                    rw [e0] at hxm hxs hxh
                    simp only [sp_rate]; rw [if_neg (by omega), ← hxm, ← hxs, ← hxh]; (repeat' split) <;> first | rfl | omega
                · refine ev_iload 2 rfl dX10_rate_179 ?_
                  refine ev_goto (tgt := 213) dX10_rate_181 (by decide) ?_
                  refine ev_ireturn dX10_rate_213 ?_
                  refine ⟨_, rfl, ?_, hM⟩
                  have e0 : i = S 34 0 := by omega
                  rw [e0] at hxm hxs hxh
                  simp only [sp_rate]; rw [if_neg (by omega), ← hxm, ← hxs, ← hxh]; (repeat' split) <;> first | rfl | omega
              · refine ev_iload 3 rfl dX10_rate_168 ?_
                refine ev_goto (tgt := 213) dX10_rate_170 (by decide) ?_
                refine ev_ireturn dX10_rate_213 ?_
                refine ⟨_, rfl, ?_, hM⟩
                have e0 : i = S 34 0 := by omega
                rw [e0] at hxm hxs hxh
                simp only [sp_rate]; rw [if_neg (by omega), ← hxm, ← hxs, ← hxh]; (repeat' split) <;> first | rfl | omega
            · have w1 := iWa i (by omega) (by omega)
              refine ev_iload_n 5 rfl dX10_rate_68 ?_
              refine ev_if_lt (tgt := 83) dX10_rate_69 (by first | assumption | exact hR _ _ | decide | (simp only [InR]; omega)) (by decide) (fun c69 => ?_) (fun c69 => ?_)
              · refine ev_aload_n 4 rfl dX10_rate_83 ?_
                refine mg_98 hM dX10_rate_84 ?_
                refine ev_iload 0 rfl dX10_rate_87 ?_
                refine m_ld (k := 36) hM (by decide) dX10_rate_89 (by omega) (by show _ < ((60 : Nat) : Int); omega) ?_
                refine ev_i2l dX10_rate_90 (by first | assumption | exact hR _ _ | decide | (simp only [InR]; omega)) ?_
                refine ev_iload_n 6 rfl dX10_rate_91 ?_
                refine ev_i2l dX10_rate_92 (by first | assumption | exact hR _ _ | decide | (simp only [InR]; omega)) ?_
                refine ev_iload_n 7 rfl dX10_rate_93 ?_
                refine ev_i2l dX10_rate_94 (by first | assumption | exact hR _ _ | decide | (simp only [InR]; omega)) ?_
                refine c_X10_143 (m_in E (v := S 36 i) (a := f) (b := t) (by first | assumption | exact hR _ _ | decide | (simp only [InL]; omega)) (by first | assumption | exact hR _ _ | decide | (simp only [InL]; omega)) (by first | assumption | exact hR _ _ | decide | (simp only [InL]; omega))) rfl rfl (Nat.le_of_ble_eq_true rfl) (by decide) dX10_rate_95 (kB (fun b95 => ?_) (fun b95 => ?_))
                · refine ev_if_eq (tgt := 157) dX10_rate_98 (by decide) (by decide) (fun c => absurd c (by decide)) (fun _ => ?_)
                  refine ev_aload_n 4 rfl dX10_rate_101 ?_
                  refine mg_101 hM dX10_rate_102 ?_
                  refine ev_iload 0 rfl dX10_rate_105 ?_
                  refine m_ld (k := 37) hM (by decide) dX10_rate_107 (by omega) (by show _ < ((60 : Nat) : Int); omega) ?_
                  refine ev_if_le (tgt := 157) dX10_rate_108 (by first | assumption | exact hR _ _ | decide | (simp only [InR]; omega)) (by decide) (fun c108 => ?_) (fun c108 => ?_)
                  · refine ev_iinc (L' := [(8, vI (i + 1)), (7, vI (xh)), (6, vI (xs)), (5, vI (xm)), (0, .ref (o)), (1, vI (a)), (2, vI (f)), (3, vI (t)), (4, vI (w))]) 0 rfl dX10_rate_157 (by decide) rfl ?_
                    refine ev_goto (tgt := 59) dX10_rate_160 (by decide) ?_
                    exact ihi (i + 1) (by omega) (by omega) xm xs xh (by omega) (by rw [sumI_s _ (by omega), ← hxm]; simp only [raM]; first | (rw [if_neg (by omega)]; omega) | (rw [if_pos (by omega)])) (by rw [sumI_s _ (by omega), ← hxs]; simp only [raS]; first | (rw [if_neg (by omega)]; omega) | (rw [if_pos (by omega), iteP_pos (by assumption)]) | (rw [if_pos (by omega), iteP_neg (by assumption)])) (by rw [sumI_s _ (by omega), ← hxh]; simp only [raH]; first | (rw [if_neg (by omega)]; omega) | (rw [if_pos (by omega)])) (by first | omega | (have := iWa i (by omega) (by omega); omega))
                  · refine ev_iinc (L' := [(5, vI (xm + 1)), (8, vI (i)), (7, vI (xh)), (6, vI (xs)), (0, .ref (o)), (1, vI (a)), (2, vI (f)), (3, vI (t)), (4, vI (w))]) 3 rfl dX10_rate_111 (by decide) rfl ?_
                    refine ev_iload 3 rfl dX10_rate_114 ?_
                    refine ev_aload_n 4 rfl dX10_rate_116 ?_
                    refine ev_aload_n 4 rfl dX10_rate_117 ?_
                    refine mg_95 hM dX10_rate_118 ?_
                    refine ev_iload 1 rfl dX10_rate_121 ?_
                    refine m_ld (k := 35) hM (by decide) dX10_rate_123 (by omega) (by show _ < ((60 : Nat) : Int); omega) ?_
                    refine ev_aload_n 4 rfl dX10_rate_124 ?_
                    refine mg_98 hM dX10_rate_125 ?_
                    refine ev_iload 1 rfl dX10_rate_128 ?_
                    refine m_ld (k := 36) hM (by decide) dX10_rate_130 (by omega) (by show _ < ((60 : Nat) : Int); omega) ?_
                    refine c_X10_286 (m_isSeen (a := S 35 i) (n := S 36 i) hM hI (by first | assumption | exact hR _ _ | decide | (simp only [InR]; omega)) (by first | assumption | exact hR _ _ | decide | (simp only [InR]; omega))) hM.1 rfl rfl (Nat.le_of_ble_eq_true rfl) (by decide) dX10_rate_131 (kB (fun b131 => ?_) (fun b131 => ?_))
                    · refine ev_if_eq (tgt := 141) dX10_rate_134 (by decide) (by decide) (fun c => absurd c (by decide)) (fun _ => ?_)
                      refine ev_iconst dX10_rate_137 ?_
                      refine ev_goto (tgt := 142) dX10_rate_138 (by decide) ?_
                      refine ev_iadd dX10_rate_142 ?_
                      refine ev_istore (L' := [(6, vI (xs + 1)), (5, vI (xm + 1)), (8, vI (i)), (7, vI (xh)), (0, .ref (o)), (1, vI (a)), (2, vI (f)), (3, vI (t)), (4, vI (w))]) dX10_rate_143 (by decide) rfl ?_
                      refine ev_iload 3 rfl dX10_rate_145 ?_
                      refine ev_aload_n 4 rfl dX10_rate_147 ?_
                      refine mg_101 hM dX10_rate_148 ?_
                      refine ev_iload 2 rfl dX10_rate_151 ?_
                      refine m_ld (k := 37) hM (by decide) dX10_rate_153 (by omega) (by show _ < ((60 : Nat) : Int); omega) ?_
                      refine ev_iadd dX10_rate_154 ?_
                      refine ev_istore (L' := [(7, vI (xh + (S 37 i))), (6, vI (xs + 1)), (5, vI (xm + 1)), (8, vI (i)), (0, .ref (o)), (1, vI (a)), (2, vI (f)), (3, vI (t)), (4, vI (w))]) dX10_rate_155 (by decide) rfl ?_
                      refine ev_iinc (L' := [(8, vI (i + 1)), (7, vI (xh + (S 37 i))), (6, vI (xs + 1)), (5, vI (xm + 1)), (0, .ref (o)), (1, vI (a)), (2, vI (f)), (3, vI (t)), (4, vI (w))]) 3 rfl dX10_rate_157 (by decide) rfl ?_
                      refine ev_goto (tgt := 59) dX10_rate_160 (by decide) ?_
                      exact ihi (i + 1) (by omega) (by omega) (xm + 1) (xs + 1) (xh + (S 37 i)) (by omega) (by rw [sumI_s _ (by omega), ← hxm]; simp only [raM]; first | (rw [if_neg (by omega)]; omega) | (rw [if_pos (by omega)])) (by rw [sumI_s _ (by omega), ← hxs]; simp only [raS]; first | (rw [if_neg (by omega)]; omega) | (rw [if_pos (by omega), iteP_pos (by assumption)]) | (rw [if_pos (by omega), iteP_neg (by assumption)])) (by rw [sumI_s _ (by omega), ← hxh]; simp only [raH]; first | (rw [if_neg (by omega)]; omega) | (rw [if_pos (by omega)])) (by first | omega | (have := iWa i (by omega) (by omega); omega))
                    · refine ev_if_eq (tgt := 141) dX10_rate_134 (by decide) (by decide) (fun _ => ?_) (fun c => absurd c (by decide))
                      refine ev_iconst dX10_rate_141 ?_
                      refine ev_iadd dX10_rate_142 ?_
                      refine ev_istore (L' := [(6, vI (xs + 0)), (5, vI (xm + 1)), (8, vI (i)), (7, vI (xh)), (0, .ref (o)), (1, vI (a)), (2, vI (f)), (3, vI (t)), (4, vI (w))]) dX10_rate_143 (by decide) rfl ?_
                      refine ev_iload 3 rfl dX10_rate_145 ?_
                      refine ev_aload_n 4 rfl dX10_rate_147 ?_
                      refine mg_101 hM dX10_rate_148 ?_
                      refine ev_iload 2 rfl dX10_rate_151 ?_
                      refine m_ld (k := 37) hM (by decide) dX10_rate_153 (by omega) (by show _ < ((60 : Nat) : Int); omega) ?_
                      refine ev_iadd dX10_rate_154 ?_
                      refine ev_istore (L' := [(7, vI (xh + (S 37 i))), (6, vI (xs + 0)), (5, vI (xm + 1)), (8, vI (i)), (0, .ref (o)), (1, vI (a)), (2, vI (f)), (3, vI (t)), (4, vI (w))]) dX10_rate_155 (by decide) rfl ?_
                      refine ev_iinc (L' := [(8, vI (i + 1)), (7, vI (xh + (S 37 i))), (6, vI (xs + 0)), (5, vI (xm + 1)), (0, .ref (o)), (1, vI (a)), (2, vI (f)), (3, vI (t)), (4, vI (w))]) 3 rfl dX10_rate_157 (by decide) rfl ?_
                      refine ev_goto (tgt := 59) dX10_rate_160 (by decide) ?_
                      exact ihi (i + 1) (by omega) (by omega) (xm + 1) (xs + 0) (xh + (S 37 i)) (by omega) (by rw [sumI_s _ (by omega), ← hxm]; simp only [raM]; first | (rw [if_neg (by omega)]; omega) | (rw [if_pos (by omega)])) (by rw [sumI_s _ (by omega), ← hxs]; simp only [raS]; first | (rw [if_neg (by omega)]; omega) | (rw [if_pos (by omega), iteP_pos (by assumption)]) | (rw [if_pos (by omega), iteP_neg (by assumption)])) (by rw [sumI_s _ (by omega), ← hxh]; simp only [raH]; first | (rw [if_neg (by omega)]; omega) | (rw [if_pos (by omega)])) (by first | omega | (have := iWa i (by omega) (by omega); omega))
                · refine ev_if_eq (tgt := 157) dX10_rate_98 (by decide) (by decide) (fun _ => ?_) (fun c => absurd c (by decide))
                  refine ev_iinc (L' := [(8, vI (i + 1)), (7, vI (xh)), (6, vI (xs)), (5, vI (xm)), (0, .ref (o)), (1, vI (a)), (2, vI (f)), (3, vI (t)), (4, vI (w))]) 0 rfl dX10_rate_157 (by decide) rfl ?_
                  refine ev_goto (tgt := 59) dX10_rate_160 (by decide) ?_
                  exact ihi (i + 1) (by omega) (by omega) xm xs xh (by omega) (by rw [sumI_s _ (by omega), ← hxm]; simp only [raM]; first | (rw [if_neg (by omega)]; omega) | (rw [if_pos (by omega)])) (by rw [sumI_s _ (by omega), ← hxs]; simp only [raS]; first | (rw [if_neg (by omega)]; omega) | (rw [if_pos (by omega), iteP_pos (by assumption)]) | (rw [if_pos (by omega), iteP_neg (by assumption)])) (by rw [sumI_s _ (by omega), ← hxh]; simp only [raH]; first | (rw [if_neg (by omega)]; omega) | (rw [if_pos (by omega)])) (by first | omega | (have := iWa i (by omega) (by omega); omega))
              · refine ev_aload_n 4 rfl dX10_rate_72 ?_
                refine mg_95 hM dX10_rate_73 ?_
                refine ev_iload 0 rfl dX10_rate_76 ?_
                refine m_ld (k := 35) hM (by decide) dX10_rate_78 (by omega) (by show _ < ((60 : Nat) : Int); omega) ?_
                refine ev_iload_n 5 rfl dX10_rate_79 ?_
                refine ev_icmp_ne (tgt := 157) dX10_rate_80 (by first | assumption | exact hR _ _ | decide | (simp only [InR]; omega)) (by first | assumption | exact hR _ _ | decide | (simp only [InR]; omega)) (by decide) (fun c80 => ?_) (fun c80 => ?_)
                · refine ev_iinc (L' := [(8, vI (i + 1)), (7, vI (xh)), (6, vI (xs)), (5, vI (xm)), (0, .ref (o)), (1, vI (a)), (2, vI (f)), (3, vI (t)), (4, vI (w))]) 0 rfl dX10_rate_157 (by decide) rfl ?_
                  refine ev_goto (tgt := 59) dX10_rate_160 (by decide) ?_
                  exact ihi (i + 1) (by omega) (by omega) xm xs xh (by omega) (by rw [sumI_s _ (by omega), ← hxm]; simp only [raM]; first | (rw [if_neg (by omega)]; omega) | (rw [if_pos (by omega)])) (by rw [sumI_s _ (by omega), ← hxs]; simp only [raS]; first | (rw [if_neg (by omega)]; omega) | (rw [if_pos (by omega), iteP_pos (by assumption)]) | (rw [if_pos (by omega), iteP_neg (by assumption)])) (by rw [sumI_s _ (by omega), ← hxh]; simp only [raH]; first | (rw [if_neg (by omega)]; omega) | (rw [if_pos (by omega)])) (by first | omega | (have := iWa i (by omega) (by omega); omega))
                · refine ev_aload_n 4 rfl dX10_rate_83 ?_
                  refine mg_98 hM dX10_rate_84 ?_
                  refine ev_iload 0 rfl dX10_rate_87 ?_
                  refine m_ld (k := 36) hM (by decide) dX10_rate_89 (by omega) (by show _ < ((60 : Nat) : Int); omega) ?_
                  refine ev_i2l dX10_rate_90 (by first | assumption | exact hR _ _ | decide | (simp only [InR]; omega)) ?_
                  refine ev_iload_n 6 rfl dX10_rate_91 ?_
                  refine ev_i2l dX10_rate_92 (by first | assumption | exact hR _ _ | decide | (simp only [InR]; omega)) ?_
                  refine ev_iload_n 7 rfl dX10_rate_93 ?_
                  refine ev_i2l dX10_rate_94 (by first | assumption | exact hR _ _ | decide | (simp only [InR]; omega)) ?_
                  refine c_X10_143 (m_in E (v := S 36 i) (a := f) (b := t) (by first | assumption | exact hR _ _ | decide | (simp only [InL]; omega)) (by first | assumption | exact hR _ _ | decide | (simp only [InL]; omega)) (by first | assumption | exact hR _ _ | decide | (simp only [InL]; omega))) rfl rfl (Nat.le_of_ble_eq_true rfl) (by decide) dX10_rate_95 (kB (fun b95 => ?_) (fun b95 => ?_))
                  · refine ev_if_eq (tgt := 157) dX10_rate_98 (by decide) (by decide) (fun c => absurd c (by decide)) (fun _ => ?_)
                    refine ev_aload_n 4 rfl dX10_rate_101 ?_
                    refine mg_101 hM dX10_rate_102 ?_
                    refine ev_iload 0 rfl dX10_rate_105 ?_
                    refine m_ld (k := 37) hM (by decide) dX10_rate_107 (by omega) (by show _ < ((60 : Nat) : Int); omega) ?_
                    refine ev_if_le (tgt := 157) dX10_rate_108 (by first | assumption | exact hR _ _ | decide | (simp only [InR]; omega)) (by decide) (fun c108 => ?_) (fun c108 => ?_)
                    · refine ev_iinc (L' := [(8, vI (i + 1)), (7, vI (xh)), (6, vI (xs)), (5, vI (xm)), (0, .ref (o)), (1, vI (a)), (2, vI (f)), (3, vI (t)), (4, vI (w))]) 0 rfl dX10_rate_157 (by decide) rfl ?_
                      refine ev_goto (tgt := 59) dX10_rate_160 (by decide) ?_
                      exact ihi (i + 1) (by omega) (by omega) xm xs xh (by omega) (by rw [sumI_s _ (by omega), ← hxm]; simp only [raM]; first | (rw [if_neg (by omega)]; omega) | (rw [if_pos (by omega)])) (by rw [sumI_s _ (by omega), ← hxs]; simp only [raS]; first | (rw [if_neg (by omega)]; omega) | (rw [if_pos (by omega), iteP_pos (by assumption)]) | (rw [if_pos (by omega), iteP_neg (by assumption)])) (by rw [sumI_s _ (by omega), ← hxh]; simp only [raH]; first | (rw [if_neg (by omega)]; omega) | (rw [if_pos (by omega)])) (by first | omega | (have := iWa i (by omega) (by omega); omega))
                    · refine ev_iinc (L' := [(5, vI (xm + 1)), (8, vI (i)), (7, vI (xh)), (6, vI (xs)), (0, .ref (o)), (1, vI (a)), (2, vI (f)), (3, vI (t)), (4, vI (w))]) 3 rfl dX10_rate_111 (by decide) rfl ?_
                      refine ev_iload 3 rfl dX10_rate_114 ?_
                      refine ev_aload_n 4 rfl dX10_rate_116 ?_
                      refine ev_aload_n 4 rfl dX10_rate_117 ?_
                      refine mg_95 hM dX10_rate_118 ?_
                      refine ev_iload 1 rfl dX10_rate_121 ?_
                      refine m_ld (k := 35) hM (by decide) dX10_rate_123 (by omega) (by show _ < ((60 : Nat) : Int); omega) ?_
                      refine ev_aload_n 4 rfl dX10_rate_124 ?_
                      refine mg_98 hM dX10_rate_125 ?_
                      refine ev_iload 1 rfl dX10_rate_128 ?_
                      refine m_ld (k := 36) hM (by decide) dX10_rate_130 (by omega) (by show _ < ((60 : Nat) : Int); omega) ?_
                      refine c_X10_286 (m_isSeen (a := S 35 i) (n := S 36 i) hM hI (by first | assumption | exact hR _ _ | decide | (simp only [InR]; omega)) (by first | assumption | exact hR _ _ | decide | (simp only [InR]; omega))) hM.1 rfl rfl (Nat.le_of_ble_eq_true rfl) (by decide) dX10_rate_131 (kB (fun b131 => ?_) (fun b131 => ?_))
                      · refine ev_if_eq (tgt := 141) dX10_rate_134 (by decide) (by decide) (fun c => absurd c (by decide)) (fun _ => ?_)
                        refine ev_iconst dX10_rate_137 ?_
                        refine ev_goto (tgt := 142) dX10_rate_138 (by decide) ?_
                        refine ev_iadd dX10_rate_142 ?_
                        refine ev_istore (L' := [(6, vI (xs + 1)), (5, vI (xm + 1)), (8, vI (i)), (7, vI (xh)), (0, .ref (o)), (1, vI (a)), (2, vI (f)), (3, vI (t)), (4, vI (w))]) dX10_rate_143 (by decide) rfl ?_
                        refine ev_iload 3 rfl dX10_rate_145 ?_
                        refine ev_aload_n 4 rfl dX10_rate_147 ?_
                        refine mg_101 hM dX10_rate_148 ?_
                        refine ev_iload 2 rfl dX10_rate_151 ?_
                        refine m_ld (k := 37) hM (by decide) dX10_rate_153 (by omega) (by show _ < ((60 : Nat) : Int); omega) ?_
                        refine ev_iadd dX10_rate_154 ?_
                        refine ev_istore (L' := [(7, vI (xh + (S 37 i))), (6, vI (xs + 1)), (5, vI (xm + 1)), (8, vI (i)), (0, .ref (o)), (1, vI (a)), (2, vI (f)), (3, vI (t)), (4, vI (w))]) dX10_rate_155 (by decide) rfl ?_
                        refine ev_iinc (L' := [(8, vI (i + 1)), (7, vI (xh + (S 37 i))), (6, vI (xs + 1)), (5, vI (xm + 1)), (0, .ref (o)), (1, vI (a)), (2, vI (f)), (3, vI (t)), (4, vI (w))]) 3 rfl dX10_rate_157 (by decide) rfl ?_
                        refine ev_goto (tgt := 59) dX10_rate_160 (by decide) ?_
                        exact ihi (i + 1) (by omega) (by omega) (xm + 1) (xs + 1) (xh + (S 37 i)) (by omega) (by rw [sumI_s _ (by omega), ← hxm]; simp only [raM]; first | (rw [if_neg (by omega)]; omega) | (rw [if_pos (by omega)])) (by rw [sumI_s _ (by omega), ← hxs]; simp only [raS]; first | (rw [if_neg (by omega)]; omega) | (rw [if_pos (by omega), iteP_pos (by assumption)]) | (rw [if_pos (by omega), iteP_neg (by assumption)])) (by rw [sumI_s _ (by omega), ← hxh]; simp only [raH]; first | (rw [if_neg (by omega)]; omega) | (rw [if_pos (by omega)])) (by first | omega | (have := iWa i (by omega) (by omega); omega))
                      · refine ev_if_eq (tgt := 141) dX10_rate_134 (by decide) (by decide) (fun _ => ?_) (fun c => absurd c (by decide))
                        refine ev_iconst dX10_rate_141 ?_
                        refine ev_iadd dX10_rate_142 ?_
                        refine ev_istore (L' := [(6, vI (xs + 0)), (5, vI (xm + 1)), (8, vI (i)), (7, vI (xh)), (0, .ref (o)), (1, vI (a)), (2, vI (f)), (3, vI (t)), (4, vI (w))]) dX10_rate_143 (by decide) rfl ?_
                        refine ev_iload 3 rfl dX10_rate_145 ?_
                        refine ev_aload_n 4 rfl dX10_rate_147 ?_
                        refine mg_101 hM dX10_rate_148 ?_
                        refine ev_iload 2 rfl dX10_rate_151 ?_
                        refine m_ld (k := 37) hM (by decide) dX10_rate_153 (by omega) (by show _ < ((60 : Nat) : Int); omega) ?_
                        refine ev_iadd dX10_rate_154 ?_
                        refine ev_istore (L' := [(7, vI (xh + (S 37 i))), (6, vI (xs + 0)), (5, vI (xm + 1)), (8, vI (i)), (0, .ref (o)), (1, vI (a)), (2, vI (f)), (3, vI (t)), (4, vI (w))]) dX10_rate_155 (by decide) rfl ?_
                        refine ev_iinc (L' := [(8, vI (i + 1)), (7, vI (xh + (S 37 i))), (6, vI (xs + 0)), (5, vI (xm + 1)), (0, .ref (o)), (1, vI (a)), (2, vI (f)), (3, vI (t)), (4, vI (w))]) 3 rfl dX10_rate_157 (by decide) rfl ?_
                        refine ev_goto (tgt := 59) dX10_rate_160 (by decide) ?_
                        exact ihi (i + 1) (by omega) (by omega) (xm + 1) (xs + 0) (xh + (S 37 i)) (by omega) (by rw [sumI_s _ (by omega), ← hxm]; simp only [raM]; first | (rw [if_neg (by omega)]; omega) | (rw [if_pos (by omega)])) (by rw [sumI_s _ (by omega), ← hxs]; simp only [raS]; first | (rw [if_neg (by omega)]; omega) | (rw [if_pos (by omega), iteP_pos (by assumption)]) | (rw [if_pos (by omega), iteP_neg (by assumption)])) (by rw [sumI_s _ (by omega), ← hxh]; simp only [raH]; first | (rw [if_neg (by omega)]; omega) | (rw [if_pos (by omega)])) (by first | omega | (have := iWa i (by omega) (by omega); omega))
                  · refine ev_if_eq (tgt := 157) dX10_rate_98 (by decide) (by decide) (fun _ => ?_) (fun c => absurd c (by decide))
                    refine ev_iinc (L' := [(8, vI (i + 1)), (7, vI (xh)), (6, vI (xs)), (5, vI (xm)), (0, .ref (o)), (1, vI (a)), (2, vI (f)), (3, vI (t)), (4, vI (w))]) 0 rfl dX10_rate_157 (by decide) rfl ?_
                    refine ev_goto (tgt := 59) dX10_rate_160 (by decide) ?_
                    exact ihi (i + 1) (by omega) (by omega) xm xs xh (by omega) (by rw [sumI_s _ (by omega), ← hxm]; simp only [raM]; first | (rw [if_neg (by omega)]; omega) | (rw [if_pos (by omega)])) (by rw [sumI_s _ (by omega), ← hxs]; simp only [raS]; first | (rw [if_neg (by omega)]; omega) | (rw [if_pos (by omega), iteP_pos (by assumption)]) | (rw [if_pos (by omega), iteP_neg (by assumption)])) (by rw [sumI_s _ (by omega), ← hxh]; simp only [raH]; first | (rw [if_neg (by omega)]; omega) | (rw [if_pos (by omega)])) (by first | omega | (have := iWa i (by omega) (by omega); omega))
          · refine ev_if_ne (tgt := 47) dX10_rate_42 (by decide) (by decide) (fun c => absurd c (by decide)) (fun _ => ?_)
            refine ev_iconst dX10_rate_45 ?_
            refine ev_ireturn dX10_rate_46 ?_
            refine ⟨_, rfl, ?_, hM⟩
            simp only [sp_rate]; rw [if_pos (by omega)]
      · refine ev_if_eq (tgt := 45) dX10_rate_24 (by decide) (by decide) (fun _ => ?_) (fun c => absurd c (by decide))
        refine ev_iconst dX10_rate_45 ?_
        refine ev_ireturn dX10_rate_46 ?_
        refine ⟨_, rfl, ?_, hM⟩
        simp only [sp_rate]; rw [if_pos (by omega)]
    · refine ev_if_eq (tgt := 45) dX10_rate_17 (by decide) (by decide) (fun _ => ?_) (fun c => absurd c (by decide))
      refine ev_iconst dX10_rate_45 ?_
      refine ev_ireturn dX10_rate_46 ?_
      refine ⟨_, rfl, ?_, hM⟩
      simp only [sp_rate]; rw [if_pos (by omega)]
  · refine ev_aload_n 0 rfl dX10_rate_5 ?_
    refine ev_iload_n 1 rfl dX10_rate_6 ?_
    refine c_X10_160 (m_isStation hM hI (by first | assumption | exact hR _ _ | decide | (simp only [InR]; omega))) hM.1 rfl rfl (Nat.le_of_ble_eq_true rfl) (by decide) dX10_rate_7 (kB (fun b7 => ?_) (fun b7 => ?_))
    · refine ev_if_eq (tgt := 45) dX10_rate_10 (by decide) (by decide) (fun c => absurd c (by decide)) (fun _ => ?_)
      refine ev_iload_n 2 rfl dX10_rate_13 ?_
      refine c_X10_170 (m_isNight E (by first | assumption | exact hR _ _ | decide | (simp only [InR]; omega))) rfl rfl (Nat.le_of_ble_eq_true rfl) (by decide) dX10_rate_14 (kB (fun b14 => ?_) (fun b14 => ?_))
      · refine ev_if_eq (tgt := 45) dX10_rate_17 (by decide) (by decide) (fun c => absurd c (by decide)) (fun _ => ?_)
        refine ev_iload_n 3 rfl dX10_rate_20 ?_
        refine c_X10_170 (m_isNight E (by first | assumption | exact hR _ _ | decide | (simp only [InR]; omega))) rfl rfl (Nat.le_of_ble_eq_true rfl) (by decide) dX10_rate_21 (kB (fun b21 => ?_) (fun b21 => ?_))
        · refine ev_if_eq (tgt := 45) dX10_rate_24 (by decide) (by decide) (fun c => absurd c (by decide)) (fun _ => ?_)
          refine ev_iload_n 3 rfl dX10_rate_27 ?_
          refine ev_iload_n 2 rfl dX10_rate_28 ?_
          refine ev_icmp_lt (tgt := 45) dX10_rate_29 (by first | assumption | exact hR _ _ | decide | (simp only [InR]; omega)) (by first | assumption | exact hR _ _ | decide | (simp only [InR]; omega)) (by decide) (fun c29 => ?_) (fun c29 => ?_)
          · refine ev_iconst dX10_rate_45 ?_
            refine ev_ireturn dX10_rate_46 ?_
            refine ⟨_, rfl, ?_, hM⟩
            simp only [sp_rate]; rw [if_pos (by omega)]
          · refine ev_iload 4 rfl dX10_rate_32 ?_
            refine ev_i2l dX10_rate_34 (by first | assumption | exact hR _ _ | decide | (simp only [InR]; omega)) ?_
            refine ev_lconst (z := 0) dX10_rate_35 (by decide) ?_
            refine ev_ldc2 (z := 3) dX10_rate_36 k_X10_289 (by decide) ?_
            refine c_X10_143 (m_in E (v := w) (a := 0) (b := 3) (by first | assumption | exact hR _ _ | decide | (simp only [InL]; omega)) (by decide) (by decide)) rfl rfl (Nat.le_of_ble_eq_true rfl) (by decide) dX10_rate_39 (kB (fun b39 => ?_) (fun b39 => ?_))
            · refine ev_if_ne (tgt := 47) dX10_rate_42 (by decide) (by decide) (fun _ => ?_) (fun c => absurd c (by decide))
              refine ev_iconst dX10_rate_47 ?_
              refine ev_istore (L' := [(5, vI (0)), (0, .ref (o)), (1, vI (a)), (2, vI (f)), (3, vI (t)), (4, vI (w))]) dX10_rate_48 (by decide) rfl ?_
              refine ev_iconst dX10_rate_50 ?_
              refine ev_istore (L' := [(6, vI (0)), (5, vI (0)), (0, .ref (o)), (1, vI (a)), (2, vI (f)), (3, vI (t)), (4, vI (w))]) dX10_rate_51 (by decide) rfl ?_
              refine ev_iconst dX10_rate_53 ?_
              refine ev_istore (L' := [(7, vI (0)), (6, vI (0)), (5, vI (0)), (0, .ref (o)), (1, vI (a)), (2, vI (f)), (3, vI (t)), (4, vI (w))]) dX10_rate_54 (by decide) rfl ?_
              refine ev_iconst dX10_rate_56 ?_
              refine ev_istore (L' := [(8, vI (0)), (7, vI (0)), (6, vI (0)), (5, vI (0)), (0, .ref (o)), (1, vI (a)), (2, vI (f)), (3, vI (t)), (4, vI (w))]) dX10_rate_57 (by decide) rfl ?_
              refine up_ind (P := fun i : Int => ∀ (xm : Int) (xs : Int) (xh : Int), 0 ≤ i → xm = sumI (raM S a f t) i → xs = sumI (raS S a f t) i → xh = sumI (raH S a f t) i → ((0 ≤ xm ∧ xm ≤ i) ∧ (0 ≤ xs ∧ xs ≤ i) ∧ 0 ≤ xh ∧ xh ≤ 24 * i) → Ev E RX10 cX10_rate 9 (some .int) "rate" (qI (fun z h' => z = sp_rate S a f t w ∧ MR E o ad (S) h')) 2 0 0 59 [(8, vI (i)), (7, vI (xh)), (6, vI (xs)), (5, vI (xm)), (0, .ref (o)), (1, vI (a)), (2, vI (f)), (3, vI (t)), (4, vI (w))] [] h) (N := S 34 0) ?_ 0 (by omega) 0 0 0 (by omega) (rfl) (rfl) (rfl) (by omega)
              intro i ihi hiN xm xs xh pi hxm hxs hxh hxb
              refine ev_iload 0 rfl dX10_rate_59 ?_
              refine ev_aload_n 4 rfl dX10_rate_61 ?_
              refine mg_278 hM dX10_rate_62 ?_
              refine ev_icmp_ge (tgt := 163) dX10_rate_65 (by first | assumption | exact hR _ _ | decide | (simp only [InR]; omega)) (by first | assumption | exact hR _ _ | decide | (simp only [InR]; omega)) (by decide) (fun c65 => ?_) (fun c65 => ?_)
              · refine ev_iload 8 rfl dX10_rate_163 ?_
                refine ev_if_ne (tgt := 173) dX10_rate_165 (by first | assumption | exact hR _ _ | decide | (simp only [InR]; omega)) (by decide) (fun c165 => ?_) (fun c165 => ?_)
                · refine ev_iload 8 rfl dX10_rate_173 ?_
                  refine ev_iconst dX10_rate_175 ?_
                  refine ev_icmp_ne (tgt := 184) dX10_rate_176 (by first | assumption | exact hR _ _ | decide | (simp only [InR]; omega)) (by decide) (by decide) (fun c176 => ?_) (fun c176 => ?_)
                  · refine ev_iload 8 rfl dX10_rate_184 ?_
                    refine ev_iconst dX10_rate_186 ?_
                    refine ev_icmp_ne (tgt := 195) dX10_rate_187 (by first | assumption | exact hR _ _ | decide | (simp only [InR]; omega)) (by decide) (by decide) (fun c187 => ?_) (fun c187 => ?_)
                    · refine ev_iload 1 rfl dX10_rate_195 ?_
                      refine ev_if_ne (tgt := 204) dX10_rate_197 (by first | assumption | exact hR _ _ | decide | (simp only [InR]; omega)) (by decide) (fun c197 => ?_) (fun c197 => ?_)
                      · refine ev_sipush dX10_rate_204 (by decide) ?_
                        refine ev_iload 2 rfl dX10_rate_207 ?_
                        refine ev_imul dX10_rate_209 ?_
                        refine ev_iload 1 rfl dX10_rate_210 ?_
                        have td := tdiv_b (a := 1000 * xs) (b := xh) (A := 60000) (by omega)
                        refine ev_idiv dX10_rate_212 (by first | assumption | exact hR _ _ | decide | (simp only [InR]; omega)) (by first | assumption | exact hR _ _ | decide | (simp only [InR]; omega)) (by omega) (by first | assumption | exact hR _ _ | decide | (simp only [InR]; omega)) ?_
                        refine ev_ireturn dX10_rate_213 ?_
                        refine ⟨_, rfl, ?_, hM⟩
                        have e0 : i = S 34 0 := by omega
                        rw [e0] at hxm hxs hxh
                        simp only [sp_rate]; rw [if_neg (by omega), ← hxm, ← hxs, ← hxh]; (repeat' split) <;> first | rfl | omega
                      · refine ev_iconst dX10_rate_200 ?_
                        refine ev_goto (tgt := 213) dX10_rate_201 (by decide) ?_
                        refine ev_ireturn dX10_rate_213 ?_
                        refine ⟨_, rfl, ?_, hM⟩
                        have e0 : i = S 34 0 := by omega
                        rw [e0] at hxm hxs hxh
                        simp only [sp_rate]; rw [if_neg (by omega), ← hxm, ← hxs, ← hxh]; (repeat' split) <;> first | rfl | omega
                    · refine ev_iload 1 rfl dX10_rate_190 ?_
                      refine ev_goto (tgt := 213) dX10_rate_192 (by decide) ?_
                      refine ev_ireturn dX10_rate_213 ?_
                      refine ⟨_, rfl, ?_, hM⟩
                      have e0 : i = S 34 0 := by omega
                      rw [e0] at hxm hxs hxh
                      simp only [sp_rate]; rw [if_neg (by omega), ← hxm, ← hxs, ← hxh]; (repeat' split) <;> first | rfl | omega
                  · refine ev_iload 2 rfl dX10_rate_179 ?_
                    refine ev_goto (tgt := 213) dX10_rate_181 (by decide) ?_
                    refine ev_ireturn dX10_rate_213 ?_
                    refine ⟨_, rfl, ?_, hM⟩
                    have e0 : i = S 34 0 := by omega
                    rw [e0] at hxm hxs hxh
                    simp only [sp_rate]; rw [if_neg (by omega), ← hxm, ← hxs, ← hxh]; (repeat' split) <;> first | rfl | omega
                · refine ev_iload 3 rfl dX10_rate_168 ?_
                  refine ev_goto (tgt := 213) dX10_rate_170 (by decide) ?_
                  refine ev_ireturn dX10_rate_213 ?_
                  refine ⟨_, rfl, ?_, hM⟩
                  have e0 : i = S 34 0 := by omega
                  rw [e0] at hxm hxs hxh
                  simp only [sp_rate]; rw [if_neg (by omega), ← hxm, ← hxs, ← hxh]; (repeat' split) <;> first | rfl | omega
              · have w1 := iWa i (by omega) (by omega)
                refine ev_iload_n 5 rfl dX10_rate_68 ?_
                refine ev_if_lt (tgt := 83) dX10_rate_69 (by first | assumption | exact hR _ _ | decide | (simp only [InR]; omega)) (by decide) (fun c69 => ?_) (fun c69 => ?_)
                · refine ev_aload_n 4 rfl dX10_rate_83 ?_
                  refine mg_98 hM dX10_rate_84 ?_
                  refine ev_iload 0 rfl dX10_rate_87 ?_
                  refine m_ld (k := 36) hM (by decide) dX10_rate_89 (by omega) (by show _ < ((60 : Nat) : Int); omega) ?_
                  refine ev_i2l dX10_rate_90 (by first | assumption | exact hR _ _ | decide | (simp only [InR]; omega)) ?_
                  refine ev_iload_n 6 rfl dX10_rate_91 ?_
                  refine ev_i2l dX10_rate_92 (by first | assumption | exact hR _ _ | decide | (simp only [InR]; omega)) ?_
                  refine ev_iload_n 7 rfl dX10_rate_93 ?_
                  refine ev_i2l dX10_rate_94 (by first | assumption | exact hR _ _ | decide | (simp only [InR]; omega)) ?_
                  refine c_X10_143 (m_in E (v := S 36 i) (a := f) (b := t) (by first | assumption | exact hR _ _ | decide | (simp only [InL]; omega)) (by first | assumption | exact hR _ _ | decide | (simp only [InL]; omega)) (by first | assumption | exact hR _ _ | decide | (simp only [InL]; omega))) rfl rfl (Nat.le_of_ble_eq_true rfl) (by decide) dX10_rate_95 (kB (fun b95 => ?_) (fun b95 => ?_))
                  · refine ev_if_eq (tgt := 157) dX10_rate_98 (by decide) (by decide) (fun c => absurd c (by decide)) (fun _ => ?_)
                    refine ev_aload_n 4 rfl dX10_rate_101 ?_
                    refine mg_101 hM dX10_rate_102 ?_
                    refine ev_iload 0 rfl dX10_rate_105 ?_
                    refine m_ld (k := 37) hM (by decide) dX10_rate_107 (by omega) (by show _ < ((60 : Nat) : Int); omega) ?_
                    refine ev_if_le (tgt := 157) dX10_rate_108 (by first | assumption | exact hR _ _ | decide | (simp only [InR]; omega)) (by decide) (fun c108 => ?_) (fun c108 => ?_)
                    · refine ev_iinc (L' := [(8, vI (i + 1)), (7, vI (xh)), (6, vI (xs)), (5, vI (xm)), (0, .ref (o)), (1, vI (a)), (2, vI (f)), (3, vI (t)), (4, vI (w))]) 0 rfl dX10_rate_157 (by decide) rfl ?_
                      refine ev_goto (tgt := 59) dX10_rate_160 (by decide) ?_
                      exact ihi (i + 1) (by omega) (by omega) xm xs xh (by omega) (by rw [sumI_s _ (by omega), ← hxm]; simp only [raM]; first | (rw [if_neg (by omega)]; omega) | (rw [if_pos (by omega)])) (by rw [sumI_s _ (by omega), ← hxs]; simp only [raS]; first | (rw [if_neg (by omega)]; omega) | (rw [if_pos (by omega), iteP_pos (by assumption)]) | (rw [if_pos (by omega), iteP_neg (by assumption)])) (by rw [sumI_s _ (by omega), ← hxh]; simp only [raH]; first | (rw [if_neg (by omega)]; omega) | (rw [if_pos (by omega)])) (by first | omega | (have := iWa i (by omega) (by omega); omega))
                    · refine ev_iinc (L' := [(5, vI (xm + 1)), (8, vI (i)), (7, vI (xh)), (6, vI (xs)), (0, .ref (o)), (1, vI (a)), (2, vI (f)), (3, vI (t)), (4, vI (w))]) 3 rfl dX10_rate_111 (by decide) rfl ?_
                      refine ev_iload 3 rfl dX10_rate_114 ?_
                      refine ev_aload_n 4 rfl dX10_rate_116 ?_
                      refine ev_aload_n 4 rfl dX10_rate_117 ?_
                      refine mg_95 hM dX10_rate_118 ?_
                      refine ev_iload 1 rfl dX10_rate_121 ?_
                      refine m_ld (k := 35) hM (by decide) dX10_rate_123 (by omega) (by show _ < ((60 : Nat) : Int); omega) ?_
                      refine ev_aload_n 4 rfl dX10_rate_124 ?_
                      refine mg_98 hM dX10_rate_125 ?_
                      refine ev_iload 1 rfl dX10_rate_128 ?_
                      refine m_ld (k := 36) hM (by decide) dX10_rate_130 (by omega) (by show _ < ((60 : Nat) : Int); omega) ?_
                      refine c_X10_286 (m_isSeen (a := S 35 i) (n := S 36 i) hM hI (by first | assumption | exact hR _ _ | decide | (simp only [InR]; omega)) (by first | assumption | exact hR _ _ | decide | (simp only [InR]; omega))) hM.1 rfl rfl (Nat.le_of_ble_eq_true rfl) (by decide) dX10_rate_131 (kB (fun b131 => ?_) (fun b131 => ?_))
                      · refine ev_if_eq (tgt := 141) dX10_rate_134 (by decide) (by decide) (fun c => absurd c (by decide)) (fun _ => ?_)
                        refine ev_iconst dX10_rate_137 ?_
                        refine ev_goto (tgt := 142) dX10_rate_138 (by decide) ?_
                        refine ev_iadd dX10_rate_142 ?_
                        refine ev_istore (L' := [(6, vI (xs + 1)), (5, vI (xm + 1)), (8, vI (i)), (7, vI (xh)), (0, .ref (o)), (1, vI (a)), (2, vI (f)), (3, vI (t)), (4, vI (w))]) dX10_rate_143 (by decide) rfl ?_
                        refine ev_iload 3 rfl dX10_rate_145 ?_
                        refine ev_aload_n 4 rfl dX10_rate_147 ?_
                        refine mg_101 hM dX10_rate_148 ?_
                        refine ev_iload 2 rfl dX10_rate_151 ?_
                        refine m_ld (k := 37) hM (by decide) dX10_rate_153 (by omega) (by show _ < ((60 : Nat) : Int); omega) ?_
                        refine ev_iadd dX10_rate_154 ?_
                        refine ev_istore (L' := [(7, vI (xh + (S 37 i))), (6, vI (xs + 1)), (5, vI (xm + 1)), (8, vI (i)), (0, .ref (o)), (1, vI (a)), (2, vI (f)), (3, vI (t)), (4, vI (w))]) dX10_rate_155 (by decide) rfl ?_
                        refine ev_iinc (L' := [(8, vI (i + 1)), (7, vI (xh + (S 37 i))), (6, vI (xs + 1)), (5, vI (xm + 1)), (0, .ref (o)), (1, vI (a)), (2, vI (f)), (3, vI (t)), (4, vI (w))]) 3 rfl dX10_rate_157 (by decide) rfl ?_
                        refine ev_goto (tgt := 59) dX10_rate_160 (by decide) ?_
                        exact ihi (i + 1) (by omega) (by omega) (xm + 1) (xs + 1) (xh + (S 37 i)) (by omega) (by rw [sumI_s _ (by omega), ← hxm]; simp only [raM]; first | (rw [if_neg (by omega)]; omega) | (rw [if_pos (by omega)])) (by rw [sumI_s _ (by omega), ← hxs]; simp only [raS]; first | (rw [if_neg (by omega)]; omega) | (rw [if_pos (by omega), iteP_pos (by assumption)]) | (rw [if_pos (by omega), iteP_neg (by assumption)])) (by rw [sumI_s _ (by omega), ← hxh]; simp only [raH]; first | (rw [if_neg (by omega)]; omega) | (rw [if_pos (by omega)])) (by first | omega | (have := iWa i (by omega) (by omega); omega))
                      · refine ev_if_eq (tgt := 141) dX10_rate_134 (by decide) (by decide) (fun _ => ?_) (fun c => absurd c (by decide))
                        refine ev_iconst dX10_rate_141 ?_
                        refine ev_iadd dX10_rate_142 ?_
                        refine ev_istore (L' := [(6, vI (xs + 0)), (5, vI (xm + 1)), (8, vI (i)), (7, vI (xh)), (0, .ref (o)), (1, vI (a)), (2, vI (f)), (3, vI (t)), (4, vI (w))]) dX10_rate_143 (by decide) rfl ?_
                        refine ev_iload 3 rfl dX10_rate_145 ?_
                        refine ev_aload_n 4 rfl dX10_rate_147 ?_
                        refine mg_101 hM dX10_rate_148 ?_
                        refine ev_iload 2 rfl dX10_rate_151 ?_
                        refine m_ld (k := 37) hM (by decide) dX10_rate_153 (by omega) (by show _ < ((60 : Nat) : Int); omega) ?_
                        refine ev_iadd dX10_rate_154 ?_
                        refine ev_istore (L' := [(7, vI (xh + (S 37 i))), (6, vI (xs + 0)), (5, vI (xm + 1)), (8, vI (i)), (0, .ref (o)), (1, vI (a)), (2, vI (f)), (3, vI (t)), (4, vI (w))]) dX10_rate_155 (by decide) rfl ?_
                        refine ev_iinc (L' := [(8, vI (i + 1)), (7, vI (xh + (S 37 i))), (6, vI (xs + 0)), (5, vI (xm + 1)), (0, .ref (o)), (1, vI (a)), (2, vI (f)), (3, vI (t)), (4, vI (w))]) 3 rfl dX10_rate_157 (by decide) rfl ?_
                        refine ev_goto (tgt := 59) dX10_rate_160 (by decide) ?_
                        exact ihi (i + 1) (by omega) (by omega) (xm + 1) (xs + 0) (xh + (S 37 i)) (by omega) (by rw [sumI_s _ (by omega), ← hxm]; simp only [raM]; first | (rw [if_neg (by omega)]; omega) | (rw [if_pos (by omega)])) (by rw [sumI_s _ (by omega), ← hxs]; simp only [raS]; first | (rw [if_neg (by omega)]; omega) | (rw [if_pos (by omega), iteP_pos (by assumption)]) | (rw [if_pos (by omega), iteP_neg (by assumption)])) (by rw [sumI_s _ (by omega), ← hxh]; simp only [raH]; first | (rw [if_neg (by omega)]; omega) | (rw [if_pos (by omega)])) (by first | omega | (have := iWa i (by omega) (by omega); omega))
                  · refine ev_if_eq (tgt := 157) dX10_rate_98 (by decide) (by decide) (fun _ => ?_) (fun c => absurd c (by decide))
                    refine ev_iinc (L' := [(8, vI (i + 1)), (7, vI (xh)), (6, vI (xs)), (5, vI (xm)), (0, .ref (o)), (1, vI (a)), (2, vI (f)), (3, vI (t)), (4, vI (w))]) 0 rfl dX10_rate_157 (by decide) rfl ?_
                    refine ev_goto (tgt := 59) dX10_rate_160 (by decide) ?_
                    exact ihi (i + 1) (by omega) (by omega) xm xs xh (by omega) (by rw [sumI_s _ (by omega), ← hxm]; simp only [raM]; first | (rw [if_neg (by omega)]; omega) | (rw [if_pos (by omega)])) (by rw [sumI_s _ (by omega), ← hxs]; simp only [raS]; first | (rw [if_neg (by omega)]; omega) | (rw [if_pos (by omega), iteP_pos (by assumption)]) | (rw [if_pos (by omega), iteP_neg (by assumption)])) (by rw [sumI_s _ (by omega), ← hxh]; simp only [raH]; first | (rw [if_neg (by omega)]; omega) | (rw [if_pos (by omega)])) (by first | omega | (have := iWa i (by omega) (by omega); omega))
                · refine ev_aload_n 4 rfl dX10_rate_72 ?_
                  refine mg_95 hM dX10_rate_73 ?_
                  refine ev_iload 0 rfl dX10_rate_76 ?_
                  refine m_ld (k := 35) hM (by decide) dX10_rate_78 (by omega) (by show _ < ((60 : Nat) : Int); omega) ?_
                  refine ev_iload_n 5 rfl dX10_rate_79 ?_
                  refine ev_icmp_ne (tgt := 157) dX10_rate_80 (by first | assumption | exact hR _ _ | decide | (simp only [InR]; omega)) (by first | assumption | exact hR _ _ | decide | (simp only [InR]; omega)) (by decide) (fun c80 => ?_) (fun c80 => ?_)
                  · refine ev_iinc (L' := [(8, vI (i + 1)), (7, vI (xh)), (6, vI (xs)), (5, vI (xm)), (0, .ref (o)), (1, vI (a)), (2, vI (f)), (3, vI (t)), (4, vI (w))]) 0 rfl dX10_rate_157 (by decide) rfl ?_
                    refine ev_goto (tgt := 59) dX10_rate_160 (by decide) ?_
                    exact ihi (i + 1) (by omega) (by omega) xm xs xh (by omega) (by rw [sumI_s _ (by omega), ← hxm]; simp only [raM]; first | (rw [if_neg (by omega)]; omega) | (rw [if_pos (by omega)])) (by rw [sumI_s _ (by omega), ← hxs]; simp only [raS]; first | (rw [if_neg (by omega)]; omega) | (rw [if_pos (by omega), iteP_pos (by assumption)]) | (rw [if_pos (by omega), iteP_neg (by assumption)])) (by rw [sumI_s _ (by omega), ← hxh]; simp only [raH]; first | (rw [if_neg (by omega)]; omega) | (rw [if_pos (by omega)])) (by first | omega | (have := iWa i (by omega) (by omega); omega))
                  · refine ev_aload_n 4 rfl dX10_rate_83 ?_
                    refine mg_98 hM dX10_rate_84 ?_
                    refine ev_iload 0 rfl dX10_rate_87 ?_
                    refine m_ld (k := 36) hM (by decide) dX10_rate_89 (by omega) (by show _ < ((60 : Nat) : Int); omega) ?_
                    refine ev_i2l dX10_rate_90 (by first | assumption | exact hR _ _ | decide | (simp only [InR]; omega)) ?_
                    refine ev_iload_n 6 rfl dX10_rate_91 ?_
                    refine ev_i2l dX10_rate_92 (by first | assumption | exact hR _ _ | decide | (simp only [InR]; omega)) ?_
                    refine ev_iload_n 7 rfl dX10_rate_93 ?_
                    refine ev_i2l dX10_rate_94 (by first | assumption | exact hR _ _ | decide | (simp only [InR]; omega)) ?_
                    refine c_X10_143 (m_in E (v := S 36 i) (a := f) (b := t) (by first | assumption | exact hR _ _ | decide | (simp only [InL]; omega)) (by first | assumption | exact hR _ _ | decide | (simp only [InL]; omega)) (by first | assumption | exact hR _ _ | decide | (simp only [InL]; omega))) rfl rfl (Nat.le_of_ble_eq_true rfl) (by decide) dX10_rate_95 (kB (fun b95 => ?_) (fun b95 => ?_))
                    · refine ev_if_eq (tgt := 157) dX10_rate_98 (by decide) (by decide) (fun c => absurd c (by decide)) (fun _ => ?_)
                      refine ev_aload_n 4 rfl dX10_rate_101 ?_
                      refine mg_101 hM dX10_rate_102 ?_
                      refine ev_iload 0 rfl dX10_rate_105 ?_
                      refine m_ld (k := 37) hM (by decide) dX10_rate_107 (by omega) (by show _ < ((60 : Nat) : Int); omega) ?_
                      refine ev_if_le (tgt := 157) dX10_rate_108 (by first | assumption | exact hR _ _ | decide | (simp only [InR]; omega)) (by decide) (fun c108 => ?_) (fun c108 => ?_)
                      · refine ev_iinc (L' := [(8, vI (i + 1)), (7, vI (xh)), (6, vI (xs)), (5, vI (xm)), (0, .ref (o)), (1, vI (a)), (2, vI (f)), (3, vI (t)), (4, vI (w))]) 0 rfl dX10_rate_157 (by decide) rfl ?_
                        refine ev_goto (tgt := 59) dX10_rate_160 (by decide) ?_
                        exact ihi (i + 1) (by omega) (by omega) xm xs xh (by omega) (by rw [sumI_s _ (by omega), ← hxm]; simp only [raM]; first | (rw [if_neg (by omega)]; omega) | (rw [if_pos (by omega)])) (by rw [sumI_s _ (by omega), ← hxs]; simp only [raS]; first | (rw [if_neg (by omega)]; omega) | (rw [if_pos (by omega), iteP_pos (by assumption)]) | (rw [if_pos (by omega), iteP_neg (by assumption)])) (by rw [sumI_s _ (by omega), ← hxh]; simp only [raH]; first | (rw [if_neg (by omega)]; omega) | (rw [if_pos (by omega)])) (by first | omega | (have := iWa i (by omega) (by omega); omega))
                      · refine ev_iinc (L' := [(5, vI (xm + 1)), (8, vI (i)), (7, vI (xh)), (6, vI (xs)), (0, .ref (o)), (1, vI (a)), (2, vI (f)), (3, vI (t)), (4, vI (w))]) 3 rfl dX10_rate_111 (by decide) rfl ?_
                        refine ev_iload 3 rfl dX10_rate_114 ?_
                        refine ev_aload_n 4 rfl dX10_rate_116 ?_
                        refine ev_aload_n 4 rfl dX10_rate_117 ?_
                        refine mg_95 hM dX10_rate_118 ?_
                        refine ev_iload 1 rfl dX10_rate_121 ?_
                        refine m_ld (k := 35) hM (by decide) dX10_rate_123 (by omega) (by show _ < ((60 : Nat) : Int); omega) ?_
                        refine ev_aload_n 4 rfl dX10_rate_124 ?_
                        refine mg_98 hM dX10_rate_125 ?_
                        refine ev_iload 1 rfl dX10_rate_128 ?_
                        refine m_ld (k := 36) hM (by decide) dX10_rate_130 (by omega) (by show _ < ((60 : Nat) : Int); omega) ?_
                        refine c_X10_286 (m_isSeen (a := S 35 i) (n := S 36 i) hM hI (by first | assumption | exact hR _ _ | decide | (simp only [InR]; omega)) (by first | assumption | exact hR _ _ | decide | (simp only [InR]; omega))) hM.1 rfl rfl (Nat.le_of_ble_eq_true rfl) (by decide) dX10_rate_131 (kB (fun b131 => ?_) (fun b131 => ?_))
                        · refine ev_if_eq (tgt := 141) dX10_rate_134 (by decide) (by decide) (fun c => absurd c (by decide)) (fun _ => ?_)
                          refine ev_iconst dX10_rate_137 ?_
                          refine ev_goto (tgt := 142) dX10_rate_138 (by decide) ?_
                          refine ev_iadd dX10_rate_142 ?_
                          refine ev_istore (L' := [(6, vI (xs + 1)), (5, vI (xm + 1)), (8, vI (i)), (7, vI (xh)), (0, .ref (o)), (1, vI (a)), (2, vI (f)), (3, vI (t)), (4, vI (w))]) dX10_rate_143 (by decide) rfl ?_
                          refine ev_iload 3 rfl dX10_rate_145 ?_
                          refine ev_aload_n 4 rfl dX10_rate_147 ?_
                          refine mg_101 hM dX10_rate_148 ?_
                          refine ev_iload 2 rfl dX10_rate_151 ?_
                          refine m_ld (k := 37) hM (by decide) dX10_rate_153 (by omega) (by show _ < ((60 : Nat) : Int); omega) ?_
                          refine ev_iadd dX10_rate_154 ?_
                          refine ev_istore (L' := [(7, vI (xh + (S 37 i))), (6, vI (xs + 1)), (5, vI (xm + 1)), (8, vI (i)), (0, .ref (o)), (1, vI (a)), (2, vI (f)), (3, vI (t)), (4, vI (w))]) dX10_rate_155 (by decide) rfl ?_
                          refine ev_iinc (L' := [(8, vI (i + 1)), (7, vI (xh + (S 37 i))), (6, vI (xs + 1)), (5, vI (xm + 1)), (0, .ref (o)), (1, vI (a)), (2, vI (f)), (3, vI (t)), (4, vI (w))]) 3 rfl dX10_rate_157 (by decide) rfl ?_
                          refine ev_goto (tgt := 59) dX10_rate_160 (by decide) ?_
                          exact ihi (i + 1) (by omega) (by omega) (xm + 1) (xs + 1) (xh + (S 37 i)) (by omega) (by rw [sumI_s _ (by omega), ← hxm]; simp only [raM]; first | (rw [if_neg (by omega)]; omega) | (rw [if_pos (by omega)])) (by rw [sumI_s _ (by omega), ← hxs]; simp only [raS]; first | (rw [if_neg (by omega)]; omega) | (rw [if_pos (by omega), iteP_pos (by assumption)]) | (rw [if_pos (by omega), iteP_neg (by assumption)])) (by rw [sumI_s _ (by omega), ← hxh]; simp only [raH]; first | (rw [if_neg (by omega)]; omega) | (rw [if_pos (by omega)])) (by first | omega | (have := iWa i (by omega) (by omega); omega))
                        · refine ev_if_eq (tgt := 141) dX10_rate_134 (by decide) (by decide) (fun _ => ?_) (fun c => absurd c (by decide))
                          refine ev_iconst dX10_rate_141 ?_
                          refine ev_iadd dX10_rate_142 ?_
                          refine ev_istore (L' := [(6, vI (xs + 0)), (5, vI (xm + 1)), (8, vI (i)), (7, vI (xh)), (0, .ref (o)), (1, vI (a)), (2, vI (f)), (3, vI (t)), (4, vI (w))]) dX10_rate_143 (by decide) rfl ?_
                          refine ev_iload 3 rfl dX10_rate_145 ?_
                          refine ev_aload_n 4 rfl dX10_rate_147 ?_
                          refine mg_101 hM dX10_rate_148 ?_
                          refine ev_iload 2 rfl dX10_rate_151 ?_
                          refine m_ld (k := 37) hM (by decide) dX10_rate_153 (by omega) (by show _ < ((60 : Nat) : Int); omega) ?_
                          refine ev_iadd dX10_rate_154 ?_
                          refine ev_istore (L' := [(7, vI (xh + (S 37 i))), (6, vI (xs + 0)), (5, vI (xm + 1)), (8, vI (i)), (0, .ref (o)), (1, vI (a)), (2, vI (f)), (3, vI (t)), (4, vI (w))]) dX10_rate_155 (by decide) rfl ?_
                          refine ev_iinc (L' := [(8, vI (i + 1)), (7, vI (xh + (S 37 i))), (6, vI (xs + 0)), (5, vI (xm + 1)), (0, .ref (o)), (1, vI (a)), (2, vI (f)), (3, vI (t)), (4, vI (w))]) 3 rfl dX10_rate_157 (by decide) rfl ?_
                          refine ev_goto (tgt := 59) dX10_rate_160 (by decide) ?_
                          exact ihi (i + 1) (by omega) (by omega) (xm + 1) (xs + 0) (xh + (S 37 i)) (by omega) (by rw [sumI_s _ (by omega), ← hxm]; simp only [raM]; first | (rw [if_neg (by omega)]; omega) | (rw [if_pos (by omega)])) (by rw [sumI_s _ (by omega), ← hxs]; simp only [raS]; first | (rw [if_neg (by omega)]; omega) | (rw [if_pos (by omega), iteP_pos (by assumption)]) | (rw [if_pos (by omega), iteP_neg (by assumption)])) (by rw [sumI_s _ (by omega), ← hxh]; simp only [raH]; first | (rw [if_neg (by omega)]; omega) | (rw [if_pos (by omega)])) (by first | omega | (have := iWa i (by omega) (by omega); omega))
                    · refine ev_if_eq (tgt := 157) dX10_rate_98 (by decide) (by decide) (fun _ => ?_) (fun c => absurd c (by decide))
                      refine ev_iinc (L' := [(8, vI (i + 1)), (7, vI (xh)), (6, vI (xs)), (5, vI (xm)), (0, .ref (o)), (1, vI (a)), (2, vI (f)), (3, vI (t)), (4, vI (w))]) 0 rfl dX10_rate_157 (by decide) rfl ?_
                      refine ev_goto (tgt := 59) dX10_rate_160 (by decide) ?_
                      exact ihi (i + 1) (by omega) (by omega) xm xs xh (by omega) (by rw [sumI_s _ (by omega), ← hxm]; simp only [raM]; first | (rw [if_neg (by omega)]; omega) | (rw [if_pos (by omega)])) (by rw [sumI_s _ (by omega), ← hxs]; simp only [raS]; first | (rw [if_neg (by omega)]; omega) | (rw [if_pos (by omega), iteP_pos (by assumption)]) | (rw [if_pos (by omega), iteP_neg (by assumption)])) (by rw [sumI_s _ (by omega), ← hxh]; simp only [raH]; first | (rw [if_neg (by omega)]; omega) | (rw [if_pos (by omega)])) (by first | omega | (have := iWa i (by omega) (by omega); omega))
            · refine ev_if_ne (tgt := 47) dX10_rate_42 (by decide) (by decide) (fun c => absurd c (by decide)) (fun _ => ?_)
              refine ev_iconst dX10_rate_45 ?_
              refine ev_ireturn dX10_rate_46 ?_
              refine ⟨_, rfl, ?_, hM⟩
              simp only [sp_rate]; rw [if_pos (by omega)]
        · refine ev_if_eq (tgt := 45) dX10_rate_24 (by decide) (by decide) (fun _ => ?_) (fun c => absurd c (by decide))
          refine ev_iconst dX10_rate_45 ?_
          refine ev_ireturn dX10_rate_46 ?_
          refine ⟨_, rfl, ?_, hM⟩
          simp only [sp_rate]; rw [if_pos (by omega)]
      · refine ev_if_eq (tgt := 45) dX10_rate_17 (by decide) (by decide) (fun _ => ?_) (fun c => absurd c (by decide))
        refine ev_iconst dX10_rate_45 ?_
        refine ev_ireturn dX10_rate_46 ?_
        refine ⟨_, rfl, ?_, hM⟩
        simp only [sp_rate]; rw [if_pos (by omega)]
    · refine ev_if_eq (tgt := 45) dX10_rate_10 (by decide) (by decide) (fun _ => ?_) (fun c => absurd c (by decide))
      refine ev_iconst dX10_rate_45 ?_
      refine ev_ireturn dX10_rate_46 ?_
      refine ⟨_, rfl, ?_, hM⟩
      simp only [sp_rate]; rw [if_pos (by omega)]
