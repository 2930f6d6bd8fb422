set_option maxHeartbeats 4000000 in
set_option maxRecDepth 100000 in
theorem m_share {E : EV} {h : AH} {o : Nat} {ad : Nat → Nat} {S : MS} {a b : Int} (hM : MR E o ad S h) (hI : Inv S) (g1 : InR a) (g2 : InR b) : CM E yX10_share cX10_share 4 (some .int) 2 0 0 [.ref (o), vI (a), vI (b)] h (qI (fun z h' => z = sp_share S a b ∧ MR E o ad (nx_share S a b) h')) := by
  have hR := hM.2.2.2.2
  have hJ := hI
  obtain ⟨i1, i2, i3, i4, i5, i6, iSt, iSi, iWa, iSh, iLa, iS0, iS1, iZe⟩ := hJ
  refine CM.of (by decide) (Nat.le_of_ble_eq_true rfl) (L := [(0, .ref (o)), (1, vI (a)), (2, vI (b))]) rfl ?_
  refine ev_aload_n 0 rfl dX10_share_0 ?_
  refine ev_iload_n 1 rfl dX10_share_1 ?_
  refine c_X10_194 (m_isSighting hM hI (by first | assumption | exact hR _ _ | decide | (simp only [InR]; omega))) hM.1 rfl rfl (Nat.le_of_ble_eq_true rfl) (by decide) dX10_share_2 (kB (fun b2 => ?_) (fun b2 => ?_))
  · refine ev_if_eq (tgt := 31) dX10_share_5 (by decide) (by decide) (fun c => absurd c (by decide)) (fun _ => ?_)
    refine ev_aload_n 0 rfl dX10_share_8 ?_
    refine ev_iload_n 2 rfl dX10_share_9 ?_
    refine c_X10_194 (m_isSighting hM hI (by first | assumption | exact hR _ _ | decide | (simp only [InR]; omega))) hM.1 rfl rfl (Nat.le_of_ble_eq_true rfl) (by decide) dX10_share_10 (kB (fun b10 => ?_) (fun b10 => ?_))
    · refine ev_if_eq (tgt := 31) dX10_share_13 (by decide) (by decide) (fun c => absurd c (by decide)) (fun _ => ?_)
      refine ev_aload_n 0 rfl dX10_share_16 ?_
      refine mg_31 hM dX10_share_17 ?_
      refine ev_iload_n 1 rfl dX10_share_20 ?_
      refine m_ld (k := 9) hM (by decide) dX10_share_21 (by omega) (by show _ < ((40 : Nat) : Int); omega) ?_
      refine ev_aload_n 0 rfl dX10_share_22 ?_
      refine mg_31 hM dX10_share_23 ?_
      refine ev_iload_n 2 rfl dX10_share_26 ?_
      refine m_ld (k := 9) hM (by decide) dX10_share_27 (by omega) (by show _ < ((40 : Nat) : Int); omega) ?_
      refine ev_icmp_ne (tgt := 33) dX10_share_28 (by first | assumption | exact hR _ _ | decide | (simp only [InR]; omega)) (by first | assumption | exact hR _ _ | decide | (simp only [InR]; omega)) (by decide) (fun c28 => ?_) (fun c28 => ?_)
      · refine ev_iconst dX10_share_33 ?_
        refine ev_istore_n (L' := [(3, vI (0)), (0, .ref (o)), (1, vI (a)), (2, vI (b))]) dX10_share_34 (by decide) rfl ?_
        refine up_ind (P := fun i : Int => 0 ≤ i → scanI (ShB S a b) 0 (S 40 0) = scanI (ShB S a b) i (S 40 0) → Ev E RX10 cX10_share 4 (some .int) "share" (qI (fun z h' => z = sp_share S a b ∧ MR E o ad (nx_share S a b) h')) 2 0 0 35 [(3, vI (i)), (0, .ref (o)), (1, vI (a)), (2, vI (b))] [] h) (N := S 40 0) ?_ 0 (by omega)  (by omega) (rfl)
        intro i ihi hiN pi hs
        refine ev_iload_n 0 rfl dX10_share_35 ?_
        refine ev_aload_n 1 rfl dX10_share_36 ?_
        refine mg_301 hM dX10_share_37 ?_
        refine ev_icmp_ge (tgt := 92) dX10_share_40 (by first | assumption | exact hR _ _ | decide | (simp only [InR]; omega)) (by first | assumption | exact hR _ _ | decide | (simp only [InR]; omega)) (by decide) (fun c40 => ?_) (fun c40 => ?_)
        · refine ev_aload_n 1 rfl dX10_share_92 ?_
          refine mg_301 hM dX10_share_93 ?_
          refine ev_bipush dX10_share_96 (by decide) ?_
          refine ev_icmp_ne (tgt := 104) dX10_share_98 (by first | assumption | exact hR _ _ | decide | (simp only [InR]; omega)) (by decide) (by decide) (fun c98 => ?_) (fun c98 => ?_)
          · refine ev_aload_n 1 rfl dX10_share_104 ?_
            refine mg_110 hM dX10_share_105 ?_
            refine ev_aload_n 1 rfl dX10_share_108 ?_
            refine mg_301 hM dX10_share_109 ?_
            refine ev_iload_n 2 rfl dX10_share_112 ?_
            refine m_st (k := 41) hM (by decide) dX10_share_113 (by omega) (by show _ < ((20 : Nat) : Int); omega) (by first | assumption | exact hR _ _ | decide | (simp only [InR]; omega)) (fun S1 h2 eS3 hM4 => ?_)
            have hRS1 := hM4.2.2.2.2
            refine ev_aload_n 1 rfl dX10_share_114 ?_
            refine mg_113 hM4 dX10_share_115 ?_
            refine ev_aload_n 1 rfl dX10_share_118 ?_
            refine mgE_301 (v := S 40 0) hM4 (by rw [eS3, upS_ne (by decide)]) dX10_share_119 ?_
            refine ev_iload_n 3 rfl dX10_share_122 ?_
            refine m_st (k := 42) hM4 (by decide) dX10_share_123 (by omega) (by show _ < ((20 : Nat) : Int); omega) (by first | assumption | exact hR _ _ | exact hRS1 _ _ | decide | (simp only [InR]; omega)) (fun S5 h6 eS7 hM8 => ?_)
            have hRS5 := hM8.2.2.2.2
            refine ev_aload_n 1 rfl dX10_share_124 ?_
            refine ev_dup dX10_share_125 rfl ?_
            refine mgE_301 (v := S 40 0) hM8 (by rw [eS7, upS_ne (by decide), eS3, upS_ne (by decide)]) dX10_share_126 ?_
            refine ev_iconst dX10_share_129 ?_
            refine ev_iadd dX10_share_130 ?_
            refine mp_301 hM8 (by first | assumption | exact hR _ _ | exact hRS1 _ _ | exact hRS5 _ _ | decide | (simp only [InR]; omega)) dX10_share_131 (fun S9 h10 eS11 hM12 => ?_)
            have hRS9 := hM12.2.2.2.2
            refine ev_aload_n 1 rfl dX10_share_134 ?_
            refine mgE_301 (v := (S 40 0) + 1) hM12 (by rw [eS11]; exact upS_at) dX10_share_135 ?_
            refine ev_ireturn dX10_share_138 ?_
            have e0 : scanI (ShB S a b) 0 (S 40 0) = -1 := by rw [hs, scanI_end _ (by omega)]
            refine ⟨_, rfl, ?_, ?_⟩
            · simp only [sp_share]; rw [if_neg (by omega), if_neg (by omega)]; (repeat' split) <;> first | rfl | omega
            · subst eS11 eS7 eS3
              simp only [nx_share]; first | (rw [if_pos (by omega)]; exact hM12) | (rw [if_neg (by omega)]; exact hM12)
          · refine ev_bipush dX10_share_101 (by decide) ?_
            refine ev_ireturn dX10_share_103 ?_
            have e0 : scanI (ShB S a b) 0 (S 40 0) = -1 := by rw [hs, scanI_end _ (by omega)]
            refine ⟨_, rfl, ?_, ?_⟩
            · simp only [sp_share]; rw [if_neg (by omega), if_neg (by omega)]; (repeat' split) <;> first | rfl | omega
            · simp only [nx_share]; first | (rw [if_pos (by omega)]; exact hM) | (rw [if_neg (by omega)]; exact hM)
        · refine ev_aload_n 1 rfl dX10_share_43 ?_
          refine mg_110 hM dX10_share_44 ?_
          refine ev_iload_n 0 rfl dX10_share_47 ?_
          refine m_ld (k := 41) hM (by decide) dX10_share_48 (by omega) (by show _ < ((20 : Nat) : Int); omega) ?_
          refine ev_iload_n 2 rfl dX10_share_49 ?_
          refine ev_icmp_ne (tgt := 63) dX10_share_50 (by first | assumption | exact hR _ _ | decide | (simp only [InR]; omega)) (by first | assumption | exact hR _ _ | decide | (simp only [InR]; omega)) (by decide) (fun c50 => ?_) (fun c50 => ?_)
          · refine ev_aload_n 1 rfl dX10_share_63 ?_
            refine mg_110 hM dX10_share_64 ?_
            refine ev_iload_n 0 rfl dX10_share_67 ?_
            refine m_ld (k := 41) hM (by decide) dX10_share_68 (by omega) (by show _ < ((20 : Nat) : Int); omega) ?_
            refine ev_iload_n 3 rfl dX10_share_69 ?_
            refine ev_icmp_ne (tgt := 86) dX10_share_70 (by first | assumption | exact hR _ _ | decide | (simp only [InR]; omega)) (by first | assumption | exact hR _ _ | decide | (simp only [InR]; omega)) (by decide) (fun c70 => ?_) (fun c70 => ?_)
            · refine ev_iinc (L' := [(3, vI (i + 1)), (0, .ref (o)), (1, vI (a)), (2, vI (b))]) 0 rfl dX10_share_86 (by decide) rfl ?_
              refine ev_goto (tgt := 35) dX10_share_89 (by decide) ?_
              exact ihi (i + 1) (by omega) (by omega) (by omega) (by rw [hs, scanI_s _ (by omega), if_neg (by simp only [ShB, decide_eq_true_eq]; omega)])
            · refine ev_aload_n 1 rfl dX10_share_73 ?_
              refine mg_113 hM dX10_share_74 ?_
              refine ev_iload_n 0 rfl dX10_share_77 ?_
              refine m_ld (k := 42) hM (by decide) dX10_share_78 (by omega) (by show _ < ((20 : Nat) : Int); omega) ?_
              refine ev_iload_n 2 rfl dX10_share_79 ?_
              refine ev_icmp_ne (tgt := 86) dX10_share_80 (by first | assumption | exact hR _ _ | decide | (simp only [InR]; omega)) (by first | assumption | exact hR _ _ | decide | (simp only [InR]; omega)) (by decide) (fun c80 => ?_) (fun c80 => ?_)
              · refine ev_iinc (L' := [(3, vI (i + 1)), (0, .ref (o)), (1, vI (a)), (2, vI (b))]) 0 rfl dX10_share_86 (by decide) rfl ?_
                refine ev_goto (tgt := 35) dX10_share_89 (by decide) ?_
                exact ihi (i + 1) (by omega) (by omega) (by omega) (by rw [hs, scanI_s _ (by omega), if_neg (by simp only [ShB, decide_eq_true_eq]; omega)])
              · refine ev_bipush dX10_share_83 (by decide) ?_
                refine ev_ireturn dX10_share_85 ?_
                have e0 : scanI (ShB S a b) 0 (S 40 0) = i := by rw [hs, scanI_s _ (by omega), if_pos (by simp only [ShB, decide_eq_true_eq]; omega)]
                refine ⟨_, rfl, ?_, ?_⟩
                · simp only [sp_share]; rw [if_neg (by omega), if_pos (by omega)]
                · simp only [nx_share]; rw [if_neg (by omega)]; exact hM
          · refine ev_aload_n 1 rfl dX10_share_53 ?_
            refine mg_113 hM dX10_share_54 ?_
            refine ev_iload_n 0 rfl dX10_share_57 ?_
            refine m_ld (k := 42) hM (by decide) dX10_share_58 (by omega) (by show _ < ((20 : Nat) : Int); omega) ?_
            refine ev_iload_n 3 rfl dX10_share_59 ?_
            refine ev_icmp_eq (tgt := 83) dX10_share_60 (by first | assumption | exact hR _ _ | decide | (simp only [InR]; omega)) (by first | assumption | exact hR _ _ | decide | (simp only [InR]; omega)) (by decide) (fun c60 => ?_) (fun c60 => ?_)
            · refine ev_bipush dX10_share_83 (by decide) ?_
              refine ev_ireturn dX10_share_85 ?_
              have e0 : scanI (ShB S a b) 0 (S 40 0) = i := by rw [hs, scanI_s _ (by omega), if_pos (by simp only [ShB, decide_eq_true_eq]; omega)]
              refine ⟨_, rfl, ?_, ?_⟩
              · simp only [sp_share]; rw [if_neg (by omega), if_pos (by omega)]
              · simp only [nx_share]; rw [if_neg (by omega)]; exact hM
            · refine ev_aload_n 1 rfl dX10_share_63 ?_
              refine mg_110 hM dX10_share_64 ?_
              refine ev_iload_n 0 rfl dX10_share_67 ?_
              refine m_ld (k := 41) hM (by decide) dX10_share_68 (by omega) (by show _ < ((20 : Nat) : Int); omega) ?_
              refine ev_iload_n 3 rfl dX10_share_69 ?_
              refine ev_icmp_ne (tgt := 86) dX10_share_70 (by first | assumption | exact hR _ _ | decide | (simp only [InR]; omega)) (by first | assumption | exact hR _ _ | decide | (simp only [InR]; omega)) (by decide) (fun c70 => ?_) (fun c70 => ?_)
              · refine ev_iinc (L' := [(3, vI (i + 1)), (0, .ref (o)), (1, vI (a)), (2, vI (b))]) 0 rfl dX10_share_86 (by decide) rfl ?_
                refine ev_goto (tgt := 35) dX10_share_89 (by decide) ?_
                exact ihi (i + 1) (by omega) (by omega) (by omega) (by rw [hs, scanI_s _ (by omega), if_neg (by simp only [ShB, decide_eq_true_eq]; omega)])
              · refine ev_aload_n 1 rfl dX10_share_73 ?_
                refine mg_113 hM dX10_share_74 ?_
                refine ev_iload_n 0 rfl dX10_share_77 ?_
                refine m_ld (k := 42) hM (by decide) dX10_share_78 (by omega) (by show _ < ((20 : Nat) : Int); omega) ?_
                refine ev_iload_n 2 rfl dX10_share_79 ?_
                refine ev_icmp_ne (tgt := 86) dX10_share_80 (by first | assumption | exact hR _ _ | decide | (simp only [InR]; omega)) (by first | assumption | exact hR _ _ | decide | (simp only [InR]; omega)) (by decide) (fun c80 => ?_) (fun c80 => ?_)
                · refine ev_iinc (L' := [(3, vI (i + 1)), (0, .ref (o)), (1, vI (a)), (2, vI (b))]) 0 rfl dX10_share_86 (by decide) rfl ?_
                  refine ev_goto (tgt := 35) dX10_share_89 (by decide) ?_
                  exact ihi (i + 1) (by omega) (by omega) (by omega) (by rw [hs, scanI_s _ (by omega), if_neg (by simp only [ShB, decide_eq_true_eq]; omega)])
                · refine ev_bipush dX10_share_83 (by decide) ?_
                  refine ev_ireturn dX10_share_85 ?_
                  have e0 : scanI (ShB S a b) 0 (S 40 0) = i := by rw [hs, scanI_s _ (by omega), if_pos (by simp only [ShB, decide_eq_true_eq]; omega)]
                  refine ⟨_, rfl, ?_, ?_⟩
                  · simp only [sp_share]; rw [if_neg (by omega), if_pos (by omega)]
                  · simp only [nx_share]; rw [if_neg (by omega)]; exact hM
      · refine ev_iconst dX10_share_31 ?_
        refine ev_ireturn dX10_share_32 ?_
        refine ⟨_, rfl, ?_, ?_⟩
        · simp only [sp_share]; rw [if_pos (by omega)]
        · simp only [nx_share]; rw [if_neg (by omega)]; exact hM
    · refine ev_if_eq (tgt := 31) dX10_share_13 (by decide) (by decide) (fun _ => ?_) (fun c => absurd c (by decide))
      refine ev_iconst dX10_share_31 ?_
      refine ev_ireturn dX10_share_32 ?_
      refine ⟨_, rfl, ?_, ?_⟩
      · simp only [sp_share]; rw [if_pos (by omega)]
      · simp only [nx_share]; rw [if_neg (by omega)]; exact hM
  · refine ev_if_eq (tgt := 31) dX10_share_5 (by decide) (by decide) (fun _ => ?_) (fun c => absurd c (by decide))
    refine ev_iconst dX10_share_31 ?_
    refine ev_ireturn dX10_share_32 ?_
    refine ⟨_, rfl, ?_, ?_⟩
    · simp only [sp_share]; rw [if_pos (by omega)]
    · simp only [nx_share]; rw [if_neg (by omega)]; exact hM

theorem mA_e {S : MS} {a k : Int} : S 9 (mA S a k) = a ↔ (S 9 (S 41 k) = a ∨ S 9 (S 42 k) = a) := by
  unfold mA
  split
  · next h => exact ⟨fun _ => Or.inl h, fun _ => h⟩
  · next h => exact ⟨fun q => Or.inr q, fun q => q.elim (fun z => absurd z h) id⟩

set_option maxHeartbeats 4000000 in
set_option maxRecDepth 100000 in
theorem m_mended {E : EV} {h : AH} {o : Nat} {ad : Nat → Nat} {S : MS} {a w : Int} (hM : MR E o ad S h) (hI : Inv S) (g1 : InR a) (g2 : InR w) : CM E yX10_mended cX10_mended 9 (some .int) 2 0 0 [.ref (o), vI (a), vI (w)] h (qI (fun z h' => z = sp_mended S a w ∧ MR E o ad (S) h')) := by
  have hR := hM.2.2.2.2
  have hJ := hI
  obtain ⟨i1, i2, i3, i4, i5, i6, iSt, iSi, iWa, iSh, iLa, iS0, iS1, iZe⟩ := hJ
  refine CM.of (by decide) (Nat.le_of_ble_eq_true rfl) (L := [(0, .ref (o)), (1, vI (a)), (2, vI (w))]) rfl ?_
  refine ev_aload_n 0 rfl dX10_mended_0 ?_
  refine ev_iload_n 1 rfl dX10_mended_1 ?_
  refine c_X10_160 (m_isStation hM hI (by first | assumption | exact hR _ _ | decide | (simp only [InR]; omega))) hM.1 rfl rfl (Nat.le_of_ble_eq_true rfl) (by decide) dX10_mended_2 (kB (fun b2 => ?_) (fun b2 => ?_))
  · refine ev_if_eq (tgt := 18) dX10_mended_5 (by decide) (by decide) (fun c => absurd c (by decide)) (fun _ => ?_)
    refine ev_iload_n 2 rfl dX10_mended_8 ?_
    refine ev_i2l dX10_mended_9 (by first | assumption | exact hR _ _ | decide | (simp only [InR]; omega)) ?_
    refine ev_lconst (z := 0) dX10_mended_10 (by decide) ?_
    refine ev_lconst (z := 1) dX10_mended_11 (by decide) ?_
    refine c_X10_143 (m_in E (v := w) (a := 0) (b := 1) (by first | assumption | exact hR _ _ | decide | (simp only [InL]; omega)) (by decide) (by decide)) rfl rfl (Nat.le_of_ble_eq_true rfl) (by decide) dX10_mended_12 (kB (fun b12 => ?_) (fun b12 => ?_))
    · refine ev_if_ne (tgt := 22) dX10_mended_15 (by decide) (by decide) (fun _ => ?_) (fun c => absurd c (by decide))
      have a1 := iSt a (by omega) (by omega)
      refine ev_aload_n 0 rfl dX10_mended_22 ?_
      refine mg_22 hM dX10_mended_23 ?_
      refine ev_iload_n 1 rfl dX10_mended_26 ?_
      refine m_ld (k := 5) hM (by decide) dX10_mended_27 (by omega) (by show _ < ((8 : Nat) : Int); omega) ?_
      refine ev_istore_n (L' := [(3, vI (S 5 a)), (0, .ref (o)), (1, vI (a)), (2, vI (w))]) dX10_mended_28 (by decide) rfl ?_
      refine ev_aload_n 1 rfl dX10_mended_29 ?_
      refine mg_25 hM dX10_mended_30 ?_
      refine ev_iload_n 2 rfl dX10_mended_33 ?_
      refine m_ld (k := 6) hM (by decide) dX10_mended_34 (by omega) (by show _ < ((8 : Nat) : Int); omega) ?_
      refine ev_istore (L' := [(4, vI (S 6 a)), (3, vI (S 5 a)), (0, .ref (o)), (1, vI (a)), (2, vI (w))]) dX10_mended_35 (by decide) rfl ?_
      refine ev_iconst dX10_mended_37 ?_
      refine ev_istore (L' := [(5, vI (0)), (4, vI (S 6 a)), (3, vI (S 5 a)), (0, .ref (o)), (1, vI (a)), (2, vI (w))]) dX10_mended_38 (by decide) rfl ?_
      refine up_ind (P := fun k : Int => ∀ (lo : Int) (hi : Int), 0 ≤ k → lo = mLo S a k.toNat → hi = mHi S a k.toNat → ((-3000 ≤ lo ∧ lo ≤ 3000) ∧ -3000 ≤ hi ∧ hi ≤ 3000) → Ev E RX10 cX10_mended 9 (some .int) "mended" (qI (fun z h' => z = sp_mended S a w ∧ MR E o ad (S) h')) 2 0 0 40 [(5, vI (k)), (4, vI (hi)), (3, vI (lo)), (0, .ref (o)), (1, vI (a)), (2, vI (w))] [] h) (N := S 40 0) ?_ 0 (by omega) (S 5 a) (S 6 a) (by omega) (rfl) (rfl) (by omega)
      intro k ihk hkN lo hi pk hlo hhi hbd
      refine ev_iload 0 rfl dX10_mended_40 ?_
      refine ev_aload_n 3 rfl dX10_mended_42 ?_
      refine mg_301 hM dX10_mended_43 ?_
      refine ev_icmp_ge (tgt := 230) dX10_mended_46 (by first | assumption | exact hR _ _ | decide | (simp only [InR]; omega)) (by first | assumption | exact hR _ _ | decide | (simp only [InR]; omega)) (by decide) (fun c46 => ?_) (fun c46 => ?_)
      · refine ev_iload_n 2 rfl dX10_mended_230 ?_
        refine ev_iload 1 rfl dX10_mended_231 ?_
        refine ev_icmp_le (tgt := 242) dX10_mended_233 (by first | assumption | exact hR _ _ | decide | (simp only [InR]; omega)) (by first | assumption | exact hR _ _ | decide | (simp only [InR]; omega)) (by decide) (fun c233 => ?_) (fun c233 => ?_)
        · refine ev_iload_n 5 rfl dX10_mended_242 ?_
          refine ev_if_ne (tgt := 250) dX10_mended_243 (by first | assumption | exact hR _ _ | decide | (simp only [InR]; omega)) (by decide) (fun c243 => ?_) (fun c243 => ?_)
          · refine ev_iload 1 rfl dX10_mended_250 ?_
            refine ev_ireturn dX10_mended_252 ?_
            refine ⟨_, rfl, ?_, hM⟩
            have e0 : k = S 40 0 := by omega
            rw [e0] at hlo hhi
            simp only [sp_mended]; rw [if_neg (by omega), ← hlo, ← hhi]; (repeat' split) <;> first | rfl | omega
          · refine ev_iload_n 2 rfl dX10_mended_246 ?_
            refine ev_goto (tgt := 252) dX10_mended_247 (by decide) ?_
            refine ev_ireturn dX10_mended_252 ?_
            refine ⟨_, rfl, ?_, hM⟩
            have e0 : k = S 40 0 := by omega
            rw [e0] at hlo hhi
            simp only [sp_mended]; rw [if_neg (by omega), ← hlo, ← hhi]; (repeat' split) <;> first | rfl | omega
        · refine ev_sipush dX10_mended_236 (by decide) ?_
          refine ev_goto (tgt := 252) dX10_mended_239 (by decide) ?_
          refine ev_ireturn dX10_mended_252 ?_
          refine ⟨_, rfl, ?_, hM⟩
          have e0 : k = S 40 0 := by omega
          rw [e0] at hlo hhi
          simp only [sp_mended]; rw [if_neg (by omega), ← hlo, ← hhi]; (repeat' split) <;> first | rfl | omega
      · obtain ⟨k1, k2, k3⟩ := iSh k (by omega) (by omega)
        obtain ⟨_, k4, _, k5, _⟩ := iSi _ k1.1 k1.2
        obtain ⟨_, k6, _, k7, _⟩ := iSi _ k2.1 k2.2
        obtain ⟨_, _, k8, k9, k10⟩ := iSt _ k4.1 k4.2
        obtain ⟨_, _, k11, k12, k13⟩ := iSt _ k6.1 k6.2
        refine ev_aload_n 3 rfl dX10_mended_49 ?_
        refine mg_31 hM dX10_mended_50 ?_
        refine ev_aload_n 3 rfl dX10_mended_53 ?_
        refine mg_110 hM dX10_mended_54 ?_
        refine ev_iload 0 rfl dX10_mended_57 ?_
        refine m_ld (k := 41) hM (by decide) dX10_mended_59 (by omega) (by show _ < ((20 : Nat) : Int); omega) ?_
        refine m_ld (k := 9) hM (by decide) dX10_mended_60 (by omega) (by show _ < ((40 : Nat) : Int); omega) ?_
        refine ev_iload_n 4 rfl dX10_mended_61 ?_
        refine ev_icmp_ne (tgt := 75) dX10_mended_62 (by first | assumption | exact hR _ _ | decide | (simp only [InR]; omega)) (by first | assumption | exact hR _ _ | decide | (simp only [InR]; omega)) (by decide) (fun c62 => ?_) (fun c62 => ?_)
        · refine ev_aload_n 3 rfl dX10_mended_75 ?_
          refine mg_113 hM dX10_mended_76 ?_
          refine ev_iload 0 rfl dX10_mended_79 ?_
          refine m_ld (k := 42) hM (by decide) dX10_mended_81 (by omega) (by show _ < ((20 : Nat) : Int); omega) ?_
          refine ev_istore (L' := [(6, vI (S 42 k)), (5, vI (k)), (4, vI (hi)), (3, vI (lo)), (0, .ref (o)), (1, vI (a)), (2, vI (w))]) dX10_mended_82 (by decide) rfl ?_
          refine ev_iload 0 rfl dX10_mended_84 ?_
          refine ev_aload_n 4 rfl dX10_mended_86 ?_
          refine mg_110 hM dX10_mended_87 ?_
          refine ev_iload 1 rfl dX10_mended_90 ?_
          refine m_ld (k := 41) hM (by decide) dX10_mended_92 (by omega) (by show _ < ((20 : Nat) : Int); omega) ?_
          refine ev_icmp_ne (tgt := 106) dX10_mended_93 (by first | assumption | exact hR _ _ | decide | (simp only [InR]; omega)) (by first | assumption | exact hR _ _ | decide | (simp only [InR]; omega)) (by decide) (fun c93 => ?_) (fun c93 => ?_)
          · refine ev_aload_n 4 rfl dX10_mended_106 ?_
            refine mg_110 hM dX10_mended_107 ?_
            refine ev_iload 1 rfl dX10_mended_110 ?_
            refine m_ld (k := 41) hM (by decide) dX10_mended_112 (by omega) (by show _ < ((20 : Nat) : Int); omega) ?_
            refine ev_istore (L' := [(7, vI (S 41 k)), (6, vI (S 42 k)), (5, vI (k)), (4, vI (hi)), (3, vI (lo)), (0, .ref (o)), (1, vI (a)), (2, vI (w))]) dX10_mended_113 (by decide) rfl ?_
            refine ev_aload_n 5 rfl dX10_mended_115 ?_
            refine mg_31 hM dX10_mended_116 ?_
            refine ev_iload 1 rfl dX10_mended_119 ?_
            refine m_ld (k := 9) hM (by decide) dX10_mended_121 (by omega) (by show _ < ((40 : Nat) : Int); omega) ?_
            refine ev_iload_n 6 rfl dX10_mended_122 ?_
            refine ev_icmp_ne (tgt := 224) dX10_mended_123 (by first | assumption | exact hR _ _ | decide | (simp only [InR]; omega)) (by first | assumption | exact hR _ _ | decide | (simp only [InR]; omega)) (by decide) (fun c123 => ?_) (fun c123 => ?_)
            · refine ev_iinc (L' := [(5, vI (k + 1)), (7, vI (S 41 k)), (6, vI (S 42 k)), (4, vI (hi)), (3, vI (lo)), (0, .ref (o)), (1, vI (a)), (2, vI (w))]) 2 rfl dX10_mended_224 (by decide) rfl ?_
              refine ev_goto (tgt := 40) dX10_mended_227 (by decide) ?_
              refine ev_pick (L' := [(5, vI (k + 1)), (4, vI (hi)), (3, vI (lo)), (0, .ref (o)), (1, vI (a)), (2, vI (w))]) [0, 3, 4, 5, 6, 7] rfl ?_
              exact ihk (k + 1) (by omega) (by omega) lo hi (by omega) (by rw [show (k + 1).toNat = k.toNat + 1 by omega, mLo, show ((k.toNat : Nat) : Int) = k by omega, ← hlo]; simp only [mA, mB]; (repeat' split) <;> first | rfl | omega) (by rw [show (k + 1).toNat = k.toNat + 1 by omega, mHi, show ((k.toNat : Nat) : Int) = k by omega, ← hhi]; simp only [mA, mB]; (repeat' split) <;> first | rfl | omega) (by omega)
            · refine ev_aload_n 5 rfl dX10_mended_126 ?_
              refine mg_37 hM dX10_mended_127 ?_
              refine ev_iload 1 rfl dX10_mended_130 ?_
              refine m_ld (k := 11) hM (by decide) dX10_mended_132 (by omega) (by show _ < ((40 : Nat) : Int); omega) ?_
              refine ev_aload_n 5 rfl dX10_mended_133 ?_
              refine mg_37 hM dX10_mended_134 ?_
              refine ev_iload 0 rfl dX10_mended_137 ?_
              refine m_ld (k := 11) hM (by decide) dX10_mended_139 (by omega) (by show _ < ((40 : Nat) : Int); omega) ?_
              refine ev_isub dX10_mended_140 ?_
              refine ev_istore (L' := [(8, vI ((S 11 (S 42 k)) - (S 11 (S 41 k)))), (7, vI (S 41 k)), (6, vI (S 42 k)), (5, vI (k)), (4, vI (hi)), (3, vI (lo)), (0, .ref (o)), (1, vI (a)), (2, vI (w))]) dX10_mended_141 (by decide) rfl ?_
              refine ev_iload 0 rfl dX10_mended_143 ?_
              refine ev_aload_n 6 rfl dX10_mended_145 ?_
              refine mg_22 hM dX10_mended_146 ?_
              refine ev_aload_n 6 rfl dX10_mended_149 ?_
              refine mg_31 hM dX10_mended_150 ?_
              refine ev_iload 1 rfl dX10_mended_153 ?_
              refine m_ld (k := 9) hM (by decide) dX10_mended_155 (by omega) (by show _ < ((40 : Nat) : Int); omega) ?_
              refine m_ld (k := 5) hM (by decide) dX10_mended_156 (by omega) (by show _ < ((8 : Nat) : Int); omega) ?_
              refine ev_iadd dX10_mended_157 ?_
              refine ev_iload_n 5 rfl dX10_mended_158 ?_
              refine ev_icmp_le (tgt := 180) dX10_mended_159 (by first | assumption | exact hR _ _ | decide | (simp only [InR]; omega)) (by first | assumption | exact hR _ _ | decide | (simp only [InR]; omega)) (by decide) (fun c159 => ?_) (fun c159 => ?_)
              · refine ev_iload_n 5 rfl dX10_mended_180 ?_
                refine ev_istore_n (L' := [(3, vI (lo)), (8, vI ((S 11 (S 42 k)) - (S 11 (S 41 k)))), (7, vI (S 41 k)), (6, vI (S 42 k)), (5, vI (k)), (4, vI (hi)), (0, .ref (o)), (1, vI (a)), (2, vI (w))]) dX10_mended_181 (by decide) rfl ?_
                refine ev_iload 1 rfl dX10_mended_182 ?_
                refine ev_aload_n 6 rfl dX10_mended_184 ?_
                refine mg_25 hM dX10_mended_185 ?_
                refine ev_aload_n 6 rfl dX10_mended_188 ?_
                refine mg_31 hM dX10_mended_189 ?_
                refine ev_iload 2 rfl dX10_mended_192 ?_
                refine m_ld (k := 9) hM (by decide) dX10_mended_194 (by omega) (by show _ < ((40 : Nat) : Int); omega) ?_
                refine m_ld (k := 6) hM (by decide) dX10_mended_195 (by omega) (by show _ < ((8 : Nat) : Int); omega) ?_
                refine ev_iadd dX10_mended_196 ?_
                refine ev_iload 5 rfl dX10_mended_197 ?_
                refine ev_icmp_ge (tgt := 220) dX10_mended_199 (by first | assumption | exact hR _ _ | decide | (simp only [InR]; omega)) (by first | assumption | exact hR _ _ | decide | (simp only [InR]; omega)) (by decide) (fun c199 => ?_) (fun c199 => ?_)
                · refine ev_iload 5 rfl dX10_mended_220 ?_
                  refine ev_istore (L' := [(4, vI (hi)), (3, vI (lo)), (8, vI ((S 11 (S 42 k)) - (S 11 (S 41 k)))), (7, vI (S 41 k)), (6, vI (S 42 k)), (5, vI (k)), (0, .ref (o)), (1, vI (a)), (2, vI (w))]) dX10_mended_222 (by decide) rfl ?_
                  refine ev_iinc (L' := [(5, vI (k + 1)), (4, vI (hi)), (3, vI (lo)), (8, vI ((S 11 (S 42 k)) - (S 11 (S 41 k)))), (7, vI (S 41 k)), (6, vI (S 42 k)), (0, .ref (o)), (1, vI (a)), (2, vI (w))]) 5 rfl dX10_mended_224 (by decide) rfl ?_
                  refine ev_goto (tgt := 40) dX10_mended_227 (by decide) ?_
                  refine ev_pick (L' := [(5, vI (k + 1)), (4, vI (hi)), (3, vI (lo)), (0, .ref (o)), (1, vI (a)), (2, vI (w))]) [0, 1, 2, 6, 7, 8] rfl ?_
                  exact ihk (k + 1) (by omega) (by omega) lo hi (by omega) (by rw [show (k + 1).toNat = k.toNat + 1 by omega, mLo, show ((k.toNat : Nat) : Int) = k by omega, ← hlo]; simp only [mA, mB]; (repeat' split) <;> first | rfl | omega) (by rw [show (k + 1).toNat = k.toNat + 1 by omega, mHi, show ((k.toNat : Nat) : Int) = k by omega, ← hhi]; simp only [mA, mB]; (repeat' split) <;> first | rfl | omega) (by omega)
                · refine ev_iload 1 rfl dX10_mended_202 ?_
                  refine ev_aload_n 6 rfl dX10_mended_204 ?_
                  refine mg_25 hM dX10_mended_205 ?_
                  refine ev_aload_n 6 rfl dX10_mended_208 ?_
                  refine mg_31 hM dX10_mended_209 ?_
                  refine ev_iload 2 rfl dX10_mended_212 ?_
                  refine m_ld (k := 9) hM (by decide) dX10_mended_214 (by omega) (by show _ < ((40 : Nat) : Int); omega) ?_
                  refine m_ld (k := 6) hM (by decide) dX10_mended_215 (by omega) (by show _ < ((8 : Nat) : Int); omega) ?_
                  refine ev_iadd dX10_mended_216 ?_
                  refine ev_goto (tgt := 222) dX10_mended_217 (by decide) ?_
                  refine ev_istore (L' := [(4, vI (((S 11 (S 42 k)) - (S 11 (S 41 k))) + (S 6 (S 9 (S 41 k))))), (3, vI (lo)), (8, vI ((S 11 (S 42 k)) - (S 11 (S 41 k)))), (7, vI (S 41 k)), (6, vI (S 42 k)), (5, vI (k)), (0, .ref (o)), (1, vI (a)), (2, vI (w))]) dX10_mended_222 (by decide) rfl ?_
                  refine ev_iinc (L' := [(5, vI (k + 1)), (4, vI (((S 11 (S 42 k)) - (S 11 (S 41 k))) + (S 6 (S 9 (S 41 k))))), (3, vI (lo)), (8, vI ((S 11 (S 42 k)) - (S 11 (S 41 k)))), (7, vI (S 41 k)), (6, vI (S 42 k)), (0, .ref (o)), (1, vI (a)), (2, vI (w))]) 5 rfl dX10_mended_224 (by decide) rfl ?_
                  refine ev_goto (tgt := 40) dX10_mended_227 (by decide) ?_
                  refine ev_pick (L' := [(5, vI (k + 1)), (4, vI (((S 11 (S 42 k)) - (S 11 (S 41 k))) + (S 6 (S 9 (S 41 k))))), (3, vI (lo)), (0, .ref (o)), (1, vI (a)), (2, vI (w))]) [0, 1, 2, 6, 7, 8] rfl ?_
                  exact ihk (k + 1) (by omega) (by omega) lo (((S 11 (S 42 k)) - (S 11 (S 41 k))) + (S 6 (S 9 (S 41 k)))) (by omega) (by rw [show (k + 1).toNat = k.toNat + 1 by omega, mLo, show ((k.toNat : Nat) : Int) = k by omega, ← hlo]; simp only [mA, mB]; (repeat' split) <;> first | rfl | omega) (by rw [show (k + 1).toNat = k.toNat + 1 by omega, mHi, show ((k.toNat : Nat) : Int) = k by omega, ← hhi]; simp only [mA, mB]; (repeat' split) <;> first | rfl | omega) (by omega)
              · refine ev_iload 0 rfl dX10_mended_162 ?_
                refine ev_aload_n 6 rfl dX10_mended_164 ?_
                refine mg_22 hM dX10_mended_165 ?_
                refine ev_aload_n 6 rfl dX10_mended_168 ?_
                refine mg_31 hM dX10_mended_169 ?_
                refine ev_iload 1 rfl dX10_mended_172 ?_
                refine m_ld (k := 9) hM (by decide) dX10_mended_174 (by omega) (by show _ < ((40 : Nat) : Int); omega) ?_
                refine m_ld (k := 5) hM (by decide) dX10_mended_175 (by omega) (by show _ < ((8 : Nat) : Int); omega) ?_
                refine ev_iadd dX10_mended_176 ?_
                refine ev_goto (tgt := 181) dX10_mended_177 (by decide) ?_
                refine ev_istore_n (L' := [(3, vI (((S 11 (S 42 k)) - (S 11 (S 41 k))) + (S 5 (S 9 (S 41 k))))), (8, vI ((S 11 (S 42 k)) - (S 11 (S 41 k)))), (7, vI (S 41 k)), (6, vI (S 42 k)), (5, vI (k)), (4, vI (hi)), (0, .ref (o)), (1, vI (a)), (2, vI (w))]) dX10_mended_181 (by decide) rfl ?_
                refine ev_iload 1 rfl dX10_mended_182 ?_
                refine ev_aload_n 6 rfl dX10_mended_184 ?_
                refine mg_25 hM dX10_mended_185 ?_
                refine ev_aload_n 6 rfl dX10_mended_188 ?_
                refine mg_31 hM dX10_mended_189 ?_
                refine ev_iload 2 rfl dX10_mended_192 ?_
                refine m_ld (k := 9) hM (by decide) dX10_mended_194 (by omega) (by show _ < ((40 : Nat) : Int); omega) ?_
                refine m_ld (k := 6) hM (by decide) dX10_mended_195 (by omega) (by show _ < ((8 : Nat) : Int); omega) ?_
                refine ev_iadd dX10_mended_196 ?_
                refine ev_iload 5 rfl dX10_mended_197 ?_
                refine ev_icmp_ge (tgt := 220) dX10_mended_199 (by first | assumption | exact hR _ _ | decide | (simp only [InR]; omega)) (by first | assumption | exact hR _ _ | decide | (simp only [InR]; omega)) (by decide) (fun c199 => ?_) (fun c199 => ?_)
                · refine ev_iload 5 rfl dX10_mended_220 ?_
                  refine ev_istore (L' := [(4, vI (hi)), (3, vI (((S 11 (S 42 k)) - (S 11 (S 41 k))) + (S 5 (S 9 (S 41 k))))), (8, vI ((S 11 (S 42 k)) - (S 11 (S 41 k)))), (7, vI (S 41 k)), (6, vI (S 42 k)), (5, vI (k)), (0, .ref (o)), (1, vI (a)), (2, vI (w))]) dX10_mended_222 (by decide) rfl ?_
                  refine ev_iinc (L' := [(5, vI (k + 1)), (4, vI (hi)), (3, vI (((S 11 (S 42 k)) - (S 11 (S 41 k))) + (S 5 (S 9 (S 41 k))))), (8, vI ((S 11 (S 42 k)) - (S 11 (S 41 k)))), (7, vI (S 41 k)), (6, vI (S 42 k)), (0, .ref (o)), (1, vI (a)), (2, vI (w))]) 5 rfl dX10_mended_224 (by decide) rfl ?_
                  refine ev_goto (tgt := 40) dX10_mended_227 (by decide) ?_
                  refine ev_pick (L' := [(5, vI (k + 1)), (4, vI (hi)), (3, vI (((S 11 (S 42 k)) - (S 11 (S 41 k))) + (S 5 (S 9 (S 41 k))))), (0, .ref (o)), (1, vI (a)), (2, vI (w))]) [0, 1, 2, 6, 7, 8] rfl ?_
                  exact ihk (k + 1) (by omega) (by omega) (((S 11 (S 42 k)) - (S 11 (S 41 k))) + (S 5 (S 9 (S 41 k)))) hi (by omega) (by rw [show (k + 1).toNat = k.toNat + 1 by omega, mLo, show ((k.toNat : Nat) : Int) = k by omega, ← hlo]; simp only [mA, mB]; (repeat' split) <;> first | rfl | omega) (by rw [show (k + 1).toNat = k.toNat + 1 by omega, mHi, show ((k.toNat : Nat) : Int) = k by omega, ← hhi]; simp only [mA, mB]; (repeat' split) <;> first | rfl | omega) (by omega)
                · refine ev_iload 1 rfl dX10_mended_202 ?_
                  refine ev_aload_n 6 rfl dX10_mended_204 ?_
                  refine mg_25 hM dX10_mended_205 ?_
                  refine ev_aload_n 6 rfl dX10_mended_208 ?_
                  refine mg_31 hM dX10_mended_209 ?_
                  refine ev_iload 2 rfl dX10_mended_212 ?_
                  refine m_ld (k := 9) hM (by decide) dX10_mended_214 (by omega) (by show _ < ((40 : Nat) : Int); omega) ?_
                  refine m_ld (k := 6) hM (by decide) dX10_mended_215 (by omega) (by show _ < ((8 : Nat) : Int); omega) ?_
                  refine ev_iadd dX10_mended_216 ?_
                  refine ev_goto (tgt := 222) dX10_mended_217 (by decide) ?_
                  refine ev_istore (L' := [(4, vI (((S 11 (S 42 k)) - (S 11 (S 41 k))) + (S 6 (S 9 (S 41 k))))), (3, vI (((S 11 (S 42 k)) - (S 11 (S 41 k))) + (S 5 (S 9 (S 41 k))))), (8, vI ((S 11 (S 42 k)) - (S 11 (S 41 k)))), (7, vI (S 41 k)), (6, vI (S 42 k)), (5, vI (k)), (0, .ref (o)), (1, vI (a)), (2, vI (w))]) dX10_mended_222 (by decide) rfl ?_
                  refine ev_iinc (L' := [(5, vI (k + 1)), (4, vI (((S 11 (S 42 k)) - (S 11 (S 41 k))) + (S 6 (S 9 (S 41 k))))), (3, vI (((S 11 (S 42 k)) - (S 11 (S 41 k))) + (S 5 (S 9 (S 41 k))))), (8, vI ((S 11 (S 42 k)) - (S 11 (S 41 k)))), (7, vI (S 41 k)), (6, vI (S 42 k)), (0, .ref (o)), (1, vI (a)), (2, vI (w))]) 5 rfl dX10_mended_224 (by decide) rfl ?_
                  refine ev_goto (tgt := 40) dX10_mended_227 (by decide) ?_
                  refine ev_pick (L' := [(5, vI (k + 1)), (4, vI (((S 11 (S 42 k)) - (S 11 (S 41 k))) + (S 6 (S 9 (S 41 k))))), (3, vI (((S 11 (S 42 k)) - (S 11 (S 41 k))) + (S 5 (S 9 (S 41 k))))), (0, .ref (o)), (1, vI (a)), (2, vI (w))]) [0, 1, 2, 6, 7, 8] rfl ?_
                  exact ihk (k + 1) (by omega) (by omega) (((S 11 (S 42 k)) - (S 11 (S 41 k))) + (S 5 (S 9 (S 41 k)))) (((S 11 (S 42 k)) - (S 11 (S 41 k))) + (S 6 (S 9 (S 41 k)))) (by omega) (by rw [show (k + 1).toNat = k.toNat + 1 by omega, mLo, show ((k.toNat : Nat) : Int) = k by omega, ← hlo]; simp only [mA, mB]; (repeat' split) <;> first | rfl | omega) (by rw [show (k + 1).toNat = k.toNat + 1 by omega, mHi, show ((k.toNat : Nat) : Int) = k by omega, ← hhi]; simp only [mA, mB]; (repeat' split) <;> first | rfl | omega) (by omega)
          · exact absurd c93 (fun e => k3 (by rw [e]))
        · refine ev_aload_n 3 rfl dX10_mended_65 ?_
          refine mg_110 hM dX10_mended_66 ?_
          refine ev_iload 0 rfl dX10_mended_69 ?_
          refine m_ld (k := 41) hM (by decide) dX10_mended_71 (by omega) (by show _ < ((20 : Nat) : Int); omega) ?_
          refine ev_goto (tgt := 82) dX10_mended_72 (by decide) ?_
          refine ev_istore (L' := [(6, vI (S 41 k)), (5, vI (k)), (4, vI (hi)), (3, vI (lo)), (0, .ref (o)), (1, vI (a)), (2, vI (w))]) dX10_mended_82 (by decide) rfl ?_
          refine ev_iload 0 rfl dX10_mended_84 ?_
          refine ev_aload_n 4 rfl dX10_mended_86 ?_
          refine mg_110 hM dX10_mended_87 ?_
          refine ev_iload 1 rfl dX10_mended_90 ?_
          refine m_ld (k := 41) hM (by decide) dX10_mended_92 (by omega) (by show _ < ((20 : Nat) : Int); omega) ?_
          refine ev_icmp_ne (tgt := 106) dX10_mended_93 (by first | assumption | exact hR _ _ | decide | (simp only [InR]; omega)) (by first | assumption | exact hR _ _ | decide | (simp only [InR]; omega)) (by decide) (fun c93 => ?_) (fun c93 => ?_)
          · exact absurd rfl c93
          · refine ev_aload_n 4 rfl dX10_mended_96 ?_
            refine mg_113 hM dX10_mended_97 ?_
            refine ev_iload 1 rfl dX10_mended_100 ?_
            refine m_ld (k := 42) hM (by decide) dX10_mended_102 (by omega) (by show _ < ((20 : Nat) : Int); omega) ?_
            refine ev_goto (tgt := 113) dX10_mended_103 (by decide) ?_
            refine ev_istore (L' := [(7, vI (S 42 k)), (6, vI (S 41 k)), (5, vI (k)), (4, vI (hi)), (3, vI (lo)), (0, .ref (o)), (1, vI (a)), (2, vI (w))]) dX10_mended_113 (by decide) rfl ?_
            refine ev_aload_n 5 rfl dX10_mended_115 ?_
            refine mg_31 hM dX10_mended_116 ?_
            refine ev_iload 1 rfl dX10_mended_119 ?_
            refine m_ld (k := 9) hM (by decide) dX10_mended_121 (by omega) (by show _ < ((40 : Nat) : Int); omega) ?_
            refine ev_iload_n 6 rfl dX10_mended_122 ?_
            refine ev_icmp_ne (tgt := 224) dX10_mended_123 (by first | assumption | exact hR _ _ | decide | (simp only [InR]; omega)) (by first | assumption | exact hR _ _ | decide | (simp only [InR]; omega)) (by decide) (fun c123 => ?_) (fun c123 => ?_)
            · refine ev_iinc (L' := [(5, vI (k + 1)), (7, vI (S 42 k)), (6, vI (S 41 k)), (4, vI (hi)), (3, vI (lo)), (0, .ref (o)), (1, vI (a)), (2, vI (w))]) 2 rfl dX10_mended_224 (by decide) rfl ?_
              refine ev_goto (tgt := 40) dX10_mended_227 (by decide) ?_
              refine ev_pick (L' := [(5, vI (k + 1)), (4, vI (hi)), (3, vI (lo)), (0, .ref (o)), (1, vI (a)), (2, vI (w))]) [0, 3, 4, 5, 6, 7] rfl ?_
              exact ihk (k + 1) (by omega) (by omega) lo hi (by omega) (by rw [show (k + 1).toNat = k.toNat + 1 by omega, mLo, show ((k.toNat : Nat) : Int) = k by omega, ← hlo]; simp only [mA, mB]; (repeat' split) <;> first | rfl | omega) (by rw [show (k + 1).toNat = k.toNat + 1 by omega, mHi, show ((k.toNat : Nat) : Int) = k by omega, ← hhi]; simp only [mA, mB]; (repeat' split) <;> first | rfl | omega) (by omega)
            · refine ev_aload_n 5 rfl dX10_mended_126 ?_
              refine mg_37 hM dX10_mended_127 ?_
              refine ev_iload 1 rfl dX10_mended_130 ?_
              refine m_ld (k := 11) hM (by decide) dX10_mended_132 (by omega) (by show _ < ((40 : Nat) : Int); omega) ?_
              refine ev_aload_n 5 rfl dX10_mended_133 ?_
              refine mg_37 hM dX10_mended_134 ?_
              refine ev_iload 0 rfl dX10_mended_137 ?_
              refine m_ld (k := 11) hM (by decide) dX10_mended_139 (by omega) (by show _ < ((40 : Nat) : Int); omega) ?_
              refine ev_isub dX10_mended_140 ?_
              refine ev_istore (L' := [(8, vI ((S 11 (S 41 k)) - (S 11 (S 42 k)))), (7, vI (S 42 k)), (6, vI (S 41 k)), (5, vI (k)), (4, vI (hi)), (3, vI (lo)), (0, .ref (o)), (1, vI (a)), (2, vI (w))]) dX10_mended_141 (by decide) rfl ?_
              refine ev_iload 0 rfl dX10_mended_143 ?_
              refine ev_aload_n 6 rfl dX10_mended_145 ?_
              refine mg_22 hM dX10_mended_146 ?_
              refine ev_aload_n 6 rfl dX10_mended_149 ?_
              refine mg_31 hM dX10_mended_150 ?_
              refine ev_iload 1 rfl dX10_mended_153 ?_
              refine m_ld (k := 9) hM (by decide) dX10_mended_155 (by omega) (by show _ < ((40 : Nat) : Int); omega) ?_
              refine m_ld (k := 5) hM (by decide) dX10_mended_156 (by omega) (by show _ < ((8 : Nat) : Int); omega) ?_
              refine ev_iadd dX10_mended_157 ?_
              refine ev_iload_n 5 rfl dX10_mended_158 ?_
              refine ev_icmp_le (tgt := 180) dX10_mended_159 (by first | assumption | exact hR _ _ | decide | (simp only [InR]; omega)) (by first | assumption | exact hR _ _ | decide | (simp only [InR]; omega)) (by decide) (fun c159 => ?_) (fun c159 => ?_)
              · refine ev_iload_n 5 rfl dX10_mended_180 ?_
                refine ev_istore_n (L' := [(3, vI (lo)), (8, vI ((S 11 (S 41 k)) - (S 11 (S 42 k)))), (7, vI (S 42 k)), (6, vI (S 41 k)), (5, vI (k)), (4, vI (hi)), (0, .ref (o)), (1, vI (a)), (2, vI (w))]) dX10_mended_181 (by decide) rfl ?_
                refine ev_iload 1 rfl dX10_mended_182 ?_
                refine ev_aload_n 6 rfl dX10_mended_184 ?_
                refine mg_25 hM dX10_mended_185 ?_
                refine ev_aload_n 6 rfl dX10_mended_188 ?_
                refine mg_31 hM dX10_mended_189 ?_
                refine ev_iload 2 rfl dX10_mended_192 ?_
                refine m_ld (k := 9) hM (by decide) dX10_mended_194 (by omega) (by show _ < ((40 : Nat) : Int); omega) ?_
                refine m_ld (k := 6) hM (by decide) dX10_mended_195 (by omega) (by show _ < ((8 : Nat) : Int); omega) ?_
                refine ev_iadd dX10_mended_196 ?_
                refine ev_iload 5 rfl dX10_mended_197 ?_
                refine ev_icmp_ge (tgt := 220) dX10_mended_199 (by first | assumption | exact hR _ _ | decide | (simp only [InR]; omega)) (by first | assumption | exact hR _ _ | decide | (simp only [InR]; omega)) (by decide) (fun c199 => ?_) (fun c199 => ?_)
                · refine ev_iload 5 rfl dX10_mended_220 ?_
                  refine ev_istore (L' := [(4, vI (hi)), (3, vI (lo)), (8, vI ((S 11 (S 41 k)) - (S 11 (S 42 k)))), (7, vI (S 42 k)), (6, vI (S 41 k)), (5, vI (k)), (0, .ref (o)), (1, vI (a)), (2, vI (w))]) dX10_mended_222 (by decide) rfl ?_
                  refine ev_iinc (L' := [(5, vI (k + 1)), (4, vI (hi)), (3, vI (lo)), (8, vI ((S 11 (S 41 k)) - (S 11 (S 42 k)))), (7, vI (S 42 k)), (6, vI (S 41 k)), (0, .ref (o)), (1, vI (a)), (2, vI (w))]) 5 rfl dX10_mended_224 (by decide) rfl ?_
                  refine ev_goto (tgt := 40) dX10_mended_227 (by decide) ?_
                  refine ev_pick (L' := [(5, vI (k + 1)), (4, vI (hi)), (3, vI (lo)), (0, .ref (o)), (1, vI (a)), (2, vI (w))]) [0, 1, 2, 6, 7, 8] rfl ?_
                  exact ihk (k + 1) (by omega) (by omega) lo hi (by omega) (by rw [show (k + 1).toNat = k.toNat + 1 by omega, mLo, show ((k.toNat : Nat) : Int) = k by omega, ← hlo]; simp only [mA, mB]; (repeat' split) <;> first | rfl | omega) (by rw [show (k + 1).toNat = k.toNat + 1 by omega, mHi, show ((k.toNat : Nat) : Int) = k by omega, ← hhi]; simp only [mA, mB]; (repeat' split) <;> first | rfl | omega) (by omega)
                · refine ev_iload 1 rfl dX10_mended_202 ?_
                  refine ev_aload_n 6 rfl dX10_mended_204 ?_
                  refine mg_25 hM dX10_mended_205 ?_
                  refine ev_aload_n 6 rfl dX10_mended_208 ?_
                  refine mg_31 hM dX10_mended_209 ?_
                  refine ev_iload 2 rfl dX10_mended_212 ?_
                  refine m_ld (k := 9) hM (by decide) dX10_mended_214 (by omega) (by show _ < ((40 : Nat) : Int); omega) ?_
                  refine m_ld (k := 6) hM (by decide) dX10_mended_215 (by omega) (by show _ < ((8 : Nat) : Int); omega) ?_
                  refine ev_iadd dX10_mended_216 ?_
                  refine ev_goto (tgt := 222) dX10_mended_217 (by decide) ?_
                  refine ev_istore (L' := [(4, vI (((S 11 (S 41 k)) - (S 11 (S 42 k))) + (S 6 (S 9 (S 42 k))))), (3, vI (lo)), (8, vI ((S 11 (S 41 k)) - (S 11 (S 42 k)))), (7, vI (S 42 k)), (6, vI (S 41 k)), (5, vI (k)), (0, .ref (o)), (1, vI (a)), (2, vI (w))]) dX10_mended_222 (by decide) rfl ?_
                  refine ev_iinc (L' := [(5, vI (k + 1)), (4, vI (((S 11 (S 41 k)) - (S 11 (S 42 k))) + (S 6 (S 9 (S 42 k))))), (3, vI (lo)), (8, vI ((S 11 (S 41 k)) - (S 11 (S 42 k)))), (7, vI (S 42 k)), (6, vI (S 41 k)), (0, .ref (o)), (1, vI (a)), (2, vI (w))]) 5 rfl dX10_mended_224 (by decide) rfl ?_
                  refine ev_goto (tgt := 40) dX10_mended_227 (by decide) ?_
                  refine ev_pick (L' := [(5, vI (k + 1)), (4, vI (((S 11 (S 41 k)) - (S 11 (S 42 k))) + (S 6 (S 9 (S 42 k))))), (3, vI (lo)), (0, .ref (o)), (1, vI (a)), (2, vI (w))]) [0, 1, 2, 6, 7, 8] rfl ?_
                  exact ihk (k + 1) (by omega) (by omega) lo (((S 11 (S 41 k)) - (S 11 (S 42 k))) + (S 6 (S 9 (S 42 k)))) (by omega) (by rw [show (k + 1).toNat = k.toNat + 1 by omega, mLo, show ((k.toNat : Nat) : Int) = k by omega, ← hlo]; simp only [mA, mB]; (repeat' split) <;> first | rfl | omega) (by rw [show (k + 1).toNat = k.toNat + 1 by omega, mHi, show ((k.toNat : Nat) : Int) = k by omega, ← hhi]; simp only [mA, mB]; (repeat' split) <;> first | rfl | omega) (by omega)
              · refine ev_iload 0 rfl dX10_mended_162 ?_
                refine ev_aload_n 6 rfl dX10_mended_164 ?_
                refine mg_22 hM dX10_mended_165 ?_
                refine ev_aload_n 6 rfl dX10_mended_168 ?_
                refine mg_31 hM dX10_mended_169 ?_
                refine ev_iload 1 rfl dX10_mended_172 ?_
                refine m_ld (k := 9) hM (by decide) dX10_mended_174 (by omega) (by show _ < ((40 : Nat) : Int); omega) ?_
                refine m_ld (k := 5) hM (by decide) dX10_mended_175 (by omega) (by show _ < ((8 : Nat) : Int); omega) ?_
                refine ev_iadd dX10_mended_176 ?_
                refine ev_goto (tgt := 181) dX10_mended_177 (by decide) ?_
                refine ev_istore_n (L' := [(3, vI (((S 11 (S 41 k)) - (S 11 (S 42 k))) + (S 5 (S 9 (S 42 k))))), (8, vI ((S 11 (S 41 k)) - (S 11 (S 42 k)))), (7, vI (S 42 k)), (6, vI (S 41 k)), (5, vI (k)), (4, vI (hi)), (0, .ref (o)), (1, vI (a)), (2, vI (w))]) dX10_mended_181 (by decide) rfl ?_
                refine ev_iload 1 rfl dX10_mended_182 ?_
                refine ev_aload_n 6 rfl dX10_mended_184 ?_
                refine mg_25 hM dX10_mended_185 ?_
                refine ev_aload_n 6 rfl dX10_mended_188 ?_
                refine mg_31 hM dX10_mended_189 ?_
                refine ev_iload 2 rfl dX10_mended_192 ?_
                refine m_ld (k := 9) hM (by decide) dX10_mended_194 (by omega) (by show _ < ((40 : Nat) : Int); omega) ?_
                refine m_ld (k := 6) hM (by decide) dX10_mended_195 (by omega) (by show _ < ((8 : Nat) : Int); omega) ?_
                refine ev_iadd dX10_mended_196 ?_
                refine ev_iload 5 rfl dX10_mended_197 ?_
                refine ev_icmp_ge (tgt := 220) dX10_mended_199 (by first | assumption | exact hR _ _ | decide | (simp only [InR]; omega)) (by first | assumption | exact hR _ _ | decide | (simp only [InR]; omega)) (by decide) (fun c199 => ?_) (fun c199 => ?_)
                · refine ev_iload 5 rfl dX10_mended_220 ?_
                  refine ev_istore (L' := [(4, vI (hi)), (3, vI (((S 11 (S 41 k)) - (S 11 (S 42 k))) + (S 5 (S 9 (S 42 k))))), (8, vI ((S 11 (S 41 k)) - (S 11 (S 42 k)))), (7, vI (S 42 k)), (6, vI (S 41 k)), (5, vI (k)), (0, .ref (o)), (1, vI (a)), (2, vI (w))]) dX10_mended_222 (by decide) rfl ?_
                  refine ev_iinc (L' := [(5, vI (k + 1)), (4, vI (hi)), (3, vI (((S 11 (S 41 k)) - (S 11 (S 42 k))) + (S 5 (S 9 (S 42 k))))), (8, vI ((S 11 (S 41 k)) - (S 11 (S 42 k)))), (7, vI (S 42 k)), (6, vI (S 41 k)), (0, .ref (o)), (1, vI (a)), (2, vI (w))]) 5 rfl dX10_mended_224 (by decide) rfl ?_
                  refine ev_goto (tgt := 40) dX10_mended_227 (by decide) ?_
                  refine ev_pick (L' := [(5, vI (k + 1)), (4, vI (hi)), (3, vI (((S 11 (S 41 k)) - (S 11 (S 42 k))) + (S 5 (S 9 (S 42 k))))), (0, .ref (o)), (1, vI (a)), (2, vI (w))]) [0, 1, 2, 6, 7, 8] rfl ?_
                  exact ihk (k + 1) (by omega) (by omega) (((S 11 (S 41 k)) - (S 11 (S 42 k))) + (S 5 (S 9 (S 42 k)))) hi (by omega) (by rw [show (k + 1).toNat = k.toNat + 1 by omega, mLo, show ((k.toNat : Nat) : Int) = k by omega, ← hlo]; simp only [mA, mB]; (repeat' split) <;> first | rfl | omega) (by rw [show (k + 1).toNat = k.toNat + 1 by omega, mHi, show ((k.toNat : Nat) : Int) = k by omega, ← hhi]; simp only [mA, mB]; (repeat' split) <;> first | rfl | omega) (by omega)
                · refine ev_iload 1 rfl dX10_mended_202 ?_
                  refine ev_aload_n 6 rfl dX10_mended_204 ?_
                  refine mg_25 hM dX10_mended_205 ?_
                  refine ev_aload_n 6 rfl dX10_mended_208 ?_
                  refine mg_31 hM dX10_mended_209 ?_
                  refine ev_iload 2 rfl dX10_mended_212 ?_
                  refine m_ld (k := 9) hM (by decide) dX10_mended_214 (by omega) (by show _ < ((40 : Nat) : Int); omega) ?_
                  refine m_ld (k := 6) hM (by decide) dX10_mended_215 (by omega) (by show _ < ((8 : Nat) : Int); omega) ?_
                  refine ev_iadd dX10_mended_216 ?_
                  refine ev_goto (tgt := 222) dX10_mended_217 (by decide) ?_
                  refine ev_istore (L' := [(4, vI (((S 11 (S 41 k)) - (S 11 (S 42 k))) + (S 6 (S 9 (S 42 k))))), (3, vI (((S 11 (S 41 k)) - (S 11 (S 42 k))) + (S 5 (S 9 (S 42 k))))), (8, vI ((S 11 (S 41 k)) - (S 11 (S 42 k)))), (7, vI (S 42 k)), (6, vI (S 41 k)), (5, vI (k)), (0, .ref (o)), (1, vI (a)), (2, vI (w))]) dX10_mended_222 (by decide) rfl ?_
                  refine ev_iinc (L' := [(5, vI (k + 1)), (4, vI (((S 11 (S 41 k)) - (S 11 (S 42 k))) + (S 6 (S 9 (S 42 k))))), (3, vI (((S 11 (S 41 k)) - (S 11 (S 42 k))) + (S 5 (S 9 (S 42 k))))), (8, vI ((S 11 (S 41 k)) - (S 11 (S 42 k)))), (7, vI (S 42 k)), (6, vI (S 41 k)), (0, .ref (o)), (1, vI (a)), (2, vI (w))]) 5 rfl dX10_mended_224 (by decide) rfl ?_
                  refine ev_goto (tgt := 40) dX10_mended_227 (by decide) ?_
                  refine ev_pick (L' := [(5, vI (k + 1)), (4, vI (((S 11 (S 41 k)) - (S 11 (S 42 k))) + (S 6 (S 9 (S 42 k))))), (3, vI (((S 11 (S 41 k)) - (S 11 (S 42 k))) + (S 5 (S 9 (S 42 k))))), (0, .ref (o)), (1, vI (a)), (2, vI (w))]) [0, 1, 2, 6, 7, 8] rfl ?_
                  exact ihk (k + 1) (by omega) (by omega) (((S 11 (S 41 k)) - (S 11 (S 42 k))) + (S 5 (S 9 (S 42 k)))) (((S 11 (S 41 k)) - (S 11 (S 42 k))) + (S 6 (S 9 (S 42 k)))) (by omega) (by rw [show (k + 1).toNat = k.toNat + 1 by omega, mLo, show ((k.toNat : Nat) : Int) = k by omega, ← hlo]; simp only [mA, mB]; (repeat' split) <;> first | rfl | omega) (by rw [show (k + 1).toNat = k.toNat + 1 by omega, mHi, show ((k.toNat : Nat) : Int) = k by omega, ← hhi]; simp only [mA, mB]; (repeat' split) <;> first | rfl | omega) (by omega)
    · refine ev_if_ne (tgt := 22) dX10_mended_15 (by decide) (by decide) (fun c => absurd c (by decide)) (fun _ => ?_)
      refine ev_sipush dX10_mended_18 (by decide) ?_
      refine ev_ireturn dX10_mended_21 ?_
      refine ⟨_, rfl, ?_, hM⟩
      simp only [sp_mended]; rw [if_pos (by omega)]
  · refine ev_if_eq (tgt := 18) dX10_mended_5 (by decide) (by decide) (fun _ => ?_) (fun c => absurd c (by decide))
    refine ev_sipush dX10_mended_18 (by decide) ?_
    refine ev_ireturn dX10_mended_21 ?_
    refine ⟨_, rfl, ?_, hM⟩
    simp only [sp_mended]; rw [if_pos (by omega)]

set_option maxHeartbeats 4000000 in
set_option maxRecDepth 100000 in
theorem m_moved {E : EV} {h : AH} {o : Nat} {ad : Nat → Nat} {S : MS} {a : Int} (hM : MR E o ad S h) (hI : Inv S) (g1 : InR a) : CM E yX10_moved cX10_moved 7 (some .int) 3 0 0 [.ref (o), vI (a)] h (qI (fun z h' => z = sp_moved S a ∧ ∃ S', MR E o ad S' h' ∧ eqx [17, 18] S S')) := by
  have hR := hM.2.2.2.2
  have hJ := hI
  obtain ⟨i1, i2, i3, i4, i5, i6, iSt, iSi, iWa, iSh, iLa, iS0, iS1, iZe⟩ := hJ
  refine CM.of (by decide) (Nat.le_of_ble_eq_true rfl) (L := [(0, .ref (o)), (1, vI (a))]) rfl ?_
  refine ev_aload_n 0 rfl dX10_moved_0 ?_
  refine ev_iload_n 1 rfl dX10_moved_1 ?_
  refine c_X10_160 (m_isStation hM hI (by first | assumption | exact hR _ _ | decide | (simp only [InR]; omega))) hM.1 rfl rfl (Nat.le_of_ble_eq_true rfl) (by decide) dX10_moved_2 (kB (fun b2 => ?_) (fun b2 => ?_))
  · refine ev_if_ne (tgt := 10) dX10_moved_5 (by decide) (by decide) (fun _ => ?_) (fun c => absurd c (by decide))
    refine ev_iconst dX10_moved_10 ?_
    refine ev_istore_n (L' := [(2, vI (0)), (0, .ref (o)), (1, vI (a))]) dX10_moved_11 (by decide) rfl ?_
    refine ev_iconst dX10_moved_12 ?_
    refine ev_istore_n (L' := [(3, vI (0)), (2, vI (0)), (0, .ref (o)), (1, vI (a))]) dX10_moved_13 (by decide) rfl ?_
    refine ev_iconst dX10_moved_14 ?_
    refine ev_istore (L' := [(4, vI (0)), (3, vI (0)), (2, vI (0)), (0, .ref (o)), (1, vI (a))]) dX10_moved_15 (by decide) rfl ?_
    refine up_ind (P := fun k : Int => ∀ (xm : Int) (xn : Int) (S1 : MS) (h2 : AH), 0 ≤ k → MR E o ad S1 h2 → eqx [17, 18] S S1 → xm = sumI (mvM S a) k → xn = sumI (mvN S a) k → ((0 ≤ xm ∧ xm ≤ k) ∧ 0 ≤ xn ∧ xn ≤ k) → Ev E RX10 cX10_moved 7 (some .int) "moved" (qI (fun z h' => z = sp_moved S a ∧ ∃ S', MR E o ad S' h' ∧ eqx [17, 18] S S')) 3 0 0 17 [(4, vI (k)), (3, vI (xn)), (2, vI (xm)), (0, .ref (o)), (1, vI (a))] [] h2) (N := S 40 0) ?_ 0 (by omega) 0 0 S h (by omega) hM eqx.rf (rfl) (rfl) (by omega)
    intro k ihk hkN xm xn S1 h2 pk hM3 hx4 hxm hxn hxb
    have hRS1 := hM3.2.2.2.2
    have hxS1 : eqx scr S S1 := (eqx.rf (l := scr) (S := S)).tr hx4 (by decide) (by decide)
    have hIS1 := Inv.x hI hxS1
    refine ev_iload 0 rfl dX10_moved_17 ?_
    refine ev_aload_n 3 rfl dX10_moved_19 ?_
    refine mgE_301 (v := S 40 0) hM3 (by rw [hx4 40 (by decide)]) dX10_moved_20 ?_
    refine ev_icmp_ge (tgt := 114) dX10_moved_23 (by first | assumption | exact hR _ _ | exact hRS1 _ _ | decide | (simp only [InR]; omega)) (by first | assumption | exact hR _ _ | exact hRS1 _ _ | decide | (simp only [InR]; omega)) (by decide) (fun c23 => ?_) (fun c23 => ?_)
    · refine ev_iload_n 2 rfl dX10_moved_114 ?_
      refine ev_iconst dX10_moved_115 ?_
      refine ev_icmp_ge (tgt := 124) dX10_moved_116 (by first | assumption | exact hR _ _ | exact hRS1 _ _ | decide | (simp only [InR]; omega)) (by decide) (by decide) (fun c116 => ?_) (fun c116 => ?_)
      · refine ev_iconst dX10_moved_124 ?_
        refine ev_iload_n 1 rfl dX10_moved_125 ?_
        refine ev_imul dX10_moved_126 ?_
        refine ev_iload_n 2 rfl dX10_moved_127 ?_
        refine ev_icmp_le (tgt := 135) dX10_moved_128 (by first | assumption | exact hR _ _ | exact hRS1 _ _ | decide | (simp only [InR]; omega)) (by first | assumption | exact hR _ _ | exact hRS1 _ _ | decide | (simp only [InR]; omega)) (by decide) (fun c128 => ?_) (fun c128 => ?_)
        · refine ev_iconst dX10_moved_135 ?_
          refine ev_ireturn dX10_moved_136 ?_
          have e0 : k = S 40 0 := by omega
          rw [e0] at hxm hxn
          refine ⟨_, rfl, ?_, S1, hM3, (eqx.tr (l := [17, 18]) (eqx.rf (l := [17, 18]) (S := S)) hx4 (by decide) (by decide))⟩
          simp only [sp_moved]; rw [if_neg (by omega), ← hxm, ← hxn]; (repeat' split) <;> first | rfl | omega
        · refine ev_iconst dX10_moved_131 ?_
          refine ev_goto (tgt := 136) dX10_moved_132 (by decide) ?_
          refine ev_ireturn dX10_moved_136 ?_
          have e0 : k = S 40 0 := by omega
          rw [e0] at hxm hxn
          refine ⟨_, rfl, ?_, S1, hM3, (eqx.tr (l := [17, 18]) (eqx.rf (l := [17, 18]) (S := S)) hx4 (by decide) (by decide))⟩
          simp only [sp_moved]; rw [if_neg (by omega), ← hxm, ← hxn]; (repeat' split) <;> first | rfl | omega
      · refine ev_bipush dX10_moved_119 (by decide) ?_
        refine ev_goto (tgt := 136) dX10_moved_121 (by decide) ?_
        refine ev_ireturn dX10_moved_136 ?_
        have e0 : k = S 40 0 := by omega
        rw [e0] at hxm hxn
        refine ⟨_, rfl, ?_, S1, hM3, (eqx.tr (l := [17, 18]) (eqx.rf (l := [17, 18]) (S := S)) hx4 (by decide) (by decide))⟩
        simp only [sp_moved]; rw [if_neg (by omega), ← hxm, ← hxn]; (repeat' split) <;> first | rfl | omega
    · obtain ⟨k1, k2, k3⟩ := iSh k (by omega) (by omega)
      obtain ⟨k14, k4, _, k5, _⟩ := iSi _ k1.1 k1.2
      obtain ⟨k15, k6, _, k7, _⟩ := iSi _ k2.1 k2.2
      refine ev_aload_n 3 rfl dX10_moved_26 ?_
      refine mg_110 hM3 dX10_moved_27 ?_
      refine ev_iload 0 rfl dX10_moved_30 ?_
      refine m_ldE (k := 41) (v := S 41 k) hM3 (by decide) (by rw [hx4 41 (by decide)]) dX10_moved_32 (by omega) (by show _ < ((20 : Nat) : Int); omega) ?_
      refine ev_istore (L' := [(5, vI (S 41 k)), (4, vI (k)), (3, vI (xn)), (2, vI (xm)), (0, .ref (o)), (1, vI (a))]) dX10_moved_33 (by decide) rfl ?_
      refine ev_aload_n 4 rfl dX10_moved_35 ?_
      refine mg_113 hM3 dX10_moved_36 ?_
      refine ev_iload 1 rfl dX10_moved_39 ?_
      refine m_ldE (k := 42) (v := S 42 k) hM3 (by decide) (by rw [hx4 42 (by decide)]) dX10_moved_41 (by omega) (by show _ < ((20 : Nat) : Int); omega) ?_
      refine ev_istore (L' := [(6, vI (S 42 k)), (5, vI (S 41 k)), (4, vI (k)), (3, vI (xn)), (2, vI (xm)), (0, .ref (o)), (1, vI (a))]) dX10_moved_42 (by decide) rfl ?_
      refine ev_aload_n 5 rfl dX10_moved_44 ?_
      refine mg_31 hM3 dX10_moved_45 ?_
      refine ev_iload 1 rfl dX10_moved_48 ?_
      refine m_ldE (k := 9) (v := S 9 (S 41 k)) hM3 (by decide) (by rw [hx4 9 (by decide)]) dX10_moved_50 (by omega) (by show _ < ((40 : Nat) : Int); omega) ?_
      refine ev_iload_n 6 rfl dX10_moved_51 ?_
      refine ev_icmp_eq (tgt := 66) dX10_moved_52 (by first | assumption | exact hR _ _ | exact hRS1 _ _ | decide | (simp only [InR]; omega)) (by first | assumption | exact hR _ _ | exact hRS1 _ _ | decide | (simp only [InR]; omega)) (by decide) (fun c52 => ?_) (fun c52 => ?_)
      · refine ev_aload_n 5 rfl dX10_moved_66 ?_
        refine mg_28 hM3 dX10_moved_67 ?_
        refine ev_iload 1 rfl dX10_moved_70 ?_
        refine m_ldE (k := 8) (v := S 8 (S 41 k)) hM3 (by decide) (by rw [hx4 8 (by decide)]) dX10_moved_72 (by omega) (by show _ < ((40 : Nat) : Int); omega) ?_
        refine ev_if_le (tgt := 108) dX10_moved_73 (by first | assumption | exact hR _ _ | exact hRS1 _ _ | decide | (simp only [InR]; omega)) (by decide) (fun c73 => ?_) (fun c73 => ?_)
        · refine ev_iinc (L' := [(4, vI (k + 1)), (6, vI (S 42 k)), (5, vI (S 41 k)), (3, vI (xn)), (2, vI (xm)), (0, .ref (o)), (1, vI (a))]) 2 rfl dX10_moved_108 (by decide) rfl ?_
          refine ev_goto (tgt := 17) dX10_moved_111 (by decide) ?_
          refine ev_pick (L' := [(4, vI (k + 1)), (3, vI (xn)), (2, vI (xm)), (0, .ref (o)), (1, vI (a))]) [0, 3, 4, 5, 6] rfl ?_
          exact ihk (k + 1) (by omega) (by omega) xm xn S1 h2 (by omega) hM3 hx4 (by rw [sumI_s _ (by omega), ← hxm]; simp only [mvM]; first | (rw [if_neg (by omega)]; omega) | (rw [if_pos (by omega)])) (by rw [sumI_s _ (by omega), ← hxn]; simp only [mvN]; first | (rw [if_neg (by omega)]; omega) | (rw [if_pos (by omega), iteP_pos (by assumption)]) | (rw [if_pos (by omega), iteP_neg (by assumption)])) (by omega)
        · refine ev_aload_n 5 rfl dX10_moved_76 ?_
          refine mg_28 hM3 dX10_moved_77 ?_
          refine ev_iload 0 rfl dX10_moved_80 ?_
          refine m_ldE (k := 8) (v := S 8 (S 42 k)) hM3 (by decide) (by rw [hx4 8 (by decide)]) dX10_moved_82 (by omega) (by show _ < ((40 : Nat) : Int); omega) ?_
          refine ev_if_le (tgt := 108) dX10_moved_83 (by first | assumption | exact hR _ _ | exact hRS1 _ _ | decide | (simp only [InR]; omega)) (by decide) (fun c83 => ?_) (fun c83 => ?_)
          · refine ev_iinc (L' := [(4, vI (k + 1)), (6, vI (S 42 k)), (5, vI (S 41 k)), (3, vI (xn)), (2, vI (xm)), (0, .ref (o)), (1, vI (a))]) 2 rfl dX10_moved_108 (by decide) rfl ?_
            refine ev_goto (tgt := 17) dX10_moved_111 (by decide) ?_
            refine ev_pick (L' := [(4, vI (k + 1)), (3, vI (xn)), (2, vI (xm)), (0, .ref (o)), (1, vI (a))]) [0, 3, 4, 5, 6] rfl ?_
            exact ihk (k + 1) (by omega) (by omega) xm xn S1 h2 (by omega) hM3 hx4 (by rw [sumI_s _ (by omega), ← hxm]; simp only [mvM]; first | (rw [if_neg (by omega)]; omega) | (rw [if_pos (by omega)])) (by rw [sumI_s _ (by omega), ← hxn]; simp only [mvN]; first | (rw [if_neg (by omega)]; omega) | (rw [if_pos (by omega), iteP_pos (by assumption)]) | (rw [if_pos (by omega), iteP_neg (by assumption)])) (by omega)
          · refine ev_iinc (L' := [(2, vI (xm + 1)), (6, vI (S 42 k)), (5, vI (S 41 k)), (4, vI (k)), (3, vI (xn)), (0, .ref (o)), (1, vI (a))]) 4 rfl dX10_moved_86 (by decide) rfl ?_
            refine ev_iload_n 4 rfl dX10_moved_89 ?_
            refine ev_aload_n 5 rfl dX10_moved_90 ?_
            refine ev_iload 2 rfl dX10_moved_91 ?_
            refine ev_iload 1 rfl dX10_moved_93 ?_
            refine c_X10_223 (m_crosses (a := S 41 k) (b := S 42 k) hM3 hIS1 (by rw [hxS1 7 (by decide)]; omega) (by rw [hxS1 7 (by decide)]; omega)) hM3.1 rfl rfl (Nat.le_of_ble_eq_true rfl) (by decide) dX10_moved_95 (kI (fun z5 h6 hqz5 => ?_))
            obtain ⟨S7, hM8, ex9, ⟨rfl, b95, r95, s95⟩ | ⟨rfl, b95⟩⟩ := hqz5
            · rw [CrP_x hxS1] at b95
              rw [rZ_x hxS1] at r95
              rw [sZ_x hxS1] at s95
              have hRS7 := hM8.2.2.2.2
              have hxS7 : eqx scr S S7 := (hxS1).tr ex9 (by decide) (by decide)
              have hIS7 := Inv.x hI hxS7
              refine ev_if_eq (tgt := 105) dX10_moved_98 (by decide) (by decide) (fun c => absurd c (by decide)) (fun _ => ?_)
              refine ev_iconst dX10_moved_101 ?_
              refine ev_goto (tgt := 106) dX10_moved_102 (by decide) ?_
              refine ev_iadd dX10_moved_106 ?_
              refine ev_istore_n (L' := [(3, vI (xn + 0)), (2, vI (xm + 1)), (6, vI (S 42 k)), (5, vI (S 41 k)), (4, vI (k)), (0, .ref (o)), (1, vI (a))]) dX10_moved_107 (by decide) rfl ?_
              refine ev_iinc (L' := [(4, vI (k + 1)), (3, vI (xn + 0)), (2, vI (xm + 1)), (6, vI (S 42 k)), (5, vI (S 41 k)), (0, .ref (o)), (1, vI (a))]) 4 rfl dX10_moved_108 (by decide) rfl ?_
              refine ev_goto (tgt := 17) dX10_moved_111 (by decide) ?_
              refine ev_pick (L' := [(4, vI (k + 1)), (3, vI (xn + 0)), (2, vI (xm + 1)), (0, .ref (o)), (1, vI (a))]) [0, 1, 2, 5, 6] rfl ?_
              exact ihk (k + 1) (by omega) (by omega) (xm + 1) (xn + 0) S7 h6 (by omega) hM8 (eqx.tr (l := [17, 18]) hx4 ex9 (by decide) (by decide)) (by rw [sumI_s _ (by omega), ← hxm]; simp only [mvM]; first | (rw [if_neg (by omega)]; omega) | (rw [if_pos (by omega)])) (by rw [sumI_s _ (by omega), ← hxn]; simp only [mvN]; first | (rw [if_neg (by omega)]; omega) | (rw [if_pos (by omega), iteP_pos (by assumption)]) | (rw [if_pos (by omega), iteP_neg (by assumption)])) (by omega)
            · rw [CrP_x hxS1] at b95
              have hRS7 := hM8.2.2.2.2
              have hxS7 : eqx scr S S7 := (hxS1).tr ex9 (by decide) (by decide)
              have hIS7 := Inv.x hI hxS7
              refine ev_if_eq (tgt := 105) dX10_moved_98 (by decide) (by decide) (fun _ => ?_) (fun c => absurd c (by decide))
              refine ev_iconst dX10_moved_105 ?_
              refine ev_iadd dX10_moved_106 ?_
              refine ev_istore_n (L' := [(3, vI (xn + 1)), (2, vI (xm + 1)), (6, vI (S 42 k)), (5, vI (S 41 k)), (4, vI (k)), (0, .ref (o)), (1, vI (a))]) dX10_moved_107 (by decide) rfl ?_
              refine ev_iinc (L' := [(4, vI (k + 1)), (3, vI (xn + 1)), (2, vI (xm + 1)), (6, vI (S 42 k)), (5, vI (S 41 k)), (0, .ref (o)), (1, vI (a))]) 4 rfl dX10_moved_108 (by decide) rfl ?_
              refine ev_goto (tgt := 17) dX10_moved_111 (by decide) ?_
              refine ev_pick (L' := [(4, vI (k + 1)), (3, vI (xn + 1)), (2, vI (xm + 1)), (0, .ref (o)), (1, vI (a))]) [0, 1, 2, 5, 6] rfl ?_
              exact ihk (k + 1) (by omega) (by omega) (xm + 1) (xn + 1) S7 h6 (by omega) hM8 (eqx.tr (l := [17, 18]) hx4 ex9 (by decide) (by decide)) (by rw [sumI_s _ (by omega), ← hxm]; simp only [mvM]; first | (rw [if_neg (by omega)]; omega) | (rw [if_pos (by omega)])) (by rw [sumI_s _ (by omega), ← hxn]; simp only [mvN]; first | (rw [if_neg (by omega)]; omega) | (rw [if_pos (by omega), iteP_pos (by assumption)]) | (rw [if_pos (by omega), iteP_neg (by assumption)])) (by omega)
      · refine ev_aload_n 5 rfl dX10_moved_55 ?_
        refine mg_31 hM3 dX10_moved_56 ?_
        refine ev_iload 0 rfl dX10_moved_59 ?_
        refine m_ldE (k := 9) (v := S 9 (S 42 k)) hM3 (by decide) (by rw [hx4 9 (by decide)]) dX10_moved_61 (by omega) (by show _ < ((40 : Nat) : Int); omega) ?_
        refine ev_iload_n 6 rfl dX10_moved_62 ?_
        refine ev_icmp_ne (tgt := 108) dX10_moved_63 (by first | assumption | exact hR _ _ | exact hRS1 _ _ | decide | (simp only [InR]; omega)) (by first | assumption | exact hR _ _ | exact hRS1 _ _ | decide | (simp only [InR]; omega)) (by decide) (fun c63 => ?_) (fun c63 => ?_)
        · refine ev_iinc (L' := [(4, vI (k + 1)), (6, vI (S 42 k)), (5, vI (S 41 k)), (3, vI (xn)), (2, vI (xm)), (0, .ref (o)), (1, vI (a))]) 2 rfl dX10_moved_108 (by decide) rfl ?_
          refine ev_goto (tgt := 17) dX10_moved_111 (by decide) ?_
          refine ev_pick (L' := [(4, vI (k + 1)), (3, vI (xn)), (2, vI (xm)), (0, .ref (o)), (1, vI (a))]) [0, 3, 4, 5, 6] rfl ?_
          exact ihk (k + 1) (by omega) (by omega) xm xn S1 h2 (by omega) hM3 hx4 (by rw [sumI_s _ (by omega), ← hxm]; simp only [mvM]; first | (rw [if_neg (by omega)]; omega) | (rw [if_pos (by omega)])) (by rw [sumI_s _ (by omega), ← hxn]; simp only [mvN]; first | (rw [if_neg (by omega)]; omega) | (rw [if_pos (by omega), iteP_pos (by assumption)]) | (rw [if_pos (by omega), iteP_neg (by assumption)])) (by omega)
        · refine ev_aload_n 5 rfl dX10_moved_66 ?_
          refine mg_28 hM3 dX10_moved_67 ?_
          refine ev_iload 1 rfl dX10_moved_70 ?_
          refine m_ldE (k := 8) (v := S 8 (S 41 k)) hM3 (by decide) (by rw [hx4 8 (by decide)]) dX10_moved_72 (by omega) (by show _ < ((40 : Nat) : Int); omega) ?_
          refine ev_if_le (tgt := 108) dX10_moved_73 (by first | assumption | exact hR _ _ | exact hRS1 _ _ | decide | (simp only [InR]; omega)) (by decide) (fun c73 => ?_) (fun c73 => ?_)
          · refine ev_iinc (L' := [(4, vI (k + 1)), (6, vI (S 42 k)), (5, vI (S 41 k)), (3, vI (xn)), (2, vI (xm)), (0, .ref (o)), (1, vI (a))]) 2 rfl dX10_moved_108 (by decide) rfl ?_
            refine ev_goto (tgt := 17) dX10_moved_111 (by decide) ?_
            refine ev_pick (L' := [(4, vI (k + 1)), (3, vI (xn)), (2, vI (xm)), (0, .ref (o)), (1, vI (a))]) [0, 3, 4, 5, 6] rfl ?_
            exact ihk (k + 1) (by omega) (by omega) xm xn S1 h2 (by omega) hM3 hx4 (by rw [sumI_s _ (by omega), ← hxm]; simp only [mvM]; first | (rw [if_neg (by omega)]; omega) | (rw [if_pos (by omega)])) (by rw [sumI_s _ (by omega), ← hxn]; simp only [mvN]; first | (rw [if_neg (by omega)]; omega) | (rw [if_pos (by omega), iteP_pos (by assumption)]) | (rw [if_pos (by omega), iteP_neg (by assumption)])) (by omega)
          · refine ev_aload_n 5 rfl dX10_moved_76 ?_
            refine mg_28 hM3 dX10_moved_77 ?_
            refine ev_iload 0 rfl dX10_moved_80 ?_
            refine m_ldE (k := 8) (v := S 8 (S 42 k)) hM3 (by decide) (by rw [hx4 8 (by decide)]) dX10_moved_82 (by omega) (by show _ < ((40 : Nat) : Int); omega) ?_
            refine ev_if_le (tgt := 108) dX10_moved_83 (by first | assumption | exact hR _ _ | exact hRS1 _ _ | decide | (simp only [InR]; omega)) (by decide) (fun c83 => ?_) (fun c83 => ?_)
            · refine ev_iinc (L' := [(4, vI (k + 1)), (6, vI (S 42 k)), (5, vI (S 41 k)), (3, vI (xn)), (2, vI (xm)), (0, .ref (o)), (1, vI (a))]) 2 rfl dX10_moved_108 (by decide) rfl ?_
              refine ev_goto (tgt := 17) dX10_moved_111 (by decide) ?_
              refine ev_pick (L' := [(4, vI (k + 1)), (3, vI (xn)), (2, vI (xm)), (0, .ref (o)), (1, vI (a))]) [0, 3, 4, 5, 6] rfl ?_
              exact ihk (k + 1) (by omega) (by omega) xm xn S1 h2 (by omega) hM3 hx4 (by rw [sumI_s _ (by omega), ← hxm]; simp only [mvM]; first | (rw [if_neg (by omega)]; omega) | (rw [if_pos (by omega)])) (by rw [sumI_s _ (by omega), ← hxn]; simp only [mvN]; first | (rw [if_neg (by omega)]; omega) | (rw [if_pos (by omega), iteP_pos (by assumption)]) | (rw [if_pos (by omega), iteP_neg (by assumption)])) (by omega)
            · refine ev_iinc (L' := [(2, vI (xm + 1)), (6, vI (S 42 k)), (5, vI (S 41 k)), (4, vI (k)), (3, vI (xn)), (0, .ref (o)), (1, vI (a))]) 4 rfl dX10_moved_86 (by decide) rfl ?_
              refine ev_iload_n 4 rfl dX10_moved_89 ?_
              refine ev_aload_n 5 rfl dX10_moved_90 ?_
              refine ev_iload 2 rfl dX10_moved_91 ?_
              refine ev_iload 1 rfl dX10_moved_93 ?_
              refine c_X10_223 (m_crosses (a := S 41 k) (b := S 42 k) hM3 hIS1 (by rw [hxS1 7 (by decide)]; omega) (by rw [hxS1 7 (by decide)]; omega)) hM3.1 rfl rfl (Nat.le_of_ble_eq_true rfl) (by decide) dX10_moved_95 (kI (fun z10 h11 hqz10 => ?_))
              obtain ⟨S12, hM13, ex14, ⟨rfl, b95, r95, s95⟩ | ⟨rfl, b95⟩⟩ := hqz10
              · rw [CrP_x hxS1] at b95
                rw [rZ_x hxS1] at r95
                rw [sZ_x hxS1] at s95
                have hRS12 := hM13.2.2.2.2
                have hxS12 : eqx scr S S12 := (hxS1).tr ex14 (by decide) (by decide)
                have hIS12 := Inv.x hI hxS12
                refine ev_if_eq (tgt := 105) dX10_moved_98 (by decide) (by decide) (fun c => absurd c (by decide)) (fun _ => ?_)
                refine ev_iconst dX10_moved_101 ?_
                refine ev_goto (tgt := 106) dX10_moved_102 (by decide) ?_
                refine ev_iadd dX10_moved_106 ?_
                refine ev_istore_n (L' := [(3, vI (xn + 0)), (2, vI (xm + 1)), (6, vI (S 42 k)), (5, vI (S 41 k)), (4, vI (k)), (0, .ref (o)), (1, vI (a))]) dX10_moved_107 (by decide) rfl ?_
                refine ev_iinc (L' := [(4, vI (k + 1)), (3, vI (xn + 0)), (2, vI (xm + 1)), (6, vI (S 42 k)), (5, vI (S 41 k)), (0, .ref (o)), (1, vI (a))]) 4 rfl dX10_moved_108 (by decide) rfl ?_
                refine ev_goto (tgt := 17) dX10_moved_111 (by decide) ?_
                refine ev_pick (L' := [(4, vI (k + 1)), (3, vI (xn + 0)), (2, vI (xm + 1)), (0, .ref (o)), (1, vI (a))]) [0, 1, 2, 5, 6] rfl ?_
                exact ihk (k + 1) (by omega) (by omega) (xm + 1) (xn + 0) S12 h11 (by omega) hM13 (eqx.tr (l := [17, 18]) hx4 ex14 (by decide) (by decide)) (by rw [sumI_s _ (by omega), ← hxm]; simp only [mvM]; first | (rw [if_neg (by omega)]; omega) | (rw [if_pos (by omega)])) (by rw [sumI_s _ (by omega), ← hxn]; simp only [mvN]; first | (rw [if_neg (by omega)]; omega) | (rw [if_pos (by omega), iteP_pos (by assumption)]) | (rw [if_pos (by omega), iteP_neg (by assumption)])) (by omega)
              · rw [CrP_x hxS1] at b95
                have hRS12 := hM13.2.2.2.2
                have hxS12 : eqx scr S S12 := (hxS1).tr ex14 (by decide) (by decide)
                have hIS12 := Inv.x hI hxS12
                refine ev_if_eq (tgt := 105) dX10_moved_98 (by decide) (by decide) (fun _ => ?_) (fun c => absurd c (by decide))
                refine ev_iconst dX10_moved_105 ?_
                refine ev_iadd dX10_moved_106 ?_
                refine ev_istore_n (L' := [(3, vI (xn + 1)), (2, vI (xm + 1)), (6, vI (S 42 k)), (5, vI (S 41 k)), (4, vI (k)), (0, .ref (o)), (1, vI (a))]) dX10_moved_107 (by decide) rfl ?_
                refine ev_iinc (L' := [(4, vI (k + 1)), (3, vI (xn + 1)), (2, vI (xm + 1)), (6, vI (S 42 k)), (5, vI (S 41 k)), (0, .ref (o)), (1, vI (a))]) 4 rfl dX10_moved_108 (by decide) rfl ?_
                refine ev_goto (tgt := 17) dX10_moved_111 (by decide) ?_
                refine ev_pick (L' := [(4, vI (k + 1)), (3, vI (xn + 1)), (2, vI (xm + 1)), (0, .ref (o)), (1, vI (a))]) [0, 1, 2, 5, 6] rfl ?_
                exact ihk (k + 1) (by omega) (by omega) (xm + 1) (xn + 1) S12 h11 (by omega) hM13 (eqx.tr (l := [17, 18]) hx4 ex14 (by decide) (by decide)) (by rw [sumI_s _ (by omega), ← hxm]; simp only [mvM]; first | (rw [if_neg (by omega)]; omega) | (rw [if_pos (by omega)])) (by rw [sumI_s _ (by omega), ← hxn]; simp only [mvN]; first | (rw [if_neg (by omega)]; omega) | (rw [if_pos (by omega), iteP_pos (by assumption)]) | (rw [if_pos (by omega), iteP_neg (by assumption)])) (by omega)
  · refine ev_if_ne (tgt := 10) dX10_moved_5 (by decide) (by decide) (fun c => absurd c (by decide)) (fun _ => ?_)
    refine ev_iconst dX10_moved_8 ?_
    refine ev_ireturn dX10_moved_9 ?_
    refine ⟨_, rfl, ?_, S, hM, (eqx.rf (l := [17, 18]) (S := S))⟩
    simp only [sp_moved]; rw [if_pos (by omega)]

set_option maxHeartbeats 4000000 in
set_option maxRecDepth 100000 in
theorem m_isSheet (E : EV) {h : AH} {s l : Int} (g1 : InR s) (g2 : InR l) : CM E yX10_isSheet cX10_isSheet 2 (some .boolean) 1 0 0 [vI (s), vI (l)] h (qB (SH s l) h) := by
  refine CM.of (by decide) (Nat.le_of_ble_eq_true rfl) (L := [(0, vI (s)), (1, vI (l))]) rfl ?_
  refine ev_iload_n 0 rfl dX10_isSheet_0 ?_
  refine ev_i2l dX10_isSheet_1 (by first | assumption | exact hR _ _ | decide | (simp only [InR]; omega)) ?_
  refine ev_lconst (z := 0) dX10_isSheet_2 (by decide) ?_
  refine ev_ldc2 (z := 3) dX10_isSheet_3 k_X10_289 (by decide) ?_
  refine c_X10_143 (m_in E (v := s) (a := 0) (b := 3) (by first | assumption | exact hR _ _ | decide | (simp only [InL]; omega)) (by decide) (by decide)) rfl rfl (Nat.le_of_ble_eq_true rfl) (by decide) dX10_isSheet_6 (kB (fun b6 => ?_) (fun b6 => ?_))
  · refine ev_if_eq (tgt := 28) dX10_isSheet_9 (by decide) (by decide) (fun c => absurd c (by decide)) (fun _ => ?_)
    refine ev_iload_n 1 rfl dX10_isSheet_12 ?_
    refine ev_i2l dX10_isSheet_13 (by first | assumption | exact hR _ _ | decide | (simp only [InR]; omega)) ?_
    refine ev_lconst (z := 0) dX10_isSheet_14 (by decide) ?_
    refine ev_ldc2 (z := 2) dX10_isSheet_15 k_X10_141 (by decide) ?_
    refine c_X10_143 (m_in E (v := l) (a := 0) (b := 2) (by first | assumption | exact hR _ _ | decide | (simp only [InL]; omega)) (by decide) (by decide)) rfl rfl (Nat.le_of_ble_eq_true rfl) (by decide) dX10_isSheet_18 (kB (fun b18 => ?_) (fun b18 => ?_))
    · refine ev_if_eq (tgt := 28) dX10_isSheet_21 (by decide) (by decide) (fun c => absurd c (by decide)) (fun _ => ?_)
      refine ev_iconst dX10_isSheet_24 ?_
      refine ev_goto (tgt := 29) dX10_isSheet_25 (by decide) ?_
      refine ev_zreturn (by decide) dX10_isSheet_29 ?_
      first | exact ⟨rfl, Or.inl ⟨rfl, by omega⟩⟩ | exact ⟨rfl, Or.inr ⟨rfl, by omega⟩⟩
    · refine ev_if_eq (tgt := 28) dX10_isSheet_21 (by decide) (by decide) (fun _ => ?_) (fun c => absurd c (by decide))
      refine ev_iconst dX10_isSheet_28 ?_
      refine ev_zreturn (by decide) dX10_isSheet_29 ?_
      first | exact ⟨rfl, Or.inl ⟨rfl, by omega⟩⟩ | exact ⟨rfl, Or.inr ⟨rfl, by omega⟩⟩
  · refine ev_if_eq (tgt := 28) dX10_isSheet_9 (by decide) (by decide) (fun _ => ?_) (fun c => absurd c (by decide))
    refine ev_iconst dX10_isSheet_28 ?_
    refine ev_zreturn (by decide) dX10_isSheet_29 ?_
    first | exact ⟨rfl, Or.inl ⟨rfl, by omega⟩⟩ | exact ⟨rfl, Or.inr ⟨rfl, by omega⟩⟩

set_option maxHeartbeats 4000000 in
set_option maxRecDepth 100000 in
theorem m_drop {E : EV} {h : AH} {o : Nat} {ad : Nat → Nat} {S : MS} {s : Int} (hM : MR E o ad S h) (hI : Inv S) (g1 : InR s) : CM E yX10_drop cX10_drop 2 (some .int) 2 0 0 [.ref (o), vI (s)] h (qI (fun z h' => z = sp_drop S s ∧ MR E o ad (nx_drop S s) h')) := by
  have hR := hM.2.2.2.2
  have hJ := hI
  obtain ⟨i1, i2, i3, i4, i5, i6, iSt, iSi, iWa, iSh, iLa, iS0, iS1, iZe⟩ := hJ
  refine CM.of (by decide) (Nat.le_of_ble_eq_true rfl) (L := [(0, .ref (o)), (1, vI (s))]) rfl ?_
  refine ev_iload_n 1 rfl dX10_drop_0 ?_
  refine ev_i2l dX10_drop_1 (by first | assumption | exact hR _ _ | decide | (simp only [InR]; omega)) ?_
  refine ev_lconst (z := 0) dX10_drop_2 (by decide) ?_
  refine ev_ldc2 (z := 3) dX10_drop_3 k_X10_289 (by decide) ?_
  refine c_X10_143 (m_in E (v := s) (a := 0) (b := 3) (by first | assumption | exact hR _ _ | decide | (simp only [InL]; omega)) (by decide) (by decide)) rfl rfl (Nat.le_of_ble_eq_true rfl) (by decide) dX10_drop_6 (kB (fun b6 => ?_) (fun b6 => ?_))
  · refine ev_if_ne (tgt := 14) dX10_drop_9 (by decide) (by decide) (fun _ => ?_) (fun c => absurd c (by decide))
    refine ev_aload_n 0 rfl dX10_drop_14 ?_
    refine mg_116 hM dX10_drop_15 ?_
    refine ev_iload_n 1 rfl dX10_drop_18 ?_
    refine m_ld (k := 43) hM (by decide) dX10_drop_19 (by omega) (by show _ < ((4 : Nat) : Int); omega) ?_
    refine ev_if_ge (tgt := 26) dX10_drop_20 (by first | assumption | exact hR _ _ | decide | (simp only [InR]; omega)) (by decide) (fun c20 => ?_) (fun c20 => ?_)
    · refine ev_aload_n 0 rfl dX10_drop_26 ?_
      refine mg_116 hM dX10_drop_27 ?_
      refine ev_iload_n 1 rfl dX10_drop_30 ?_
      refine ev_iconst dX10_drop_31 ?_
      refine m_st (k := 43) hM (by decide) dX10_drop_32 (by omega) (by show _ < ((4 : Nat) : Int); omega) (by decide) (fun S1 h2 eS3 hM4 => ?_)
      have hRS1 := hM4.2.2.2.2
      refine ev_aload_n 0 rfl dX10_drop_33 ?_
      refine mg_119 hM4 dX10_drop_34 ?_
      refine ev_iload_n 1 rfl dX10_drop_37 ?_
      refine m_ldE (k := 44) (v := S 44 s) hM4 (by decide) (by rw [eS3, upS_ne (by decide)]) dX10_drop_38 (by omega) (by show _ < ((4 : Nat) : Int); omega) ?_
      refine ev_ireturn dX10_drop_39 ?_
      refine ⟨_, rfl, ?_, ?_⟩
      · simp only [sp_drop]; (repeat' split) <;> first | rfl | omega
      · subst eS3
        simp only [nx_drop]; first | (rw [if_pos (by omega)]; exact hM4) | (rw [if_neg (by omega)]; exact hM4)
    · refine ev_bipush dX10_drop_23 (by decide) ?_
      refine ev_ireturn dX10_drop_25 ?_
      refine ⟨_, rfl, ?_, ?_⟩
      · simp only [sp_drop]; (repeat' split) <;> first | rfl | omega
      · simp only [nx_drop]; first | (rw [if_pos (by omega)]; exact hM) | (rw [if_neg (by omega)]; exact hM)
  · refine ev_if_ne (tgt := 14) dX10_drop_9 (by decide) (by decide) (fun c => absurd c (by decide)) (fun _ => ?_)
    refine ev_iconst dX10_drop_12 ?_
    refine ev_ireturn dX10_drop_13 ?_
    refine ⟨_, rfl, ?_, ?_⟩
    · simp only [sp_drop]; (repeat' split) <;> first | rfl | omega
    · simp only [nx_drop]; first | (rw [if_pos (by omega)]; exact hM) | (rw [if_neg (by omega)]; exact hM)
