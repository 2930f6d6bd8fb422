set_option maxHeartbeats 4000000 in
set_option maxRecDepth 100000 in
theorem m_in (E : EV) {h : AH} {v a b : Int} (hv : InL v) (ha : InL a) (hb : InL b) : CM E yX10_in cX10_in 6 (some .boolean) 0 0 0 [vL (v), vL (a), vL (b)] h (qB (a ≤ v ∧ v ≤ b) h) := by
  refine CM.of (by decide) (Nat.le_of_ble_eq_true rfl) (L := [(0, vL (v)), (2, vL (a)), (4, vL (b))]) rfl ?_
  refine ev_lload_n 0 rfl dX10_in_0 ?_
  refine ev_lload_n 1 rfl dX10_in_1 ?_
  refine ev_lcmp_lt (tgt := 17) dX10_in_2 dX10_in_3 (by first | assumption | exact hR _ _ | decide | (simp only [InL]; omega)) (by first | assumption | exact hR _ _ | decide | (simp only [InL]; omega)) (by decide) (fun c2 => ?_) (fun c2 => ?_)
  · refine ev_iconst dX10_in_17 ?_
    refine ev_zreturn (by decide) dX10_in_18 ?_
    first | exact ⟨rfl, Or.inl ⟨rfl, by omega⟩⟩ | exact ⟨rfl, Or.inr ⟨rfl, by omega⟩⟩
  · refine ev_lload_n 0 rfl dX10_in_6 ?_
    refine ev_lload 2 rfl dX10_in_7 ?_
    refine ev_lcmp_gt (tgt := 17) dX10_in_9 dX10_in_10 (by first | assumption | exact hR _ _ | decide | (simp only [InL]; omega)) (by first | assumption | exact hR _ _ | decide | (simp only [InL]; omega)) (by decide) (fun c9 => ?_) (fun c9 => ?_)
    · refine ev_iconst dX10_in_17 ?_
      refine ev_zreturn (by decide) dX10_in_18 ?_
      first | exact ⟨rfl, Or.inl ⟨rfl, by omega⟩⟩ | exact ⟨rfl, Or.inr ⟨rfl, by omega⟩⟩
    · refine ev_iconst dX10_in_13 ?_
      refine ev_goto (tgt := 18) dX10_in_14 (by decide) ?_
      refine ev_zreturn (by decide) dX10_in_18 ?_
      first | exact ⟨rfl, Or.inl ⟨rfl, by omega⟩⟩ | exact ⟨rfl, Or.inr ⟨rfl, by omega⟩⟩

set_option maxHeartbeats 4000000 in
set_option maxRecDepth 100000 in
theorem m_isStation {E : EV} {h : AH} {o : Nat} {ad : Nat → Nat} {S : MS} {s : Int} (hM : MR E o ad S h) (hI : Inv S) (hs : InR s) : CM E yX10_isStation cX10_isStation 2 (some .boolean) 1 0 0 [.ref (o), vI (s)] h (qB (0 ≤ s ∧ s < S 2 0) h) := by
  have hR := hM.2.2.2.2
  have hJ := hI
  obtain ⟨i1, i2, i3, i4, i5, i6, iSt, iSi, iWa, iSh, iLa, iS0, iS1, iZe⟩ := hJ
  refine CM.of (by decide) (Nat.le_of_ble_eq_true rfl) (L := [(0, .ref (o)), (1, vI (s))]) rfl ?_
  refine ev_iload_n 1 rfl dX10_isStation_0 ?_
  refine ev_i2l dX10_isStation_1 (by first | assumption | exact hR _ _ | decide | (simp only [InR]; omega)) ?_
  refine ev_lconst (z := 0) dX10_isStation_2 (by decide) ?_
  refine ev_aload_n 0 rfl dX10_isStation_3 ?_
  refine mg_155 hM dX10_isStation_4 ?_
  refine ev_iconst dX10_isStation_7 ?_
  refine ev_isub dX10_isStation_8 ?_
  refine ev_i2l dX10_isStation_9 (by first | assumption | exact hR _ _ | decide | (simp only [InR]; omega)) ?_
  refine c_X10_143 (m_in E (v := s) (a := 0) (b := (S 2 0) - 1) (by first | assumption | exact hR _ _ | decide | (simp only [InL]; omega)) (by decide) (by first | assumption | exact hR _ _ | decide | (simp only [InL]; omega))) rfl rfl (Nat.le_of_ble_eq_true rfl) (by decide) dX10_isStation_10 (kB (fun b10 => ?_) (fun b10 => ?_))
  · refine ev_zreturn (by decide) dX10_isStation_13 ?_
    first | exact ⟨rfl, Or.inl ⟨rfl, by omega⟩⟩ | exact ⟨rfl, Or.inr ⟨rfl, by omega⟩⟩
  · refine ev_zreturn (by decide) dX10_isStation_13 ?_
    first | exact ⟨rfl, Or.inl ⟨rfl, by omega⟩⟩ | exact ⟨rfl, Or.inr ⟨rfl, by omega⟩⟩

set_option maxHeartbeats 4000000 in
set_option maxRecDepth 100000 in
theorem m_isSighting {E : EV} {h : AH} {o : Nat} {ad : Nat → Nat} {S : MS} {s : Int} (hM : MR E o ad S h) (hI : Inv S) (hs : InR s) : CM E yX10_isSighting cX10_isSighting 2 (some .boolean) 1 0 0 [.ref (o), vI (s)] h (qB (0 ≤ s ∧ s < S 7 0) h) := by
  have hR := hM.2.2.2.2
  have hJ := hI
  obtain ⟨i1, i2, i3, i4, i5, i6, iSt, iSi, iWa, iSh, iLa, iS0, iS1, iZe⟩ := hJ
  refine CM.of (by decide) (Nat.le_of_ble_eq_true rfl) (L := [(0, .ref (o)), (1, vI (s))]) rfl ?_
  refine ev_iload_n 1 rfl dX10_isSighting_0 ?_
  refine ev_i2l dX10_isSighting_1 (by first | assumption | exact hR _ _ | decide | (simp only [InR]; omega)) ?_
  refine ev_lconst (z := 0) dX10_isSighting_2 (by decide) ?_
  refine ev_aload_n 0 rfl dX10_isSighting_3 ?_
  refine mg_177 hM dX10_isSighting_4 ?_
  refine ev_iconst dX10_isSighting_7 ?_
  refine ev_isub dX10_isSighting_8 ?_
  refine ev_i2l dX10_isSighting_9 (by first | assumption | exact hR _ _ | decide | (simp only [InR]; omega)) ?_
  refine c_X10_143 (m_in E (v := s) (a := 0) (b := (S 7 0) - 1) (by first | assumption | exact hR _ _ | decide | (simp only [InL]; omega)) (by decide) (by first | assumption | exact hR _ _ | decide | (simp only [InL]; omega))) rfl rfl (Nat.le_of_ble_eq_true rfl) (by decide) dX10_isSighting_10 (kB (fun b10 => ?_) (fun b10 => ?_))
  · refine ev_zreturn (by decide) dX10_isSighting_13 ?_
    first | exact ⟨rfl, Or.inl ⟨rfl, by omega⟩⟩ | exact ⟨rfl, Or.inr ⟨rfl, by omega⟩⟩
  · refine ev_zreturn (by decide) dX10_isSighting_13 ?_
    first | exact ⟨rfl, Or.inl ⟨rfl, by omega⟩⟩ | exact ⟨rfl, Or.inr ⟨rfl, by omega⟩⟩

set_option maxHeartbeats 4000000 in
set_option maxRecDepth 100000 in
theorem m_isNight (E : EV) {h : AH} {n : Int} (hn : InR n) : CM E yX10_isNight cX10_isNight 1 (some .boolean) 1 0 0 [vI (n)] h (qB (0 ≤ n ∧ n < 400) h) := by
  refine CM.of (by decide) (Nat.le_of_ble_eq_true rfl) (L := [(0, vI (n))]) rfl ?_
  refine ev_iload_n 0 rfl dX10_isNight_0 ?_
  refine ev_i2l dX10_isNight_1 (by first | assumption | exact hR _ _ | decide | (simp only [InR]; omega)) ?_
  refine ev_lconst (z := 0) dX10_isNight_2 (by decide) ?_
  refine ev_ldc2 (z := 399) dX10_isNight_3 k_X10_168 (by decide) ?_
  refine c_X10_143 (m_in E (v := n) (a := 0) (b := 399) (by first | assumption | exact hR _ _ | decide | (simp only [InL]; omega)) (by decide) (by decide)) rfl rfl (Nat.le_of_ble_eq_true rfl) (by decide) dX10_isNight_6 (kB (fun b6 => ?_) (fun b6 => ?_))
  · refine ev_zreturn (by decide) dX10_isNight_9 ?_
    first | exact ⟨rfl, Or.inl ⟨rfl, by omega⟩⟩ | exact ⟨rfl, Or.inr ⟨rfl, by omega⟩⟩
  · refine ev_zreturn (by decide) dX10_isNight_9 ?_
    first | exact ⟨rfl, Or.inl ⟨rfl, by omega⟩⟩ | exact ⟨rfl, Or.inr ⟨rfl, by omega⟩⟩

set_option maxHeartbeats 4000000 in
set_option maxRecDepth 100000 in
theorem m_isTold {E : EV} {h : AH} {o : Nat} {ad : Nat → Nat} {S : MS} {a1 a2 a3 a4 a5 : Int} (hM : MR E o ad S h) (hI : Inv S) (g1 : InR a1) (g2 : InR a2) (g3 : InR a3) (g4 : InR a4) (g5 : InR a5) : CM E yX10_isTold cX10_isTold 6 (some .boolean) 2 0 0 [.ref (o), vI (a1), vI (a2), vI (a3), vI (a4), vI (a5)] h (qB ((0 ≤ a1 ∧ a1 < S 2 0) ∧ (0 ≤ a2 ∧ a2 < 400) ∧ (0 ≤ a3 ∧ a3 ≤ 1439) ∧ (0 ≤ a4 ∧ a4 ≤ 359) ∧ 2 ≤ a5 ∧ a5 ≤ 88) h) := by
  have hR := hM.2.2.2.2
  have hJ := hI
  obtain ⟨i1, i2, i3, i4, i5, i6, iSt, iSi, iWa, iSh, iLa, iS0, iS1, iZe⟩ := hJ
  refine CM.of (by decide) (Nat.le_of_ble_eq_true rfl) (L := [(0, .ref (o)), (1, vI (a1)), (2, vI (a2)), (3, vI (a3)), (4, vI (a4)), (5, vI (a5))]) rfl ?_
  refine ev_aload_n 0 rfl dX10_isTold_0 ?_
  refine ev_iload_n 1 rfl dX10_isTold_1 ?_
  refine c_X10_160 (m_isStation hM hI (by first | assumption | exact hR _ _ | decide | (simp only [InR]; omega))) hM.1 rfl rfl (Nat.le_of_ble_eq_true rfl) (by decide) dX10_isTold_2 (kB (fun b2 => ?_) (fun b2 => ?_))
  · refine ev_if_eq (tgt := 59) dX10_isTold_5 (by decide) (by decide) (fun c => absurd c (by decide)) (fun _ => ?_)
    refine ev_iload_n 2 rfl dX10_isTold_8 ?_
    refine c_X10_170 (m_isNight E (by first | assumption | exact hR _ _ | decide | (simp only [InR]; omega))) rfl rfl (Nat.le_of_ble_eq_true rfl) (by decide) dX10_isTold_9 (kB (fun b9 => ?_) (fun b9 => ?_))
    · refine ev_if_eq (tgt := 59) dX10_isTold_12 (by decide) (by decide) (fun c => absurd c (by decide)) (fun _ => ?_)
      refine ev_iload_n 3 rfl dX10_isTold_15 ?_
      refine ev_i2l dX10_isTold_16 (by first | assumption | exact hR _ _ | decide | (simp only [InR]; omega)) ?_
      refine ev_lconst (z := 0) dX10_isTold_17 (by decide) ?_
      refine ev_ldc2 (z := 1439) dX10_isTold_18 k_X10_173 (by decide) ?_
      refine c_X10_143 (m_in E (v := a3) (a := 0) (b := 1439) (by first | assumption | exact hR _ _ | decide | (simp only [InL]; omega)) (by decide) (by decide)) rfl rfl (Nat.le_of_ble_eq_true rfl) (by decide) dX10_isTold_21 (kB (fun b21 => ?_) (fun b21 => ?_))
      · refine ev_if_eq (tgt := 59) dX10_isTold_24 (by decide) (by decide) (fun c => absurd c (by decide)) (fun _ => ?_)
        refine ev_iload 4 rfl dX10_isTold_27 ?_
        refine ev_i2l dX10_isTold_29 (by first | assumption | exact hR _ _ | decide | (simp only [InR]; omega)) ?_
        refine ev_lconst (z := 0) dX10_isTold_30 (by decide) ?_
        refine ev_ldc2 (z := 359) dX10_isTold_31 k_X10_149 (by decide) ?_
        refine c_X10_143 (m_in E (v := a4) (a := 0) (b := 359) (by first | assumption | exact hR _ _ | decide | (simp only [InL]; omega)) (by decide) (by decide)) rfl rfl (Nat.le_of_ble_eq_true rfl) (by decide) dX10_isTold_34 (kB (fun b34 => ?_) (fun b34 => ?_))
        · refine ev_if_eq (tgt := 59) dX10_isTold_37 (by decide) (by decide) (fun c => absurd c (by decide)) (fun _ => ?_)
          refine ev_iload 5 rfl dX10_isTold_40 ?_
          refine ev_i2l dX10_isTold_42 (by first | assumption | exact hR _ _ | decide | (simp only [InR]; omega)) ?_
          refine ev_ldc2 (z := 2) dX10_isTold_43 k_X10_141 (by decide) ?_
          refine ev_ldc2 (z := 88) dX10_isTold_46 k_X10_175 (by decide) ?_
          refine c_X10_143 (m_in E (v := a5) (a := 2) (b := 88) (by first | assumption | exact hR _ _ | decide | (simp only [InL]; omega)) (by decide) (by decide)) rfl rfl (Nat.le_of_ble_eq_true rfl) (by decide) dX10_isTold_49 (kB (fun b49 => ?_) (fun b49 => ?_))
          · refine ev_if_eq (tgt := 59) dX10_isTold_52 (by decide) (by decide) (fun c => absurd c (by decide)) (fun _ => ?_)
            refine ev_iconst dX10_isTold_55 ?_
            refine ev_goto (tgt := 60) dX10_isTold_56 (by decide) ?_
            refine ev_zreturn (by decide) dX10_isTold_60 ?_
            first | exact ⟨rfl, Or.inl ⟨rfl, by omega⟩⟩ | exact ⟨rfl, Or.inr ⟨rfl, by omega⟩⟩
          · refine ev_if_eq (tgt := 59) dX10_isTold_52 (by decide) (by decide) (fun _ => ?_) (fun c => absurd c (by decide))
            refine ev_iconst dX10_isTold_59 ?_
            refine ev_zreturn (by decide) dX10_isTold_60 ?_
            first | exact ⟨rfl, Or.inl ⟨rfl, by omega⟩⟩ | exact ⟨rfl, Or.inr ⟨rfl, by omega⟩⟩
        · refine ev_if_eq (tgt := 59) dX10_isTold_37 (by decide) (by decide) (fun _ => ?_) (fun c => absurd c (by decide))
          refine ev_iconst dX10_isTold_59 ?_
          refine ev_zreturn (by decide) dX10_isTold_60 ?_
          first | exact ⟨rfl, Or.inl ⟨rfl, by omega⟩⟩ | exact ⟨rfl, Or.inr ⟨rfl, by omega⟩⟩
      · refine ev_if_eq (tgt := 59) dX10_isTold_24 (by decide) (by decide) (fun _ => ?_) (fun c => absurd c (by decide))
        refine ev_iconst dX10_isTold_59 ?_
        refine ev_zreturn (by decide) dX10_isTold_60 ?_
        first | exact ⟨rfl, Or.inl ⟨rfl, by omega⟩⟩ | exact ⟨rfl, Or.inr ⟨rfl, by omega⟩⟩
    · refine ev_if_eq (tgt := 59) dX10_isTold_12 (by decide) (by decide) (fun _ => ?_) (fun c => absurd c (by decide))
      refine ev_iconst dX10_isTold_59 ?_
      refine ev_zreturn (by decide) dX10_isTold_60 ?_
      first | exact ⟨rfl, Or.inl ⟨rfl, by omega⟩⟩ | exact ⟨rfl, Or.inr ⟨rfl, by omega⟩⟩
  · refine ev_if_eq (tgt := 59) dX10_isTold_5 (by decide) (by decide) (fun _ => ?_) (fun c => absurd c (by decide))
    refine ev_iconst dX10_isTold_59 ?_
    refine ev_zreturn (by decide) dX10_isTold_60 ?_
    first | exact ⟨rfl, Or.inl ⟨rfl, by omega⟩⟩ | exact ⟨rfl, Or.inr ⟨rfl, by omega⟩⟩
