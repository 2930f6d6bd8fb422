abbrev scr : List Nat := [17, 18, 19, 20, 21, 22, 23, 24, 25, 26, 27, 28, 29, 30, 32, 33, 39]
theorem Inv.x {S S' : MS} (hI : Inv S) (hx : eqx scr S S') : Inv S' := by
  unfold Inv at hI ⊢
  rw [hx 0 (by decide), hx 1 (by decide), hx 2 (by decide), hx 3 (by decide), hx 4 (by decide), hx 5 (by decide), hx 6 (by decide), hx 7 (by decide), hx 8 (by decide), hx 9 (by decide), hx 10 (by decide), hx 11 (by decide), hx 12 (by decide), hx 13 (by decide), hx 14 (by decide), hx 15 (by decide), hx 16 (by decide), hx 31 (by decide), hx 34 (by decide), hx 35 (by decide), hx 36 (by decide), hx 37 (by decide), hx 38 (by decide), hx 40 (by decide), hx 41 (by decide), hx 42 (by decide), hx 43 (by decide), hx 44 (by decide)]
  exact hI
theorem frZ_x {S S' : MS} {a : Int} (hx : eqx scr S S') : frZ S' a = frZ S a := by unfold frZ; rw [hx 11 (by decide), hx 6 (by decide), hx 9 (by decide)]
theorem laZ_x {S S' : MS} {a : Int} (hx : eqx scr S S') : laZ S' a = laZ S a := by unfold laZ; rw [hx 11 (by decide), hx 5 (by decide), hx 9 (by decide)]
theorem dZ_x {S S' : MS} {a b : Int} (hx : eqx scr S S') : dZ S' a b = dZ S a b := by unfold dZ; rw [hx 12 (by decide)]
theorem rZ_x {S S' : MS} {a b : Int} (hx : eqx scr S S') : rZ S' a b = rZ S a b := by unfold rZ; rw [dZ_x hx, hx 3 (by decide), hx 4 (by decide), hx 9 (by decide), hx 12 (by decide)]
theorem sZ_x {S S' : MS} {a b : Int} (hx : eqx scr S S') : sZ S' a b = sZ S a b := by unfold sZ; rw [dZ_x hx, hx 3 (by decide), hx 4 (by decide), hx 9 (by decide), hx 12 (by decide)]
theorem CrP_x {S S' : MS} {a b : Int} (hx : eqx scr S S') : CrP S' a b ↔ CrP S a b := by unfold CrP; rw [dZ_x hx, rZ_x hx, sZ_x hx, hx 8 (by decide), hx 9 (by decide), hx 13 (by decide), hx 16 (by decide)]
theorem MeP_x {S S' : MS} {a b : Int} (hx : eqx scr S S') : MeP S' a b ↔ MeP S a b := by unfold MeP; rw [CrP_x hx, frZ_x hx, laZ_x hx, frZ_x hx, laZ_x hx, hx 10 (by decide)]
theorem dZ_b (S : MS) (a b : Int) : -2000000 ≤ dZ S a b ∧ dZ S a b ≤ 2000000 := by
  unfold dZ
  have h1 := mul_b (sinZ_b (S 12 a)) (cosZ_b (S 12 b)) (by decide)
  have h2 := mul_b (cosZ_b (S 12 a)) (sinZ_b (S 12 b)) (by decide)
  omega
theorem nZ_b {X Y c : Int} (hX : -2000 ≤ X ∧ X ≤ 2000) (hY : -2000 ≤ Y ∧ Y ≤ 2000) : -4000000000 ≤ 1000 * (X * cosZ c - Y * sinZ c) ∧ 1000 * (X * cosZ c - Y * sinZ c) ≤ 4000000000 := by
  have h1 := mul_b hX (cosZ_b c) (by decide)
  have h2 := mul_b hY (sinZ_b c) (by decide)
  omega
theorem riseZ_b {f t : Int} (hf : 0 ≤ f ∧ f ≤ 1500) : 0 ≤ riseZ f t ∧ riseZ f t ≤ 85935 := by
  unfold riseZ
  have h1 := tabT_b t
  have h2 : 0 ≤ f * tabT t := Int.mul_nonneg hf.1 h1.1
  have h3 : f * tabT t ≤ 1500 * 57290 := Int.mul_le_mul hf.2 h1.2 h1.1 (by decide)
  rw [Int.tdiv_eq_ediv_of_nonneg h2]
  omega
section REN
variable {E : EV} {own : String} {cc : ByteArray} {nL : Nat} {ret : Option FieldType} {mn : String} {Q : Option Value → AH → Prop} {d kc ks pc : Nat} {L : List (Nat × Value)} {st : List Value} {h : AH}
theorem ev_ren {a b : Int} (e : a = b) (k : Ev E own cc nL ret mn Q d kc ks pc L (vI b :: st) h) : Ev E own cc nL ret mn Q d kc ks pc L (vI a :: st) h := e ▸ k
theorem ev_renL {a b : Int} (e : a = b) (k : Ev E own cc nL ret mn Q d kc ks pc L (vL b :: st) h) : Ev E own cc nL ret mn Q d kc ks pc L (vL a :: st) h := e ▸ k
theorem ev_pick {L' : List (Nat × Value)} (is : List Nat) (hl : lv_pick L is = L') (k : Ev E own cc nL ret mn Q d kc ks pc L' st h) : Ev E own cc nL ret mn Q d kc ks pc L st h := by
  intro p l e s m args below meth c H locs cells slots mc ms A ls hC
  exact k p l e s m args below meth c H locs cells slots mc ms A ls (hC.locs' (lv_sub hC.2.2.2.2.2.2.2.2.2.2.2.2.2.1 is hl))
end REN

set_option maxHeartbeats 4000000 in
set_option maxRecDepth 100000 in
theorem m_sinOf {E : EV} {h : AH} {o : Nat} {ad : Nat → Nat} {S : MS} {a : Int} (hM : MR E o ad S h) (hI : Inv S) (ga : 0 ≤ a ∧ a ≤ 359) : CM E yX10_sinOf cX10_sinOf 2 (some .int) 0 0 0 [.ref (o), vI (a)] h (qP (sinZ a) h) := by
  have hR := hM.2.2.2.2
  have hJ := hI
  obtain ⟨i1, i2, i3, i4, i5, i6, iSt, iSi, iWa, iSh, iLa, iS0, iS1, iZe⟩ := hJ
  refine CM.of (by decide) (Nat.le_of_ble_eq_true rfl) (L := [(0, .ref (o)), (1, vI (a))]) rfl ?_
  refine ev_iload_n 1 rfl dX10_sinOf_0 ?_
  refine ev_bipush dX10_sinOf_1 (by decide) ?_
  refine ev_icmp_gt (tgt := 15) dX10_sinOf_3 (by first | assumption | exact hR _ _ | decide | (simp only [InR]; omega)) (by decide) (by decide) (fun c3 => ?_) (fun c3 => ?_)
  · refine ev_iload_n 1 rfl dX10_sinOf_15 ?_
    refine ev_sipush dX10_sinOf_16 (by decide) ?_
    refine ev_icmp_gt (tgt := 35) dX10_sinOf_19 (by first | assumption | exact hR _ _ | decide | (simp only [InR]; omega)) (by decide) (by decide) (fun c19 => ?_) (fun c19 => ?_)
    · refine ev_iload_n 1 rfl dX10_sinOf_35 ?_
      refine ev_sipush dX10_sinOf_36 (by decide) ?_
      refine ev_icmp_gt (tgt := 56) dX10_sinOf_39 (by first | assumption | exact hR _ _ | decide | (simp only [InR]; omega)) (by decide) (by decide) (fun c39 => ?_) (fun c39 => ?_)
      · refine ev_aload_n 0 rfl dX10_sinOf_56 ?_
        refine mg_7 hM dX10_sinOf_57 ?_
        refine ev_sipush dX10_sinOf_60 (by decide) ?_
        refine ev_iload_n 1 rfl dX10_sinOf_63 ?_
        refine ev_isub dX10_sinOf_64 ?_
        refine m_ld (k := 0) hM (by decide) dX10_sinOf_65 (by omega) (by show _ < ((91 : Nat) : Int); omega) ?_
        refine ev_ineg dX10_sinOf_66 ?_
        refine ev_ireturn dX10_sinOf_67 ?_
        exact ⟨rfl, congrArg (fun z => some (vI z)) (show -(S 0 (360 - a)) = sinZ a from by rw [iS0 _ (by omega) (by omega)]; simp only [sinZ]; (repeat' split) <;> first | rfl | omega)⟩
      · refine ev_aload_n 0 rfl dX10_sinOf_42 ?_
        refine mg_7 hM dX10_sinOf_43 ?_
        refine ev_iload_n 1 rfl dX10_sinOf_46 ?_
        refine ev_sipush dX10_sinOf_47 (by decide) ?_
        refine ev_isub dX10_sinOf_50 ?_
        refine m_ld (k := 0) hM (by decide) dX10_sinOf_51 (by omega) (by show _ < ((91 : Nat) : Int); omega) ?_
        refine ev_ineg dX10_sinOf_52 ?_
        refine ev_goto (tgt := 67) dX10_sinOf_53 (by decide) ?_
        refine ev_ireturn dX10_sinOf_67 ?_
        exact ⟨rfl, congrArg (fun z => some (vI z)) (show -(S 0 (a - 180)) = sinZ a from by rw [iS0 _ (by omega) (by omega)]; simp only [sinZ]; (repeat' split) <;> first | rfl | omega)⟩
    · refine ev_aload_n 0 rfl dX10_sinOf_22 ?_
      refine mg_7 hM dX10_sinOf_23 ?_
      refine ev_sipush dX10_sinOf_26 (by decide) ?_
      refine ev_iload_n 1 rfl dX10_sinOf_29 ?_
      refine ev_isub dX10_sinOf_30 ?_
      refine m_ld (k := 0) hM (by decide) dX10_sinOf_31 (by omega) (by show _ < ((91 : Nat) : Int); omega) ?_
      refine ev_goto (tgt := 67) dX10_sinOf_32 (by decide) ?_
      refine ev_ireturn dX10_sinOf_67 ?_
      exact ⟨rfl, congrArg (fun z => some (vI z)) (show S 0 (180 - a) = sinZ a from by rw [iS0 _ (by omega) (by omega)]; simp only [sinZ]; (repeat' split) <;> first | rfl | omega)⟩
  · refine ev_aload_n 0 rfl dX10_sinOf_6 ?_
    refine mg_7 hM dX10_sinOf_7 ?_
    refine ev_iload_n 1 rfl dX10_sinOf_10 ?_
    refine m_ld (k := 0) hM (by decide) dX10_sinOf_11 (by omega) (by show _ < ((91 : Nat) : Int); omega) ?_
    refine ev_goto (tgt := 67) dX10_sinOf_12 (by decide) ?_
    refine ev_ireturn dX10_sinOf_67 ?_
    exact ⟨rfl, congrArg (fun z => some (vI z)) (show S 0 a = sinZ a from by rw [iS0 _ (by omega) (by omega)]; simp only [sinZ]; (repeat' split) <;> first | rfl | omega)⟩

set_option maxHeartbeats 4000000 in
set_option maxRecDepth 100000 in
theorem m_cosOf {E : EV} {h : AH} {o : Nat} {ad : Nat → Nat} {S : MS} {a : Int} (hM : MR E o ad S h) (hI : Inv S) (ga : 0 ≤ a ∧ a ≤ 359) : CM E yX10_cosOf cX10_cosOf 2 (some .int) 1 0 0 [.ref (o), vI (a)] h (qP (cosZ a) h) := by
  have hR := hM.2.2.2.2
  have hJ := hI
  obtain ⟨i1, i2, i3, i4, i5, i6, iSt, iSi, iWa, iSh, iLa, iS0, iS1, iZe⟩ := hJ
  have q1 : (a + 90).tmod 360 = (a + 90) % 360 := Int.tmod_eq_emod_of_nonneg (by omega)
  have q2 : (a + 90).tdiv 360 = (a + 90) / 360 := Int.tdiv_eq_ediv_of_nonneg (by omega)
  refine CM.of (by decide) (Nat.le_of_ble_eq_true rfl) (L := [(0, .ref (o)), (1, vI (a))]) rfl ?_
  refine ev_aload_n 0 rfl dX10_cosOf_0 ?_
  refine ev_iload_n 1 rfl dX10_cosOf_1 ?_
  refine ev_bipush dX10_cosOf_2 (by decide) ?_
  refine ev_iadd dX10_cosOf_4 ?_
  refine ev_sipush dX10_cosOf_5 (by decide) ?_
  refine ev_irem dX10_cosOf_8 (by first | assumption | exact hR _ _ | decide | (simp only [InR]; omega)) (by first | assumption | exact hR _ _ | decide | (simp only [InR]; omega)) (by omega) (by first | assumption | exact hR _ _ | decide | (simp only [InR]; omega)) ?_
  refine c_X10_137 (m_sinOf hM hI (by omega)) hM.1 rfl rfl (Nat.le_of_ble_eq_true rfl) (by decide) dX10_cosOf_9 (kP ?_)
  refine ev_ireturn dX10_cosOf_12 ?_
  exact ⟨rfl, rfl⟩

set_option maxHeartbeats 4000000 in
set_option maxRecDepth 100000 in
theorem m_rise {E : EV} {h : AH} {o : Nat} {ad : Nat → Nat} {S : MS} {f t : Int} (hM : MR E o ad S h) (hI : Inv S) (gf : 0 ≤ f ∧ f ≤ 1500) (gt : 1 ≤ t ∧ t ≤ 89) : CM E yX10_rise cX10_rise 3 (some .int) 0 0 0 [.ref (o), vI (f), vI (t)] h (qP (riseZ f t) h) := by
  have hR := hM.2.2.2.2
  have hJ := hI
  obtain ⟨i1, i2, i3, i4, i5, i6, iSt, iSi, iWa, iSh, iLa, iS0, iS1, iZe⟩ := hJ
  have q0 := iS1 t gt.1 gt.2
  have q1 := tabT_b t
  rw [← q0] at q1
  have q2 := mul_b (a := f) (b := S 1 t) (A := 1500) (B := 57290) (by omega) (by omega) (by decide)
  have q3 := tdiv_b (b := 1000) q2
  refine CM.of (by decide) (Nat.le_of_ble_eq_true rfl) (L := [(0, .ref (o)), (1, vI (f)), (2, vI (t))]) rfl ?_
  refine ev_iload_n 1 rfl dX10_rise_0 ?_
  refine ev_aload_n 0 rfl dX10_rise_1 ?_
  refine mg_13 hM dX10_rise_2 ?_
  refine ev_iload_n 2 rfl dX10_rise_5 ?_
  refine m_ld (k := 1) hM (by decide) dX10_rise_6 (by omega) (by show _ < ((90 : Nat) : Int); omega) ?_
  refine ev_imul dX10_rise_7 ?_
  refine ev_sipush dX10_rise_8 (by decide) ?_
  refine ev_idiv dX10_rise_11 (by first | assumption | exact hR _ _ | decide | (simp only [InR]; omega)) (by first | assumption | exact hR _ _ | decide | (simp only [InR]; omega)) (by omega) (by first | assumption | exact hR _ _ | decide | (simp only [InR]; omega)) ?_
  refine ev_ireturn dX10_rise_12 ?_
  exact ⟨rfl, by unfold riseZ; rw [← q0]⟩

set_option maxHeartbeats 4000000 in
set_option maxRecDepth 100000 in
theorem m_table {E : EV} {h : AH} {o : Nat} {ad : Nat → Nat} {S : MS} {w d : Int} (hM : MR E o ad S h) (hI : Inv S) (g1 : InR w) (g2 : InR d) : CM E yX10_table cX10_table 3 (some .int) 2 0 0 [.ref (o), vI (w), vI (d)] h (qP (sp_table w d) h) := by
  have hR := hM.2.2.2.2
  have hJ := hI
  obtain ⟨i1, i2, i3, i4, i5, i6, iSt, iSi, iWa, iSh, iLa, iS0, iS1, iZe⟩ := hJ
  refine CM.of (by decide) (Nat.le_of_ble_eq_true rfl) (L := [(0, .ref (o)), (1, vI (w)), (2, vI (d))]) rfl ?_
  refine ev_iload_n 1 rfl dX10_table_0 ?_
  refine ev_i2l dX10_table_1 (by first | assumption | exact hR _ _ | decide | (simp only [InR]; omega)) ?_
  refine ev_lconst (z := 0) dX10_table_2 (by decide) ?_
  refine ev_ldc2 (z := 2) dX10_table_3 k_X10_141 (by decide) ?_
  refine c_X10_143 (m_in E (v := w) (a := 0) (b := 2) (by first | assumption | exact hR _ _ | decide | (simp only [InL]; omega)) (by decide) (by decide)) rfl rfl (Nat.le_of_ble_eq_true rfl) (by decide) dX10_table_6 (kB (fun b6 => ?_) (fun b6 => ?_))
  · refine ev_if_eq (tgt := 44) dX10_table_9 (by decide) (by decide) (fun c => absurd c (by decide)) (fun _ => ?_)
    refine ev_iload_n 1 rfl dX10_table_12 ?_
    refine ev_iconst dX10_table_13 ?_
    refine ev_icmp_ne (tgt := 32) dX10_table_14 (by first | assumption | exact hR _ _ | decide | (simp only [InR]; omega)) (by decide) (by decide) (fun c14 => ?_) (fun c14 => ?_)
    · refine ev_iload_n 2 rfl dX10_table_32 ?_
      refine ev_i2l dX10_table_33 (by first | assumption | exact hR _ _ | decide | (simp only [InR]; omega)) ?_
      refine ev_lconst (z := 0) dX10_table_34 (by decide) ?_
      refine ev_ldc2 (z := 359) dX10_table_35 k_X10_149 (by decide) ?_
      refine c_X10_143 (m_in E (v := d) (a := 0) (b := 359) (by first | assumption | exact hR _ _ | decide | (simp only [InL]; omega)) (by decide) (by decide)) rfl rfl (Nat.le_of_ble_eq_true rfl) (by decide) dX10_table_38 (kB (fun b38 => ?_) (fun b38 => ?_))
      · refine ev_if_ne (tgt := 47) dX10_table_41 (by decide) (by decide) (fun _ => ?_) (fun c => absurd c (by decide))
        refine ev_iload_n 1 rfl dX10_table_47 ?_
        refine ev_if_ne (tgt := 59) dX10_table_48 (by first | assumption | exact hR _ _ | decide | (simp only [InR]; omega)) (by decide) (fun c48 => ?_) (fun c48 => ?_)
        · refine ev_iload_n 1 rfl dX10_table_59 ?_
          refine ev_iconst dX10_table_60 ?_
          refine ev_icmp_ne (tgt := 72) dX10_table_61 (by first | assumption | exact hR _ _ | decide | (simp only [InR]; omega)) (by decide) (by decide) (fun c61 => ?_) (fun c61 => ?_)
          · refine ev_aload_n 0 rfl dX10_table_72 ?_
            refine mg_13 hM dX10_table_73 ?_
            refine ev_iload_n 2 rfl dX10_table_76 ?_
            refine m_ld (k := 1) hM (by decide) dX10_table_77 (by omega) (by show _ < ((90 : Nat) : Int); omega) ?_
            refine ev_ireturn dX10_table_78 ?_
            refine ⟨rfl, congrArg (fun z => some (vI z)) ?_⟩
            simp only [sp_table]; (repeat' split) <;> first | rfl | omega | exact iS1 _ (by omega) (by omega)
          · refine ev_aload_n 0 rfl dX10_table_64 ?_
            refine ev_iload_n 2 rfl dX10_table_65 ?_
            refine c_X10_152 (m_cosOf hM hI (by omega)) hM.1 rfl rfl (Nat.le_of_ble_eq_true rfl) (by decide) dX10_table_66 (kP ?_)
            refine ev_goto (tgt := 78) dX10_table_69 (by decide) ?_
            refine ev_ireturn dX10_table_78 ?_
            refine ⟨rfl, congrArg (fun z => some (vI z)) ?_⟩
            simp only [sp_table]; (repeat' split) <;> first | rfl | omega | exact iS1 _ (by omega) (by omega)
        · refine ev_aload_n 0 rfl dX10_table_51 ?_
          refine ev_iload_n 2 rfl dX10_table_52 ?_
          refine c_X10_137 (m_sinOf hM hI (by omega)) hM.1 rfl rfl (Nat.le_of_ble_eq_true rfl) (by decide) dX10_table_53 (kP ?_)
          refine ev_goto (tgt := 78) dX10_table_56 (by decide) ?_
          refine ev_ireturn dX10_table_78 ?_
          refine ⟨rfl, congrArg (fun z => some (vI z)) ?_⟩
          simp only [sp_table]; (repeat' split) <;> first | rfl | omega | exact iS1 _ (by omega) (by omega)
      · refine ev_if_ne (tgt := 47) dX10_table_41 (by decide) (by decide) (fun c => absurd c (by decide)) (fun _ => ?_)
        refine ev_ldc (z := -100001) dX10_table_44 k_X10_151 (by decide) ?_
        refine ev_ireturn dX10_table_46 ?_
        refine ⟨rfl, congrArg (fun z => some (vI z)) ?_⟩
        simp only [sp_table]; (repeat' split) <;> first | rfl | omega | exact iS1 _ (by omega) (by omega)
    · refine ev_iload_n 2 rfl dX10_table_17 ?_
      refine ev_i2l dX10_table_18 (by first | assumption | exact hR _ _ | decide | (simp only [InR]; omega)) ?_
      refine ev_lconst (z := 1) dX10_table_19 (by decide) ?_
      refine ev_ldc2 (z := 89) dX10_table_20 k_X10_147 (by decide) ?_
      refine c_X10_143 (m_in E (v := d) (a := 1) (b := 89) (by first | assumption | exact hR _ _ | decide | (simp only [InL]; omega)) (by decide) (by decide)) rfl rfl (Nat.le_of_ble_eq_true rfl) (by decide) dX10_table_23 (kB (fun b23 => ?_) (fun b23 => ?_))
      · refine ev_if_eq (tgt := 44) dX10_table_26 (by decide) (by decide) (fun c => absurd c (by decide)) (fun _ => ?_)
        refine ev_goto (tgt := 47) dX10_table_29 (by decide) ?_
        refine ev_iload_n 1 rfl dX10_table_47 ?_
        refine ev_if_ne (tgt := 59) dX10_table_48 (by first | assumption | exact hR _ _ | decide | (simp only [InR]; omega)) (by decide) (fun c48 => ?_) (fun c48 => ?_)
        · refine ev_iload_n 1 rfl dX10_table_59 ?_
          refine ev_iconst dX10_table_60 ?_
          refine ev_icmp_ne (tgt := 72) dX10_table_61 (by first | assumption | exact hR _ _ | decide | (simp only [InR]; omega)) (by decide) (by decide) (fun c61 => ?_) (fun c61 => ?_)
          · refine ev_aload_n 0 rfl dX10_table_72 ?_
            refine mg_13 hM dX10_table_73 ?_
            refine ev_iload_n 2 rfl dX10_table_76 ?_
            refine m_ld (k := 1) hM (by decide) dX10_table_77 (by omega) (by show _ < ((90 : Nat) : Int); omega) ?_
            refine ev_ireturn dX10_table_78 ?_
            refine ⟨rfl, congrArg (fun z => some (vI z)) ?_⟩
            simp only [sp_table]; (repeat' split) <;> first | rfl | omega | exact iS1 _ (by omega) (by omega)
          · refine ev_aload_n 0 rfl dX10_table_64 ?_
            refine ev_iload_n 2 rfl dX10_table_65 ?_
            refine c_X10_152 (m_cosOf hM hI (by omega)) hM.1 rfl rfl (Nat.le_of_ble_eq_true rfl) (by decide) dX10_table_66 (kP ?_)
            refine ev_goto (tgt := 78) dX10_table_69 (by decide) ?_
            refine ev_ireturn dX10_table_78 ?_
            refine ⟨rfl, congrArg (fun z => some (vI z)) ?_⟩
            simp only [sp_table]; (repeat' split) <;> first | rfl | omega | exact iS1 _ (by omega) (by omega)
        · refine ev_aload_n 0 rfl dX10_table_51 ?_
          refine ev_iload_n 2 rfl dX10_table_52 ?_
          refine c_X10_137 (m_sinOf hM hI (by omega)) hM.1 rfl rfl (Nat.le_of_ble_eq_true rfl) (by decide) dX10_table_53 (kP ?_)
          refine ev_goto (tgt := 78) dX10_table_56 (by decide) ?_
          refine ev_ireturn dX10_table_78 ?_
          refine ⟨rfl, congrArg (fun z => some (vI z)) ?_⟩
          simp only [sp_table]; (repeat' split) <;> first | rfl | omega | exact iS1 _ (by omega) (by omega)
      · refine ev_if_eq (tgt := 44) dX10_table_26 (by decide) (by decide) (fun _ => ?_) (fun c => absurd c (by decide))
        refine ev_ldc (z := -100001) dX10_table_44 k_X10_151 (by decide) ?_
        refine ev_ireturn dX10_table_46 ?_
        refine ⟨rfl, congrArg (fun z => some (vI z)) ?_⟩
        simp only [sp_table]; (repeat' split) <;> first | rfl | omega | exact iS1 _ (by omega) (by omega)
  · refine ev_if_eq (tgt := 44) dX10_table_9 (by decide) (by decide) (fun _ => ?_) (fun c => absurd c (by decide))
    refine ev_ldc (z := -100001) dX10_table_44 k_X10_151 (by decide) ?_
    refine ev_ireturn dX10_table_46 ?_
    refine ⟨rfl, congrArg (fun z => some (vI z)) ?_⟩
    simp only [sp_table]; (repeat' split) <;> first | rfl | omega | exact iS1 _ (by omega) (by omega)

set_option maxHeartbeats 4000000 in
set_option maxRecDepth 100000 in
theorem m_crosses {E : EV} {h : AH} {o : Nat} {ad : Nat → Nat} {S : MS} {a b : Int} (hM : MR E o ad S h) (hI : Inv S) (ga : 0 ≤ a ∧ a < S 7 0) (gb : 0 ≤ b ∧ b < S 7 0) : CM E yX10_crosses cX10_crosses 14 (some .boolean) 2 0 0 [.ref (o), vI (a), vI (b)] h (qI (fun z h' => ∃ S', MR E o ad S' h' ∧ eqx [17, 18] S S' ∧ ((z = 1 ∧ CrP S a b ∧ S' 17 0 = rZ S a b ∧ S' 18 0 = sZ S a b) ∨ (z = 0 ∧ ¬ CrP S a b)))) := by
  have hR := hM.2.2.2.2
  have hJ := hI
  obtain ⟨i1, i2, i3, i4, i5, i6, iSt, iSi, iWa, iSh, iLa, iS0, iS1, iZe⟩ := hJ
  obtain ⟨p1, p2, p3, p4, p5, p6, p7, p8⟩ := iSi a ga.1 ga.2
  obtain ⟨pt1, pt2, pt3⟩ := iSt _ p2.1 p2.2
  obtain ⟨q1, q2, q3, q4, q5, q6, q7, q8⟩ := iSi b gb.1 gb.2
  obtain ⟨qt1, qt2, qt3⟩ := iSt _ q2.1 q2.2
  have w0 := dZ_b S a b
  have w1 := nZ_b (X := S 3 (S 9 b) - S 3 (S 9 a)) (Y := S 4 (S 9 b) - S 4 (S 9 a)) (c := S 12 b) (by omega) (by omega)
  have w2 := nZ_b (X := S 3 (S 9 b) - S 3 (S 9 a)) (Y := S 4 (S 9 b) - S 4 (S 9 a)) (c := S 12 a) (by omega) (by omega)
  have w3 := tdiv_b (b := dZ S a b) w1
  have w4 := tdiv_b (b := dZ S a b) w2
  have w5 := cosZ_b (S 12 b)
  have w6 := sinZ_b (S 12 b)
  have w7 := cosZ_b (S 12 a)
  have w8 := sinZ_b (S 12 a)
  have w9 : -4000000000 ≤ rZ S a b ∧ rZ S a b ≤ 4000000000 := w3
  have w10 : -4000000000 ≤ sZ S a b ∧ sZ S a b ≤ 4000000000 := w4
  refine CM.of (by decide) (Nat.le_of_ble_eq_true rfl) (L := [(0, .ref (o)), (1, vI (a)), (2, vI (b))]) rfl ?_
  refine ev_aload_n 0 rfl dX10_crosses_0 ?_
  refine mg_31 hM dX10_crosses_1 ?_
  refine ev_iload_n 1 rfl dX10_crosses_4 ?_
  refine m_ld (k := 9) hM (by decide) dX10_crosses_5 (by omega) (by show _ < ((40 : Nat) : Int); omega) ?_
  refine ev_aload_n 0 rfl dX10_crosses_6 ?_
  refine mg_31 hM dX10_crosses_7 ?_
  refine ev_iload_n 2 rfl dX10_crosses_10 ?_
  refine m_ld (k := 9) hM (by decide) dX10_crosses_11 (by omega) (by show _ < ((40 : Nat) : Int); omega) ?_
  refine ev_icmp_eq (tgt := 33) dX10_crosses_12 (by first | assumption | exact hR _ _ | decide | (simp only [InR]; omega)) (by first | assumption | exact hR _ _ | decide | (simp only [InR]; omega)) (by decide) (fun c12 => ?_) (fun c12 => ?_)
  · refine ev_iconst dX10_crosses_33 ?_
    refine ev_zreturn (by decide) dX10_crosses_34 ?_
    exact ⟨_, rfl, S, hM, eqx.rf, Or.inr ⟨rfl, fun q => by unfold CrP at q; omega⟩⟩
  · refine ev_aload_n 0 rfl dX10_crosses_15 ?_
    refine mg_28 hM dX10_crosses_16 ?_
    refine ev_iload_n 1 rfl dX10_crosses_19 ?_
    refine m_ld (k := 8) hM (by decide) dX10_crosses_20 (by omega) (by show _ < ((40 : Nat) : Int); omega) ?_
    refine ev_if_eq (tgt := 33) dX10_crosses_21 (by first | assumption | exact hR _ _ | decide | (simp only [InR]; omega)) (by decide) (fun c21 => ?_) (fun c21 => ?_)
    · refine ev_iconst dX10_crosses_33 ?_
      refine ev_zreturn (by decide) dX10_crosses_34 ?_
      exact ⟨_, rfl, S, hM, eqx.rf, Or.inr ⟨rfl, fun q => by unfold CrP at q; omega⟩⟩
    · refine ev_aload_n 0 rfl dX10_crosses_24 ?_
      refine mg_28 hM dX10_crosses_25 ?_
      refine ev_iload_n 2 rfl dX10_crosses_28 ?_
      refine m_ld (k := 8) hM (by decide) dX10_crosses_29 (by omega) (by show _ < ((40 : Nat) : Int); omega) ?_
      refine ev_if_ne (tgt := 35) dX10_crosses_30 (by first | assumption | exact hR _ _ | decide | (simp only [InR]; omega)) (by decide) (fun c30 => ?_) (fun c30 => ?_)
      · refine ev_aload_n 0 rfl dX10_crosses_35 ?_
        refine mg_40 hM dX10_crosses_36 ?_
        refine ev_iload_n 1 rfl dX10_crosses_39 ?_
        refine m_ld (k := 12) hM (by decide) dX10_crosses_40 (by omega) (by show _ < ((40 : Nat) : Int); omega) ?_
        refine ev_istore_n (L' := [(3, vI (S 12 a)), (0, .ref (o)), (1, vI (a)), (2, vI (b))]) dX10_crosses_41 (by decide) rfl ?_
        refine ev_aload_n 1 rfl dX10_crosses_42 ?_
        refine mg_40 hM dX10_crosses_43 ?_
        refine ev_iload_n 3 rfl dX10_crosses_46 ?_
        refine m_ld (k := 12) hM (by decide) dX10_crosses_47 (by omega) (by show _ < ((40 : Nat) : Int); omega) ?_
        refine ev_istore (L' := [(4, vI (S 12 b)), (3, vI (S 12 a)), (0, .ref (o)), (1, vI (a)), (2, vI (b))]) dX10_crosses_48 (by decide) rfl ?_
        refine ev_aload_n 2 rfl dX10_crosses_50 ?_
        refine ev_iload_n 1 rfl dX10_crosses_51 ?_
        refine c_X10_137 (m_sinOf hM hI (by omega)) hM.1 rfl rfl (Nat.le_of_ble_eq_true rfl) (by decide) dX10_crosses_52 (kP ?_)
        refine ev_aload_n 2 rfl dX10_crosses_55 ?_
        refine ev_iload 0 rfl dX10_crosses_56 ?_
        refine c_X10_152 (m_cosOf hM hI (by omega)) hM.1 rfl rfl (Nat.le_of_ble_eq_true rfl) (by decide) dX10_crosses_58 (kP ?_)
        refine ev_imul dX10_crosses_61 ?_
        refine ev_aload_n 2 rfl dX10_crosses_62 ?_
        refine ev_iload_n 1 rfl dX10_crosses_63 ?_
        refine c_X10_152 (m_cosOf hM hI (by omega)) hM.1 rfl rfl (Nat.le_of_ble_eq_true rfl) (by decide) dX10_crosses_64 (kP ?_)
        refine ev_aload_n 2 rfl dX10_crosses_67 ?_
        refine ev_iload 0 rfl dX10_crosses_68 ?_
        refine c_X10_137 (m_sinOf hM hI (by omega)) hM.1 rfl rfl (Nat.le_of_ble_eq_true rfl) (by decide) dX10_crosses_70 (kP ?_)
        refine ev_imul dX10_crosses_73 ?_
        refine ev_isub dX10_crosses_74 ?_
        refine ev_ren (b := dZ S a b) (rfl) ?_
        refine ev_istore (L' := [(5, vI (dZ S a b)), (4, vI (S 12 b)), (3, vI (S 12 a)), (0, .ref (o)), (1, vI (a)), (2, vI (b))]) dX10_crosses_75 (by decide) rfl ?_
        refine ev_iload 0 rfl dX10_crosses_77 ?_
        refine ev_i2l dX10_crosses_79 (by first | assumption | exact hR _ _ | decide | (simp only [InR]; omega)) ?_
        refine ev_ldc2 (z := -49999) dX10_crosses_80 k_X10_205 (by decide) ?_
        refine ev_ldc2 (z := 49999) dX10_crosses_83 k_X10_207 (by decide) ?_
        refine c_X10_143 (m_in E (v := dZ S a b) (a := -49999) (b := 49999) (by first | assumption | exact hR _ _ | decide | (simp only [InL]; omega)) (by decide) (by decide)) rfl rfl (Nat.le_of_ble_eq_true rfl) (by decide) dX10_crosses_86 (kB (fun b86 => ?_) (fun b86 => ?_))
        · refine ev_if_eq (tgt := 94) dX10_crosses_89 (by decide) (by decide) (fun c => absurd c (by decide)) (fun _ => ?_)
          refine ev_iconst dX10_crosses_92 ?_
          refine ev_zreturn (by decide) dX10_crosses_93 ?_
          exact ⟨_, rfl, S, hM, eqx.rf, Or.inr ⟨rfl, fun q => by unfold CrP at q; omega⟩⟩
        · refine ev_if_eq (tgt := 94) dX10_crosses_89 (by decide) (by decide) (fun _ => ?_) (fun c => absurd c (by decide))
          refine ev_aload_n 3 rfl dX10_crosses_94 ?_
          refine mg_16 hM dX10_crosses_95 ?_
          refine ev_aload_n 3 rfl dX10_crosses_98 ?_
          refine mg_31 hM dX10_crosses_99 ?_
          refine ev_iload_n 5 rfl dX10_crosses_102 ?_
          refine m_ld (k := 9) hM (by decide) dX10_crosses_103 (by omega) (by show _ < ((40 : Nat) : Int); omega) ?_
          refine m_ld (k := 3) hM (by decide) dX10_crosses_104 (by omega) (by show _ < ((8 : Nat) : Int); omega) ?_
          refine ev_aload_n 3 rfl dX10_crosses_105 ?_
          refine mg_16 hM dX10_crosses_106 ?_
          refine ev_aload_n 3 rfl dX10_crosses_109 ?_
          refine mg_31 hM dX10_crosses_110 ?_
          refine ev_iload_n 4 rfl dX10_crosses_113 ?_
          refine m_ld (k := 9) hM (by decide) dX10_crosses_114 (by omega) (by show _ < ((40 : Nat) : Int); omega) ?_
          refine m_ld (k := 3) hM (by decide) dX10_crosses_115 (by omega) (by show _ < ((8 : Nat) : Int); omega) ?_
          refine ev_isub dX10_crosses_116 ?_
          refine ev_i2l dX10_crosses_117 (by first | assumption | exact hR _ _ | decide | (simp only [InR]; omega)) ?_
          refine ev_lstore (L' := [(6, vL ((S 3 (S 9 b)) - (S 3 (S 9 a)))), (5, vI (dZ S a b)), (4, vI (S 12 b)), (3, vI (S 12 a)), (0, .ref (o)), (1, vI (a)), (2, vI (b))]) dX10_crosses_118 (by decide) rfl ?_
          refine ev_aload_n 4 rfl dX10_crosses_120 ?_
          refine mg_19 hM dX10_crosses_121 ?_
          refine ev_aload_n 4 rfl dX10_crosses_124 ?_
          refine mg_31 hM dX10_crosses_125 ?_
          refine ev_iload_n 6 rfl dX10_crosses_128 ?_
          refine m_ld (k := 9) hM (by decide) dX10_crosses_129 (by omega) (by show _ < ((40 : Nat) : Int); omega) ?_
          refine m_ld (k := 4) hM (by decide) dX10_crosses_130 (by omega) (by show _ < ((8 : Nat) : Int); omega) ?_
          refine ev_aload_n 4 rfl dX10_crosses_131 ?_
          refine mg_19 hM dX10_crosses_132 ?_
          refine ev_aload_n 4 rfl dX10_crosses_135 ?_
          refine mg_31 hM dX10_crosses_136 ?_
          refine ev_iload_n 5 rfl dX10_crosses_139 ?_
          refine m_ld (k := 9) hM (by decide) dX10_crosses_140 (by omega) (by show _ < ((40 : Nat) : Int); omega) ?_
          refine m_ld (k := 4) hM (by decide) dX10_crosses_141 (by omega) (by show _ < ((8 : Nat) : Int); omega) ?_
          refine ev_isub dX10_crosses_142 ?_
          refine ev_i2l dX10_crosses_143 (by first | assumption | exact hR _ _ | decide | (simp only [InR]; omega)) ?_
          refine ev_lstore (L' := [(8, vL ((S 4 (S 9 b)) - (S 4 (S 9 a)))), (6, vL ((S 3 (S 9 b)) - (S 3 (S 9 a)))), (5, vI (dZ S a b)), (4, vI (S 12 b)), (3, vI (S 12 a)), (0, .ref (o)), (1, vI (a)), (2, vI (b))]) dX10_crosses_144 (by decide) rfl ?_
          refine ev_ldc2 (z := 1000) dX10_crosses_146 k_X10_209 (by decide) ?_
          refine ev_lload 1 rfl dX10_crosses_149 ?_
          refine ev_aload_n 5 rfl dX10_crosses_151 ?_
          refine ev_iload 3 rfl dX10_crosses_152 ?_
          refine c_X10_152 (m_cosOf hM hI (by omega)) hM.1 rfl rfl (Nat.le_of_ble_eq_true rfl) (by decide) dX10_crosses_154 (kP ?_)
          refine ev_i2l dX10_crosses_157 (by first | assumption | exact hR _ _ | decide | (simp only [InR]; omega)) ?_
          refine ev_lmul dX10_crosses_158 ?_
          refine ev_lload 0 rfl dX10_crosses_159 ?_
          refine ev_aload_n 5 rfl dX10_crosses_161 ?_
          refine ev_iload 3 rfl dX10_crosses_162 ?_
          refine c_X10_137 (m_sinOf hM hI (by omega)) hM.1 rfl rfl (Nat.le_of_ble_eq_true rfl) (by decide) dX10_crosses_164 (kP ?_)
          refine ev_i2l dX10_crosses_167 (by first | assumption | exact hR _ _ | decide | (simp only [InR]; omega)) ?_
          refine ev_lmul dX10_crosses_168 ?_
          refine ev_lsub dX10_crosses_169 ?_
          refine ev_lmul dX10_crosses_170 ?_
          refine ev_iload 2 rfl dX10_crosses_171 ?_
          refine ev_i2l dX10_crosses_173 (by first | assumption | exact hR _ _ | decide | (simp only [InR]; omega)) ?_
          refine ev_ldiv dX10_crosses_174 (by first | assumption | exact hR _ _ | decide | (simp only [InL]; omega)) (by first | assumption | exact hR _ _ | decide | (simp only [InL]; omega)) (by omega) (by first | assumption | exact hR _ _ | decide | (simp only [InL]; omega)) ?_
          refine ev_renL (b := rZ S a b) (rfl) ?_
          refine ev_lstore (L' := [(10, vL (rZ S a b)), (8, vL ((S 4 (S 9 b)) - (S 4 (S 9 a)))), (6, vL ((S 3 (S 9 b)) - (S 3 (S 9 a)))), (5, vI (dZ S a b)), (4, vI (S 12 b)), (3, vI (S 12 a)), (0, .ref (o)), (1, vI (a)), (2, vI (b))]) dX10_crosses_175 (by decide) rfl ?_
          refine ev_ldc2 (z := 1000) dX10_crosses_177 k_X10_209 (by decide) ?_
          refine ev_lload 2 rfl dX10_crosses_180 ?_
          refine ev_aload_n 6 rfl dX10_crosses_182 ?_
          refine ev_iload_n 5 rfl dX10_crosses_183 ?_
          refine c_X10_152 (m_cosOf hM hI (by omega)) hM.1 rfl rfl (Nat.le_of_ble_eq_true rfl) (by decide) dX10_crosses_184 (kP ?_)
          refine ev_i2l dX10_crosses_187 (by first | assumption | exact hR _ _ | decide | (simp only [InR]; omega)) ?_
          refine ev_lmul dX10_crosses_188 ?_
          refine ev_lload 1 rfl dX10_crosses_189 ?_
          refine ev_aload_n 6 rfl dX10_crosses_191 ?_
          refine ev_iload_n 5 rfl dX10_crosses_192 ?_
          refine c_X10_137 (m_sinOf hM hI (by omega)) hM.1 rfl rfl (Nat.le_of_ble_eq_true rfl) (by decide) dX10_crosses_193 (kP ?_)
          refine ev_i2l dX10_crosses_196 (by first | assumption | exact hR _ _ | decide | (simp only [InR]; omega)) ?_
          refine ev_lmul dX10_crosses_197 ?_
          refine ev_lsub dX10_crosses_198 ?_
          refine ev_lmul dX10_crosses_199 ?_
          refine ev_iload 3 rfl dX10_crosses_200 ?_
          refine ev_i2l dX10_crosses_202 (by first | assumption | exact hR _ _ | decide | (simp only [InR]; omega)) ?_
          refine ev_ldiv dX10_crosses_203 (by first | assumption | exact hR _ _ | decide | (simp only [InL]; omega)) (by first | assumption | exact hR _ _ | decide | (simp only [InL]; omega)) (by omega) (by first | assumption | exact hR _ _ | decide | (simp only [InL]; omega)) ?_
          refine ev_renL (b := sZ S a b) (rfl) ?_
          refine ev_lstore (L' := [(12, vL (sZ S a b)), (10, vL (rZ S a b)), (8, vL ((S 4 (S 9 b)) - (S 4 (S 9 a)))), (6, vL ((S 3 (S 9 b)) - (S 3 (S 9 a)))), (5, vI (dZ S a b)), (4, vI (S 12 b)), (3, vI (S 12 a)), (0, .ref (o)), (1, vI (a)), (2, vI (b))]) dX10_crosses_204 (by decide) rfl ?_
          refine ev_lload 1 rfl dX10_crosses_206 ?_
          refine ev_lconst (z := 1) dX10_crosses_208 (by decide) ?_
          refine ev_ldc2 (z := 1500) dX10_crosses_209 k_X10_211 (by decide) ?_
          refine c_X10_143 (m_in E (v := rZ S a b) (a := 1) (b := 1500) (by first | assumption | exact hR _ _ | decide | (simp only [InL]; omega)) (by decide) (by decide)) rfl rfl (Nat.le_of_ble_eq_true rfl) (by decide) dX10_crosses_212 (kB (fun b212 => ?_) (fun b212 => ?_))
          · refine ev_if_eq (tgt := 230) dX10_crosses_215 (by decide) (by decide) (fun c => absurd c (by decide)) (fun _ => ?_)
            refine ev_lload 0 rfl dX10_crosses_218 ?_
            refine ev_lconst (z := 1) dX10_crosses_220 (by decide) ?_
            refine ev_ldc2 (z := 1500) dX10_crosses_221 k_X10_211 (by decide) ?_
            refine c_X10_143 (m_in E (v := sZ S a b) (a := 1) (b := 1500) (by first | assumption | exact hR _ _ | decide | (simp only [InL]; omega)) (by decide) (by decide)) rfl rfl (Nat.le_of_ble_eq_true rfl) (by decide) dX10_crosses_224 (kB (fun b224 => ?_) (fun b224 => ?_))
            · refine ev_if_ne (tgt := 232) dX10_crosses_227 (by decide) (by decide) (fun _ => ?_) (fun c => absurd c (by decide))
              refine ev_aload_n 7 rfl dX10_crosses_232 ?_
              have v0 := riseZ_b (f := rZ S a b) (t := S 13 a) (by omega)
              have v1 := riseZ_b (f := sZ S a b) (t := S 13 b) (by omega)
              refine ev_lload 1 rfl dX10_crosses_233 ?_
              refine ev_l2i dX10_crosses_235 ?_
              refine mp_213 hM (by first | assumption | exact hR _ _ | decide | (simp only [InR]; omega)) dX10_crosses_236 (fun S1 h2 eS3 hM4 => ?_)
              have hRS1 := hM4.2.2.2.2
              have hxS1 : eqx scr S S1 := by rw [eS3]; exact (eqx.rf (l := scr) (S := S)).up (by decide)
              have hIS1 := Inv.x hI hxS1
              refine ev_aload_n 7 rfl dX10_crosses_239 ?_
              refine ev_lload 0 rfl dX10_crosses_240 ?_
              refine ev_l2i dX10_crosses_242 ?_
              refine mp_216 hM4 (by first | assumption | exact hR _ _ | exact hRS1 _ _ | decide | (simp only [InR]; omega)) dX10_crosses_243 (fun S5 h6 eS7 hM8 => ?_)
              have hRS5 := hM8.2.2.2.2
              have hxS5 : eqx scr S S5 := by rw [eS7]; exact (hxS1).up (by decide)
              have hIS5 := Inv.x hI hxS5
              refine ev_aload_n 7 rfl dX10_crosses_246 ?_
              refine ev_aload_n 7 rfl dX10_crosses_247 ?_
              refine mgE_213 (v := rZ S a b) hM8 (by rw [eS7, upS_ne (by decide), eS3]; exact upS_at) dX10_crosses_248 ?_
              refine ev_aload_n 7 rfl dX10_crosses_251 ?_
              refine mg_43 hM8 dX10_crosses_252 ?_
              refine ev_iload_n 8 rfl dX10_crosses_255 ?_
              refine m_ldE (k := 13) (v := S 13 a) hM8 (by decide) (by rw [eS7, upS_ne (by decide), eS3, upS_ne (by decide)]) dX10_crosses_256 (by omega) (by show _ < ((40 : Nat) : Int); omega) ?_
              refine c_X10_219 (m_rise hM8 hIS5 (by omega) (by omega)) hM8.1 rfl rfl (Nat.le_of_ble_eq_true rfl) (by decide) dX10_crosses_257 (kP ?_)
              refine ev_aload_n 7 rfl dX10_crosses_260 ?_
              refine ev_aload_n 7 rfl dX10_crosses_261 ?_
              refine mgE_216 (v := sZ S a b) hM8 (by rw [eS7]; exact upS_at) dX10_crosses_262 ?_
              refine ev_aload_n 7 rfl dX10_crosses_265 ?_
              refine mg_43 hM8 dX10_crosses_266 ?_
              refine ev_iload_n 9 rfl dX10_crosses_269 ?_
              refine m_ldE (k := 13) (v := S 13 b) hM8 (by decide) (by rw [eS7, upS_ne (by decide), eS3, upS_ne (by decide)]) dX10_crosses_270 (by omega) (by show _ < ((40 : Nat) : Int); omega) ?_
              refine c_X10_219 (m_rise hM8 hIS5 (by omega) (by omega)) hM8.1 rfl rfl (Nat.le_of_ble_eq_true rfl) (by decide) dX10_crosses_271 (kP ?_)
              refine ev_isub dX10_crosses_274 ?_
              refine ev_i2l dX10_crosses_275 (by first | assumption | exact hR _ _ | exact hRS1 _ _ | exact hRS5 _ _ | decide | (simp only [InR]; omega)) ?_
              refine ev_aload_n 7 rfl dX10_crosses_276 ?_
              refine mgE_52 (v := S 16 0) hM8 (by rw [eS7, upS_ne (by decide), eS3, upS_ne (by decide)]) dX10_crosses_277 ?_
              refine ev_ineg dX10_crosses_280 ?_
              refine ev_i2l dX10_crosses_281 (by first | assumption | exact hR _ _ | exact hRS1 _ _ | exact hRS5 _ _ | decide | (simp only [InR]; omega)) ?_
              refine ev_aload_n 7 rfl dX10_crosses_282 ?_
              refine mgE_52 (v := S 16 0) hM8 (by rw [eS7, upS_ne (by decide), eS3, upS_ne (by decide)]) dX10_crosses_283 ?_
              refine ev_i2l dX10_crosses_286 (by first | assumption | exact hR _ _ | exact hRS1 _ _ | exact hRS5 _ _ | decide | (simp only [InR]; omega)) ?_
              refine c_X10_143 (m_in E (v := (riseZ (rZ S a b) (S 13 a)) - (riseZ (sZ S a b) (S 13 b))) (a := -(S 16 0)) (b := S 16 0) (by first | assumption | exact hR _ _ | exact hRS1 _ _ | exact hRS5 _ _ | decide | (simp only [InL]; omega)) (by first | assumption | exact hR _ _ | exact hRS1 _ _ | exact hRS5 _ _ | decide | (simp only [InL]; omega)) (by first | assumption | exact hR _ _ | exact hRS1 _ _ | exact hRS5 _ _ | decide | (simp only [InL]; omega))) rfl rfl (Nat.le_of_ble_eq_true rfl) (by decide) dX10_crosses_287 (kB (fun b287 => ?_) (fun b287 => ?_))
              · refine ev_zreturn (by decide) dX10_crosses_290 ?_
                exact ⟨_, rfl, S5, hM8, by rw [eS7, eS3]; exact (eqx.rf.up (by decide)).up (by decide), Or.inl ⟨rfl, by unfold CrP; omega, by rw [eS7, upS_ne (by decide), eS3]; exact upS_at, by rw [eS7]; exact upS_at⟩⟩
              · refine ev_zreturn (by decide) dX10_crosses_290 ?_
                exact ⟨_, rfl, S5, hM8, by rw [eS7, eS3]; exact (eqx.rf.up (by decide)).up (by decide), Or.inr ⟨rfl, fun q => by unfold CrP at q; omega⟩⟩
            · refine ev_if_ne (tgt := 232) dX10_crosses_227 (by decide) (by decide) (fun c => absurd c (by decide)) (fun _ => ?_)
              refine ev_iconst dX10_crosses_230 ?_
              refine ev_zreturn (by decide) dX10_crosses_231 ?_
              exact ⟨_, rfl, S, hM, eqx.rf, Or.inr ⟨rfl, fun q => by unfold CrP at q; omega⟩⟩
          · refine ev_if_eq (tgt := 230) dX10_crosses_215 (by decide) (by decide) (fun _ => ?_) (fun c => absurd c (by decide))
            refine ev_iconst dX10_crosses_230 ?_
            refine ev_zreturn (by decide) dX10_crosses_231 ?_
            exact ⟨_, rfl, S, hM, eqx.rf, Or.inr ⟨rfl, fun q => by unfold CrP at q; omega⟩⟩
      · refine ev_iconst dX10_crosses_33 ?_
        refine ev_zreturn (by decide) dX10_crosses_34 ?_
        exact ⟨_, rfl, S, hM, eqx.rf, Or.inr ⟨rfl, fun q => by unfold CrP at q; omega⟩⟩

set_option maxHeartbeats 4000000 in
set_option maxRecDepth 100000 in
theorem m_areMet {E : EV} {h : AH} {o : Nat} {ad : Nat → Nat} {S : MS} {a b : Int} (hM : MR E o ad S h) (hI : Inv S) (ga : 0 ≤ a ∧ a < S 7 0) (gb : 0 ≤ b ∧ b < S 7 0) : CM E yX10_areMet cX10_areMet 3 (some .boolean) 3 0 0 [.ref (o), vI (a), vI (b)] h (qI (fun z h' => ∃ S', MR E o ad S' h' ∧ eqx [17, 18] S S' ∧ ((z = 1 ∧ MeP S a b) ∨ (z = 0 ∧ ¬ MeP S a b)))) := by
  have hR := hM.2.2.2.2
  have hJ := hI
  obtain ⟨i1, i2, i3, i4, i5, i6, iSt, iSi, iWa, iSh, iLa, iS0, iS1, iZe⟩ := hJ
  obtain ⟨p1, p2, p3, p4, p5, p6, p7, p8⟩ := iSi a ga.1 ga.2
  obtain ⟨pt1, pt2, pt3⟩ := iSt _ p2.1 p2.2
  obtain ⟨q1, q2, q3, q4, q5, q6, q7, q8⟩ := iSi b gb.1 gb.2
  obtain ⟨qt1, qt2, qt3⟩ := iSt _ q2.1 q2.2
  have f1 : -60 ≤ frZ S a ∧ frZ S a ≤ 1500 := by unfold frZ; omega
  have f2 : -60 ≤ laZ S a ∧ laZ S a ≤ 1500 := by unfold laZ; omega
  have f3 : -60 ≤ frZ S b ∧ frZ S b ≤ 1500 := by unfold frZ; omega
  have f4 : -60 ≤ laZ S b ∧ laZ S b ≤ 1500 := by unfold laZ; omega
  refine CM.of (by decide) (Nat.le_of_ble_eq_true rfl) (L := [(0, .ref (o)), (1, vI (a)), (2, vI (b))]) rfl ?_
  refine ev_aload_n 0 rfl dX10_areMet_0 ?_
  refine ev_iload_n 1 rfl dX10_areMet_1 ?_
  refine ev_iload_n 2 rfl dX10_areMet_2 ?_
  refine c_X10_223 (m_crosses (a := a) (b := b) hM hI (by omega) (by omega)) hM.1 rfl rfl (Nat.le_of_ble_eq_true rfl) (by decide) dX10_areMet_3 (kI (fun z1 h2 hqz1 => ?_))
  obtain ⟨S3, hM4, ex5, ⟨rfl, b3, r3, s3⟩ | ⟨rfl, b3⟩⟩ := hqz1
  · have hRS3 := hM4.2.2.2.2
    have hxS3 : eqx scr S S3 := (eqx.rf (l := scr) (S := S)).tr ex5 (by decide) (by decide)
    have hIS3 := Inv.x hI hxS3
    refine ev_if_eq (tgt := 54) dX10_areMet_6 (by decide) (by decide) (fun c => absurd c (by decide)) (fun _ => ?_)
    refine ev_aload_n 0 rfl dX10_areMet_9 ?_
    refine mg_34 hM4 dX10_areMet_10 ?_
    refine ev_iload_n 1 rfl dX10_areMet_13 ?_
    refine m_ldE (k := 10) (v := S 10 a) hM4 (by decide) (by rw [ex5 10 (by decide)]) dX10_areMet_14 (by omega) (by show _ < ((40 : Nat) : Int); omega) ?_
    refine ev_aload_n 0 rfl dX10_areMet_15 ?_
    refine mg_34 hM4 dX10_areMet_16 ?_
    refine ev_iload_n 2 rfl dX10_areMet_19 ?_
    refine m_ldE (k := 10) (v := S 10 b) hM4 (by decide) (by rw [ex5 10 (by decide)]) dX10_areMet_20 (by omega) (by show _ < ((40 : Nat) : Int); omega) ?_
    refine ev_icmp_ne (tgt := 54) dX10_areMet_21 (by first | assumption | exact hR _ _ | exact hRS3 _ _ | decide | (simp only [InR]; omega)) (by first | assumption | exact hR _ _ | exact hRS3 _ _ | decide | (simp only [InR]; omega)) (by decide) (fun c21 => ?_) (fun c21 => ?_)
    · refine ev_iconst dX10_areMet_54 ?_
      refine ev_zreturn (by decide) dX10_areMet_55 ?_
      exact ⟨_, rfl, S3, hM4, ex5, Or.inr ⟨rfl, fun q => by unfold MeP at q; first | omega | exact absurd q.1 (by assumption)⟩⟩
    · refine ev_aload_n 0 rfl dX10_areMet_24 ?_
      refine ev_iload_n 1 rfl dX10_areMet_25 ?_
      refine c_X10_197 (m_firstOf (a := a) hM4 hIS3 (by rw [hxS3 7 (by decide)]; omega)) hM4.1 rfl rfl (Nat.le_of_ble_eq_true rfl) (by decide) dX10_areMet_26 (kP ?_)
      refine ev_ren (b := frZ S a) (frZ_x hxS3) ?_
      refine ev_aload_n 0 rfl dX10_areMet_29 ?_
      refine ev_iload_n 2 rfl dX10_areMet_30 ?_
      refine c_X10_200 (m_lastOf (a := b) hM4 hIS3 (by rw [hxS3 7 (by decide)]; omega)) hM4.1 rfl rfl (Nat.le_of_ble_eq_true rfl) (by decide) dX10_areMet_31 (kP ?_)
      refine ev_ren (b := laZ S b) (laZ_x hxS3) ?_
      refine ev_icmp_gt (tgt := 54) dX10_areMet_34 (by first | assumption | exact hR _ _ | exact hRS3 _ _ | decide | (simp only [InR]; omega)) (by first | assumption | exact hR _ _ | exact hRS3 _ _ | decide | (simp only [InR]; omega)) (by decide) (fun c34 => ?_) (fun c34 => ?_)
      · refine ev_iconst dX10_areMet_54 ?_
        refine ev_zreturn (by decide) dX10_areMet_55 ?_
        exact ⟨_, rfl, S3, hM4, ex5, Or.inr ⟨rfl, fun q => by unfold MeP at q; first | omega | exact absurd q.1 (by assumption)⟩⟩
      · refine ev_aload_n 0 rfl dX10_areMet_37 ?_
        refine ev_iload_n 2 rfl dX10_areMet_38 ?_
        refine c_X10_197 (m_firstOf (a := b) hM4 hIS3 (by rw [hxS3 7 (by decide)]; omega)) hM4.1 rfl rfl (Nat.le_of_ble_eq_true rfl) (by decide) dX10_areMet_39 (kP ?_)
        refine ev_ren (b := frZ S b) (frZ_x hxS3) ?_
        refine ev_aload_n 0 rfl dX10_areMet_42 ?_
        refine ev_iload_n 1 rfl dX10_areMet_43 ?_
        refine c_X10_200 (m_lastOf (a := a) hM4 hIS3 (by rw [hxS3 7 (by decide)]; omega)) hM4.1 rfl rfl (Nat.le_of_ble_eq_true rfl) (by decide) dX10_areMet_44 (kP ?_)
        refine ev_ren (b := laZ S a) (laZ_x hxS3) ?_
        refine ev_icmp_gt (tgt := 54) dX10_areMet_47 (by first | assumption | exact hR _ _ | exact hRS3 _ _ | decide | (simp only [InR]; omega)) (by first | assumption | exact hR _ _ | exact hRS3 _ _ | decide | (simp only [InR]; omega)) (by decide) (fun c47 => ?_) (fun c47 => ?_)
        · refine ev_iconst dX10_areMet_54 ?_
          refine ev_zreturn (by decide) dX10_areMet_55 ?_
          exact ⟨_, rfl, S3, hM4, ex5, Or.inr ⟨rfl, fun q => by unfold MeP at q; first | omega | exact absurd q.1 (by assumption)⟩⟩
        · refine ev_iconst dX10_areMet_50 ?_
          refine ev_goto (tgt := 55) dX10_areMet_51 (by decide) ?_
          refine ev_zreturn (by decide) dX10_areMet_55 ?_
          exact ⟨_, rfl, S3, hM4, ex5, Or.inl ⟨rfl, by unfold MeP; exact ⟨by assumption, by omega, by omega, by omega⟩⟩⟩
  · have hRS3 := hM4.2.2.2.2
    have hxS3 : eqx scr S S3 := (eqx.rf (l := scr) (S := S)).tr ex5 (by decide) (by decide)
    have hIS3 := Inv.x hI hxS3
    refine ev_if_eq (tgt := 54) dX10_areMet_6 (by decide) (by decide) (fun _ => ?_) (fun c => absurd c (by decide))
    refine ev_iconst dX10_areMet_54 ?_
    refine ev_zreturn (by decide) dX10_areMet_55 ?_
    exact ⟨_, rfl, S3, hM4, ex5, Or.inr ⟨rfl, fun q => by unfold MeP at q; first | omega | exact absurd q.1 (by assumption)⟩⟩
