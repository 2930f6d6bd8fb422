theorem i2s_e {v : Int} (hv : InR v) : shrZ (shlZ v 16) 16 = i2sZ v := by
  unfold shrZ shlZ i2sZ
  rw [iI_of]
  have e31 : (iI 16 &&& 31 : Int32) = 16 := by decide
  rw [e31]
  generalize iI v = x
  rw [pk_shr _ 16 16 (by decide), Int16.toInt_toInt32, Int32.toInt_toInt16]
  have h1 := pk_shl x 16 16 (by decide)
  have h2 : (x <<< (16 : Int32)).toInt = (x <<< (16 : Int32)).toBitVec.toInt := rfl
  have h3 : x.toInt = x.toBitVec.toInt := rfl
  rw [h2, h3, BitVec.toInt_eq_toNat_cond, BitVec.toInt_eq_toNat_cond, h1]
  have hn := x.toBitVec.isLt
  generalize x.toBitVec.toNat = n at hn ⊢
  rw [Int.shiftRight_eq_div_pow]
  simp only [Int.bmod]
  split <;> split <;> split <;> omega

set_option maxHeartbeats 4000000 in
set_option maxRecDepth 100000 in
theorem m_sheet {E : EV} {h : AH} {o : Nat} {ad : Nat → Nat} {S : MS} {s l n : Int} (hM : MR E o ad S h) (hI : Inv S) (g1 : InR s) (g2 : InR l) (g3 : InR n) : CM E yX10_sheet cX10_sheet 5 (some .int) 2 0 0 [.ref (o), vI (s), vI (l), vI (n)] h (qI (fun z h' => z = sp_sheet s l n ∧ MR E o ad (nx_sheet S s l n) h')) := by
  have hR := hM.2.2.2.2
  have hJ := hI
  obtain ⟨i1, i2, i3, i4, i5, i6, iSt, iSi, iWa, iSh, iLa, iS0, iS1, iZe⟩ := hJ
  refine CM.of (by decide) (Nat.le_of_ble_eq_true rfl) (L := [(0, .ref (o)), (1, vI (s)), (2, vI (l)), (3, vI (n))]) rfl ?_
  refine ev_iload_n 1 rfl dX10_sheet_0 ?_
  refine ev_iload_n 2 rfl dX10_sheet_1 ?_
  refine c_X10_304 (m_isSheet E (by first | assumption | exact hR _ _ | decide | (simp only [InR]; omega)) (by first | assumption | exact hR _ _ | decide | (simp only [InR]; omega))) rfl rfl (Nat.le_of_ble_eq_true rfl) (by decide) dX10_sheet_2 (kB (fun b2 => ?_) (fun b2 => ?_))
  · refine ev_if_eq (tgt := 14) dX10_sheet_5 (by decide) (by decide) (fun c => absurd c (by decide)) (fun _ => ?_)
    refine ev_iload_n 3 rfl dX10_sheet_8 ?_
    refine ev_bipush dX10_sheet_9 (by decide) ?_
    refine ev_icmp_le (tgt := 16) dX10_sheet_11 (by first | assumption | exact hR _ _ | decide | (simp only [InR]; omega)) (by decide) (by decide) (fun c11 => ?_) (fun c11 => ?_)
    · refine ev_iload_n 3 rfl dX10_sheet_16 ?_
      refine ev_if_ge (tgt := 23) dX10_sheet_17 (by first | assumption | exact hR _ _ | decide | (simp only [InR]; omega)) (by decide) (fun c17 => ?_) (fun c17 => ?_)
      · refine ev_aload_n 0 rfl dX10_sheet_23 ?_
        refine mg_116 hM dX10_sheet_24 ?_
        refine ev_iload_n 1 rfl dX10_sheet_27 ?_
        refine ev_iload_n 2 rfl dX10_sheet_28 ?_
        refine m_st (k := 43) hM (by decide) dX10_sheet_29 (by omega) (by show _ < ((4 : Nat) : Int); omega) (by first | assumption | exact hR _ _ | decide | (simp only [InR]; omega)) (fun S1 h2 eS3 hM4 => ?_)
        have hRS1 := hM4.2.2.2.2
        refine ev_aload_n 0 rfl dX10_sheet_30 ?_
        refine mg_119 hM4 dX10_sheet_31 ?_
        refine ev_iload_n 1 rfl dX10_sheet_34 ?_
        refine ev_iload_n 3 rfl dX10_sheet_35 ?_
        refine m_st (k := 44) hM4 (by decide) dX10_sheet_36 (by omega) (by show _ < ((4 : Nat) : Int); omega) (by first | assumption | exact hR _ _ | exact hRS1 _ _ | decide | (simp only [InR]; omega)) (fun S5 h6 eS7 hM8 => ?_)
        have hRS5 := hM8.2.2.2.2
        refine ev_iconst dX10_sheet_37 ?_
        refine ev_istore (L' := [(4, vI (0)), (0, .ref (o)), (1, vI (s)), (2, vI (l)), (3, vI (n))]) dX10_sheet_38 (by decide) rfl ?_
        refine up_ind (P := fun i : Int => ∀ (S9 : MS) (h10 : AH), 0 ≤ i → MR E o ad S9 h10 → eqx [45] S5 S9 → (∀ z : Int, S9 45 z = if 36 * s ≤ z ∧ z < 36 * s + i then 0 else S5 45 z) → Ev E RX10 cX10_sheet 5 (some .int) "sheet" (qI (fun z h' => z = sp_sheet s l n ∧ MR E o ad (nx_sheet S s l n) h')) 2 0 0 40 [(4, vI (i)), (0, .ref (o)), (1, vI (s)), (2, vI (l)), (3, vI (n))] [] h10) (N := 36) ?_ 0 (by omega)  S5 h6 (by omega) hM8 eqx.rf (fun z => by rw [if_neg (by omega)])
        intro i ihi hiN S9 h10 pi hM11 hx12 hv
        have hRS9 := hM11.2.2.2.2
        refine ev_iload 0 rfl dX10_sheet_40 ?_
        refine ev_bipush dX10_sheet_42 (by decide) ?_
        refine ev_icmp_ge (tgt := 66) dX10_sheet_44 (by first | assumption | exact hR _ _ | exact hRS1 _ _ | exact hRS5 _ _ | exact hRS9 _ _ | decide | (simp only [InR]; omega)) (by decide) (by decide) (fun c44 => ?_) (fun c44 => ?_)
        · refine ev_iload_n 4 rfl dX10_sheet_66 ?_
          refine ev_ireturn dX10_sheet_67 ?_
          refine ⟨_, rfl, ?_, ?_⟩
          · simp only [sp_sheet]; rw [if_neg (by omega), if_neg (by omega)]
          · have e9 : S9 = nx_sheet S s l n := by
              funext k z
              simp only [nx_sheet]
              rw [if_pos (by omega)]
              by_cases k1 : k = 43
              · subst k1; rw [if_pos rfl, hx12 43 (by decide), eS7, upS_ne (by decide), eS3]; unfold upS; rw [if_pos rfl]
              · rw [if_neg k1]
                by_cases k2 : k = 44
                · subst k2; rw [if_pos rfl, hx12 44 (by decide), eS7]; unfold upS; rw [if_pos rfl]; split; rfl; (rw [eS3, upS_ne (by decide)])
                · rw [if_neg k2]
                  by_cases k3 : k = 45
                  · subst k3; rw [if_pos rfl, hv z, eS7, upS_ne (by decide), eS3, upS_ne (by decide)]; (repeat' split) <;> first | rfl | omega
                  · rw [if_neg k3, hx12 k (by simp [k3]), eS7, upS_ne k2, eS3, upS_ne k1]
            rw [← e9]; exact hM11
        · refine ev_aload_n 1 rfl dX10_sheet_47 ?_
          refine mg_122 hM11 dX10_sheet_48 ?_
          refine ev_bipush dX10_sheet_51 (by decide) ?_
          refine ev_iload_n 2 rfl dX10_sheet_53 ?_
          refine ev_imul dX10_sheet_54 ?_
          refine ev_iload 0 rfl dX10_sheet_55 ?_
          refine ev_iadd dX10_sheet_57 ?_
          refine ev_iconst dX10_sheet_58 ?_
          refine m_st (k := 45) hM11 (by decide) dX10_sheet_59 (by omega) (by show _ < ((144 : Nat) : Int); omega) (by decide) (fun S13 h14 eS15 hM16 => ?_)
          have hRS13 := hM16.2.2.2.2
          refine ev_iinc (L' := [(4, vI (i + 1)), (0, .ref (o)), (1, vI (s)), (2, vI (l)), (3, vI (n))]) 0 rfl dX10_sheet_60 (by decide) rfl ?_
          refine ev_goto (tgt := 40) dX10_sheet_63 (by decide) ?_
          exact ihi (i + 1) (by omega) (by omega) S13 h14 (by omega) hM16 (by rw [eS15]; exact eqx.up (l := [45]) hx12 (by decide)) (fun z => by rw [eS15]; by_cases hz : z = 36 * s + i; (rw [hz, upS_at, if_pos (by omega)]); (rw [upS_nz hz, hv z]; (repeat' split) <;> first | rfl | omega))
      · refine ev_bipush dX10_sheet_20 (by decide) ?_
        refine ev_ireturn dX10_sheet_22 ?_
        refine ⟨_, rfl, ?_, ?_⟩
        · simp only [sp_sheet]; (repeat' split) <;> first | rfl | omega
        · simp only [nx_sheet]; rw [if_neg (by omega)]; exact hM
    · refine ev_iconst dX10_sheet_14 ?_
      refine ev_ireturn dX10_sheet_15 ?_
      refine ⟨_, rfl, ?_, ?_⟩
      · simp only [sp_sheet]; (repeat' split) <;> first | rfl | omega
      · simp only [nx_sheet]; rw [if_neg (by omega)]; exact hM
  · refine ev_if_eq (tgt := 14) dX10_sheet_5 (by decide) (by decide) (fun _ => ?_) (fun c => absurd c (by decide))
    refine ev_iconst dX10_sheet_14 ?_
    refine ev_ireturn dX10_sheet_15 ?_
    refine ⟨_, rfl, ?_, ?_⟩
    · simp only [sp_sheet]; (repeat' split) <;> first | rfl | omega
    · simp only [nx_sheet]; rw [if_neg (by omega)]; exact hM

set_option maxHeartbeats 4000000 in
set_option maxRecDepth 100000 in
theorem m_item {E : EV} {h : AH} {o : Nat} {ad : Nat → Nat} {S : MS} {s l i v : Int} (hM : MR E o ad S h) (hI : Inv S) (g1 : InR s) (g2 : InR l) (g3 : InR i) (g4 : InR v) : CM E yX10_item cX10_item 5 (some .int) 2 0 0 [.ref (o), vI (s), vI (l), vI (i), vI (v)] h (qI (fun z h' => z = sp_item S s l i ∧ MR E o ad (nx_item S s l i v) h')) := by
  have hR := hM.2.2.2.2
  have hJ := hI
  obtain ⟨i1, i2, i3, i4, i5, i6, iSt, iSi, iWa, iSh, iLa, iS0, iS1, iZe⟩ := hJ
  have i2b : InR (i2sZ v) := iI_in _
  refine CM.of (by decide) (Nat.le_of_ble_eq_true rfl) (L := [(0, .ref (o)), (1, vI (s)), (2, vI (l)), (3, vI (i)), (4, vI (v))]) rfl ?_
  refine ev_iload_n 1 rfl dX10_item_0 ?_
  refine ev_iload_n 2 rfl dX10_item_1 ?_
  refine c_X10_304 (m_isSheet E (by first | assumption | exact hR _ _ | decide | (simp only [InR]; omega)) (by first | assumption | exact hR _ _ | decide | (simp only [InR]; omega))) rfl rfl (Nat.le_of_ble_eq_true rfl) (by decide) dX10_item_2 (kB (fun b2 => ?_) (fun b2 => ?_))
  · refine ev_if_ne (tgt := 10) dX10_item_5 (by decide) (by decide) (fun _ => ?_) (fun c => absurd c (by decide))
    have sl := iLa s (by omega) (by omega)
    refine ev_aload_n 0 rfl dX10_item_10 ?_
    refine mg_116 hM dX10_item_11 ?_
    refine ev_iload_n 1 rfl dX10_item_14 ?_
    refine m_ld (k := 43) hM (by decide) dX10_item_15 (by omega) (by show _ < ((4 : Nat) : Int); omega) ?_
    refine ev_iload_n 2 rfl dX10_item_16 ?_
    refine ev_icmp_eq (tgt := 37) dX10_item_17 (by first | assumption | exact hR _ _ | decide | (simp only [InR]; omega)) (by first | assumption | exact hR _ _ | decide | (simp only [InR]; omega)) (by decide) (fun c17 => ?_) (fun c17 => ?_)
    · refine ev_iload_n 3 rfl dX10_item_37 ?_
      refine ev_i2l dX10_item_38 (by first | assumption | exact hR _ _ | decide | (simp only [InR]; omega)) ?_
      refine ev_lconst (z := 0) dX10_item_39 (by decide) ?_
      refine ev_aload_n 0 rfl dX10_item_40 ?_
      refine mg_119 hM dX10_item_41 ?_
      refine ev_iload_n 1 rfl dX10_item_44 ?_
      refine m_ld (k := 44) hM (by decide) dX10_item_45 (by omega) (by show _ < ((4 : Nat) : Int); omega) ?_
      refine ev_iconst dX10_item_46 ?_
      refine ev_isub dX10_item_47 ?_
      refine ev_i2l dX10_item_48 (by first | assumption | exact hR _ _ | decide | (simp only [InR]; omega)) ?_
      refine c_X10_143 (m_in E (v := i) (a := 0) (b := (S 44 s) - 1) (by first | assumption | exact hR _ _ | decide | (simp only [InL]; omega)) (by decide) (by first | assumption | exact hR _ _ | decide | (simp only [InL]; omega))) rfl rfl (Nat.le_of_ble_eq_true rfl) (by decide) dX10_item_49 (kB (fun b49 => ?_) (fun b49 => ?_))
      · refine ev_if_ne (tgt := 58) dX10_item_52 (by decide) (by decide) (fun _ => ?_) (fun c => absurd c (by decide))
        refine ev_aload_n 0 rfl dX10_item_58 ?_
        refine mg_122 hM dX10_item_59 ?_
        refine ev_bipush dX10_item_62 (by decide) ?_
        refine ev_iload_n 1 rfl dX10_item_64 ?_
        refine ev_imul dX10_item_65 ?_
        refine ev_iload_n 3 rfl dX10_item_66 ?_
        refine ev_iadd dX10_item_67 ?_
        refine ev_iload_n 2 rfl dX10_item_68 ?_
        refine ev_if_ne (tgt := 83) dX10_item_69 (by first | assumption | exact hR _ _ | decide | (simp only [InR]; omega)) (by decide) (fun c69 => ?_) (fun c69 => ?_)
        · refine ev_iload 4 rfl dX10_item_83 ?_
          refine m_st (k := 45) hM (by decide) dX10_item_85 (by omega) (by show _ < ((144 : Nat) : Int); omega) (by first | assumption | exact hR _ _ | decide | (simp only [InR]; omega)) (fun S1 h2 eS3 hM4 => ?_)
          have hRS1 := hM4.2.2.2.2
          refine ev_iconst dX10_item_86 ?_
          refine ev_ireturn dX10_item_87 ?_
          refine ⟨_, rfl, ?_, ?_⟩
          · simp only [sp_item]; (repeat' split) <;> first | rfl | omega
          · subst eS3; simp only [nx_item, itV]; rw [if_pos (by omega)]; first | (rw [if_pos (by omega)]; exact hM4) | (rw [if_neg (by omega)]; exact hM4)
        · refine ev_iload 4 rfl dX10_item_72 ?_
          refine ev_bipush dX10_item_74 (by decide) ?_
          refine ev_ishl dX10_item_76 ?_
          refine ev_bipush dX10_item_77 (by decide) ?_
          refine ev_ishr dX10_item_79 ?_
          refine ev_ren (b := i2sZ v) (i2s_e g4) ?_
          refine ev_goto (tgt := 85) dX10_item_80 (by decide) ?_
          refine m_st (k := 45) hM (by decide) dX10_item_85 (by omega) (by show _ < ((144 : Nat) : Int); omega) (by first | assumption | exact hR _ _ | decide | (simp only [InR]; omega)) (fun S5 h6 eS7 hM8 => ?_)
          have hRS5 := hM8.2.2.2.2
          refine ev_iconst dX10_item_86 ?_
          refine ev_ireturn dX10_item_87 ?_
          refine ⟨_, rfl, ?_, ?_⟩
          · simp only [sp_item]; (repeat' split) <;> first | rfl | omega
          · subst eS7; simp only [nx_item, itV]; rw [if_pos (by omega)]; first | (rw [if_pos (by omega)]; exact hM8) | (rw [if_neg (by omega)]; exact hM8)
      · refine ev_if_ne (tgt := 58) dX10_item_52 (by decide) (by decide) (fun c => absurd c (by decide)) (fun _ => ?_)
        refine ev_bipush dX10_item_55 (by decide) ?_
        refine ev_ireturn dX10_item_57 ?_
        refine ⟨_, rfl, ?_, ?_⟩
        · simp only [sp_item]; (repeat' split) <;> first | rfl | omega
        · simp only [nx_item]; rw [if_neg (by omega)]; exact hM
    · refine ev_aload_n 0 rfl dX10_item_20 ?_
      refine mg_116 hM dX10_item_21 ?_
      refine ev_iload_n 1 rfl dX10_item_24 ?_
      refine m_ld (k := 43) hM (by decide) dX10_item_25 (by omega) (by show _ < ((4 : Nat) : Int); omega) ?_
      refine ev_if_ge (tgt := 34) dX10_item_26 (by first | assumption | exact hR _ _ | decide | (simp only [InR]; omega)) (by decide) (fun c26 => ?_) (fun c26 => ?_)
      · refine ev_bipush dX10_item_34 (by decide) ?_
        refine ev_ireturn dX10_item_36 ?_
        refine ⟨_, rfl, ?_, ?_⟩
        · simp only [sp_item]; (repeat' split) <;> first | rfl | omega
        · simp only [nx_item]; rw [if_neg (by omega)]; exact hM
      · refine ev_bipush dX10_item_29 (by decide) ?_
        refine ev_goto (tgt := 36) dX10_item_31 (by decide) ?_
        refine ev_ireturn dX10_item_36 ?_
        refine ⟨_, rfl, ?_, ?_⟩
        · simp only [sp_item]; (repeat' split) <;> first | rfl | omega
        · simp only [nx_item]; rw [if_neg (by omega)]; exact hM
  · refine ev_if_ne (tgt := 10) dX10_item_5 (by decide) (by decide) (fun c => absurd c (by decide)) (fun _ => ?_)
    refine ev_iconst dX10_item_8 ?_
    refine ev_ireturn dX10_item_9 ?_
    refine ⟨_, rfl, ?_, ?_⟩
    · simp only [sp_item]; (repeat' split) <;> first | rfl | omega
    · simp only [nx_item]; rw [if_neg (by omega)]; exact hM
