theorem few_le {M : Int → Int → Bool} {n c : Int} {r : List Int} (hn : 0 ≤ n) (h : FewP M n c r) : c ≤ n := by
  by_cases e : c ≤ n
  · exact e
  · exact absurd (h.2.2 n hn (by omega)) (dfs_full _ _ Gd_nil (by have e0 : begL [] = 0 := rfl; omega))
noncomputable def cuZ (S : MS) (n : Int) : Int × List Int := fewZ (MM S (nightL S n)) (len0 (nightL S n))
noncomputable def sp_curtains (S : MS) (n : Int) : Int := if ¬ NI n then -1 else if 10 < len0 (nightL S n) then -3 else (cuZ S n).1
noncomputable def cuA (S : MS) (l r : List Int) (k w : Int) : Int := if w = 0 then meK r k (len0 l) else if w = 1 then tiK S l r k (len0 l) else if w = 2 then avK S l r k 0 (len0 l) else if w = 3 then avK S l r k 1 (len0 l) else if w = 4 then avK S l r k 2 (len0 l) else fiK l r k (len0 l)
noncomputable def sp_curtain (S : MS) (n k w : Int) : Int := if ¬ (NI n ∧ 0 ≤ k ∧ 0 ≤ w ∧ w ≤ 5) then -100001 else if 10 < len0 (nightL S n) then -100003 else if (cuZ S n).1 ≤ k then -100001 else if (1 < w ∧ w < 5) ∧ meK (cuZ S n).2 k (len0 (nightL S n)) < 2 then -100004 else cuA S (nightL S n) (cuZ S n).2 k w
def ixB (l : List Int) (a : Int) : Int → Bool := fun k => decide (at0 l k = a)
noncomputable def sp_curtainOf (S : MS) (a : Int) : Int := if ¬ SG S a then -1 else if S 8 a = 0 then -12 else if 10 < len0 (nightL S (S 10 a)) then -3 else at0 (cuZ S (S 10 a)).2 (scanI (ixB (nightL S (S 10 a)) a) 0 (len0 (nightL S (S 10 a))))
theorem scanI_ne {p : Int → Bool} {j N : Int} (hp : p j = true) (h1 : j < N) : ∀ i, i ≤ j → scanI p i N ≠ -1 ∨ i < 0 := by
  refine up_ind (fun i ih hi => ?_)
  by_cases e0 : i < 0
  · exact Or.inr e0
  · refine Or.inl ?_
    rw [scanI_s _ (by omega)]
    split
    · omega
    · next hc =>
      by_cases e : i = j
      · rw [e] at hc
        exact absurd hp hc
      · exact (ih (i + 1) (by omega) (by omega)).resolve_right (by omega)
theorem sel_mem {S : MS} {n a : Int} (h : SelP S n a) (h0 : 0 ≤ a) : ∀ i : Nat, a < i → a ∈ selL S n i := by
  intro i
  induction i with
  | zero => intro q; omega
  | succ i ih =>
    intro q
    unfold selL
    by_cases e : a = i
    · rw [← e, if_pos h]
      exact List.mem_append.mpr (Or.inr (List.mem_singleton.mpr rfl))
    · have := ih (by omega)
      split
      · exact List.mem_append.mpr (Or.inl this)
      · exact this
theorem night_at {S : MS} {n a : Int} (hI : Inv S) (ha : SG S a) (h : SelP S n a) : ∃ j, 0 ≤ j ∧ j < len0 (nightL S n) ∧ at0 (nightL S n) j = a := mem_at0 (sel_mem h ha.1 _ (by have := hI.2.1; omega))

set_option maxHeartbeats 4000000 in
set_option maxRecDepth 100000 in
theorem m_curtains {E : EV} {h : AH} {o : Nat} {ad : Nat → Nat} {S : MS} {n : Int} (hM : MR E o ad S h) (hI : Inv S) (g1 : InR n) : CM E yX10_curtains cX10_curtains 2 (some .int) 8 0 0 [.ref (o), vI (n)] h (qI (fun z h' => z = sp_curtains S n ∧ ∃ S', MR E o ad S' h' ∧ eqx [17, 18, 19, 20, 21, 22, 23, 25, 26, 27, 28, 29, 30] S S')) := by
  have hR := hM.2.2.2.2
  have hJ := hI
  obtain ⟨i1, i2, i3, i4, i5, i6, iSt, iSi, iWa, iSh, iLa, iS0, iS1, iZe⟩ := hJ
  refine CM.of (by decide) (Nat.le_of_ble_eq_true rfl) (L := [(0, .ref (o)), (1, vI (n))]) rfl ?_
  refine ev_iload_n 1 rfl dX10_curtains_0 ?_
  refine c_X10_170 (m_isNight E (by first | assumption | exact hR _ _ | decide | (simp only [InR]; omega))) rfl rfl (Nat.le_of_ble_eq_true rfl) (by decide) dX10_curtains_1 (kB (fun b1 => ?_) (fun b1 => ?_))
  · refine ev_if_eq (tgt := 15) dX10_curtains_4 (by decide) (by decide) (fun c => absurd c (by decide)) (fun _ => ?_)
    refine ev_aload_n 0 rfl dX10_curtains_7 ?_
    refine ev_iload_n 1 rfl dX10_curtains_8 ?_
    obtain ⟨nb1, nb2⟩ := night_b (S := S) (n := n) hI
    refine c_X10_260 (m_findCurtains (n := n) hM hI (by first | assumption | exact hR _ _ | decide | (simp only [InR]; omega))) hM.1 rfl rfl (Nat.le_of_ble_eq_true rfl) (by decide) dX10_curtains_9 (kI (fun z1 h2 hqz1 => ?_))
    obtain ⟨S3, hM4, ex5, ⟨hful, rfl⟩ | ⟨hful, r, hfw, hfc⟩⟩ := hqz1
    · have hRS3 := hM4.2.2.2.2
      have hxS3 : eqx scr S S3 := (eqx.rf (l := scr) (S := S)).tr ex5 (by decide) (by decide)
      have hIS3 := Inv.x hI hxS3
      refine ev_goto (tgt := 16) dX10_curtains_12 (by decide) ?_
      refine ev_ireturn dX10_curtains_16 ?_
      refine ⟨_, rfl, ?_, S3, hM4, (eqx.tr (l := [17, 18, 19, 20, 21, 22, 23, 25, 26, 27, 28, 29, 30]) (eqx.rf (l := [17, 18, 19, 20, 21, 22, 23, 25, 26, 27, 28, 29, 30]) (S := S)) ex5 (by decide) (by decide))⟩
      simp only [sp_curtains]; rw [if_neg (by omega), if_pos (by omega)]
    · have hRS3 := hM4.2.2.2.2
      have hcu : cuZ S n = (z1, r) := fewZ_eq hfw
      have hc0 := hfw.1
      have hc1 := few_le nb1.1 hfw
      obtain ⟨fg1, fg2, fg3⟩ := few_ok nb1.1 hfw
      have hxS3 : eqx scr S S3 := (eqx.rf (l := scr) (S := S)).tr ex5 (by decide) (by decide)
      have hIS3 := Inv.x hI hxS3
      refine ev_goto (tgt := 16) dX10_curtains_12 (by decide) ?_
      refine ev_ireturn dX10_curtains_16 ?_
      refine ⟨_, rfl, ?_, S3, hM4, (eqx.tr (l := [17, 18, 19, 20, 21, 22, 23, 25, 26, 27, 28, 29, 30]) (eqx.rf (l := [17, 18, 19, 20, 21, 22, 23, 25, 26, 27, 28, 29, 30]) (S := S)) ex5 (by decide) (by decide))⟩
      simp only [sp_curtains]; rw [if_neg (by omega), if_neg (by omega), hcu]
  · refine ev_if_eq (tgt := 15) dX10_curtains_4 (by decide) (by decide) (fun _ => ?_) (fun c => absurd c (by decide))
    refine ev_iconst dX10_curtains_15 ?_
    refine ev_ireturn dX10_curtains_16 ?_
    refine ⟨_, rfl, ?_, S, hM, (eqx.rf (l := [17, 18, 19, 20, 21, 22, 23, 25, 26, 27, 28, 29, 30]) (S := S))⟩
    simp only [sp_curtains]; rw [if_pos (by omega)]

set_option maxHeartbeats 4000000 in
set_option maxRecDepth 100000 in
theorem m_curtain {E : EV} {h : AH} {o : Nat} {ad : Nat → Nat} {S : MS} {n k w : Int} (hM : MR E o ad S h) (hI : Inv S) (g1 : InR n) (g2 : InR k) (g3 : InR w) : CM E yX10_curtain cX10_curtain 5 (some .int) 8 0 0 [.ref (o), vI (n), vI (k), vI (w)] h (qI (fun z h' => z = sp_curtain S n k w ∧ ∃ S', MR E o ad S' h' ∧ eqx [17, 18, 19, 20, 21, 22, 23, 25, 26, 27, 28, 29, 30] S S')) := by
  have hR := hM.2.2.2.2
  have hJ := hI
  obtain ⟨i1, i2, i3, i4, i5, i6, iSt, iSi, iWa, iSh, iLa, iS0, iS1, iZe⟩ := hJ
  refine CM.of (by decide) (Nat.le_of_ble_eq_true rfl) (L := [(0, .ref (o)), (1, vI (n)), (2, vI (k)), (3, vI (w))]) rfl ?_
  refine ev_iload_n 1 rfl dX10_curtain_0 ?_
  refine c_X10_170 (m_isNight E (by first | assumption | exact hR _ _ | decide | (simp only [InR]; omega))) rfl rfl (Nat.le_of_ble_eq_true rfl) (by decide) dX10_curtain_1 (kB (fun b1 => ?_) (fun b1 => ?_))
  · refine ev_if_eq (tgt := 23) dX10_curtain_4 (by decide) (by decide) (fun c => absurd c (by decide)) (fun _ => ?_)
    refine ev_iload_n 2 rfl dX10_curtain_7 ?_
    refine ev_if_lt (tgt := 23) dX10_curtain_8 (by first | assumption | exact hR _ _ | decide | (simp only [InR]; omega)) (by decide) (fun c8 => ?_) (fun c8 => ?_)
    · refine ev_ldc (z := -100001) dX10_curtain_23 k_X10_151 (by decide) ?_
      refine ev_ireturn dX10_curtain_25 ?_
      refine ⟨_, rfl, ?_, S, hM, (eqx.rf (l := [17, 18, 19, 20, 21, 22, 23, 25, 26, 27, 28, 29, 30]) (S := S))⟩
      simp only [sp_curtain]; rw [if_pos (by omega)]
    · refine ev_iload_n 3 rfl dX10_curtain_11 ?_
      refine ev_i2l dX10_curtain_12 (by first | assumption | exact hR _ _ | decide | (simp only [InR]; omega)) ?_
      refine ev_lconst (z := 0) dX10_curtain_13 (by decide) ?_
      refine ev_ldc2 (z := 5) dX10_curtain_14 k_X10_263 (by decide) ?_
      refine c_X10_143 (m_in E (v := w) (a := 0) (b := 5) (by first | assumption | exact hR _ _ | exact (hR _ _).l | decide | (simp only [InL]; omega)) (by decide) (by decide)) rfl rfl (Nat.le_of_ble_eq_true rfl) (by decide) dX10_curtain_17 (kB (fun b17 => ?_) (fun b17 => ?_))
      · refine ev_if_ne (tgt := 26) dX10_curtain_20 (by decide) (by decide) (fun _ => ?_) (fun c => absurd c (by decide))
        refine ev_aload_n 0 rfl dX10_curtain_26 ?_
        refine ev_iload_n 1 rfl dX10_curtain_27 ?_
        obtain ⟨nb1, nb2⟩ := night_b (S := S) (n := n) hI
        refine c_X10_260 (m_findCurtains (n := n) hM hI (by first | assumption | exact hR _ _ | decide | (simp only [InR]; omega))) hM.1 rfl rfl (Nat.le_of_ble_eq_true rfl) (by decide) dX10_curtain_28 (kI (fun z1 h2 hqz1 => ?_))
        obtain ⟨S3, hM4, ex5, ⟨hful, rfl⟩ | ⟨hful, r, hfw, hfc⟩⟩ := hqz1
        · have hRS3 := hM4.2.2.2.2
          have hxS3 : eqx scr S S3 := (eqx.rf (l := scr) (S := S)).tr ex5 (by decide) (by decide)
          have hIS3 := Inv.x hI hxS3
          refine ev_istore (L' := [(4, vI (-3)), (0, .ref (o)), (1, vI (n)), (2, vI (k)), (3, vI (w))]) dX10_curtain_31 (by decide) rfl ?_
          refine ev_iload 0 rfl dX10_curtain_33 ?_
          refine ev_if_ge (tgt := 45) dX10_curtain_35 (by decide) (by decide) (fun c => absurd c (by decide)) (fun _ => ?_)
          refine ev_iload 0 rfl dX10_curtain_38 ?_
          refine ev_ldcw (z := 100000) dX10_curtain_40 k_X10_265 (by decide) ?_
          refine ev_isub dX10_curtain_43 ?_
          refine ev_ireturn dX10_curtain_44 ?_
          refine ⟨_, rfl, ?_, S3, hM4, (eqx.tr (l := [17, 18, 19, 20, 21, 22, 23, 25, 26, 27, 28, 29, 30]) (eqx.rf (l := [17, 18, 19, 20, 21, 22, 23, 25, 26, 27, 28, 29, 30]) (S := S)) ex5 (by decide) (by decide))⟩
          simp only [sp_curtain]; rw [if_neg (by omega), if_pos (by omega)]; rfl
        · have hRS3 := hM4.2.2.2.2
          have hcu : cuZ S n = (z1, r) := fewZ_eq hfw
          have hc0 := hfw.1
          have hc1 := few_le nb1.1 hfw
          obtain ⟨fg1, fg2, fg3⟩ := few_ok nb1.1 hfw
          have hxS3 : eqx scr S S3 := (eqx.rf (l := scr) (S := S)).tr ex5 (by decide) (by decide)
          have hIS3 := Inv.x hI hxS3
          refine ev_istore (L' := [(4, vI (z1)), (0, .ref (o)), (1, vI (n)), (2, vI (k)), (3, vI (w))]) dX10_curtain_31 (by decide) rfl ?_
          refine ev_iload 0 rfl dX10_curtain_33 ?_
          refine ev_if_ge (tgt := 45) dX10_curtain_35 (by first | assumption | exact hR _ _ | exact hRS3 _ _ | decide | (simp only [InR]; omega)) (by decide) (fun c35 => ?_) (fun c35 => ?_)
          · refine ev_iload_n 3 rfl dX10_curtain_45 ?_
            refine ev_iload 0 rfl dX10_curtain_46 ?_
            refine ev_icmp_lt (tgt := 54) dX10_curtain_48 (by first | assumption | exact hR _ _ | exact hRS3 _ _ | decide | (simp only [InR]; omega)) (by first | assumption | exact hR _ _ | exact hRS3 _ _ | decide | (simp only [InR]; omega)) (by decide) (fun c48 => ?_) (fun c48 => ?_)
            · obtain ⟨p1, p2, p3, p4, p5, p6⟩ := hfc.2.2.2 k (by omega) (by omega)
              refine ev_iload_n 4 rfl dX10_curtain_54 ?_
              refine ev_iconst dX10_curtain_55 ?_
              refine ev_icmp_le (tgt := 77) dX10_curtain_56 (by first | assumption | exact hR _ _ | exact hRS3 _ _ | decide | (simp only [InR]; omega)) (by decide) (by decide) (fun c56 => ?_) (fun c56 => ?_)
              · refine ev_iload_n 4 rfl dX10_curtain_77 ?_
                refine ev_if_ne (tgt := 90) dX10_curtain_78 (by first | assumption | exact hR _ _ | exact hRS3 _ _ | decide | (simp only [InR]; omega)) (by decide) (fun c78 => ?_) (fun c78 => ?_)
                · refine ev_iload_n 4 rfl dX10_curtain_90 ?_
                  refine ev_iconst dX10_curtain_91 ?_
                  refine ev_icmp_ne (tgt := 104) dX10_curtain_92 (by first | assumption | exact hR _ _ | exact hRS3 _ _ | decide | (simp only [InR]; omega)) (by decide) (by decide) (fun c92 => ?_) (fun c92 => ?_)
                  · refine ev_iload_n 4 rfl dX10_curtain_104 ?_
                    refine ev_iconst dX10_curtain_105 ?_
                    refine ev_icmp_ne (tgt := 118) dX10_curtain_106 (by first | assumption | exact hR _ _ | exact hRS3 _ _ | decide | (simp only [InR]; omega)) (by decide) (by decide) (fun c106 => ?_) (fun c106 => ?_)
                    · refine ev_iload_n 4 rfl dX10_curtain_118 ?_
                      refine ev_iconst dX10_curtain_119 ?_
                      refine ev_icmp_ne (tgt := 132) dX10_curtain_120 (by first | assumption | exact hR _ _ | exact hRS3 _ _ | decide | (simp only [InR]; omega)) (by decide) (by decide) (fun c120 => ?_) (fun c120 => ?_)
                      · refine ev_iload_n 4 rfl dX10_curtain_132 ?_
                        refine ev_iconst dX10_curtain_133 ?_
                        refine ev_icmp_ne (tgt := 146) dX10_curtain_134 (by first | assumption | exact hR _ _ | exact hRS3 _ _ | decide | (simp only [InR]; omega)) (by decide) (by decide) (fun c134 => ?_) (fun c134 => ?_)
                        · refine ev_aload_n 1 rfl dX10_curtain_146 ?_
                          refine mg_83 hM4 dX10_curtain_147 ?_
                          refine ev_iload_n 3 rfl dX10_curtain_150 ?_
                          refine m_ld (k := 30) hM4 (by decide) dX10_curtain_151 (by omega) (by show _ < ((10 : Nat) : Int); omega) ?_
                          refine ev_ireturn dX10_curtain_152 ?_
                          refine ⟨_, rfl, ?_, S3, hM4, (eqx.tr (l := [17, 18, 19, 20, 21, 22, 23, 25, 26, 27, 28, 29, 30]) (eqx.rf (l := [17, 18, 19, 20, 21, 22, 23, 25, 26, 27, 28, 29, 30]) (S := S)) ex5 (by decide) (by decide))⟩
                          simp only [sp_curtain]; rw [if_neg (by omega), if_neg (by omega), hcu, if_neg (by omega)]; dsimp only; rw [if_neg (by omega)]; unfold cuA; (repeat' split) <;> first | omega | assumption
                        · refine ev_aload_n 1 rfl dX10_curtain_137 ?_
                          refine mg_80 hM4 dX10_curtain_138 ?_
                          refine ev_iload_n 3 rfl dX10_curtain_141 ?_
                          refine m_ld (k := 29) hM4 (by decide) dX10_curtain_142 (by omega) (by show _ < ((10 : Nat) : Int); omega) ?_
                          refine ev_goto (tgt := 152) dX10_curtain_143 (by decide) ?_
                          refine ev_ireturn dX10_curtain_152 ?_
                          refine ⟨_, rfl, ?_, S3, hM4, (eqx.tr (l := [17, 18, 19, 20, 21, 22, 23, 25, 26, 27, 28, 29, 30]) (eqx.rf (l := [17, 18, 19, 20, 21, 22, 23, 25, 26, 27, 28, 29, 30]) (S := S)) ex5 (by decide) (by decide))⟩
                          simp only [sp_curtain]; rw [if_neg (by omega), if_neg (by omega), hcu, if_neg (by omega)]; dsimp only; rw [if_neg (by omega)]; unfold cuA; (repeat' split) <;> first | omega | assumption
                      · refine ev_aload_n 1 rfl dX10_curtain_123 ?_
                        refine mg_77 hM4 dX10_curtain_124 ?_
                        refine ev_iload_n 3 rfl dX10_curtain_127 ?_
                        refine m_ld (k := 28) hM4 (by decide) dX10_curtain_128 (by omega) (by show _ < ((10 : Nat) : Int); omega) ?_
                        refine ev_goto (tgt := 152) dX10_curtain_129 (by decide) ?_
                        refine ev_ireturn dX10_curtain_152 ?_
                        refine ⟨_, rfl, ?_, S3, hM4, (eqx.tr (l := [17, 18, 19, 20, 21, 22, 23, 25, 26, 27, 28, 29, 30]) (eqx.rf (l := [17, 18, 19, 20, 21, 22, 23, 25, 26, 27, 28, 29, 30]) (S := S)) ex5 (by decide) (by decide))⟩
                        simp only [sp_curtain]; rw [if_neg (by omega), if_neg (by omega), hcu, if_neg (by omega)]; dsimp only; rw [if_neg (by omega)]; unfold cuA; (repeat' split) <;> first | omega | assumption
                    · refine ev_aload_n 1 rfl dX10_curtain_109 ?_
                      refine mg_74 hM4 dX10_curtain_110 ?_
                      refine ev_iload_n 3 rfl dX10_curtain_113 ?_
                      refine m_ld (k := 27) hM4 (by decide) dX10_curtain_114 (by omega) (by show _ < ((10 : Nat) : Int); omega) ?_
                      refine ev_goto (tgt := 152) dX10_curtain_115 (by decide) ?_
                      refine ev_ireturn dX10_curtain_152 ?_
                      refine ⟨_, rfl, ?_, S3, hM4, (eqx.tr (l := [17, 18, 19, 20, 21, 22, 23, 25, 26, 27, 28, 29, 30]) (eqx.rf (l := [17, 18, 19, 20, 21, 22, 23, 25, 26, 27, 28, 29, 30]) (S := S)) ex5 (by decide) (by decide))⟩
                      simp only [sp_curtain]; rw [if_neg (by omega), if_neg (by omega), hcu, if_neg (by omega)]; dsimp only; rw [if_neg (by omega)]; unfold cuA; (repeat' split) <;> first | omega | assumption
                  · refine ev_aload_n 1 rfl dX10_curtain_95 ?_
                    refine mg_71 hM4 dX10_curtain_96 ?_
                    refine ev_iload_n 3 rfl dX10_curtain_99 ?_
                    refine m_ld (k := 26) hM4 (by decide) dX10_curtain_100 (by omega) (by show _ < ((10 : Nat) : Int); omega) ?_
                    refine ev_goto (tgt := 152) dX10_curtain_101 (by decide) ?_
                    refine ev_ireturn dX10_curtain_152 ?_
                    refine ⟨_, rfl, ?_, S3, hM4, (eqx.tr (l := [17, 18, 19, 20, 21, 22, 23, 25, 26, 27, 28, 29, 30]) (eqx.rf (l := [17, 18, 19, 20, 21, 22, 23, 25, 26, 27, 28, 29, 30]) (S := S)) ex5 (by decide) (by decide))⟩
                    simp only [sp_curtain]; rw [if_neg (by omega), if_neg (by omega), hcu, if_neg (by omega)]; dsimp only; rw [if_neg (by omega)]; unfold cuA; (repeat' split) <;> first | omega | assumption
                · refine ev_aload_n 1 rfl dX10_curtain_81 ?_
                  refine mg_68 hM4 dX10_curtain_82 ?_
                  refine ev_iload_n 3 rfl dX10_curtain_85 ?_
                  refine m_ld (k := 25) hM4 (by decide) dX10_curtain_86 (by omega) (by show _ < ((10 : Nat) : Int); omega) ?_
                  refine ev_goto (tgt := 152) dX10_curtain_87 (by decide) ?_
                  refine ev_ireturn dX10_curtain_152 ?_
                  refine ⟨_, rfl, ?_, S3, hM4, (eqx.tr (l := [17, 18, 19, 20, 21, 22, 23, 25, 26, 27, 28, 29, 30]) (eqx.rf (l := [17, 18, 19, 20, 21, 22, 23, 25, 26, 27, 28, 29, 30]) (S := S)) ex5 (by decide) (by decide))⟩
                  simp only [sp_curtain]; rw [if_neg (by omega), if_neg (by omega), hcu, if_neg (by omega)]; dsimp only; rw [if_neg (by omega)]; unfold cuA; (repeat' split) <;> first | omega | assumption
              · refine ev_iload_n 4 rfl dX10_curtain_59 ?_
                refine ev_iconst dX10_curtain_60 ?_
                refine ev_icmp_ge (tgt := 77) dX10_curtain_61 (by first | assumption | exact hR _ _ | exact hRS3 _ _ | decide | (simp only [InR]; omega)) (by decide) (by decide) (fun c61 => ?_) (fun c61 => ?_)
                · refine ev_iload_n 4 rfl dX10_curtain_77 ?_
                  refine ev_if_ne (tgt := 90) dX10_curtain_78 (by first | assumption | exact hR _ _ | exact hRS3 _ _ | decide | (simp only [InR]; omega)) (by decide) (fun c78 => ?_) (fun c78 => ?_)
                  · refine ev_iload_n 4 rfl dX10_curtain_90 ?_
                    refine ev_iconst dX10_curtain_91 ?_
                    refine ev_icmp_ne (tgt := 104) dX10_curtain_92 (by first | assumption | exact hR _ _ | exact hRS3 _ _ | decide | (simp only [InR]; omega)) (by decide) (by decide) (fun c92 => ?_) (fun c92 => ?_)
                    · refine ev_iload_n 4 rfl dX10_curtain_104 ?_
                      refine ev_iconst dX10_curtain_105 ?_
                      refine ev_icmp_ne (tgt := 118) dX10_curtain_106 (by first | assumption | exact hR _ _ | exact hRS3 _ _ | decide | (simp only [InR]; omega)) (by decide) (by decide) (fun c106 => ?_) (fun c106 => ?_)
                      · refine ev_iload_n 4 rfl dX10_curtain_118 ?_
                        refine ev_iconst dX10_curtain_119 ?_
                        refine ev_icmp_ne (tgt := 132) dX10_curtain_120 (by first | assumption | exact hR _ _ | exact hRS3 _ _ | decide | (simp only [InR]; omega)) (by decide) (by decide) (fun c120 => ?_) (fun c120 => ?_)
                        · refine ev_iload_n 4 rfl dX10_curtain_132 ?_
                          refine ev_iconst dX10_curtain_133 ?_
                          refine ev_icmp_ne (tgt := 146) dX10_curtain_134 (by first | assumption | exact hR _ _ | exact hRS3 _ _ | decide | (simp only [InR]; omega)) (by decide) (by decide) (fun c134 => ?_) (fun c134 => ?_)
                          · refine ev_aload_n 1 rfl dX10_curtain_146 ?_
                            refine mg_83 hM4 dX10_curtain_147 ?_
                            refine ev_iload_n 3 rfl dX10_curtain_150 ?_
                            refine m_ld (k := 30) hM4 (by decide) dX10_curtain_151 (by omega) (by show _ < ((10 : Nat) : Int); omega) ?_
                            refine ev_ireturn dX10_curtain_152 ?_
                            refine ⟨_, rfl, ?_, S3, hM4, (eqx.tr (l := [17, 18, 19, 20, 21, 22, 23, 25, 26, 27, 28, 29, 30]) (eqx.rf (l := [17, 18, 19, 20, 21, 22, 23, 25, 26, 27, 28, 29, 30]) (S := S)) ex5 (by decide) (by decide))⟩
                            simp only [sp_curtain]; rw [if_neg (by omega), if_neg (by omega), hcu, if_neg (by omega)]; dsimp only; rw [if_neg (by omega)]; unfold cuA; (repeat' split) <;> first | omega | assumption
                          · refine ev_aload_n 1 rfl dX10_curtain_137 ?_
                            refine mg_80 hM4 dX10_curtain_138 ?_
                            refine ev_iload_n 3 rfl dX10_curtain_141 ?_
                            refine m_ld (k := 29) hM4 (by decide) dX10_curtain_142 (by omega) (by show _ < ((10 : Nat) : Int); omega) ?_
                            refine ev_goto (tgt := 152) dX10_curtain_143 (by decide) ?_
                            refine ev_ireturn dX10_curtain_152 ?_
                            refine ⟨_, rfl, ?_, S3, hM4, (eqx.tr (l := [17, 18, 19, 20, 21, 22, 23, 25, 26, 27, 28, 29, 30]) (eqx.rf (l := [17, 18, 19, 20, 21, 22, 23, 25, 26, 27, 28, 29, 30]) (S := S)) ex5 (by decide) (by decide))⟩
                            simp only [sp_curtain]; rw [if_neg (by omega), if_neg (by omega), hcu, if_neg (by omega)]; dsimp only; rw [if_neg (by omega)]; unfold cuA; (repeat' split) <;> first | omega | assumption
                        · refine ev_aload_n 1 rfl dX10_curtain_123 ?_
                          refine mg_77 hM4 dX10_curtain_124 ?_
                          refine ev_iload_n 3 rfl dX10_curtain_127 ?_
                          refine m_ld (k := 28) hM4 (by decide) dX10_curtain_128 (by omega) (by show _ < ((10 : Nat) : Int); omega) ?_
                          refine ev_goto (tgt := 152) dX10_curtain_129 (by decide) ?_
                          refine ev_ireturn dX10_curtain_152 ?_
                          refine ⟨_, rfl, ?_, S3, hM4, (eqx.tr (l := [17, 18, 19, 20, 21, 22, 23, 25, 26, 27, 28, 29, 30]) (eqx.rf (l := [17, 18, 19, 20, 21, 22, 23, 25, 26, 27, 28, 29, 30]) (S := S)) ex5 (by decide) (by decide))⟩
                          simp only [sp_curtain]; rw [if_neg (by omega), if_neg (by omega), hcu, if_neg (by omega)]; dsimp only; rw [if_neg (by omega)]; unfold cuA; (repeat' split) <;> first | omega | assumption
                      · refine ev_aload_n 1 rfl dX10_curtain_109 ?_
                        refine mg_74 hM4 dX10_curtain_110 ?_
                        refine ev_iload_n 3 rfl dX10_curtain_113 ?_
                        refine m_ld (k := 27) hM4 (by decide) dX10_curtain_114 (by omega) (by show _ < ((10 : Nat) : Int); omega) ?_
                        refine ev_goto (tgt := 152) dX10_curtain_115 (by decide) ?_
                        refine ev_ireturn dX10_curtain_152 ?_
                        refine ⟨_, rfl, ?_, S3, hM4, (eqx.tr (l := [17, 18, 19, 20, 21, 22, 23, 25, 26, 27, 28, 29, 30]) (eqx.rf (l := [17, 18, 19, 20, 21, 22, 23, 25, 26, 27, 28, 29, 30]) (S := S)) ex5 (by decide) (by decide))⟩
                        simp only [sp_curtain]; rw [if_neg (by omega), if_neg (by omega), hcu, if_neg (by omega)]; dsimp only; rw [if_neg (by omega)]; unfold cuA; (repeat' split) <;> first | omega | assumption
                    · refine ev_aload_n 1 rfl dX10_curtain_95 ?_
                      refine mg_71 hM4 dX10_curtain_96 ?_
                      refine ev_iload_n 3 rfl dX10_curtain_99 ?_
                      refine m_ld (k := 26) hM4 (by decide) dX10_curtain_100 (by omega) (by show _ < ((10 : Nat) : Int); omega) ?_
                      refine ev_goto (tgt := 152) dX10_curtain_101 (by decide) ?_
                      refine ev_ireturn dX10_curtain_152 ?_
                      refine ⟨_, rfl, ?_, S3, hM4, (eqx.tr (l := [17, 18, 19, 20, 21, 22, 23, 25, 26, 27, 28, 29, 30]) (eqx.rf (l := [17, 18, 19, 20, 21, 22, 23, 25, 26, 27, 28, 29, 30]) (S := S)) ex5 (by decide) (by decide))⟩
                      simp only [sp_curtain]; rw [if_neg (by omega), if_neg (by omega), hcu, if_neg (by omega)]; dsimp only; rw [if_neg (by omega)]; unfold cuA; (repeat' split) <;> first | omega | assumption
                  · refine ev_aload_n 1 rfl dX10_curtain_81 ?_
                    refine mg_68 hM4 dX10_curtain_82 ?_
                    refine ev_iload_n 3 rfl dX10_curtain_85 ?_
                    refine m_ld (k := 25) hM4 (by decide) dX10_curtain_86 (by omega) (by show _ < ((10 : Nat) : Int); omega) ?_
                    refine ev_goto (tgt := 152) dX10_curtain_87 (by decide) ?_
                    refine ev_ireturn dX10_curtain_152 ?_
                    refine ⟨_, rfl, ?_, S3, hM4, (eqx.tr (l := [17, 18, 19, 20, 21, 22, 23, 25, 26, 27, 28, 29, 30]) (eqx.rf (l := [17, 18, 19, 20, 21, 22, 23, 25, 26, 27, 28, 29, 30]) (S := S)) ex5 (by decide) (by decide))⟩
                    simp only [sp_curtain]; rw [if_neg (by omega), if_neg (by omega), hcu, if_neg (by omega)]; dsimp only; rw [if_neg (by omega)]; unfold cuA; (repeat' split) <;> first | omega | assumption
                · refine ev_aload_n 1 rfl dX10_curtain_64 ?_
                  refine mg_68 hM4 dX10_curtain_65 ?_
                  refine ev_iload_n 3 rfl dX10_curtain_68 ?_
                  refine m_ld (k := 25) hM4 (by decide) dX10_curtain_69 (by omega) (by show _ < ((10 : Nat) : Int); omega) ?_
                  refine ev_iconst dX10_curtain_70 ?_
                  refine ev_icmp_ge (tgt := 77) dX10_curtain_71 (by first | assumption | exact hR _ _ | exact hRS3 _ _ | decide | (simp only [InR]; omega)) (by decide) (by decide) (fun c71 => ?_) (fun c71 => ?_)
                  · refine ev_iload_n 4 rfl dX10_curtain_77 ?_
                    refine ev_if_ne (tgt := 90) dX10_curtain_78 (by first | assumption | exact hR _ _ | exact hRS3 _ _ | decide | (simp only [InR]; omega)) (by decide) (fun c78 => ?_) (fun c78 => ?_)
                    · refine ev_iload_n 4 rfl dX10_curtain_90 ?_
                      refine ev_iconst dX10_curtain_91 ?_
                      refine ev_icmp_ne (tgt := 104) dX10_curtain_92 (by first | assumption | exact hR _ _ | exact hRS3 _ _ | decide | (simp only [InR]; omega)) (by decide) (by decide) (fun c92 => ?_) (fun c92 => ?_)
                      · refine ev_iload_n 4 rfl dX10_curtain_104 ?_
                        refine ev_iconst dX10_curtain_105 ?_
                        refine ev_icmp_ne (tgt := 118) dX10_curtain_106 (by first | assumption | exact hR _ _ | exact hRS3 _ _ | decide | (simp only [InR]; omega)) (by decide) (by decide) (fun c106 => ?_) (fun c106 => ?_)
                        · refine ev_iload_n 4 rfl dX10_curtain_118 ?_
                          refine ev_iconst dX10_curtain_119 ?_
                          refine ev_icmp_ne (tgt := 132) dX10_curtain_120 (by first | assumption | exact hR _ _ | exact hRS3 _ _ | decide | (simp only [InR]; omega)) (by decide) (by decide) (fun c120 => ?_) (fun c120 => ?_)
                          · refine ev_iload_n 4 rfl dX10_curtain_132 ?_
                            refine ev_iconst dX10_curtain_133 ?_
                            refine ev_icmp_ne (tgt := 146) dX10_curtain_134 (by first | assumption | exact hR _ _ | exact hRS3 _ _ | decide | (simp only [InR]; omega)) (by decide) (by decide) (fun c134 => ?_) (fun c134 => ?_)
                            · refine ev_aload_n 1 rfl dX10_curtain_146 ?_
                              refine mg_83 hM4 dX10_curtain_147 ?_
                              refine ev_iload_n 3 rfl dX10_curtain_150 ?_
                              refine m_ld (k := 30) hM4 (by decide) dX10_curtain_151 (by omega) (by show _ < ((10 : Nat) : Int); omega) ?_
                              refine ev_ireturn dX10_curtain_152 ?_
                              refine ⟨_, rfl, ?_, S3, hM4, (eqx.tr (l := [17, 18, 19, 20, 21, 22, 23, 25, 26, 27, 28, 29, 30]) (eqx.rf (l := [17, 18, 19, 20, 21, 22, 23, 25, 26, 27, 28, 29, 30]) (S := S)) ex5 (by decide) (by decide))⟩
                              simp only [sp_curtain]; rw [if_neg (by omega), if_neg (by omega), hcu, if_neg (by omega)]; dsimp only; rw [if_neg (by omega)]; unfold cuA; (repeat' split) <;> first | omega | assumption
                            · refine ev_aload_n 1 rfl dX10_curtain_137 ?_
                              refine mg_80 hM4 dX10_curtain_138 ?_
                              refine ev_iload_n 3 rfl dX10_curtain_141 ?_
                              refine m_ld (k := 29) hM4 (by decide) dX10_curtain_142 (by omega) (by show _ < ((10 : Nat) : Int); omega) ?_
                              refine ev_goto (tgt := 152) dX10_curtain_143 (by decide) ?_
                              refine ev_ireturn dX10_curtain_152 ?_
                              refine ⟨_, rfl, ?_, S3, hM4, (eqx.tr (l := [17, 18, 19, 20, 21, 22, 23, 25, 26, 27, 28, 29, 30]) (eqx.rf (l := [17, 18, 19, 20, 21, 22, 23, 25, 26, 27, 28, 29, 30]) (S := S)) ex5 (by decide) (by decide))⟩
                              simp only [sp_curtain]; rw [if_neg (by omega), if_neg (by omega), hcu, if_neg (by omega)]; dsimp only; rw [if_neg (by omega)]; unfold cuA; (repeat' split) <;> first | omega | assumption
                          · refine ev_aload_n 1 rfl dX10_curtain_123 ?_
                            refine mg_77 hM4 dX10_curtain_124 ?_
                            refine ev_iload_n 3 rfl dX10_curtain_127 ?_
                            refine m_ld (k := 28) hM4 (by decide) dX10_curtain_128 (by omega) (by show _ < ((10 : Nat) : Int); omega) ?_
                            refine ev_goto (tgt := 152) dX10_curtain_129 (by decide) ?_
                            refine ev_ireturn dX10_curtain_152 ?_
                            refine ⟨_, rfl, ?_, S3, hM4, (eqx.tr (l := [17, 18, 19, 20, 21, 22, 23, 25, 26, 27, 28, 29, 30]) (eqx.rf (l := [17, 18, 19, 20, 21, 22, 23, 25, 26, 27, 28, 29, 30]) (S := S)) ex5 (by decide) (by decide))⟩
                            simp only [sp_curtain]; rw [if_neg (by omega), if_neg (by omega), hcu, if_neg (by omega)]; dsimp only; rw [if_neg (by omega)]; unfold cuA; (repeat' split) <;> first | omega | assumption
                        · refine ev_aload_n 1 rfl dX10_curtain_109 ?_
                          refine mg_74 hM4 dX10_curtain_110 ?_
                          refine ev_iload_n 3 rfl dX10_curtain_113 ?_
                          refine m_ld (k := 27) hM4 (by decide) dX10_curtain_114 (by omega) (by show _ < ((10 : Nat) : Int); omega) ?_
                          refine ev_goto (tgt := 152) dX10_curtain_115 (by decide) ?_
                          refine ev_ireturn dX10_curtain_152 ?_
                          refine ⟨_, rfl, ?_, S3, hM4, (eqx.tr (l := [17, 18, 19, 20, 21, 22, 23, 25, 26, 27, 28, 29, 30]) (eqx.rf (l := [17, 18, 19, 20, 21, 22, 23, 25, 26, 27, 28, 29, 30]) (S := S)) ex5 (by decide) (by decide))⟩
                          simp only [sp_curtain]; rw [if_neg (by omega), if_neg (by omega), hcu, if_neg (by omega)]; dsimp only; rw [if_neg (by omega)]; unfold cuA; (repeat' split) <;> first | omega | assumption
                      · refine ev_aload_n 1 rfl dX10_curtain_95 ?_
                        refine mg_71 hM4 dX10_curtain_96 ?_
                        refine ev_iload_n 3 rfl dX10_curtain_99 ?_
                        refine m_ld (k := 26) hM4 (by decide) dX10_curtain_100 (by omega) (by show _ < ((10 : Nat) : Int); omega) ?_
                        refine ev_goto (tgt := 152) dX10_curtain_101 (by decide) ?_
                        refine ev_ireturn dX10_curtain_152 ?_
                        refine ⟨_, rfl, ?_, S3, hM4, (eqx.tr (l := [17, 18, 19, 20, 21, 22, 23, 25, 26, 27, 28, 29, 30]) (eqx.rf (l := [17, 18, 19, 20, 21, 22, 23, 25, 26, 27, 28, 29, 30]) (S := S)) ex5 (by decide) (by decide))⟩
                        simp only [sp_curtain]; rw [if_neg (by omega), if_neg (by omega), hcu, if_neg (by omega)]; dsimp only; rw [if_neg (by omega)]; unfold cuA; (repeat' split) <;> first | omega | assumption
                    · refine ev_aload_n 1 rfl dX10_curtain_81 ?_
                      refine mg_68 hM4 dX10_curtain_82 ?_
                      refine ev_iload_n 3 rfl dX10_curtain_85 ?_
                      refine m_ld (k := 25) hM4 (by decide) dX10_curtain_86 (by omega) (by show _ < ((10 : Nat) : Int); omega) ?_
                      refine ev_goto (tgt := 152) dX10_curtain_87 (by decide) ?_
                      refine ev_ireturn dX10_curtain_152 ?_
                      refine ⟨_, rfl, ?_, S3, hM4, (eqx.tr (l := [17, 18, 19, 20, 21, 22, 23, 25, 26, 27, 28, 29, 30]) (eqx.rf (l := [17, 18, 19, 20, 21, 22, 23, 25, 26, 27, 28, 29, 30]) (S := S)) ex5 (by decide) (by decide))⟩
                      simp only [sp_curtain]; rw [if_neg (by omega), if_neg (by omega), hcu, if_neg (by omega)]; dsimp only; rw [if_neg (by omega)]; unfold cuA; (repeat' split) <;> first | omega | assumption
                  · refine ev_ldc (z := -100004) dX10_curtain_74 k_X10_233 (by decide) ?_
                    refine ev_ireturn dX10_curtain_76 ?_
                    refine ⟨_, rfl, ?_, S3, hM4, (eqx.tr (l := [17, 18, 19, 20, 21, 22, 23, 25, 26, 27, 28, 29, 30]) (eqx.rf (l := [17, 18, 19, 20, 21, 22, 23, 25, 26, 27, 28, 29, 30]) (S := S)) ex5 (by decide) (by decide))⟩
                    simp only [sp_curtain]; rw [if_neg (by omega), if_neg (by omega), hcu, if_neg (by omega)]; dsimp only; rw [if_pos ⟨by omega, by omega⟩]
            · refine ev_ldc (z := -100001) dX10_curtain_51 k_X10_151 (by decide) ?_
              refine ev_ireturn dX10_curtain_53 ?_
              refine ⟨_, rfl, ?_, S3, hM4, (eqx.tr (l := [17, 18, 19, 20, 21, 22, 23, 25, 26, 27, 28, 29, 30]) (eqx.rf (l := [17, 18, 19, 20, 21, 22, 23, 25, 26, 27, 28, 29, 30]) (S := S)) ex5 (by decide) (by decide))⟩
              simp only [sp_curtain]; rw [if_neg (by omega), if_neg (by omega), hcu, if_pos (by omega)]
          · exact absurd hc0 c35
      · refine ev_if_ne (tgt := 26) dX10_curtain_20 (by decide) (by decide) (fun c => absurd c (by decide)) (fun _ => ?_)
        refine ev_ldc (z := -100001) dX10_curtain_23 k_X10_151 (by decide) ?_
        refine ev_ireturn dX10_curtain_25 ?_
        refine ⟨_, rfl, ?_, S, hM, (eqx.rf (l := [17, 18, 19, 20, 21, 22, 23, 25, 26, 27, 28, 29, 30]) (S := S))⟩
        simp only [sp_curtain]; rw [if_pos (by omega)]
  · refine ev_if_eq (tgt := 23) dX10_curtain_4 (by decide) (by decide) (fun _ => ?_) (fun c => absurd c (by decide))
    refine ev_ldc (z := -100001) dX10_curtain_23 k_X10_151 (by decide) ?_
    refine ev_ireturn dX10_curtain_25 ?_
    refine ⟨_, rfl, ?_, S, hM, (eqx.rf (l := [17, 18, 19, 20, 21, 22, 23, 25, 26, 27, 28, 29, 30]) (S := S))⟩
    simp only [sp_curtain]; rw [if_pos (by omega)]

set_option maxHeartbeats 4000000 in
set_option maxRecDepth 100000 in
theorem m_curtainOf {E : EV} {h : AH} {o : Nat} {ad : Nat → Nat} {S : MS} {a : Int} (hM : MR E o ad S h) (hI : Inv S) (g1 : InR a) : CM E yX10_curtainOf cX10_curtainOf 4 (some .int) 8 0 0 [.ref (o), vI (a)] h (qI (fun z h' => z = sp_curtainOf S a ∧ ∃ S', MR E o ad S' h' ∧ eqx [17, 18, 19, 20, 21, 22, 23, 25, 26, 27, 28, 29, 30] S S')) := by
  have hR := hM.2.2.2.2
  have hJ := hI
  obtain ⟨i1, i2, i3, i4, i5, i6, iSt, iSi, iWa, iSh, iLa, iS0, iS1, iZe⟩ := hJ
  refine CM.of (by decide) (Nat.le_of_ble_eq_true rfl) (L := [(0, .ref (o)), (1, vI (a))]) rfl ?_
  refine ev_aload_n 0 rfl dX10_curtainOf_0 ?_
  refine ev_iload_n 1 rfl dX10_curtainOf_1 ?_
  refine c_X10_194 (m_isSighting hM hI (by first | assumption | exact hR _ _ | decide | (simp only [InR]; omega))) hM.1 rfl rfl (Nat.le_of_ble_eq_true rfl) (by decide) dX10_curtainOf_2 (kB (fun b2 => ?_) (fun b2 => ?_))
  · refine ev_if_ne (tgt := 10) dX10_curtainOf_5 (by decide) (by decide) (fun _ => ?_) (fun c => absurd c (by decide))
    refine ev_aload_n 0 rfl dX10_curtainOf_10 ?_
    refine mg_28 hM dX10_curtainOf_11 ?_
    refine ev_iload_n 1 rfl dX10_curtainOf_14 ?_
    refine m_ld (k := 8) hM (by decide) dX10_curtainOf_15 (by omega) (by show _ < ((40 : Nat) : Int); omega) ?_
    refine ev_if_ne (tgt := 22) dX10_curtainOf_16 (by first | assumption | exact hR _ _ | decide | (simp only [InR]; omega)) (by decide) (fun c16 => ?_) (fun c16 => ?_)
    · refine ev_aload_n 0 rfl dX10_curtainOf_22 ?_
      refine ev_aload_n 0 rfl dX10_curtainOf_23 ?_
      refine mg_34 hM dX10_curtainOf_24 ?_
      refine ev_iload_n 1 rfl dX10_curtainOf_27 ?_
      refine m_ld (k := 10) hM (by decide) dX10_curtainOf_28 (by omega) (by show _ < ((40 : Nat) : Int); omega) ?_
      obtain ⟨nb1, nb2⟩ := night_b (S := S) (n := S 10 a) hI
      refine c_X10_260 (m_findCurtains (n := S 10 a) hM hI (by first | assumption | exact hR _ _ | decide | (simp only [InR]; omega))) hM.1 rfl rfl (Nat.le_of_ble_eq_true rfl) (by decide) dX10_curtainOf_29 (kI (fun z1 h2 hqz1 => ?_))
      obtain ⟨S3, hM4, ex5, ⟨hful, rfl⟩ | ⟨hful, r, hfw, hfc⟩⟩ := hqz1
      · have hRS3 := hM4.2.2.2.2
        have hxS3 : eqx scr S S3 := (eqx.rf (l := scr) (S := S)).tr ex5 (by decide) (by decide)
        have hIS3 := Inv.x hI hxS3
        refine ev_istore_n (L' := [(2, vI (-3)), (0, .ref (o)), (1, vI (a))]) dX10_curtainOf_32 (by decide) rfl ?_
        refine ev_iload_n 0 rfl dX10_curtainOf_33 ?_
        refine ev_if_ge (tgt := 39) dX10_curtainOf_34 (by decide) (by decide) (fun c => absurd c (by decide)) (fun _ => ?_)
        refine ev_iload_n 0 rfl dX10_curtainOf_37 ?_
        refine ev_ireturn dX10_curtainOf_38 ?_
        refine ⟨_, rfl, ?_, S3, hM4, (eqx.tr (l := [17, 18, 19, 20, 21, 22, 23, 25, 26, 27, 28, 29, 30]) (eqx.rf (l := [17, 18, 19, 20, 21, 22, 23, 25, 26, 27, 28, 29, 30]) (S := S)) ex5 (by decide) (by decide))⟩
        simp only [sp_curtainOf]; rw [if_neg (by omega), if_neg (by omega), if_pos (by omega)]
      · have hRS3 := hM4.2.2.2.2
        have hcu : cuZ S (S 10 a) = (z1, r) := fewZ_eq hfw
        have hc0 := hfw.1
        have hc1 := few_le nb1.1 hfw
        obtain ⟨fg1, fg2, fg3⟩ := few_ok nb1.1 hfw
        have hxS3 : eqx scr S S3 := (eqx.rf (l := scr) (S := S)).tr ex5 (by decide) (by decide)
        have hIS3 := Inv.x hI hxS3
        refine ev_istore_n (L' := [(2, vI (z1)), (0, .ref (o)), (1, vI (a))]) dX10_curtainOf_32 (by decide) rfl ?_
        refine ev_iload_n 0 rfl dX10_curtainOf_33 ?_
        refine ev_if_ge (tgt := 39) dX10_curtainOf_34 (by first | assumption | exact hR _ _ | exact hRS3 _ _ | decide | (simp only [InR]; omega)) (by decide) (fun c34 => ?_) (fun c34 => ?_)
        · have hex := night_at (n := S 10 a) hI (show SG S a by omega) (show SelP S (S 10 a) a by unfold SelP; have := iSi a (by omega) (by omega); omega)
          obtain ⟨jx, jx0, jx1, jx2⟩ := hex
          have hne := (scanI_ne (p := ixB (nightL S (S 10 a)) a) (decide_eq_true jx2) jx1 0 jx0).resolve_right (by omega)
          refine ev_iconst dX10_curtainOf_39 ?_
          refine ev_istore_n (L' := [(3, vI (0)), (2, vI (z1)), (0, .ref (o)), (1, vI (a))]) dX10_curtainOf_40 (by decide) rfl ?_
          refine up_ind (P := fun k : Int => 0 ≤ k → scanI (ixB (nightL S (S 10 a)) a) 0 (len0 (nightL S (S 10 a))) = scanI (ixB (nightL S (S 10 a)) a) k (len0 (nightL S (S 10 a))) → Ev E RX10 cX10_curtainOf 4 (some .int) "curtainOf" (qI (fun z h' => z = sp_curtainOf S a ∧ ∃ S', MR E o ad S' h' ∧ eqx [17, 18, 19, 20, 21, 22, 23, 25, 26, 27, 28, 29, 30] S S')) 8 0 0 41 [(3, vI (k)), (2, vI (z1)), (0, .ref (o)), (1, vI (a))] [] h2) (N := len0 (nightL S (S 10 a))) ?_ 0 (by omega)  (by omega) (rfl)
          intro k ihk hkN pk hsc
          have hkl : k < len0 (nightL S (S 10 a)) := (by by_cases q : k < len0 (nightL S (S 10 a)); exact q; exact absurd (hsc.trans (scanI_end _ (by omega))) hne)
          have hlk := (hfc.2.2.1 k (by omega) (by omega)).1
          refine ev_aload_n 2 rfl dX10_curtainOf_41 ?_
          refine mg_56 hM4 dX10_curtainOf_42 ?_
          refine ev_iload_n 0 rfl dX10_curtainOf_45 ?_
          refine m_ld (k := 20) hM4 (by decide) dX10_curtainOf_46 (by omega) (by show _ < ((40 : Nat) : Int); omega) ?_
          refine ev_iload_n 3 rfl dX10_curtainOf_47 ?_
          refine ev_icmp_eq (tgt := 57) dX10_curtainOf_48 (by first | assumption | exact hR _ _ | exact hRS3 _ _ | decide | (simp only [InR]; omega)) (by first | assumption | exact hR _ _ | exact hRS3 _ _ | decide | (simp only [InR]; omega)) (by decide) (fun c48 => ?_) (fun c48 => ?_)
          · refine ev_aload_n 2 rfl dX10_curtainOf_57 ?_
            refine mg_59 hM4 dX10_curtainOf_58 ?_
            refine ev_iload_n 0 rfl dX10_curtainOf_61 ?_
            refine m_ld (k := 22) hM4 (by decide) dX10_curtainOf_62 (by omega) (by show _ < ((10 : Nat) : Int); omega) ?_
            refine ev_ireturn dX10_curtainOf_63 ?_
            refine ⟨_, rfl, ?_, S3, hM4, (eqx.tr (l := [17, 18, 19, 20, 21, 22, 23, 25, 26, 27, 28, 29, 30]) (eqx.rf (l := [17, 18, 19, 20, 21, 22, 23, 25, 26, 27, 28, 29, 30]) (S := S)) ex5 (by decide) (by decide))⟩
            simp only [sp_curtainOf]; rw [if_neg (by omega), if_neg (by omega), if_neg (by omega), hcu]; dsimp only; rw [hsc, scanI_s _ (by omega), if_pos (by unfold ixB; exact decide_eq_true (by omega)), (hfc.2.2.1 k (by omega) (by omega)).2]
          · refine ev_iinc (L' := [(3, vI (k + 1)), (2, vI (z1)), (0, .ref (o)), (1, vI (a))]) 0 rfl dX10_curtainOf_51 (by decide) rfl ?_
            refine ev_goto (tgt := 41) dX10_curtainOf_54 (by decide) ?_
            exact ihk (k + 1) (by omega) (by omega) (by omega) (by rw [hsc, scanI_s _ (by omega), if_neg (by unfold ixB; rw [decide_eq_true_iff]; omega)])
        · exact absurd hc0 c34
    · refine ev_bipush dX10_curtainOf_19 (by decide) ?_
      refine ev_ireturn dX10_curtainOf_21 ?_
      refine ⟨_, rfl, ?_, S, hM, (eqx.rf (l := [17, 18, 19, 20, 21, 22, 23, 25, 26, 27, 28, 29, 30]) (S := S))⟩
      simp only [sp_curtainOf]; rw [if_neg (by omega), if_pos (by omega)]
  · refine ev_if_ne (tgt := 10) dX10_curtainOf_5 (by decide) (by decide) (fun c => absurd c (by decide)) (fun _ => ?_)
    refine ev_iconst dX10_curtainOf_8 ?_
    refine ev_ireturn dX10_curtainOf_9 ?_
    refine ⟨_, rfl, ?_, S, hM, (eqx.rf (l := [17, 18, 19, 20, 21, 22, 23, 25, 26, 27, 28, 29, 30]) (S := S))⟩
    simp only [sp_curtainOf]; rw [if_pos (by omega)]
