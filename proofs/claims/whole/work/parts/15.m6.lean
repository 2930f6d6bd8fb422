theorem tm_b {n p : Int} (hn : 0 ≤ n) (hp : 0 < p) : 0 ≤ n.tmod p ∧ n.tmod p < p := ⟨Int.tmod_nonneg _ hn, Int.tmod_lt_of_pos _ hp⟩
theorem seen1_b (S : MS) (n : Int) : 0 ≤ seen1 S n ∧ seen1 S n ≤ 1 := by
  unfold seen1
  by_cases h : SeenP S (-1) n
  · rw [iteP_pos h]; decide
  · rw [iteP_neg h]; decide
theorem restZ_s {S : MS} {p n k : Int} (hn : 0 ≤ n) : restZ S p (n + 1) k = restZ S p n k + (if n.tmod p = k then seen1 S n else 0) := sumI_s _ hn
theorem restZ_b {S : MS} {p n k : Int} (hn : 0 ≤ n) : 0 ≤ restZ S p n k ∧ restZ S p n k ≤ n := by
  have := sumI_b (f := fun m => if m.tmod p = k then seen1 S m else 0) (a := 0) (b := 1) hn (fun m _ _ => by
    have := seen1_b S m
    split <;> omega)
  unfold restZ
  omega
theorem rest_step {S S1 S2 : MS} {p n x : Int} (hn : 0 ≤ n) (hinv : ∀ j : Int, 0 ≤ j → j < p → S1 39 j = restZ S p n j) (e : S2 = upS S1 39 (n.tmod p) (S1 39 (n.tmod p) + x)) (hx : x = seen1 S n) : ∀ j : Int, 0 ≤ j → j < p → S2 39 j = restZ S p (n + 1) j := by
  intro j h1 h2
  rw [e, restZ_s hn]
  by_cases hj : j = n.tmod p
  · rw [hj, upS_at, if_pos rfl, ← hj, hinv j h1 h2, hx]
  · rw [upS_nz hj, if_neg (fun q => hj q.symm), hinv j h1 h2]
    omega
theorem SeenP_x {S S' : MS} {a n : Int} (hx : eqx scr S S') : SeenP S' a n ↔ SeenP S a n := by unfold SeenP; rw [hx 7 (by decide), hx 9 (by decide), hx 10 (by decide)]

set_option maxHeartbeats 4000000 in
set_option maxRecDepth 100000 in
theorem m_roundOf {E : EV} {h : AH} {o : Nat} {ad : Nat → Nat} {S : MS} {p : Int} (hM : MR E o ad S h) (hI : Inv S) (gp : 20 ≤ p ∧ p ≤ 40) : CM E yX10_roundOf cX10_roundOf 4 (some .int) 1 0 0 [.ref (o), vI (p)] h (qI (fun z h' => z = roundZ S p ∧ ∃ S', MR E o ad S' h' ∧ eqx [39] S S')) := by
  have hR := hM.2.2.2.2
  have hJ := hI
  obtain ⟨i1, i2, i3, i4, i5, i6, iSt, iSi, iWa, iSh, iLa, iS0, iS1, iZe⟩ := hJ
  refine CM.of (by decide) (Nat.le_of_ble_eq_true rfl) (L := [(0, .ref (o)), (1, vI (p))]) rfl ?_
  refine ev_iconst dX10_roundOf_0 ?_
  refine ev_istore_n (L' := [(2, vI (0)), (0, .ref (o)), (1, vI (p))]) dX10_roundOf_1 (by decide) rfl ?_
  refine up_ind (P := fun i : Int => ∀ (S1 : MS) (h2 : AH), 0 ≤ i → MR E o ad S1 h2 → eqx [39] S S1 → (∀ j : Int, 0 ≤ j → j < i → S1 39 j = 0) → Ev E RX10 cX10_roundOf 4 (some .int) "roundOf" (qI (fun z h' => z = roundZ S p ∧ ∃ S', MR E o ad S' h' ∧ eqx [39] S S')) 1 0 0 2 [(2, vI (i)), (0, .ref (o)), (1, vI (p))] [] h2) (N := p) ?_ 0 (by omega)  S h (by omega) hM eqx.rf (fun j h1 h2 => absurd h1 (by omega))
  intro i ihi hiN S1 h2 pi hM3 hx4 hv1
  have hRS1 := hM3.2.2.2.2
  have hxS1 : eqx scr S S1 := (eqx.rf (l := scr) (S := S)).tr hx4 (by decide) (by decide)
  have hIS1 := Inv.x hI hxS1
  refine ev_iload_n 0 rfl dX10_roundOf_2 ?_
  refine ev_iload_n 2 rfl dX10_roundOf_3 ?_
  refine ev_icmp_ge (tgt := 20) dX10_roundOf_4 (by first | assumption | exact hR _ _ | exact hRS1 _ _ | decide | (simp only [InR]; omega)) (by first | assumption | exact hR _ _ | exact hRS1 _ _ | decide | (simp only [InR]; omega)) (by decide) (fun c4 => ?_) (fun c4 => ?_)
  · refine ev_iconst dX10_roundOf_20 ?_
    refine ev_istore_n (L' := [(2, vI (0)), (0, .ref (o)), (1, vI (p))]) dX10_roundOf_21 (by decide) rfl ?_
    refine up_ind (P := fun n : Int => ∀ (S5 : MS) (h6 : AH), 0 ≤ n → MR E o ad S5 h6 → eqx [39] S1 S5 → (∀ j : Int, 0 ≤ j → j < p → S5 39 j = restZ S p n j) → Ev E RX10 cX10_roundOf 4 (some .int) "roundOf" (qI (fun z h' => z = roundZ S p ∧ ∃ S', MR E o ad S' h' ∧ eqx [39] S S')) 1 0 0 22 [(2, vI (n)), (0, .ref (o)), (1, vI (p))] [] h6) (N := 400) ?_ 0 (by omega)  S1 h2 (by omega) hM3 eqx.rf (fun j h1 h2 => hv1 j h1 (by omega))
    intro n ihn hnN S5 h6 pn hM7 hx8 hv2
    have hRS5 := hM7.2.2.2.2
    have hxS5 : eqx scr S S5 := (hxS1).tr hx8 (by decide) (by decide)
    have hIS5 := Inv.x hI hxS5
    have tb := tm_b (n := n) (p := p) (by omega) (by omega)
    have td := tdiv_b (a := n) (b := p) (A := 400) (by omega)
    have rb := restZ_b (S := S) (p := p) (n := n) (k := n.tmod p) (by omega)
    have re := hv2 (n.tmod p) tb.1 tb.2
    refine ev_iload_n 0 rfl dX10_roundOf_22 ?_
    refine ev_sipush dX10_roundOf_23 (by decide) ?_
    refine ev_icmp_ge (tgt := 60) dX10_roundOf_26 (by first | assumption | exact hR _ _ | exact hRS1 _ _ | exact hRS5 _ _ | decide | (simp only [InR]; omega)) (by decide) (by decide) (fun c26 => ?_) (fun c26 => ?_)
    · have hv2e : ∀ j : Int, 0 ≤ j → j < p → S5 39 j = restZ S p 400 j := fun j h1 h2 => (hv2 j h1 h2).trans (by rw [show n = 400 by omega])
      refine ev_iconst dX10_roundOf_60 ?_
      refine ev_istore_n (L' := [(2, vI (0)), (0, .ref (o)), (1, vI (p))]) dX10_roundOf_61 (by decide) rfl ?_
      refine ev_iconst dX10_roundOf_62 ?_
      refine ev_istore_n (L' := [(3, vI (0)), (2, vI (0)), (0, .ref (o)), (1, vI (p))]) dX10_roundOf_63 (by decide) rfl ?_
      refine up_ind (P := fun k : Int => ∀ (t : Int), 0 ≤ k → t = sumI (fun k => restZ S p 400 k * restZ S p 400 k) k → Ev E RX10 cX10_roundOf 4 (some .int) "roundOf" (qI (fun z h' => z = roundZ S p ∧ ∃ S', MR E o ad S' h' ∧ eqx [39] S S')) 1 0 0 64 [(3, vI (k)), (2, vI (t)), (0, .ref (o)), (1, vI (p))] [] h6) (N := p) ?_ 0 (by omega) 0 (by omega) (rfl)
      intro k ihk hkN t pk hv3
      refine ev_iload_n 0 rfl dX10_roundOf_64 ?_
      refine ev_iload_n 3 rfl dX10_roundOf_65 ?_
      refine ev_icmp_ge (tgt := 91) dX10_roundOf_66 (by first | assumption | exact hR _ _ | exact hRS1 _ _ | exact hRS5 _ _ | decide | (simp only [InR]; omega)) (by first | assumption | exact hR _ _ | exact hRS1 _ _ | exact hRS5 _ _ | decide | (simp only [InR]; omega)) (by decide) (fun c66 => ?_) (fun c66 => ?_)
      · refine ev_iload_n 3 rfl dX10_roundOf_91 ?_
        refine ev_iload_n 1 rfl dX10_roundOf_92 ?_
        refine ev_imul dX10_roundOf_93 ?_
        refine ev_ireturn dX10_roundOf_94 ?_
        refine ⟨_, rfl, ?_, S5, hM7, (eqx.tr (l := [39]) (eqx.tr (l := [39]) (eqx.rf (l := [39]) (S := S)) hx4 (by decide) (by decide)) hx8 (by decide) (by decide))⟩
        unfold roundZ; rw [hv3, show k = p by omega]
      · refine ev_iload_n 1 rfl dX10_roundOf_69 ?_
        refine ev_aload_n 2 rfl dX10_roundOf_70 ?_
        refine mg_107 hM7 dX10_roundOf_71 ?_
        refine ev_iload_n 0 rfl dX10_roundOf_74 ?_
        refine m_ld (k := 39) hM7 (by decide) dX10_roundOf_75 (by omega) (by show _ < ((40 : Nat) : Int); omega) ?_
        refine ev_aload_n 2 rfl dX10_roundOf_76 ?_
        refine mg_107 hM7 dX10_roundOf_77 ?_
        refine ev_iload_n 0 rfl dX10_roundOf_80 ?_
        refine m_ld (k := 39) hM7 (by decide) dX10_roundOf_81 (by omega) (by show _ < ((40 : Nat) : Int); omega) ?_
        refine ev_imul dX10_roundOf_82 ?_
        refine ev_iadd dX10_roundOf_83 ?_
        refine ev_istore_n (L' := [(2, vI (t + ((S5 39 k) * (S5 39 k)))), (3, vI (k)), (0, .ref (o)), (1, vI (p))]) dX10_roundOf_84 (by decide) rfl ?_
        refine ev_iinc (L' := [(3, vI (k + 1)), (2, vI (t + ((S5 39 k) * (S5 39 k)))), (0, .ref (o)), (1, vI (p))]) 1 rfl dX10_roundOf_85 (by decide) rfl ?_
        refine ev_goto (tgt := 64) dX10_roundOf_88 (by decide) ?_
        exact ihk (k + 1) (by omega) (by omega) (t + ((S5 39 k) * (S5 39 k))) (by omega) (by rw [sumI_s _ (by omega), ← hv3, hv2e k (by omega) (by omega)])
    · refine ev_aload_n 1 rfl dX10_roundOf_29 ?_
      refine mg_107 hM7 dX10_roundOf_30 ?_
      refine ev_iload_n 0 rfl dX10_roundOf_33 ?_
      refine ev_iload_n 2 rfl dX10_roundOf_34 ?_
      refine ev_irem dX10_roundOf_35 (by first | assumption | exact hR _ _ | exact hRS1 _ _ | exact hRS5 _ _ | decide | (simp only [InR]; omega)) (by first | assumption | exact hR _ _ | exact hRS1 _ _ | exact hRS5 _ _ | decide | (simp only [InR]; omega)) (by omega) (by first | assumption | exact hR _ _ | exact hRS1 _ _ | exact hRS5 _ _ | decide | (simp only [InR]; omega)) ?_
      refine ev_dup2 dX10_roundOf_36 rfl rfl ?_
      refine m_ld (k := 39) hM7 (by decide) dX10_roundOf_37 (by omega) (by show _ < ((40 : Nat) : Int); omega) ?_
      refine ev_aload_n 1 rfl dX10_roundOf_38 ?_
      refine ev_iconst dX10_roundOf_39 ?_
      refine ev_iload_n 0 rfl dX10_roundOf_40 ?_
      refine c_X10_286 (m_isSeen (a := -1) (n := n) hM7 hIS5 (by decide) (by first | assumption | exact hR _ _ | exact hRS1 _ _ | exact hRS5 _ _ | decide | (simp only [InR]; omega))) hM7.1 rfl rfl (Nat.le_of_ble_eq_true rfl) (by decide) dX10_roundOf_41 (kB (fun b41 => ?_) (fun b41 => ?_))
      · rw [SeenP_x hxS5] at b41
        refine ev_if_eq (tgt := 51) dX10_roundOf_44 (by decide) (by decide) (fun c => absurd c (by decide)) (fun _ => ?_)
        refine ev_iconst dX10_roundOf_47 ?_
        refine ev_goto (tgt := 52) dX10_roundOf_48 (by decide) ?_
        refine ev_iadd dX10_roundOf_52 ?_
        refine m_st (k := 39) hM7 (by decide) dX10_roundOf_53 (by omega) (by show _ < ((40 : Nat) : Int); omega) (by first | assumption | exact hR _ _ | exact hRS1 _ _ | exact hRS5 _ _ | decide | (simp only [InR]; omega)) (fun S9 h10 eS11 hM12 => ?_)
        have hRS9 := hM12.2.2.2.2
        have hxS9 : eqx scr S S9 := by rw [eS11]; exact (hxS5).up (by decide)
        have hIS9 := Inv.x hI hxS9
        refine ev_iinc (L' := [(2, vI (n + 1)), (0, .ref (o)), (1, vI (p))]) 0 rfl dX10_roundOf_54 (by decide) rfl ?_
        refine ev_goto (tgt := 22) dX10_roundOf_57 (by decide) ?_
        exact ihn (n + 1) (by omega) (by omega) S9 h10 (by omega) hM12 (by rw [eS11]; exact eqx.up (l := [39]) hx8 (by decide)) (rest_step (by omega) hv2 eS11 (by unfold seen1; first | (rw [iteP_pos (by assumption)]; done) | (rw [iteP_neg (by assumption)]; done)))
      · rw [SeenP_x hxS5] at b41
        refine ev_if_eq (tgt := 51) dX10_roundOf_44 (by decide) (by decide) (fun _ => ?_) (fun c => absurd c (by decide))
        refine ev_iconst dX10_roundOf_51 ?_
        refine ev_iadd dX10_roundOf_52 ?_
        refine m_st (k := 39) hM7 (by decide) dX10_roundOf_53 (by omega) (by show _ < ((40 : Nat) : Int); omega) (by first | assumption | exact hR _ _ | exact hRS1 _ _ | exact hRS5 _ _ | decide | (simp only [InR]; omega)) (fun S13 h14 eS15 hM16 => ?_)
        have hRS13 := hM16.2.2.2.2
        have hxS13 : eqx scr S S13 := by rw [eS15]; exact (hxS5).up (by decide)
        have hIS13 := Inv.x hI hxS13
        refine ev_iinc (L' := [(2, vI (n + 1)), (0, .ref (o)), (1, vI (p))]) 0 rfl dX10_roundOf_54 (by decide) rfl ?_
        refine ev_goto (tgt := 22) dX10_roundOf_57 (by decide) ?_
        exact ihn (n + 1) (by omega) (by omega) S13 h14 (by omega) hM16 (by rw [eS15]; exact eqx.up (l := [39]) hx8 (by decide)) (rest_step (by omega) hv2 eS15 (by unfold seen1; first | (rw [iteP_pos (by assumption)]; done) | (rw [iteP_neg (by assumption)]; done)))
  · refine ev_aload_n 1 rfl dX10_roundOf_7 ?_
    refine mg_107 hM3 dX10_roundOf_8 ?_
    refine ev_iload_n 0 rfl dX10_roundOf_11 ?_
    refine ev_iconst dX10_roundOf_12 ?_
    refine m_st (k := 39) hM3 (by decide) dX10_roundOf_13 (by omega) (by show _ < ((40 : Nat) : Int); omega) (by decide) (fun S17 h18 eS19 hM20 => ?_)
    have hRS17 := hM20.2.2.2.2
    have hxS17 : eqx scr S S17 := by rw [eS19]; exact (hxS1).up (by decide)
    have hIS17 := Inv.x hI hxS17
    refine ev_iinc (L' := [(2, vI (i + 1)), (0, .ref (o)), (1, vI (p))]) 0 rfl dX10_roundOf_14 (by decide) rfl ?_
    refine ev_goto (tgt := 2) dX10_roundOf_17 (by decide) ?_
    exact ihi (i + 1) (by omega) (by omega) S17 h18 (by omega) hM20 (by rw [eS19]; exact eqx.up (l := [39]) hx4 (by decide)) (fun j h1 h2 => by rw [eS19]; by_cases hj : j = i; (rw [hj, upS_at]); (rw [upS_nz hj]; exact hv1 j h1 (by omega)))

set_option maxHeartbeats 4000000 in
set_option maxRecDepth 100000 in
theorem m_nightsSeen {E : EV} {h : AH} {o : Nat} {ad : Nat → Nat} {S : MS} (hM : MR E o ad S h) (hI : Inv S) : CM E yX10_nightsSeen cX10_nightsSeen 3 (some .int) 1 0 0 [.ref (o)] h (qP (nightsZ S) h) := by
  have hR := hM.2.2.2.2
  have hJ := hI
  obtain ⟨i1, i2, i3, i4, i5, i6, iSt, iSi, iWa, iSh, iLa, iS0, iS1, iZe⟩ := hJ
  refine CM.of (by decide) (Nat.le_of_ble_eq_true rfl) (L := [(0, .ref (o))]) rfl ?_
  refine ev_iconst dX10_nightsSeen_0 ?_
  refine ev_istore_n (L' := [(1, vI (0)), (0, .ref (o))]) dX10_nightsSeen_1 (by decide) rfl ?_
  refine ev_iconst dX10_nightsSeen_2 ?_
  refine ev_istore_n (L' := [(2, vI (0)), (1, vI (0)), (0, .ref (o))]) dX10_nightsSeen_3 (by decide) rfl ?_
  refine up_ind (P := fun n : Int => ∀ (t : Int), 0 ≤ n → t = sumI (seen1 S) n → Ev E RX10 cX10_nightsSeen 3 (some .int) "nightsSeen" (qP (nightsZ S) h) 1 0 0 4 [(2, vI (n)), (1, vI (t)), (0, .ref (o))] [] h) (N := 400) ?_ 0 (by omega) 0 (by omega) (rfl)
  intro n ihn hnN t pn hv
  refine ev_iload_n 0 rfl dX10_nightsSeen_4 ?_
  refine ev_sipush dX10_nightsSeen_5 (by decide) ?_
  refine ev_icmp_ge (tgt := 34) dX10_nightsSeen_8 (by first | assumption | exact hR _ _ | decide | (simp only [InR]; omega)) (by decide) (by decide) (fun c8 => ?_) (fun c8 => ?_)
  · refine ev_iload_n 1 rfl dX10_nightsSeen_34 ?_
    refine ev_ireturn dX10_nightsSeen_35 ?_
    exact ⟨rfl, congrArg (fun z => some (vI z)) (show t = nightsZ S from by unfold nightsZ; rw [hv, show n = 400 by omega])⟩
  · refine ev_iload_n 1 rfl dX10_nightsSeen_11 ?_
    refine ev_aload_n 2 rfl dX10_nightsSeen_12 ?_
    refine ev_iconst dX10_nightsSeen_13 ?_
    refine ev_iload_n 0 rfl dX10_nightsSeen_14 ?_
    refine c_X10_286 (m_isSeen (a := -1) (n := n) hM hI (by decide) (by first | assumption | exact hR _ _ | decide | (simp only [InR]; omega))) hM.1 rfl rfl (Nat.le_of_ble_eq_true rfl) (by decide) dX10_nightsSeen_15 (kB (fun b15 => ?_) (fun b15 => ?_))
    · refine ev_if_eq (tgt := 25) dX10_nightsSeen_18 (by decide) (by decide) (fun c => absurd c (by decide)) (fun _ => ?_)
      refine ev_iconst dX10_nightsSeen_21 ?_
      refine ev_goto (tgt := 26) dX10_nightsSeen_22 (by decide) ?_
      refine ev_iadd dX10_nightsSeen_26 ?_
      refine ev_istore_n (L' := [(1, vI (t + 1)), (2, vI (n)), (0, .ref (o))]) dX10_nightsSeen_27 (by decide) rfl ?_
      refine ev_iinc (L' := [(2, vI (n + 1)), (1, vI (t + 1)), (0, .ref (o))]) 1 rfl dX10_nightsSeen_28 (by decide) rfl ?_
      refine ev_goto (tgt := 4) dX10_nightsSeen_31 (by decide) ?_
      exact ihn (n + 1) (by omega) (by omega) (t + 1) (by omega) (by rw [sumI_s _ (by omega), ← hv]; unfold seen1; first | (rw [iteP_pos (by assumption)]; done) | (rw [iteP_neg (by assumption)]; done))
    · refine ev_if_eq (tgt := 25) dX10_nightsSeen_18 (by decide) (by decide) (fun _ => ?_) (fun c => absurd c (by decide))
      refine ev_iconst dX10_nightsSeen_25 ?_
      refine ev_iadd dX10_nightsSeen_26 ?_
      refine ev_istore_n (L' := [(1, vI (t + 0)), (2, vI (n)), (0, .ref (o))]) dX10_nightsSeen_27 (by decide) rfl ?_
      refine ev_iinc (L' := [(2, vI (n + 1)), (1, vI (t + 0)), (0, .ref (o))]) 1 rfl dX10_nightsSeen_28 (by decide) rfl ?_
      refine ev_goto (tgt := 4) dX10_nightsSeen_31 (by decide) ?_
      exact ihn (n + 1) (by omega) (by omega) (t + 0) (by omega) (by rw [sumI_s _ (by omega), ← hv]; unfold seen1; first | (rw [iteP_pos (by assumption)]; done) | (rw [iteP_neg (by assumption)]; done))

theorem seen1_x {S S' : MS} (hx : eqx scr S S') : seen1 S' = seen1 S := by funext n; unfold seen1; rw [iteP_iff (SeenP_x hx)]
theorem roundZ_x {S S' : MS} {p : Int} (hx : eqx scr S S') : roundZ S' p = roundZ S p := by unfold roundZ restZ; rw [seen1_x hx]
theorem nightsZ_x {S S' : MS} (hx : eqx scr S S') : nightsZ S' = nightsZ S := by unfold nightsZ; rw [seen1_x hx]
theorem roundZ_b {S : MS} {p : Int} (hp : 20 ≤ p ∧ p ≤ 40) : 0 ≤ roundZ S p ∧ roundZ S p ≤ 256000000 := by
  unfold roundZ
  have h1 := sumI_b (f := fun k => restZ S p 400 k * restZ S p 400 k) (i := p) (a := 0) (b := 160000) (by omega) (fun k _ _ => by
    have h2 := restZ_b (S := S) (p := p) (n := 400) (k := k) (by omega)
    exact ⟨Int.mul_nonneg h2.1 h2.1, by have := Int.mul_le_mul h2.2 h2.2 h2.1 (by decide); omega⟩)
  have h3 : 0 ≤ sumI (fun k => restZ S p 400 k * restZ S p 400 k) p := by omega
  have h4 : sumI (fun k => restZ S p 400 k * restZ S p 400 k) p ≤ 6400000 := by omega
  exact ⟨Int.mul_nonneg (by omega) h3, by have := Int.mul_le_mul hp.2 h4 h3 (by decide); omega⟩
theorem bestN_b {S : MS} : ∀ n : Nat, 20 ≤ bestN S n ∧ bestN S n ≤ 20 + n := by
  intro n
  induction n with
  | zero => simp [bestN]
  | succ n ih => unfold bestN; split <;> omega

set_option maxHeartbeats 4000000 in
set_option maxRecDepth 100000 in
theorem m_round {E : EV} {h : AH} {o : Nat} {ad : Nat → Nat} {S : MS} {p : Int} (hM : MR E o ad S h) (hI : Inv S) (g1 : InR p) : CM E yX10_round cX10_round 2 (some .int) 2 0 0 [.ref (o), vI (p)] h (qI (fun z h' => z = sp_round S p ∧ ∃ S', MR E o ad S' h' ∧ eqx [39] S S')) := by
  have hR := hM.2.2.2.2
  have hJ := hI
  obtain ⟨i1, i2, i3, i4, i5, i6, iSt, iSi, iWa, iSh, iLa, iS0, iS1, iZe⟩ := hJ
  refine CM.of (by decide) (Nat.le_of_ble_eq_true rfl) (L := [(0, .ref (o)), (1, vI (p))]) rfl ?_
  refine ev_iload_n 1 rfl dX10_round_0 ?_
  refine ev_i2l dX10_round_1 (by first | assumption | exact hR _ _ | decide | (simp only [InR]; omega)) ?_
  refine ev_ldc2 (z := 20) dX10_round_2 k_X10_291 (by decide) ?_
  refine ev_ldc2 (z := 40) dX10_round_5 k_X10_293 (by decide) ?_
  refine c_X10_143 (m_in E (v := p) (a := 20) (b := 40) (by first | assumption | exact hR _ _ | decide | (simp only [InL]; omega)) (by decide) (by decide)) rfl rfl (Nat.le_of_ble_eq_true rfl) (by decide) dX10_round_8 (kB (fun b8 => ?_) (fun b8 => ?_))
  · refine ev_if_eq (tgt := 22) dX10_round_11 (by decide) (by decide) (fun c => absurd c (by decide)) (fun _ => ?_)
    refine ev_aload_n 0 rfl dX10_round_14 ?_
    refine ev_iload_n 1 rfl dX10_round_15 ?_
    refine c_X10_295 (m_roundOf (p := p) hM hI (by omega)) hM.1 rfl rfl (Nat.le_of_ble_eq_true rfl) (by decide) dX10_round_16 (kI (fun z1 h2 hqz1 => ?_))
    obtain ⟨hz6, S3, hM4, ex5⟩ := hqz1
    have hRS3 := hM4.2.2.2.2
    have hxS3 : eqx scr S S3 := (eqx.rf (l := scr) (S := S)).tr ex5 (by decide) (by decide)
    have hIS3 := Inv.x hI hxS3
    refine ev_ren (b := roundZ S p) hz6 ?_
    have rbz1 := roundZ_b (S := S) (p := p) (by omega)
    refine ev_goto (tgt := 23) dX10_round_19 (by decide) ?_
    refine ev_ireturn dX10_round_23 ?_
    refine ⟨_, rfl, ?_, S3, hM4, (eqx.tr (l := [39]) (eqx.rf (l := [39]) (S := S)) ex5 (by decide) (by decide))⟩
    simp only [sp_round]; first | rw [if_pos (by omega)] | rw [if_neg (by omega)]
  · refine ev_if_eq (tgt := 22) dX10_round_11 (by decide) (by decide) (fun _ => ?_) (fun c => absurd c (by decide))
    refine ev_iconst dX10_round_22 ?_
    refine ev_ireturn dX10_round_23 ?_
    refine ⟨_, rfl, ?_, S, hM, (eqx.rf (l := [39]) (S := S))⟩
    simp only [sp_round]; first | rw [if_pos (by omega)] | rw [if_neg (by omega)]

set_option maxHeartbeats 4000000 in
set_option maxRecDepth 100000 in
theorem m_best {E : EV} {h : AH} {o : Nat} {ad : Nat → Nat} {S : MS} (hM : MR E o ad S h) (hI : Inv S) : CM E yX10_best cX10_best 3 (some .int) 2 0 0 [.ref (o)] h (qI (fun z h' => z = sp_best S ∧ ∃ S', MR E o ad S' h' ∧ eqx [39] S S')) := by
  have hR := hM.2.2.2.2
  have hJ := hI
  obtain ⟨i1, i2, i3, i4, i5, i6, iSt, iSi, iWa, iSh, iLa, iS0, iS1, iZe⟩ := hJ
  have nb := sumI_b (f := seen1 S) (i := 400) (a := 0) (b := 1) (by omega) (fun k _ _ => seen1_b S k)
  change 400 * 0 ≤ nightsZ S ∧ nightsZ S ≤ 400 * 1 at nb
  refine CM.of (by decide) (Nat.le_of_ble_eq_true rfl) (L := [(0, .ref (o))]) rfl ?_
  refine ev_aload_n 0 rfl dX10_best_0 ?_
  refine c_X10_298 (m_nightsSeen hM hI) hM.1 rfl rfl (Nat.le_of_ble_eq_true rfl) (by decide) dX10_best_1 (kP ?_)
  refine ev_iconst dX10_best_4 ?_
  refine ev_icmp_ge (tgt := 11) dX10_best_5 (by first | assumption | exact hR _ _ | decide | (simp only [InR]; omega)) (by decide) (by decide) (fun c5 => ?_) (fun c5 => ?_)
  · refine ev_bipush dX10_best_11 (by decide) ?_
    refine ev_istore_n (L' := [(1, vI (20)), (0, .ref (o))]) dX10_best_13 (by decide) rfl ?_
    refine ev_bipush dX10_best_14 (by decide) ?_
    refine ev_istore_n (L' := [(2, vI (21)), (1, vI (20)), (0, .ref (o))]) dX10_best_16 (by decide) rfl ?_
    refine up_ind (P := fun p : Int => ∀ (t : Int) (S1 : MS) (h2 : AH), 0 ≤ p → MR E o ad S1 h2 → eqx [39] S S1 → t = bestN S (p - 21).toNat → 21 ≤ p → Ev E RX10 cX10_best 3 (some .int) "best" (qI (fun z h' => z = sp_best S ∧ ∃ S', MR E o ad S' h' ∧ eqx [39] S S')) 2 0 0 17 [(2, vI (p)), (1, vI (t)), (0, .ref (o))] [] h2) (N := 41) ?_ 21 (by omega) 20 S h (by omega) hM eqx.rf (rfl) (by omega)
    intro p ihp hpN t S1 h2 pp hM3 hx4 hv hp21
    have hRS1 := hM3.2.2.2.2
    have hxS1 : eqx scr S S1 := (eqx.rf (l := scr) (S := S)).tr hx4 (by decide) (by decide)
    have hIS1 := Inv.x hI hxS1
    have bb := bestN_b (S := S) (p - 21).toNat
    rw [← hv] at bb
    refine ev_iload_n 0 rfl dX10_best_17 ?_
    refine ev_bipush dX10_best_18 (by decide) ?_
    refine ev_icmp_gt (tgt := 48) dX10_best_20 (by first | assumption | exact hR _ _ | exact hRS1 _ _ | decide | (simp only [InR]; omega)) (by decide) (by decide) (fun c20 => ?_) (fun c20 => ?_)
    · refine ev_iload_n 1 rfl dX10_best_48 ?_
      refine ev_ireturn dX10_best_49 ?_
      refine ⟨_, rfl, ?_, S1, hM3, (eqx.tr (l := [39]) (eqx.rf (l := [39]) (S := S)) hx4 (by decide) (by decide))⟩
      simp only [sp_best]; rw [if_neg (by omega), hv, show (p - 21).toNat = 20 by omega]
    · refine ev_aload_n 2 rfl dX10_best_23 ?_
      refine ev_iload_n 0 rfl dX10_best_24 ?_
      refine c_X10_295 (m_roundOf (p := p) hM3 hIS1 (by omega)) hM3.1 rfl rfl (Nat.le_of_ble_eq_true rfl) (by decide) dX10_best_25 (kI (fun z5 h6 hqz5 => ?_))
      obtain ⟨hz10, S7, hM8, ex9⟩ := hqz5
      rw [roundZ_x hxS1] at hz10
      have hRS7 := hM8.2.2.2.2
      have hxS7 : eqx scr S S7 := (hxS1).tr ex9 (by decide) (by decide)
      have hIS7 := Inv.x hI hxS7
      refine ev_ren (b := roundZ S p) hz10 ?_
      have rbz5 := roundZ_b (S := S) (p := p) (by omega)
      refine ev_aload_n 2 rfl dX10_best_28 ?_
      refine ev_iload_n 1 rfl dX10_best_29 ?_
      refine c_X10_295 (m_roundOf (p := t) hM8 hIS7 (by omega)) hM8.1 rfl rfl (Nat.le_of_ble_eq_true rfl) (by decide) dX10_best_30 (kI (fun z11 h12 hqz11 => ?_))
      obtain ⟨hz16, S13, hM14, ex15⟩ := hqz11
      rw [roundZ_x hxS7] at hz16
      have hRS13 := hM14.2.2.2.2
      have hxS13 : eqx scr S S13 := (hxS7).tr ex15 (by decide) (by decide)
      have hIS13 := Inv.x hI hxS13
      refine ev_ren (b := roundZ S t) hz16 ?_
      have rbz11 := roundZ_b (S := S) (p := t) (by omega)
      refine ev_icmp_le (tgt := 40) dX10_best_33 (by first | assumption | exact hR _ _ | exact hRS1 _ _ | exact hRS7 _ _ | exact hRS13 _ _ | decide | (simp only [InR]; omega)) (by first | assumption | exact hR _ _ | exact hRS1 _ _ | exact hRS7 _ _ | exact hRS13 _ _ | decide | (simp only [InR]; omega)) (by decide) (fun c33 => ?_) (fun c33 => ?_)
      · refine ev_iload_n 1 rfl dX10_best_40 ?_
        refine ev_istore_n (L' := [(1, vI (t)), (2, vI (p)), (0, .ref (o))]) dX10_best_41 (by decide) rfl ?_
        refine ev_iinc (L' := [(2, vI (p + 1)), (1, vI (t)), (0, .ref (o))]) 1 rfl dX10_best_42 (by decide) rfl ?_
        refine ev_goto (tgt := 17) dX10_best_45 (by decide) ?_
        exact ihp (p + 1) (by omega) (by omega) t S13 h12 (by omega) hM14 (eqx.tr (l := [39]) (eqx.tr (l := [39]) hx4 ex9 (by decide) (by decide)) ex15 (by decide) (by decide)) (by rw [show (p + 1 - 21).toNat = (p - 21).toNat + 1 by omega, bestN, ← hv, show 21 + (((p - 21).toNat : Nat) : Int) = p by omega]; first | rw [if_pos (by omega)] | rw [if_neg (by omega)]) (by omega)
      · refine ev_iload_n 0 rfl dX10_best_36 ?_
        refine ev_goto (tgt := 41) dX10_best_37 (by decide) ?_
        refine ev_istore_n (L' := [(1, vI (p)), (2, vI (p)), (0, .ref (o))]) dX10_best_41 (by decide) rfl ?_
        refine ev_iinc (L' := [(2, vI (p + 1)), (1, vI (p)), (0, .ref (o))]) 1 rfl dX10_best_42 (by decide) rfl ?_
        refine ev_goto (tgt := 17) dX10_best_45 (by decide) ?_
        exact ihp (p + 1) (by omega) (by omega) p S13 h12 (by omega) hM14 (eqx.tr (l := [39]) (eqx.tr (l := [39]) hx4 ex9 (by decide) (by decide)) ex15 (by decide) (by decide)) (by rw [show (p + 1 - 21).toNat = (p - 21).toNat + 1 by omega, bestN, ← hv, show 21 + (((p - 21).toNat : Nat) : Int) = p by omega]; first | rw [if_pos (by omega)] | rw [if_neg (by omega)]) (by omega)
  · refine ev_bipush dX10_best_8 (by decide) ?_
    refine ev_ireturn dX10_best_10 ?_
    refine ⟨_, rfl, ?_, S, hM, (eqx.rf (l := [39]) (S := S))⟩
    simp only [sp_best]; rw [if_pos (by omega)]

set_option maxHeartbeats 4000000 in
set_option maxRecDepth 100000 in
theorem m_count {E : EV} {h : AH} {o : Nat} {ad : Nat → Nat} {S : MS} {w : Int} (hM : MR E o ad S h) (hI : Inv S) (g1 : InR w) : CM E yX10_count cX10_count 2 (some .int) 2 0 0 [.ref (o), vI (w)] h (qP (sp_count5 S w (nightsZ S)) h) := by
  have hR := hM.2.2.2.2
  have hJ := hI
  obtain ⟨i1, i2, i3, i4, i5, i6, iSt, iSi, iWa, iSh, iLa, iS0, iS1, iZe⟩ := hJ
  refine CM.of (by decide) (Nat.le_of_ble_eq_true rfl) (L := [(0, .ref (o)), (1, vI (w))]) rfl ?_
  refine ev_iload_n 1 rfl dX10_count_0 ?_
  refine ev_if_ne (tgt := 11) dX10_count_1 (by first | assumption | exact hR _ _ | decide | (simp only [InR]; omega)) (by decide) (fun c1 => ?_) (fun c1 => ?_)
  · refine ev_iload_n 1 rfl dX10_count_11 ?_
    refine ev_iconst dX10_count_12 ?_
    refine ev_icmp_ne (tgt := 23) dX10_count_13 (by first | assumption | exact hR _ _ | decide | (simp only [InR]; omega)) (by decide) (by decide) (fun c13 => ?_) (fun c13 => ?_)
    · refine ev_iload_n 1 rfl dX10_count_23 ?_
      refine ev_iconst dX10_count_24 ?_
      refine ev_icmp_ne (tgt := 35) dX10_count_25 (by first | assumption | exact hR _ _ | decide | (simp only [InR]; omega)) (by decide) (by decide) (fun c25 => ?_) (fun c25 => ?_)
      · refine ev_iload_n 1 rfl dX10_count_35 ?_
        refine ev_iconst dX10_count_36 ?_
        refine ev_icmp_ne (tgt := 47) dX10_count_37 (by first | assumption | exact hR _ _ | decide | (simp only [InR]; omega)) (by decide) (by decide) (fun c37 => ?_) (fun c37 => ?_)
        · refine ev_iload_n 1 rfl dX10_count_47 ?_
          refine ev_iconst dX10_count_48 ?_
          refine ev_icmp_ne (tgt := 59) dX10_count_49 (by first | assumption | exact hR _ _ | decide | (simp only [InR]; omega)) (by decide) (by decide) (fun c49 => ?_) (fun c49 => ?_)
          · refine ev_iconst dX10_count_59 ?_
            refine ev_ireturn dX10_count_60 ?_
            refine ⟨rfl, congrArg (fun z => some (vI z)) ?_⟩
            simp only [sp_count5]; (repeat' split) <;> first | rfl | omega
          · refine ev_aload_n 0 rfl dX10_count_52 ?_
            refine c_X10_298 (m_nightsSeen hM hI) hM.1 rfl rfl (Nat.le_of_ble_eq_true rfl) (by decide) dX10_count_53 (kP ?_)
            refine ev_goto (tgt := 60) dX10_count_56 (by decide) ?_
            refine ev_ireturn dX10_count_60 ?_
            refine ⟨rfl, congrArg (fun z => some (vI z)) ?_⟩
            simp only [sp_count5]; (repeat' split) <;> first | rfl | omega
        · refine ev_aload_n 0 rfl dX10_count_40 ?_
          refine mg_301 hM dX10_count_41 ?_
          refine ev_goto (tgt := 60) dX10_count_44 (by decide) ?_
          refine ev_ireturn dX10_count_60 ?_
          refine ⟨rfl, congrArg (fun z => some (vI z)) ?_⟩
          simp only [sp_count5]; (repeat' split) <;> first | rfl | omega
      · refine ev_aload_n 0 rfl dX10_count_28 ?_
        refine mg_278 hM dX10_count_29 ?_
        refine ev_goto (tgt := 60) dX10_count_32 (by decide) ?_
        refine ev_ireturn dX10_count_60 ?_
        refine ⟨rfl, congrArg (fun z => some (vI z)) ?_⟩
        simp only [sp_count5]; (repeat' split) <;> first | rfl | omega
    · refine ev_aload_n 0 rfl dX10_count_16 ?_
      refine mg_177 hM dX10_count_17 ?_
      refine ev_goto (tgt := 60) dX10_count_20 (by decide) ?_
      refine ev_ireturn dX10_count_60 ?_
      refine ⟨rfl, congrArg (fun z => some (vI z)) ?_⟩
      simp only [sp_count5]; (repeat' split) <;> first | rfl | omega
  · refine ev_aload_n 0 rfl dX10_count_4 ?_
    refine mg_155 hM dX10_count_5 ?_
    refine ev_goto (tgt := 60) dX10_count_8 (by decide) ?_
    refine ev_ireturn dX10_count_60 ?_
    refine ⟨rfl, congrArg (fun z => some (vI z)) ?_⟩
    simp only [sp_count5]; (repeat' split) <;> first | rfl | omega
