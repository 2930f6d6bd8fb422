theorem plF_x {S S' : MS} {l r : List Int} {k : Int} (hx : eqx scr S S') : plF S' l r k = plF S l r k := by
  unfold plF
  funext i
  rw [frZ_x hx]
theorem plT_x {S S' : MS} {l r : List Int} {k : Int} (hx : eqx scr S S') : plT S' l r k = plT S l r k := by
  unfold plT
  funext i
  rw [laZ_x hx]
theorem rwX_x {S S' : MS} {l r : List Int} {k w i : Int} (hx : eqx scr S S') : rwX S' l r k w i = rwX S l r k w i := by
  unfold rwX
  funext j
  rw [partZ_x hx]
theorem plX_x {S S' : MS} {l r : List Int} {k w n : Int} (hx : eqx scr S S') : plX S' l r k w n = plX S l r k w n := by
  unfold plX
  funext i
  rw [rwX_x hx]
theorem tiK_x {S S' : MS} {l r : List Int} {k n : Int} (hx : eqx scr S S') : tiK S' l r k n = tiK S l r k n := by
  unfold tiK frK toK
  rw [plF_x hx, plT_x hx]
theorem avK_x {S S' : MS} {l r : List Int} {k w n : Int} (hx : eqx scr S S') : avK S' l r k w n = avK S l r k w n := by
  unfold avK suK
  rw [plX_x hx]
/-- what is told of set k -/
def PL (S : MS) (l r : List Int) (n : Int) (S1 : MS) (k : Int) : Prop := S1 25 k = meK r k n ∧ S1 26 k = tiK S l r k n ∧ S1 27 k = avK S l r k 0 n ∧ S1 28 k = avK S l r k 1 n ∧ S1 29 k = avK S l r k 2 n ∧ S1 30 k = fiK l r k n
theorem PL_x {S S' S1 : MS} {l r : List Int} {n k : Int} (hx : eqx scr S S') (h : PL S' l r n S1 k) : PL S l r n S1 k := by
  unfold PL at h ⊢
  rw [tiK_x hx, avK_x hx, avK_x hx, avK_x hx] at h
  exact h
theorem fi_ne {l r : List Int} {n k : Int} (hl : ∀ j, 0 ≤ j → j < n → 0 ≤ at0 l j) : ∀ i, i ≤ n → 0 ≤ i → dnI fst2 (-1) (plB l r k) n i = -1 → ∀ j, i ≤ j → j < n → at0 r j ≠ k := by
  refine up_ind (fun i ih hi i0 he j j0 j1 hj => ?_)
  rw [dnI_s (by omega)] at he
  by_cases e : i = j
  · subst e
    have hb : plB l r k i = at0 l i := if_pos hj
    have hn := hl i i0 j1
    rw [hb] at he
    unfold fst2 at he
    rw [if_neg (by omega)] at he
    omega
  · refine ih (i + 1) (by omega) (by omega) (by omega) ?_ j (by omega) j1 hj
    unfold fst2 at he
    split at he
    · exact he
    · next hc =>
      have hl2 := hl i i0 (by omega)
      unfold plB at he hc
      split at he
      · next h3 =>
        omega
      · next h3 =>
        rw [if_neg h3] at hc
        exact absurd (show (-1 : Int) < 0 by decide) hc
theorem fiK_ne {l r : List Int} {n k j : Int} (hl : ∀ j, 0 ≤ j → j < n → 0 ≤ at0 l j) (j0 : 0 ≤ j) (j1 : j < n) (hj : at0 r j = k) : fiK l r k n ≠ -1 := fun q => fi_ne hl 0 (by omega) (by omega) q j j0 j1 hj
theorem mem_at0 {cs : List Int} {x : Int} (h : x ∈ cs) : ∃ j, 0 ≤ j ∧ j < len0 cs ∧ at0 cs j = x := by
  obtain ⟨i, hi, he⟩ := List.getElem_of_mem h
  refine ⟨(i : Int), by omega, by unfold len0; omega, ?_⟩
  unfold at0
  rw [Int.toNat_natCast, List.getD_eq_getElem?_getD, List.getElem?_eq_getElem hi, he]
  rfl
/-! the bits of who meets whom -/
def MbP (F : Int → Bool) (i j x : Int) : Prop := (0 ≤ x ∧ x < 1024) ∧ ∀ u, 0 ≤ u → tb x u = (decide (u < j) && decide (u ≠ i) && F u)
theorem Mb_0 {F : Int → Bool} {i : Int} : MbP F i 0 0 := ⟨by decide, fun u hu => by rw [tb_0, decide_eq_false (show ¬ u < 0 by omega)]; rfl⟩
theorem Mb_y {F : Int → Bool} {i j x : Int} (h : MbP F i j x) (j0 : 0 ≤ j) (j1 : j < 10) (hi : i ≠ j) (hF : F j = true) : MbP F i (j + 1) (orZ x (shlZ 1 j)) := by
  obtain ⟨h1, h2⟩ := orZ_b h.1.1 h.1.2 j0 j1
  refine ⟨h1, fun u hu => ?_⟩
  rw [h2 u hu, h.2 u hu]
  by_cases e : u = j
  · subst e
    rw [decide_eq_true (show u < u + 1 by omega), decide_eq_true (show u = u by rfl), decide_eq_true (show u ≠ i from fun q => hi q.symm), hF]
    simp
  · rw [decide_eq_false e, Bool.or_false]
    by_cases e2 : u < j
    · rw [decide_eq_true e2, decide_eq_true (show u < j + 1 by omega)]
    · rw [decide_eq_false e2, decide_eq_false (show ¬ u < j + 1 by omega)]
theorem Mb_n {F : Int → Bool} {i j x : Int} (h : MbP F i j x) (hi : i = j ∨ F j = false) : MbP F i (j + 1) (orZ x 0) := by
  rw [orZ_0 h.1.1 (by have := h.1.2; omega)]
  refine ⟨h.1, fun u hu => ?_⟩
  rw [h.2 u hu]
  by_cases e : u = j
  · subst e
    rcases hi with q | q
    · rw [decide_eq_false (show ¬ u ≠ i from fun z => z q.symm)]
      simp
    · rw [q]
      simp
  · by_cases e2 : u < j
    · rw [decide_eq_true e2, decide_eq_true (show u < j + 1 by omega)]
    · rw [decide_eq_false e2, decide_eq_false (show ¬ u < j + 1 by omega)]
/-- what is left behind when the sets of a NIGHT are found -/
def FCp (S S' : MS) (l r : List Int) (c : Int) : Prop := S' 19 0 = len0 l ∧ S' 21 0 = c ∧ (∀ j, 0 ≤ j → j < len0 l → S' 20 j = at0 l j ∧ S' 22 j = at0 r j) ∧ ∀ k, 0 ≤ k → k < c → PL S l r (len0 l) S' k
/-- the NIGHT's list -/
theorem night_b {S : MS} {n : Int} (hI : Inv S) : (0 ≤ len0 (nightL S n) ∧ len0 (nightL S n) ≤ S 7 0) ∧ ∀ j, 0 ≤ j → j < len0 (nightL S n) → SG S (at0 (nightL S n) j) ∧ SelP S n (at0 (nightL S n) j) := by
  have h := selL_b (S := S) (n := n) (S 7 0).toNat
  have h7 := hI.2.1
  rw [Int.toNat_of_nonneg h7.1] at h
  exact ⟨⟨len0_nn _, h.1⟩, fun j j0 j1 => h.2 j j0 j1⟩

set_option maxHeartbeats 4000000 in
set_option maxRecDepth 100000 in
theorem fc_places {E : EV} {h : AH} {o : Nat} {ad : Nat → Nat} {S : MS} {l r : List Int} {n c nn mm : Int} {d : Nat} {Q : Option Value → AH → Prop} (hM : MR E o ad S h) (hI : Inv S) (gn : S 19 0 = n) (gn1 : 0 ≤ n ∧ n ≤ 10) (hls : ∀ j : Int, 0 ≤ j → j < n → S 20 j = at0 l j ∧ SG S (at0 l j)) (hrs : ∀ j : Int, 0 ≤ j → j < n → S 22 j = at0 r j ∧ 0 ≤ at0 r j ∧ at0 r j < 10) (hcr : ∀ i j : Int, 0 ≤ i → i < j → j < n → at0 r i = at0 r j → CrP S (at0 l i) (at0 l j)) (gc : S 21 0 = c) (gc1 : 0 ≤ c ∧ c ≤ 10) (hfi : ∀ k : Int, 0 ≤ k → k < c → fiK l r k n ≠ -1) (hd2 : 5 ≤ d) (hQ : ∀ (S' : MS) (h' : AH), MR E o ad S' h' → eqx [17, 18, 25, 26, 27, 28, 29, 30] S S' → (∀ k : Int, 0 ≤ k → k < c → PL S l r n S' k) → Q (some (vI c)) h') : Ev E RX10 cX10_findCurtains 4 (some .int) "findCurtains" (Q) d 0 0 135 [(0, .ref (o)), (1, vI (nn)), (2, vI (mm))] [] h := by
  have hR := hM.2.2.2.2
  refine ev_iconst dX10_findCurtains_135 ?_
  refine ev_istore_n (L' := [(3, vI (0)), (0, .ref (o)), (1, vI (nn)), (2, vI (mm))]) dX10_findCurtains_136 (by decide) rfl ?_
  refine up_ind (P := fun k : Int => ∀ (S1 : MS) (h2 : AH), 0 ≤ k → MR E o ad S1 h2 → eqx [17, 18, 25, 26, 27, 28, 29, 30] S S1 → (∀ u : Int, 0 ≤ u → u < k → PL S l r n S1 u) → Ev E RX10 cX10_findCurtains 4 (some .int) "findCurtains" (Q) d 0 0 137 [(3, vI (k)), (0, .ref (o)), (1, vI (nn)), (2, vI (mm))] [] h2) (N := c) ?_ 0 (by omega)  S h (by omega) hM eqx.rf (fun u u0 u1 => absurd u0 (by omega))
  intro k ihk hkN S1 h2 pk hM3 hx4 hpl
  have hRS1 := hM3.2.2.2.2
  have hxS1 : eqx scr S S1 := (eqx.rf (l := scr) (S := S)).tr hx4 (by decide) (by decide)
  have hIS1 := Inv.x hI hxS1
  refine ev_iload_n 0 rfl dX10_findCurtains_137 ?_
  refine ev_aload_n 1 rfl dX10_findCurtains_138 ?_
  refine mgE_254 (v := S 21 0) hM3 (by rw [hx4 21 (by decide)]) dX10_findCurtains_139 ?_
  refine ev_ren (b := c) (gc) ?_
  refine ev_icmp_ge (tgt := 156) dX10_findCurtains_142 (by first | assumption | exact hR _ _ | exact hRS1 _ _ | decide | (simp only [InR]; omega)) (by first | assumption | exact hR _ _ | exact hRS1 _ _ | decide | (simp only [InR]; omega)) (by decide) (fun c142 => ?_) (fun c142 => ?_)
  · refine ev_aload_n 1 rfl dX10_findCurtains_156 ?_
    refine mgE_254 (v := S 21 0) hM3 (by rw [hx4 21 (by decide)]) dX10_findCurtains_157 ?_
    refine ev_ren (b := c) (gc) ?_
    refine ev_ireturn dX10_findCurtains_160 ?_
    rw [show k = c by omega] at hpl
    exact hQ S1 h2 hM3 hx4 hpl
  · refine ev_aload_n 1 rfl dX10_findCurtains_145 ?_
    refine ev_iload_n 0 rfl dX10_findCurtains_146 ?_
    refine c_X10_257 (m_findPlace (l := l) (r := r) (n := n) (k := k) hM3 hIS1 (by rw [hx4 19 (by decide)]; exact gn) gn1 (fun j j0 j1 => ⟨by rw [hx4 20 (by decide)]; exact (hls j j0 j1).1, by unfold SG; rw [hx4 7 (by decide)]; exact (hls j j0 j1).2⟩) (fun j j0 j1 => by rw [hx4 22 (by decide)]; exact hrs j j0 j1) (fun i j i0 ij j1 e1 e2 => (CrP_x hxS1).mpr (hcr i j i0 ij j1 (e1.trans e2.symm))) (by omega)) hM3.1 rfl rfl (Nat.le_of_ble_eq_true rfl) (by omega) dX10_findCurtains_147 (kV (fun h5 hqh5 => ?_))
    obtain ⟨S6, hM7, ex8, p1, p2, p3, p4, p5, p6, p7⟩ := hqh5
    have hRS6 := hM7.2.2.2.2
    have hxS6 : eqx scr S S6 := (hxS1).tr ex8 (by decide) (by decide)
    have hIS6 := Inv.x hI hxS6
    refine ev_iinc (L' := [(3, vI (k + 1)), (0, .ref (o)), (1, vI (nn)), (2, vI (mm))]) 0 rfl dX10_findCurtains_150 (by decide) rfl ?_
    refine ev_goto (tgt := 137) dX10_findCurtains_153 (by decide) ?_
    exact ihk (k + 1) (by omega) (by omega) S6 h5 (by omega) hM7 (eqx.tr (l := [17, 18, 25, 26, 27, 28, 29, 30]) hx4 ex8 (by decide) (by decide)) (fun u u0 u1 => (Int.lt_or_eq_of_le (show u ≤ k by omega)).elim (fun q => by unfold PL; rw [(p7 u (by omega)).1, (p7 u (by omega)).2.1, (p7 u (by omega)).2.2.1, (p7 u (by omega)).2.2.2.1, (p7 u (by omega)).2.2.2.2.1, (p7 u (by omega)).2.2.2.2.2]; exact hpl u u0 q) (fun q => by subst q; exact PL_x hxS1 ⟨p1, p2, p3, p4, p5, p6.resolve_left (hfi u u0 (by omega))⟩))

theorem PS_in {S S1 : MS} {l : List Int} {n : Int} (hn : n ≤ 10) (h19 : S1 19 0 = n) (h : ∀ k : Int, 0 ≤ k → k < n → MbP (MM S l k) k n (S1 23 k)) : PS (MM S l) n S1 [] := by
  refine ⟨fun i i0 i1 => absurd i1 (by unfold len0; simp; omega), h19, hn, fun k k0 k1 => ⟨(h k k0 k1).1, fun i i0 i1 => ?_⟩, fun x hx => by cases hx⟩
  rw [(h k k0 k1).2 i i0, decide_eq_true (show i < n by omega), decide_eq_true (show i ≠ k by omega)]
  rfl

set_option maxHeartbeats 4000000 in
set_option maxRecDepth 100000 in
theorem m_findCurtains {E : EV} {h : AH} {o : Nat} {ad : Nat → Nat} {S : MS} {n : Int} (hM : MR E o ad S h) (hI : Inv S) (g1 : InR n) : CM E yX10_findCurtains cX10_findCurtains 4 (some .int) 7 0 0 [.ref (o), vI (n)] h (qI (fun z h' => ∃ S', MR E o ad S' h' ∧ eqx [17, 18, 19, 20, 21, 22, 23, 25, 26, 27, 28, 29, 30] S S' ∧ ((10 < len0 (nightL S n) ∧ z = -3) ∨ (len0 (nightL S n) ≤ 10 ∧ ∃ r, FewP (MM S (nightL S n)) (len0 (nightL S n)) z r ∧ FCp S S' (nightL S n) r z)))) := by
  have hR := hM.2.2.2.2
  have hJ := hI
  obtain ⟨i1, i2, i3, i4, i5, i6, iSt, iSi, iWa, iSh, iLa, iS0, iS1, iZe⟩ := hJ
  refine CM.of (by decide) (Nat.le_of_ble_eq_true rfl) (L := [(0, .ref (o)), (1, vI (n))]) rfl ?_
  refine ev_aload_n 0 rfl dX10_findCurtains_0 ?_
  refine ev_iload_n 1 rfl dX10_findCurtains_1 ?_
  refine c_X10_247 (m_listNight hM hI g1) hM.1 rfl rfl (Nat.le_of_ble_eq_true rfl) (by decide) dX10_findCurtains_2 (kV (fun h1 hqh1 => ?_))
  obtain ⟨S2, hM3, ex4, hls0⟩ := hqh1
  have hls : S2 19 0 = len0 (nightL S n) ∧ ∀ j : Int, 0 ≤ j → j < len0 (nightL S n) → S2 20 j = at0 (nightL S n) j := hls0
  have hRS2 := hM3.2.2.2.2
  obtain ⟨nb1, nb2⟩ := night_b (S := S) (n := n) hI
  have hxS2 : eqx scr S S2 := (eqx.rf (l := scr) (S := S)).tr ex4 (by decide) (by decide)
  have hIS2 := Inv.x hI hxS2
  refine ev_aload_n 0 rfl dX10_findCurtains_5 ?_
  refine mgE_238 (v := len0 (nightL S n)) hM3 (by rw [hls.1]) dX10_findCurtains_6 ?_
  refine ev_bipush dX10_findCurtains_9 (by decide) ?_
  refine ev_icmp_le (tgt := 17) dX10_findCurtains_11 (by first | assumption | exact hR _ _ | exact hRS2 _ _ | decide | (simp only [InR]; omega)) (by decide) (by decide) (fun c11 => ?_) (fun c11 => ?_)
  · refine ev_iconst dX10_findCurtains_17 ?_
    refine ev_istore_n (L' := [(2, vI (0)), (0, .ref (o)), (1, vI (n))]) dX10_findCurtains_18 (by decide) rfl ?_
    refine up_ind (P := fun i : Int => ∀ (S5 : MS) (h6 : AH), 0 ≤ i → MR E o ad S5 h6 → eqx [17, 18, 23] S2 S5 → (∀ k : Int, 0 ≤ k → k < i → MbP (MM S (nightL S n) k) k (len0 (nightL S n)) (S5 23 k)) → Ev E RX10 cX10_findCurtains 4 (some .int) "findCurtains" (qI (fun z h' => ∃ S', MR E o ad S' h' ∧ eqx [17, 18, 19, 20, 21, 22, 23, 25, 26, 27, 28, 29, 30] S S' ∧ ((10 < len0 (nightL S n) ∧ z = -3) ∨ (len0 (nightL S n) ≤ 10 ∧ ∃ r, FewP (MM S (nightL S n)) (len0 (nightL S n)) z r ∧ FCp S S' (nightL S n) r z)))) 7 0 0 19 [(2, vI (i)), (0, .ref (o)), (1, vI (n))] [] h6) (N := len0 (nightL S n)) ?_ 0 (by omega)  S2 h1 (by omega) hM3 eqx.rf (fun k k0 k1 => absurd k0 (by omega))
    intro i ihi hiN S5 h6 pi hM7 hx8 hmb
    have hRS5 := hM7.2.2.2.2
    have hxS5 : eqx scr S S5 := (hxS2).tr hx8 (by decide) (by decide)
    have hIS5 := Inv.x hI hxS5
    refine ev_iload_n 0 rfl dX10_findCurtains_19 ?_
    refine ev_aload_n 1 rfl dX10_findCurtains_20 ?_
    refine mgE_238 (v := len0 (nightL S n)) hM7 (by rw [hx8 19 (by decide), hls.1]) dX10_findCurtains_21 ?_
    refine ev_icmp_ge (tgt := 96) dX10_findCurtains_24 (by first | assumption | exact hR _ _ | exact hRS2 _ _ | exact hRS5 _ _ | decide | (simp only [InR]; omega)) (by first | assumption | exact hR _ _ | exact hRS2 _ _ | exact hRS5 _ _ | decide | (simp only [InR]; omega)) (by decide) (fun c24 => ?_) (fun c24 => ?_)
    · refine ev_iconst dX10_findCurtains_96 ?_
      refine ev_istore_n (L' := [(2, vI (0)), (0, .ref (o)), (1, vI (n))]) dX10_findCurtains_97 (by decide) rfl ?_
      refine up_ind (P := fun m : Int => ∀ (S9 : MS) (h10 : AH), 0 ≤ m → MR E o ad S9 h10 → eqx [22] S5 S9 → PS (MM S (nightL S n)) (len0 (nightL S n)) S9 [] → (∀ u : Int, 0 ≤ u → u < m → dfs (MM S (nightL S n)) u (len0 (nightL S n)).toNat [] = none) → Ev E RX10 cX10_findCurtains 4 (some .int) "findCurtains" (qI (fun z h' => ∃ S', MR E o ad S' h' ∧ eqx [17, 18, 19, 20, 21, 22, 23, 25, 26, 27, 28, 29, 30] S S' ∧ ((10 < len0 (nightL S n) ∧ z = -3) ∨ (len0 (nightL S n) ≤ 10 ∧ ∃ r, FewP (MM S (nightL S n)) (len0 (nightL S n)) z r ∧ FCp S S' (nightL S n) r z)))) 7 0 0 98 [(2, vI (m)), (0, .ref (o)), (1, vI (n))] [] h10) (N := len0 (nightL S n)) ?_ 0 (by omega)  S5 h6 (by omega) hM7 eqx.rf (PS_in  (by omega) (by rw [hx8 19 (by decide)]; exact hls.1) (by rw [show i = len0 (nightL S n) by omega] at hmb; exact hmb)) (fun u u0 u1 => absurd u0 (by omega))
      intro m ihm hmN S9 h10 pm hM11 hx12 hPS hnn
      have hRS9 := hM11.2.2.2.2
      have hxS9 : eqx scr S S9 := (hxS5).tr hx12 (by decide) (by decide)
      have hIS9 := Inv.x hI hxS9
      refine ev_aload_n 1 rfl dX10_findCurtains_98 ?_
      refine mgE_238 (v := len0 (nightL S n)) hM11 (by rw [hx12 19 (by decide), hx8 19 (by decide), hls.1]) dX10_findCurtains_99 ?_
      refine ev_if_le (tgt := 119) dX10_findCurtains_102 (by first | assumption | exact hR _ _ | exact hRS2 _ _ | exact hRS5 _ _ | exact hRS9 _ _ | decide | (simp only [InR]; omega)) (by decide) (fun c102 => ?_) (fun c102 => ?_)
      · refine ev_aload_n 1 rfl dX10_findCurtains_119 ?_
        refine ev_aload_n 1 rfl dX10_findCurtains_120 ?_
        refine mgE_238 (v := len0 (nightL S n)) hM11 (by rw [hx12 19 (by decide), hx8 19 (by decide), hls.1]) dX10_findCurtains_121 ?_
        refine ev_if_ne (tgt := 131) dX10_findCurtains_124 (by first | assumption | exact hR _ _ | exact hRS2 _ _ | exact hRS5 _ _ | exact hRS9 _ _ | decide | (simp only [InR]; omega)) (by decide) (fun c124 => ?_) (fun c124 => ?_)
        · exact absurd (show len0 (nightL S n) = 0 by omega) c124
        · refine ev_iconst dX10_findCurtains_127 ?_
          refine ev_goto (tgt := 132) dX10_findCurtains_128 (by decide) ?_
          refine mp_254 hM11 (by decide) dX10_findCurtains_132 (fun S13 h14 eS15 hM16 => ?_)
          have hRS13 := hM16.2.2.2.2
          have hxS13 : eqx scr S S13 := by rw [eS15]; exact (hxS9).up (by decide)
          have hIS13 := Inv.x hI hxS13
          have hfw : FewP (MM S (nightL S n)) (len0 (nightL S n)) 0 [] := ⟨by omega, by rw [show len0 (nightL S n) = 0 by omega]; rfl, fun u u0 u1 => absurd u0 (by omega)⟩
          obtain ⟨fg1, fg2, fg3⟩ := few_ok nb1.1 hfw
          refine ev_pick (L' := [(0, .ref (o)), (1, vI (n)), (2, vI (m))]) [1, 2, 0] rfl ?_
          refine fc_places (l := (nightL S n)) (r := []) (n := len0 (nightL S n)) (c := 0) hM16 hIS13 (by rw [eS15, upS_ne (by decide), hx12 19 (by decide), hx8 19 (by decide)]; exact hls.1) (by omega) (fun j j0 j1 => ⟨by rw [eS15, upS_ne (by decide), hx12 20 (by decide), hx8 20 (by decide)]; exact hls.2 j j0 j1, by unfold SG; rw [hxS13 7 (by decide)]; exact (nb2 j j0 j1).1⟩) (fun j j0 j1 => ⟨absurd j1 (by omega), by have := fg1.1 _ (at0_mem (cs := []) j0 (by omega)); omega⟩) (fun i j i0 ij j1 he => (CrP_x hxS13).mpr (CrP_sw (MM_of (fg1.2.2 i j i0 ij (by omega) he)).1)) (by rw [eS15]; exact upS_at) (by omega) (fun k k0 k1 => ?_) (by decide) (fun S9 h9 m9 x9 p9 => ?_)
          · obtain ⟨j, j0, j1, j2⟩ := mem_at0 (fg1.2.1 k k0 (by omega))
            exact fiK_ne (fun j j0 j1 => (nb2 j j0 j1).1.1) j0 (by omega) j2
          · refine ⟨_, rfl, S9, m9, eqx.tr (l := [17, 18, 19, 20, 21, 22, 23, 25, 26, 27, 28, 29, 30]) (show eqx [17, 18, 19, 20, 21, 22, 23, 25, 26, 27, 28, 29, 30] S S13 from by rw [eS15]; exact (eqx.tr (l := [17, 18, 19, 20, 21, 22, 23, 25, 26, 27, 28, 29, 30]) (eqx.tr (l := [17, 18, 19, 20, 21, 22, 23, 25, 26, 27, 28, 29, 30]) (eqx.tr (l := [17, 18, 19, 20, 21, 22, 23, 25, 26, 27, 28, 29, 30]) (eqx.rf (l := [17, 18, 19, 20, 21, 22, 23, 25, 26, 27, 28, 29, 30]) (S := S)) ex4 (by decide) (by decide)) hx8 (by decide) (by decide)) hx12 (by decide) (by decide)).up (by decide)) x9 (by decide) (by decide), Or.inr ⟨by omega, [], hfw, ?_⟩⟩
            refine ⟨by rw [x9 19 (by decide), eS15, upS_ne (by decide), hx12 19 (by decide), hx8 19 (by decide)]; exact hls.1, by rw [x9 21 (by decide), eS15]; exact upS_at, fun j j0 j1 => ⟨by rw [x9 20 (by decide), eS15, upS_ne (by decide), hx12 20 (by decide), hx8 20 (by decide)]; exact hls.2 j j0 j1, absurd j1 (by omega)⟩, fun k k0 k1 => PL_x hxS13 (p9 k k0 k1)⟩
      · refine ev_aload_n 1 rfl dX10_findCurtains_105 ?_
        refine ev_iload_n 0 rfl dX10_findCurtains_106 ?_
        refine c_X10_251 (m_part (M := MM S (nightL S n)) (n := len0 (nightL S n)) (most := m) hM11 hPS (by omega) (by omega)) hM11.1 rfl rfl (Nat.le_of_ble_eq_true rfl) (by decide) dX10_findCurtains_107 (kI (fun z17 h18 hqz17 => ?_))
        obtain ⟨S19, hM20, ex21, ⟨rfl, r, hr1, hr2, hr3, hr4⟩ | ⟨rfl, hno⟩⟩ := hqz17
        · have hRS19 := hM20.2.2.2.2
          have hxS19 : eqx scr S S19 := (hxS9).tr ex21 (by decide) (by decide)
          have hIS19 := Inv.x hI hxS19
          refine ev_if_ne (tgt := 119) dX10_findCurtains_110 (by decide) (by decide) (fun _ => ?_) (fun c => absurd c (by decide))
          refine ev_aload_n 1 rfl dX10_findCurtains_119 ?_
          refine ev_aload_n 1 rfl dX10_findCurtains_120 ?_
          refine mgE_238 (v := len0 (nightL S n)) hM20 (by rw [ex21 19 (by decide), hx12 19 (by decide), hx8 19 (by decide), hls.1]) dX10_findCurtains_121 ?_
          refine ev_if_ne (tgt := 131) dX10_findCurtains_124 (by first | assumption | exact hR _ _ | exact hRS2 _ _ | exact hRS5 _ _ | exact hRS9 _ _ | exact hRS19 _ _ | decide | (simp only [InR]; omega)) (by decide) (fun c124 => ?_) (fun c124 => ?_)
          · refine ev_iload_n 0 rfl dX10_findCurtains_131 ?_
            refine mp_254 hM20 (by first | assumption | exact hR _ _ | exact hRS2 _ _ | exact hRS5 _ _ | exact hRS9 _ _ | exact hRS19 _ _ | decide | (simp only [InR]; omega)) dX10_findCurtains_132 (fun S22 h23 eS24 hM25 => ?_)
            have hRS22 := hM25.2.2.2.2
            have hxS22 : eqx scr S S22 := by rw [eS24]; exact (hxS19).up (by decide)
            have hIS22 := Inv.x hI hxS22
            have hfw : FewP (MM S (nightL S n)) (len0 (nightL S n)) m r := ⟨by omega, hr1, hnn⟩
            obtain ⟨fg1, fg2, fg3⟩ := few_ok nb1.1 hfw
            refine ev_pick (L' := [(0, .ref (o)), (1, vI (n)), (2, vI (m))]) [1, 2, 0] rfl ?_
            refine fc_places (l := (nightL S n)) (r := r) (n := len0 (nightL S n)) (c := m) hM25 hIS22 (by rw [eS24, upS_ne (by decide), ex21 19 (by decide), hx12 19 (by decide), hx8 19 (by decide)]; exact hls.1) (by omega) (fun j j0 j1 => ⟨by rw [eS24, upS_ne (by decide), ex21 20 (by decide), hx12 20 (by decide), hx8 20 (by decide)]; exact hls.2 j j0 j1, by unfold SG; rw [hxS22 7 (by decide)]; exact (nb2 j j0 j1).1⟩) (fun j j0 j1 => ⟨by rw [eS24, upS_ne (by decide)]; exact hr3 j j0 j1, by have := fg1.1 _ (at0_mem (cs := r) j0 (by omega)); omega⟩) (fun i j i0 ij j1 he => (CrP_x hxS22).mpr (CrP_sw (MM_of (fg1.2.2 i j i0 ij (by omega) he)).1)) (by rw [eS24]; exact upS_at) (by omega) (fun k k0 k1 => ?_) (by decide) (fun S9 h9 m9 x9 p9 => ?_)
            · obtain ⟨j, j0, j1, j2⟩ := mem_at0 (fg1.2.1 k k0 (by omega))
              exact fiK_ne (fun j j0 j1 => (nb2 j j0 j1).1.1) j0 (by omega) j2
            · refine ⟨_, rfl, S9, m9, eqx.tr (l := [17, 18, 19, 20, 21, 22, 23, 25, 26, 27, 28, 29, 30]) (show eqx [17, 18, 19, 20, 21, 22, 23, 25, 26, 27, 28, 29, 30] S S22 from by rw [eS24]; exact (eqx.tr (l := [17, 18, 19, 20, 21, 22, 23, 25, 26, 27, 28, 29, 30]) (eqx.tr (l := [17, 18, 19, 20, 21, 22, 23, 25, 26, 27, 28, 29, 30]) (eqx.tr (l := [17, 18, 19, 20, 21, 22, 23, 25, 26, 27, 28, 29, 30]) (eqx.tr (l := [17, 18, 19, 20, 21, 22, 23, 25, 26, 27, 28, 29, 30]) (eqx.rf (l := [17, 18, 19, 20, 21, 22, 23, 25, 26, 27, 28, 29, 30]) (S := S)) ex4 (by decide) (by decide)) hx8 (by decide) (by decide)) hx12 (by decide) (by decide)) ex21 (by decide) (by decide)).up (by decide)) x9 (by decide) (by decide), Or.inr ⟨by omega, r, hfw, ?_⟩⟩
              refine ⟨by rw [x9 19 (by decide), eS24, upS_ne (by decide), ex21 19 (by decide), hx12 19 (by decide), hx8 19 (by decide)]; exact hls.1, by rw [x9 21 (by decide), eS24]; exact upS_at, fun j j0 j1 => ⟨by rw [x9 20 (by decide), eS24, upS_ne (by decide), ex21 20 (by decide), hx12 20 (by decide), hx8 20 (by decide)]; exact hls.2 j j0 j1, by rw [x9 22 (by decide), eS24, upS_ne (by decide)]; exact hr3 j j0 j1⟩, fun k k0 k1 => PL_x hxS22 (p9 k k0 k1)⟩
          · exact absurd c124 (by omega)
        · have hRS19 := hM20.2.2.2.2
          have hlt : m < len0 (nightL S n) := by
            by_cases q : m < len0 (nightL S n)
            · exact q
            · exact absurd hno (dfs_full _ _ Gd_nil (by have e0 : begL [] = 0 := rfl; omega))
          have hxS19 : eqx scr S S19 := (hxS9).tr ex21 (by decide) (by decide)
          have hIS19 := Inv.x hI hxS19
          refine ev_if_ne (tgt := 119) dX10_findCurtains_110 (by decide) (by decide) (fun c => absurd c (by decide)) (fun _ => ?_)
          refine ev_iinc (L' := [(2, vI (m + 1)), (0, .ref (o)), (1, vI (n))]) 0 rfl dX10_findCurtains_113 (by decide) rfl ?_
          refine ev_goto (tgt := 98) dX10_findCurtains_116 (by decide) ?_
          exact ihm (m + 1) (by omega) (by omega) S19 h18 (by omega) hM20 (eqx.tr (l := [22]) hx12 ex21 (by decide) (by decide)) (PS_keep hPS ex21 (fun i i0 i1 => absurd i1 (by unfold len0; simp; omega))) (fun u u0 u1 => (Int.lt_or_eq_of_le (show u ≤ m by omega)).elim (fun q => hnn u u0 q) (fun q => by subst q; exact hno))
    · refine ev_aload_n 1 rfl dX10_findCurtains_27 ?_
      refine mg_62 hM7 dX10_findCurtains_28 ?_
      refine ev_iload_n 0 rfl dX10_findCurtains_31 ?_
      refine ev_iconst dX10_findCurtains_32 ?_
      refine m_st (k := 23) hM7 (by decide) dX10_findCurtains_33 (by omega) (by show _ < ((10 : Nat) : Int); omega) (by decide) (fun S26 h27 eS28 hM29 => ?_)
      have hRS26 := hM29.2.2.2.2
      have hxS26 : eqx scr S S26 := by rw [eS28]; exact (hxS5).up (by decide)
      have hIS26 := Inv.x hI hxS26
      refine ev_iconst dX10_findCurtains_34 ?_
      refine ev_istore_n (L' := [(3, vI (0)), (2, vI (i)), (0, .ref (o)), (1, vI (n))]) dX10_findCurtains_35 (by decide) rfl ?_
      refine up_ind (P := fun j : Int => ∀ (S30 : MS) (h31 : AH), 0 ≤ j → MR E o ad S30 h31 → eqx [17, 18, 23] S26 S30 → MbP (MM S (nightL S n) i) i j (S30 23 i) → (∀ k : Int, 0 ≤ k → k < i → MbP (MM S (nightL S n) k) k (len0 (nightL S n)) (S30 23 k)) → Ev E RX10 cX10_findCurtains 4 (some .int) "findCurtains" (qI (fun z h' => ∃ S', MR E o ad S' h' ∧ eqx [17, 18, 19, 20, 21, 22, 23, 25, 26, 27, 28, 29, 30] S S' ∧ ((10 < len0 (nightL S n) ∧ z = -3) ∨ (len0 (nightL S n) ≤ 10 ∧ ∃ r, FewP (MM S (nightL S n)) (len0 (nightL S n)) z r ∧ FCp S S' (nightL S n) r z)))) 7 0 0 36 [(3, vI (j)), (2, vI (i)), (0, .ref (o)), (1, vI (n))] [] h31) (N := len0 (nightL S n)) ?_ 0 (by omega)  S26 h27 (by omega) hM29 eqx.rf (by rw [eS28, upS_at]; exact Mb_0) (fun k k0 k1 => by rw [eS28, upS_nz (by omega)]; exact hmb k k0 k1)
      intro j ihj hjN S30 h31 pj hM32 hx33 hme hmo
      have hRS30 := hM32.2.2.2.2
      have hxS30 : eqx scr S S30 := (hxS26).tr hx33 (by decide) (by decide)
      have hIS30 := Inv.x hI hxS30
      refine ev_iload_n 0 rfl dX10_findCurtains_36 ?_
      refine ev_aload_n 2 rfl dX10_findCurtains_37 ?_
      refine mgE_238 (v := len0 (nightL S n)) hM32 (by rw [hx33 19 (by decide), eS28, upS_ne (by decide), hx8 19 (by decide), hls.1]) dX10_findCurtains_38 ?_
      refine ev_icmp_ge (tgt := 90) dX10_findCurtains_41 (by first | assumption | exact hR _ _ | exact hRS2 _ _ | exact hRS5 _ _ | exact hRS26 _ _ | exact hRS30 _ _ | decide | (simp only [InR]; omega)) (by first | assumption | exact hR _ _ | exact hRS2 _ _ | exact hRS5 _ _ | exact hRS26 _ _ | exact hRS30 _ _ | decide | (simp only [InR]; omega)) (by decide) (fun c41 => ?_) (fun c41 => ?_)
      · refine ev_iinc (L' := [(2, vI (i + 1)), (3, vI (j)), (0, .ref (o)), (1, vI (n))]) 1 rfl dX10_findCurtains_90 (by decide) rfl ?_
        refine ev_goto (tgt := 19) dX10_findCurtains_93 (by decide) ?_
        refine ev_pick (L' := [(2, vI (i + 1)), (0, .ref (o)), (1, vI (n))]) [0, 2, 3] rfl ?_
        exact ihi (i + 1) (by omega) (by omega) S30 h31 (by omega) hM32 (eqx.tr (l := [17, 18, 23]) (by rw [eS28]; exact eqx.up (l := [17, 18, 23]) hx8 (by decide)) hx33 (by decide) (by decide)) (fun k k0 k1 => (Int.lt_or_eq_of_le (show k ≤ i by omega)).elim (fun q => hmo k k0 q) (fun q => by subst q; rw [show len0 (nightL S n) = j by omega]; exact hme))
      · refine ev_aload_n 2 rfl dX10_findCurtains_44 ?_
        refine mg_62 hM32 dX10_findCurtains_45 ?_
        refine ev_iload_n 1 rfl dX10_findCurtains_48 ?_
        refine ev_dup2 dX10_findCurtains_49 rfl rfl ?_
        refine m_ld (k := 23) hM32 (by decide) dX10_findCurtains_50 (by omega) (by show _ < ((10 : Nat) : Int); omega) ?_
        refine ev_iload_n 1 rfl dX10_findCurtains_51 ?_
        refine ev_iload_n 0 rfl dX10_findCurtains_52 ?_
        refine ev_icmp_eq (tgt := 81) dX10_findCurtains_53 (by first | assumption | exact hR _ _ | exact hRS2 _ _ | exact hRS5 _ _ | exact hRS26 _ _ | exact hRS30 _ _ | decide | (simp only [InR]; omega)) (by first | assumption | exact hR _ _ | exact hRS2 _ _ | exact hRS5 _ _ | exact hRS26 _ _ | exact hRS30 _ _ | decide | (simp only [InR]; omega)) (by decide) (fun c53 => ?_) (fun c53 => ?_)
        · refine ev_iconst dX10_findCurtains_81 ?_
          refine ev_ior dX10_findCurtains_82 ?_
          have oz : InR (orZ (S30 23 i) 0) := iI_in _
          refine m_st (k := 23) hM32 (by decide) dX10_findCurtains_83 (by omega) (by show _ < ((10 : Nat) : Int); omega) (by first | assumption | exact hR _ _ | exact hRS2 _ _ | exact hRS5 _ _ | exact hRS26 _ _ | exact hRS30 _ _ | decide | (simp only [InR]; omega)) (fun S34 h35 eS36 hM37 => ?_)
          have hRS34 := hM37.2.2.2.2
          have hxS34 : eqx scr S S34 := by rw [eS36]; exact (hxS30).up (by decide)
          have hIS34 := Inv.x hI hxS34
          refine ev_iinc (L' := [(3, vI (j + 1)), (2, vI (i)), (0, .ref (o)), (1, vI (n))]) 0 rfl dX10_findCurtains_84 (by decide) rfl ?_
          refine ev_goto (tgt := 36) dX10_findCurtains_87 (by decide) ?_
          exact ihj (j + 1) (by omega) (by omega) S34 h35 (by omega) hM37 (by rw [eS36]; exact eqx.up (l := [17, 18, 23]) hx33 (by decide)) (by rw [eS36, upS_at]; exact Mb_n hme (Or.inl (by omega))) (fun k k0 k1 => by rw [eS36, upS_nz (by omega)]; exact hmo k k0 k1)
        · refine ev_aload_n 2 rfl dX10_findCurtains_56 ?_
          refine ev_aload_n 2 rfl dX10_findCurtains_57 ?_
          refine mg_56 hM32 dX10_findCurtains_58 ?_
          refine ev_iload_n 1 rfl dX10_findCurtains_61 ?_
          refine m_ldE (k := 20) (v := S2 20 i) hM32 (by decide) (by rw [hx33 20 (by decide), eS28, upS_ne (by decide), hx8 20 (by decide)]) dX10_findCurtains_62 (by omega) (by show _ < ((40 : Nat) : Int); omega) ?_
          refine ev_ren (b := at0 (nightL S n) i) (hls.2 i (by omega) (by omega)) ?_
          refine ev_aload_n 2 rfl dX10_findCurtains_63 ?_
          refine mg_56 hM32 dX10_findCurtains_64 ?_
          refine ev_iload_n 0 rfl dX10_findCurtains_67 ?_
          refine m_ldE (k := 20) (v := S2 20 j) hM32 (by decide) (by rw [hx33 20 (by decide), eS28, upS_ne (by decide), hx8 20 (by decide)]) dX10_findCurtains_68 (by omega) (by show _ < ((40 : Nat) : Int); omega) ?_
          refine ev_ren (b := at0 (nightL S n) j) (hls.2 j (by omega) (by omega)) ?_
          have sgi := (nb2 i (by omega) (by omega)).1
          have sgj := (nb2 j (by omega) (by omega)).1
          refine c_X10_227 (m_areMet (a := at0 (nightL S n) i) (b := at0 (nightL S n) j) hM32 hIS30 (by rw [hxS30 7 (by decide)]; omega) (by rw [hxS30 7 (by decide)]; omega)) hM32.1 rfl rfl (Nat.le_of_ble_eq_true rfl) (by decide) dX10_findCurtains_69 (kI (fun z38 h39 hqz38 => ?_))
          obtain ⟨S40, hM41, ex42, ⟨rfl, b69⟩ | ⟨rfl, b69⟩⟩ := hqz38
          · have hRS40 := hM41.2.2.2.2
            rw [MeP_x hxS30] at b69
            have hxS40 : eqx scr S S40 := (hxS30).tr ex42 (by decide) (by decide)
            have hIS40 := Inv.x hI hxS40
            refine ev_if_eq (tgt := 81) dX10_findCurtains_72 (by decide) (by decide) (fun c => absurd c (by decide)) (fun _ => ?_)
            refine ev_iconst dX10_findCurtains_75 ?_
            refine ev_iload_n 0 rfl dX10_findCurtains_76 ?_
            refine ev_ishl dX10_findCurtains_77 ?_
            refine ev_goto (tgt := 82) dX10_findCurtains_78 (by decide) ?_
            refine ev_ior dX10_findCurtains_82 ?_
            have oz : InR (orZ (S30 23 i) (shlZ 1 j)) := iI_in _
            refine m_st (k := 23) hM41 (by decide) dX10_findCurtains_83 (by omega) (by show _ < ((10 : Nat) : Int); omega) (by first | assumption | exact hR _ _ | exact hRS2 _ _ | exact hRS5 _ _ | exact hRS26 _ _ | exact hRS30 _ _ | exact hRS40 _ _ | decide | (simp only [InR]; omega)) (fun S43 h44 eS45 hM46 => ?_)
            have hRS43 := hM46.2.2.2.2
            have hxS43 : eqx scr S S43 := by rw [eS45]; exact (hxS40).up (by decide)
            have hIS43 := Inv.x hI hxS43
            refine ev_iinc (L' := [(3, vI (j + 1)), (2, vI (i)), (0, .ref (o)), (1, vI (n))]) 0 rfl dX10_findCurtains_84 (by decide) rfl ?_
            refine ev_goto (tgt := 36) dX10_findCurtains_87 (by decide) ?_
            exact ihj (j + 1) (by omega) (by omega) S43 h44 (by omega) hM46 (by rw [eS45]; exact eqx.up (l := [17, 18, 23]) (eqx.tr (l := [17, 18, 23]) hx33 ex42 (by decide) (by decide)) (by decide)) (by rw [eS45, upS_at]; exact Mb_y hme (by omega) (by omega) (by omega) (MM_y (by assumption))) (fun k k0 k1 => by rw [eS45, upS_nz (by omega), ex42 23 (by decide)]; exact hmo k k0 k1)
          · have hRS40 := hM41.2.2.2.2
            rw [MeP_x hxS30] at b69
            have hxS40 : eqx scr S S40 := (hxS30).tr ex42 (by decide) (by decide)
            have hIS40 := Inv.x hI hxS40
            refine ev_if_eq (tgt := 81) dX10_findCurtains_72 (by decide) (by decide) (fun _ => ?_) (fun c => absurd c (by decide))
            refine ev_iconst dX10_findCurtains_81 ?_
            refine ev_ior dX10_findCurtains_82 ?_
            have oz : InR (orZ (S30 23 i) 0) := iI_in _
            refine m_st (k := 23) hM41 (by decide) dX10_findCurtains_83 (by omega) (by show _ < ((10 : Nat) : Int); omega) (by first | assumption | exact hR _ _ | exact hRS2 _ _ | exact hRS5 _ _ | exact hRS26 _ _ | exact hRS30 _ _ | exact hRS40 _ _ | decide | (simp only [InR]; omega)) (fun S47 h48 eS49 hM50 => ?_)
            have hRS47 := hM50.2.2.2.2
            have hxS47 : eqx scr S S47 := by rw [eS49]; exact (hxS40).up (by decide)
            have hIS47 := Inv.x hI hxS47
            refine ev_iinc (L' := [(3, vI (j + 1)), (2, vI (i)), (0, .ref (o)), (1, vI (n))]) 0 rfl dX10_findCurtains_84 (by decide) rfl ?_
            refine ev_goto (tgt := 36) dX10_findCurtains_87 (by decide) ?_
            exact ihj (j + 1) (by omega) (by omega) S47 h48 (by omega) hM50 (by rw [eS49]; exact eqx.up (l := [17, 18, 23]) (eqx.tr (l := [17, 18, 23]) hx33 ex42 (by decide) (by decide)) (by decide)) (by rw [eS49, upS_at]; exact Mb_n hme (Or.inr (MM_n (by assumption)))) (fun k k0 k1 => by rw [eS49, upS_nz (by omega), ex42 23 (by decide)]; exact hmo k k0 k1)
  · refine ev_bipush dX10_findCurtains_14 (by decide) ?_
    refine ev_ireturn dX10_findCurtains_16 ?_
    exact ⟨_, rfl, S2, hM3, (eqx.tr (l := [17, 18, 19, 20, 21, 22, 23, 25, 26, 27, 28, 29, 30]) (eqx.rf (l := [17, 18, 19, 20, 21, 22, 23, 25, 26, 27, 28, 29, 30]) (S := S)) ex4 (by decide) (by decide)), Or.inl ⟨by omega, rfl⟩⟩
