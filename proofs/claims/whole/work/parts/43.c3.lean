/-! the class's own list of NIGHTS SEEN -/
def CInv (S : MS) : Prop := (0 ≤ S 70 0 ∧ S 70 0 ≤ S 7 0) ∧ (∀ j, 0 ≤ j → j < S 70 0 → (0 ≤ S 69 j ∧ S 69 j < 400) ∧ ∃ k, SG S k ∧ S 10 k = S 69 j) ∧ (∀ k, SG S k → ∃ j, (0 ≤ j ∧ j < S 70 0) ∧ S 69 j = S 10 k) ∧ ∀ i j, 0 ≤ i → i < j → j < S 70 0 → S 69 i ≠ S 69 j
theorem CInv.x {l : List Nat} {S S' : MS} (h : CInv S) (hx : eqx l S S') (h7 : 7 ∉ l) (h10 : 10 ∉ l) (h69 : 69 ∉ l) (h70 : 70 ∉ l) : CInv S' := by
  unfold CInv SG at h ⊢
  rw [hx 7 h7, hx 10 h10, hx 69 h69, hx 70 h70]
  exact h
theorem sumI_add {f g : Int → Int} {n : Int} (hn : 0 ≤ n) : sumI (fun k => f k + g k) n = sumI f n + sumI g n := by
  have key : ∀ m : Nat, sumI (fun k => f k + g k) m = sumI f m + sumI g m := by
    intro m
    induction m with
    | zero => rfl
    | succ m ih =>
      rw [show ((m + 1 : Nat) : Int) = (m : Int) + 1 by omega, sumI_s _ (by omega), sumI_s _ (by omega), sumI_s _ (by omega), ih]
      omega
  have := key n.toNat
  rw [Int.toNat_of_nonneg hn] at this
  exact this
theorem sumI_one {g : Int → Int} {x n : Int} (hx : 0 ≤ x) (hn : x < n) : sumI (fun k => if k = x then g k else 0) n = g x := by
  have key : ∀ m : Nat, sumI (fun k => if k = x then g k else 0) m = if x < m then g x else 0 := by
    intro m
    induction m with
    | zero =>
      rw [if_neg (by omega)]
      rfl
    | succ m ih =>
      rw [show ((m + 1 : Nat) : Int) = (m : Int) + 1 by omega, sumI_s _ (by omega), ih]
      (try dsimp only)
      by_cases e : (m : Int) = x
      · rw [if_neg (by omega), if_pos e, if_pos (by omega), e]
        omega
      · rw [if_neg e]
        by_cases q : x < (m : Int)
        · rw [if_pos q, if_pos (by omega)]
          omega
        · rw [if_neg q, if_neg (by omega)]
          omega
  have := key n.toNat
  rw [Int.toNat_of_nonneg (by omega), if_pos hn] at this
  exact this
theorem list_sum {L g : Int → Int} {N : Int} (hN : 0 ≤ N) : ∀ c : Nat, (∀ j : Int, 0 ≤ j → j < c → 0 ≤ L j ∧ L j < N) → (∀ i j : Int, 0 ≤ i → i < j → j < c → L i ≠ L j) → sumI (fun n => iteP (∃ j, (0 ≤ j ∧ j < (c : Int)) ∧ L j = n) (g n) 0) N = sumI (fun j => g (L j)) c := by
  intro c
  induction c with
  | zero =>
    intro _ _
    rw [sumI_zero hN (fun k k0 k1 => iteP_neg (fun ⟨j, hj, _⟩ => by omega))]
    rfl
  | succ c ih =>
    intro hb hd
    have h1 := ih (fun j j0 j1 => hb j j0 (by omega)) (fun i j i0 ij j1 => hd i j i0 ij (by omega))
    have hc := hb c (by omega) (by omega)
    have e1 : sumI (fun n => iteP (∃ j, (0 ≤ j ∧ j < ((c + 1 : Nat) : Int)) ∧ L j = n) (g n) 0) N = sumI (fun n => iteP (∃ j, (0 ≤ j ∧ j < (c : Int)) ∧ L j = n) (g n) 0 + (if n = L c then g n else 0)) N := by
      refine sumI_congr (fun n n0 n1 => ?_)
      by_cases q : n = L c
      · rw [if_pos q, iteP_pos ⟨c, by omega, q.symm⟩, iteP_neg (fun ⟨j, hj, he⟩ => hd j c hj.1 hj.2 (by omega) (he.trans q))]
        omega
      · rw [if_neg q]
        rcases Classical.em (∃ j, (0 ≤ j ∧ j < (c : Int)) ∧ L j = n) with w | w
        · have w2 : ∃ j, (0 ≤ j ∧ j < ((c + 1 : Nat) : Int)) ∧ L j = n := by
            obtain ⟨j, hj, he⟩ := w
            exact ⟨j, by omega, he⟩
          rw [iteP_pos w, iteP_pos w2]
          omega
        · have w2 : ¬ ∃ j, (0 ≤ j ∧ j < ((c + 1 : Nat) : Int)) ∧ L j = n := by
            rintro ⟨j, hj, he⟩
            by_cases e : j = c
            · subst e
              exact q he.symm
            · exact w ⟨j, by omega, he⟩
          rw [iteP_neg w, iteP_neg w2]
          omega
    rw [e1, sumI_add hN, h1, sumI_one hc.1 hc.2, show ((c + 1 : Nat) : Int) = (c : Int) + 1 by omega, sumI_s _ (by omega)]
theorem seen_iff {S : MS} {n : Int} (h : CInv S) : SeenP S (-1) n ↔ ∃ j, (0 ≤ j ∧ j < S 70 0) ∧ S 69 j = n := by
  obtain ⟨h0, h1, h2, h3⟩ := h
  constructor
  · rintro ⟨k, k0, k1, k2, _⟩
    obtain ⟨j, hj, he⟩ := h2 k ⟨k0, k1⟩
    exact ⟨j, hj, he.trans k2⟩
  · rintro ⟨j, hj, he⟩
    obtain ⟨_, k, hk, hk2⟩ := h1 j hj.1 hj.2
    exact ⟨k, hk.1, hk.2, hk2.trans he, Or.inl (by decide)⟩
theorem seen_sum {S : MS} {g : Int → Int} (h : CInv S) : sumI (fun n => iteP (SeenP S (-1) n) (g n) 0) 400 = sumI (fun j => g (S 69 j)) (S 70 0) := by
  have hc := h.1
  have h1 := list_sum (L := S 69) (g := g) (N := 400) (by decide) (S 70 0).toNat (fun j j0 j1 => (h.2.1 j j0 (by omega)).1) (fun i j i0 ij j1 => h.2.2.2 i j i0 ij (by omega))
  rw [Int.toNat_of_nonneg hc.1] at h1
  rw [← h1]
  exact sumI_congr (fun n _ _ => iteP_iff (seen_iff h))
theorem nights_c {S : MS} (h : CInv S) : nightsZ S = S 70 0 := by
  have h1 := seen_sum (g := fun _ => 1) h
  have h2 : sumI (fun _ => (1 : Int)) (S 70 0) = S 70 0 := by
    have := sumI_b (f := fun _ => (1 : Int)) (a := 1) (b := 1) h.1.1 (fun _ _ _ => by omega)
    omega
  unfold nightsZ seen1
  rw [h1, h2]
theorem rest_c {S : MS} {p k : Int} (h : CInv S) : restZ S p 400 k = sumI (fun j => if (S 69 j).tmod p = k then 1 else 0) (S 70 0) := by
  rw [← seen_sum (g := fun n => if n.tmod p = k then 1 else 0) h]
  unfold restZ seen1
  refine sumI_congr (fun n _ _ => ?_)
  by_cases q : n.tmod p = k
  · rw [if_pos q, if_pos q]
  · rw [if_neg q, if_neg q]
    rcases Classical.em (SeenP S (-1) n) with w | w
    · rw [iteP_pos w]
    · rw [iteP_neg w]

set_option maxHeartbeats 4000000 in
set_option maxRecDepth 100000 in
theorem k_watchOf {E : EV} {h : AH} {A : AD} {S : MS} {a n : Int} (hC : CR E A S h) (hI : Inv S) (ga : 0 ≤ a ∧ a < S 2 0) (g2 : InR n) : CM E yX9_watchOf cX9_watchOf 5 (some (.object "NorthCurtains$Watch")) 0 0 0 [.ref (A 0 0), .ref (A 20 a), vI (n)] h (qN (0 ≤ watchZ S a n) (A 22 (watchZ S a n)) h) := by
  have hR := hC.2.2
  have hJ := hI
  obtain ⟨i1, i2, i3, i4, i5, i6, iSt, iSi, iWa, iSh, iLa, iS0, iS1, iZe⟩ := hJ
  refine CM.of (by decide) (Nat.le_of_ble_eq_true rfl) (L := [(0, .ref (A 0 0)), (1, .ref (A 20 a)), (2, vI (n))]) rfl ?_
  refine ev_iconst dX9_watchOf_0 ?_
  refine ev_istore_n (L' := [(3, vI (0)), (0, .ref (A 0 0)), (1, .ref (A 20 a)), (2, vI (n))]) dX9_watchOf_1 (by decide) rfl ?_
  refine up_ind (P := fun i : Int => 0 ≤ i → watchZ S a n = scanI (WaB S a n) i (S 34 0) → Ev E RX9 cX9_watchOf 5 (some (.object "NorthCurtains$Watch")) "watchOf" (qN (0 ≤ watchZ S a n) (A 22 (watchZ S a n)) h) 0 0 0 2 [(3, vI (i)), (0, .ref (A 0 0)), (1, .ref (A 20 a)), (2, vI (n))] [] h) (N := S 34 0) ?_ 0 (by omega)  (by omega) (rfl)
  intro i ihi hiN pi hs
  refine ev_iload_n 0 rfl dX9_watchOf_2 ?_
  refine ev_aload_n 1 rfl dX9_watchOf_3 ?_
  refine cg_X9_219 hC dX9_watchOf_4 ?_
  refine ev_icmp_ge (tgt := 51) dX9_watchOf_7 (by first | assumption | exact hR _ _ | decide | (simp only [InR]; omega)) (by first | assumption | exact hR _ _ | decide | (simp only [InR]; omega)) (by decide) (fun c7 => ?_) (fun c7 => ?_)
  · refine ev_null dX9_watchOf_51 ?_
    refine ev_areturn (by first | exact Or.inl ⟨_, rfl⟩ | exact Or.inr ⟨_, rfl⟩) (by first | exact Or.inl rfl | exact Or.inr ⟨_, rfl⟩) dX9_watchOf_52 ?_
    exact ⟨rfl, Or.inr ⟨rfl, by rw [hs, scanI_end _ (by omega)]; decide⟩⟩
  · have w1 := iWa i (by omega) (by omega)
    refine ev_aload_n 1 rfl dX9_watchOf_10 ?_
    refine cg_X9_23 hC dX9_watchOf_11 ?_
    refine ev_iload_n 0 rfl dX9_watchOf_14 ?_
    refine c_aa3 hC dX9_watchOf_15 (by omega) (by omega) (by omega) ?_
    refine ev_astore (L' := [(4, .ref (A 22 i)), (3, vI (i)), (0, .ref (A 0 0)), (1, .ref (A 20 a)), (2, vI (n))]) dX9_watchOf_16 (by decide) rfl ?_
    refine ev_aload 0 rfl dX9_watchOf_18 ?_
    refine cgR_X9_232 (i := i) (v := S 35 i) hC (by omega) rfl dX9_watchOf_20 ?_
    refine cg_X9_127 hC (by omega) dX9_watchOf_23 ?_
    refine ev_aload_n 3 rfl dX9_watchOf_26 ?_
    refine cg_X9_127 hC (by omega) dX9_watchOf_27 ?_
    refine ev_icmp_ne (tgt := 45) dX9_watchOf_30 (by first | assumption | exact hR _ _ | decide | (simp only [InR]; omega)) (by first | assumption | exact hR _ _ | decide | (simp only [InR]; omega)) (by decide) (fun c30 => ?_) (fun c30 => ?_)
    · refine ev_iinc (L' := [(3, vI (i + 1)), (4, .ref (A 22 i)), (0, .ref (A 0 0)), (1, .ref (A 20 a)), (2, vI (n))]) 1 rfl dX9_watchOf_45 (by decide) rfl ?_
      refine ev_goto (tgt := 2) dX9_watchOf_48 (by decide) ?_
      refine ev_pick (L' := [(3, vI (i + 1)), (0, .ref (A 0 0)), (1, .ref (A 20 a)), (2, vI (n))]) [0, 2, 3, 4] rfl ?_
      exact ihi (i + 1) (by omega) (by omega) (by omega) (by rw [hs, scanI_s _ (by omega), if_neg (by simp only [WaB, decide_eq_true_eq]; omega)])
    · refine ev_aload 0 rfl dX9_watchOf_33 ?_
      refine cg_X9_233 hC (by omega) dX9_watchOf_35 ?_
      refine ev_iload_n 4 rfl dX9_watchOf_38 ?_
      refine ev_icmp_ne (tgt := 45) dX9_watchOf_39 (by first | assumption | exact hR _ _ | decide | (simp only [InR]; omega)) (by first | assumption | exact hR _ _ | decide | (simp only [InR]; omega)) (by decide) (fun c39 => ?_) (fun c39 => ?_)
      · refine ev_iinc (L' := [(3, vI (i + 1)), (4, .ref (A 22 i)), (0, .ref (A 0 0)), (1, .ref (A 20 a)), (2, vI (n))]) 1 rfl dX9_watchOf_45 (by decide) rfl ?_
        refine ev_goto (tgt := 2) dX9_watchOf_48 (by decide) ?_
        refine ev_pick (L' := [(3, vI (i + 1)), (0, .ref (A 0 0)), (1, .ref (A 20 a)), (2, vI (n))]) [0, 2, 3, 4] rfl ?_
        exact ihi (i + 1) (by omega) (by omega) (by omega) (by rw [hs, scanI_s _ (by omega), if_neg (by simp only [WaB, decide_eq_true_eq]; omega)])
      · refine ev_aload 0 rfl dX9_watchOf_42 ?_
        refine ev_areturn (by first | exact Or.inl ⟨_, rfl⟩ | exact Or.inr ⟨_, rfl⟩) (by first | exact Or.inl rfl | exact Or.inr ⟨_, rfl⟩) dX9_watchOf_44 ?_
        have hw : watchZ S a n = i := by rw [hs, scanI_s _ (by omega), if_pos (by simp only [WaB, decide_eq_true_eq]; omega)]
        rw [hw]
        exact ⟨rfl, Or.inl ⟨rfl, by omega⟩⟩

set_option maxHeartbeats 4000000 in
set_option maxRecDepth 100000 in
theorem k_saw {E : EV} {h : AH} {A : AD} {S : MS} {a n : Int} (hC : CR E A S h) (hI : Inv S) (ga : 0 ≤ a ∧ a < S 2 0) (g2 : InR n) : CM E yX9_saw cX9_saw 5 (some .boolean) 0 0 0 [.ref (A 0 0), .ref (A 20 a), vI (n)] h (qB (SeenP S a n) h) := by
  have hR := hC.2.2
  have hJ := hI
  obtain ⟨i1, i2, i3, i4, i5, i6, iSt, iSi, iWa, iSh, iLa, iS0, iS1, iZe⟩ := hJ
  refine CM.of (by decide) (Nat.le_of_ble_eq_true rfl) (L := [(0, .ref (A 0 0)), (1, .ref (A 20 a)), (2, vI (n))]) rfl ?_
  refine ev_iconst dX9_saw_0 ?_
  refine ev_istore_n (L' := [(3, vI (0)), (0, .ref (A 0 0)), (1, .ref (A 20 a)), (2, vI (n))]) dX9_saw_1 (by decide) rfl ?_
  refine up_ind (P := fun i : Int => 0 ≤ i → (∀ k : Int, 0 ≤ k → k < i → ¬ (S 10 k = n ∧ (a < 0 ∨ S 9 k = a))) → Ev E RX9 cX9_saw 5 (some .boolean) "saw" (qB (SeenP S a n) h) 0 0 0 2 [(3, vI (i)), (0, .ref (A 0 0)), (1, .ref (A 20 a)), (2, vI (n))] [] h) (N := S 7 0) ?_ 0 (by omega)  (by omega) (fun k h1 h2 => absurd h1 (by omega))
  intro i ihi hiN pi hs
  refine ev_iload_n 0 rfl dX9_saw_2 ?_
  refine ev_aload_n 1 rfl dX9_saw_3 ?_
  refine cg_X9_91 hC dX9_saw_4 ?_
  refine ev_icmp_ge (tgt := 50) dX9_saw_7 (by first | assumption | exact hR _ _ | decide | (simp only [InR]; omega)) (by first | assumption | exact hR _ _ | decide | (simp only [InR]; omega)) (by decide) (fun c7 => ?_) (fun c7 => ?_)
  · refine ev_iconst dX9_saw_50 ?_
    refine ev_zreturn (by decide) dX9_saw_51 ?_
    exact ⟨rfl, Or.inr ⟨rfl, fun ⟨k, k1, k2, k3, k4⟩ => hs k k1 (by omega) ⟨k3, k4⟩⟩⟩
  · have s9 := iSi i (by omega) (by omega)
    refine ev_aload_n 1 rfl dX9_saw_10 ?_
    refine cg_X9_17 hC dX9_saw_11 ?_
    refine ev_iload_n 0 rfl dX9_saw_14 ?_
    refine c_aa2 hC dX9_saw_15 (by omega) (by omega) (by omega) ?_
    refine ev_astore (L' := [(4, .ref (A 21 i)), (3, vI (i)), (0, .ref (A 0 0)), (1, .ref (A 20 a)), (2, vI (n))]) dX9_saw_16 (by decide) rfl ?_
    refine ev_aload 0 rfl dX9_saw_18 ?_
    refine cgR_X9_123 (i := i) (v := S 9 i) hC hI (by unfold SG; omega) rfl dX9_saw_20 ?_
    refine cg_X9_127 hC (by omega) dX9_saw_23 ?_
    refine ev_aload_n 3 rfl dX9_saw_26 ?_
    refine cg_X9_127 hC (by omega) dX9_saw_27 ?_
    refine ev_icmp_ne (tgt := 44) dX9_saw_30 (by first | assumption | exact hR _ _ | decide | (simp only [InR]; omega)) (by first | assumption | exact hR _ _ | decide | (simp only [InR]; omega)) (by decide) (fun c30 => ?_) (fun c30 => ?_)
    · refine ev_iinc (L' := [(3, vI (i + 1)), (4, .ref (A 21 i)), (0, .ref (A 0 0)), (1, .ref (A 20 a)), (2, vI (n))]) 1 rfl dX9_saw_44 (by decide) rfl ?_
      refine ev_goto (tgt := 2) dX9_saw_47 (by decide) ?_
      refine ev_pick (L' := [(3, vI (i + 1)), (0, .ref (A 0 0)), (1, .ref (A 20 a)), (2, vI (n))]) [0, 2, 3, 4] rfl ?_
      exact ihi (i + 1) (by omega) (by omega) (by omega) (fun k h1 h2 => (Int.lt_or_eq_of_le (show k ≤ i by omega)).elim (fun q => hs k h1 q) (fun q => by subst q; omega))
    · refine ev_aload 0 rfl dX9_saw_33 ?_
      refine cg_X9_130 hC hI (by unfold SG; omega) dX9_saw_35 ?_
      refine ev_iload_n 4 rfl dX9_saw_38 ?_
      refine ev_icmp_ne (tgt := 44) dX9_saw_39 (by first | assumption | exact hR _ _ | decide | (simp only [InR]; omega)) (by first | assumption | exact hR _ _ | decide | (simp only [InR]; omega)) (by decide) (fun c39 => ?_) (fun c39 => ?_)
      · refine ev_iinc (L' := [(3, vI (i + 1)), (4, .ref (A 21 i)), (0, .ref (A 0 0)), (1, .ref (A 20 a)), (2, vI (n))]) 1 rfl dX9_saw_44 (by decide) rfl ?_
        refine ev_goto (tgt := 2) dX9_saw_47 (by decide) ?_
        refine ev_pick (L' := [(3, vI (i + 1)), (0, .ref (A 0 0)), (1, .ref (A 20 a)), (2, vI (n))]) [0, 2, 3, 4] rfl ?_
        exact ihi (i + 1) (by omega) (by omega) (by omega) (fun k h1 h2 => (Int.lt_or_eq_of_le (show k ≤ i by omega)).elim (fun q => hs k h1 q) (fun q => by subst q; omega))
      · refine ev_iconst dX9_saw_42 ?_
        refine ev_zreturn (by decide) dX9_saw_43 ?_
        exact ⟨rfl, Or.inl ⟨rfl, i, by omega, by omega, by omega, by omega⟩⟩

set_option maxHeartbeats 4000000 in
set_option maxRecDepth 100000 in
theorem k_isSeenNight {E : EV} {h : AH} {A : AD} {S : MS} {n : Int} (hC : CR E A S h) (hI : Inv S) (hN : 0 ≤ S 70 0 ∧ S 70 0 ≤ 40) (g2 : InR n) : CM E yX9_isSeenNight cX9_isSeenNight 3 (some .boolean) 0 0 0 [.ref (A 0 0), vI (n)] h (qB (∃ j, (0 ≤ j ∧ j < S 70 0) ∧ S 69 j = n) h) := by
  have hR := hC.2.2
  have hJ := hI
  obtain ⟨i1, i2, i3, i4, i5, i6, iSt, iSi, iWa, iSh, iLa, iS0, iS1, iZe⟩ := hJ
  refine CM.of (by decide) (Nat.le_of_ble_eq_true rfl) (L := [(0, .ref (A 0 0)), (1, vI (n))]) rfl ?_
  refine ev_iconst dX9_isSeenNight_0 ?_
  refine ev_istore_n (L' := [(2, vI (0)), (0, .ref (A 0 0)), (1, vI (n))]) dX9_isSeenNight_1 (by decide) rfl ?_
  refine up_ind (P := fun i : Int => 0 ≤ i → (∀ k : Int, 0 ≤ k → k < i → ¬ S 69 k = n) → Ev E RX9 cX9_isSeenNight 3 (some .boolean) "isSeenNight" (qB (∃ j, (0 ≤ j ∧ j < S 70 0) ∧ S 69 j = n) h) 0 0 0 2 [(2, vI (i)), (0, .ref (A 0 0)), (1, vI (n))] [] h) (N := S 70 0) ?_ 0 (by omega)  (by omega) (fun k h1 h2 => absurd h1 (by omega))
  intro i ihi hiN pi hs
  refine ev_iload_n 0 rfl dX9_isSeenNight_2 ?_
  refine ev_aload_n 1 rfl dX9_isSeenNight_3 ?_
  refine cg_X9_240 hC dX9_isSeenNight_4 ?_
  refine ev_icmp_ge (tgt := 28) dX9_isSeenNight_7 (by first | assumption | exact hR _ _ | decide | (simp only [InR]; omega)) (by first | assumption | exact hR _ _ | decide | (simp only [InR]; omega)) (by decide) (fun c7 => ?_) (fun c7 => ?_)
  · refine ev_iconst dX9_isSeenNight_28 ?_
    refine ev_zreturn (by decide) dX9_isSeenNight_29 ?_
    exact ⟨rfl, Or.inr ⟨rfl, fun ⟨k, k1, k2⟩ => hs k k1.1 (by omega) k2⟩⟩
  · refine ev_aload_n 1 rfl dX9_isSeenNight_10 ?_
    refine cg_X9_34 hC dX9_isSeenNight_11 ?_
    refine ev_iload_n 0 rfl dX9_isSeenNight_14 ?_
    refine c_ld (k := 6) (s := 69) hC (by decide) rfl dX9_isSeenNight_15 (by omega) (by show _ < ((40 : Nat) : Int); omega) ?_
    refine ev_iload_n 2 rfl dX9_isSeenNight_16 ?_
    refine ev_icmp_ne (tgt := 22) dX9_isSeenNight_17 (by first | assumption | exact hR _ _ | decide | (simp only [InR]; omega)) (by first | assumption | exact hR _ _ | decide | (simp only [InR]; omega)) (by decide) (fun c17 => ?_) (fun c17 => ?_)
    · refine ev_iinc (L' := [(2, vI (i + 1)), (0, .ref (A 0 0)), (1, vI (n))]) 0 rfl dX9_isSeenNight_22 (by decide) rfl ?_
      refine ev_goto (tgt := 2) dX9_isSeenNight_25 (by decide) ?_
      exact ihi (i + 1) (by omega) (by omega) (by omega) (fun k h1 h2 => (Int.lt_or_eq_of_le (show k ≤ i by omega)).elim (fun q => hs k h1 q) (fun q => by subst q; omega))
    · refine ev_iconst dX9_isSeenNight_20 ?_
      refine ev_zreturn (by decide) dX9_isSeenNight_21 ?_
      exact ⟨rfl, Or.inl ⟨rfl, i, by omega, by omega⟩⟩

set_option maxHeartbeats 4000000 in
set_option maxRecDepth 100000 in
theorem k_seen {E : EV} {h : AH} {A : AD} {S : MS} {a n : Int} (hC : CR E A S h) (hI : Inv S) (g1 : InR a) (g2 : InR n) : CM E yX9_seen cX9_seen 5 (some .int) 2 0 0 [.ref (A 0 0), vI (a), vI (n)] h (qI (fun z h' => z = sp_seen S a n ∧ CR E A (S) h')) := by
  have hR := hC.2.2
  have hJ := hI
  obtain ⟨i1, i2, i3, i4, i5, i6, iSt, iSi, iWa, iSh, iLa, iS0, iS1, iZe⟩ := hJ
  have wz := scanI_b (WaB S a n) 0 i3.1
  change watchZ S a n = -1 ∨ (0 ≤ watchZ S a n ∧ watchZ S a n < S 34 0 ∧ _) at wz
  refine CM.of (by decide) (Nat.le_of_ble_eq_true rfl) (L := [(0, .ref (A 0 0)), (1, vI (a)), (2, vI (n))]) rfl ?_
  refine ev_aload_n 0 rfl dX9_seen_0 ?_
  refine ev_iload_n 1 rfl dX9_seen_1 ?_
  refine c_X9_77 (k_stationAt (a := a) hC hI (by first | assumption | exact hR _ _ | decide | (simp only [InR]; omega))) hC.k0 rfl rfl (Nat.le_of_ble_eq_true rfl) (by decide) dX9_seen_2 (kN (fun b2 => ?_) (fun b2 => ?_))
  · refine ev_astore_n (L' := [(3, .ref (A 20 a)), (0, .ref (A 0 0)), (1, vI (a)), (2, vI (n))]) dX9_seen_5 (by decide) rfl ?_
    refine ev_aload_n 0 rfl dX9_seen_6 ?_
    refine ev_ifnull dX9_seen_7 ?_
    refine ev_iload_n 3 rfl dX9_seen_10 ?_
    refine c_X9_178 (k_isNight E (n := n) (by first | assumption | exact hR _ _ | decide | (simp only [InR]; omega))) rfl rfl (Nat.le_of_ble_eq_true rfl) (by decide) dX9_seen_11 (kB (fun b11 => ?_) (fun b11 => ?_))
    · refine ev_if_ne (tgt := 19) dX9_seen_14 (by decide) (by decide) (fun _ => ?_) (fun c => absurd c (by decide))
      refine ev_aload_n 1 rfl dX9_seen_19 ?_
      refine ev_aload_n 0 rfl dX9_seen_20 ?_
      refine ev_iload_n 3 rfl dX9_seen_21 ?_
      refine c_X9_225 (k_saw (a := a) (n := n) hC hI (by omega) (by first | assumption | exact hR _ _ | decide | (simp only [InR]; omega))) hC.k0 rfl rfl (Nat.le_of_ble_eq_true rfl) (by decide) dX9_seen_22 (kB (fun b22 => ?_) (fun b22 => ?_))
      · refine ev_if_eq (tgt := 30) dX9_seen_25 (by decide) (by decide) (fun c => absurd c (by decide)) (fun _ => ?_)
        refine ev_iconst dX9_seen_28 ?_
        refine ev_ireturn dX9_seen_29 ?_
        refine ⟨_, rfl, ?_, hC⟩
        simp only [sp_seen]; first | (rw [if_pos (by omega)]; done) | (rw [if_neg (by omega)]; first | (rw [iteP_pos (by assumption)]; done) | (rw [iteP_neg (by assumption)]; (repeat' split) <;> first | rfl | omega))
      · refine ev_if_eq (tgt := 30) dX9_seen_25 (by decide) (by decide) (fun _ => ?_) (fun c => absurd c (by decide))
        refine ev_aload_n 1 rfl dX9_seen_30 ?_
        refine ev_aload_n 0 rfl dX9_seen_31 ?_
        refine ev_iload_n 3 rfl dX9_seen_32 ?_
        refine c_X9_215 (k_watchOf (a := a) (n := n) hC hI (by omega) (by first | assumption | exact hR _ _ | decide | (simp only [InR]; omega))) hC.k0 rfl rfl (Nat.le_of_ble_eq_true rfl) (by decide) dX9_seen_33 (kN (fun b33 => ?_) (fun b33 => ?_))
        · refine ev_astore (L' := [(4, .ref (A 22 (watchZ S a n))), (3, .ref (A 20 a)), (0, .ref (A 0 0)), (1, vI (a)), (2, vI (n))]) dX9_seen_36 (by decide) rfl ?_
          refine ev_aload 0 rfl dX9_seen_38 ?_
          refine ev_ifnonnull (tgt := 46) dX9_seen_40 (by decide) ?_
          refine ev_aload 0 rfl dX9_seen_46 ?_
          refine cg_X9_229 hC (by omega) dX9_seen_48 ?_
          refine ev_if_le (tgt := 58) dX9_seen_51 (by first | assumption | exact hR _ _ | decide | (simp only [InR]; omega)) (by decide) (fun c51 => ?_) (fun c51 => ?_)
          · refine ev_bipush dX9_seen_58 (by decide) ?_
            refine ev_ireturn dX9_seen_60 ?_
            refine ⟨_, rfl, ?_, hC⟩
            simp only [sp_seen]; first | (rw [if_pos (by omega)]; done) | (rw [if_neg (by omega)]; first | (rw [iteP_pos (by assumption)]; done) | (rw [iteP_neg (by assumption)]; (repeat' split) <;> first | rfl | omega))
          · refine ev_iconst dX9_seen_54 ?_
            refine ev_goto (tgt := 60) dX9_seen_55 (by decide) ?_
            refine ev_ireturn dX9_seen_60 ?_
            refine ⟨_, rfl, ?_, hC⟩
            simp only [sp_seen]; first | (rw [if_pos (by omega)]; done) | (rw [if_neg (by omega)]; first | (rw [iteP_pos (by assumption)]; done) | (rw [iteP_neg (by assumption)]; (repeat' split) <;> first | rfl | omega))
        · refine ev_astoreN (L' := [(4, .null), (3, .ref (A 20 a)), (0, .ref (A 0 0)), (1, vI (a)), (2, vI (n))]) dX9_seen_36 (by decide) rfl ?_
          refine ev_aloadN 0 rfl dX9_seen_38 ?_
          refine ev_ifnonnullN dX9_seen_40 ?_
          refine ev_bipush dX9_seen_43 (by decide) ?_
          refine ev_ireturn dX9_seen_45 ?_
          refine ⟨_, rfl, ?_, hC⟩
          simp only [sp_seen]; first | (rw [if_pos (by omega)]; done) | (rw [if_neg (by omega)]; first | (rw [iteP_pos (by assumption)]; done) | (rw [iteP_neg (by assumption)]; (repeat' split) <;> first | rfl | omega))
    · refine ev_if_ne (tgt := 19) dX9_seen_14 (by decide) (by decide) (fun c => absurd c (by decide)) (fun _ => ?_)
      refine ev_iconst dX9_seen_17 ?_
      refine ev_ireturn dX9_seen_18 ?_
      refine ⟨_, rfl, ?_, hC⟩
      simp only [sp_seen]; first | (rw [if_pos (by omega)]; done) | (rw [if_neg (by omega)]; first | (rw [iteP_pos (by assumption)]; done) | (rw [iteP_neg (by assumption)]; (repeat' split) <;> first | rfl | omega))
  · refine ev_astore_nN (L' := [(3, .null), (0, .ref (A 0 0)), (1, vI (a)), (2, vI (n))]) dX9_seen_5 (by decide) rfl ?_
    refine ev_aload_nN 0 rfl dX9_seen_6 ?_
    refine ev_ifnullN (tgt := 17) dX9_seen_7 (by decide) ?_
    refine ev_iconst dX9_seen_17 ?_
    refine ev_ireturn dX9_seen_18 ?_
    refine ⟨_, rfl, ?_, hC⟩
    simp only [sp_seen]; first | (rw [if_pos (by omega)]; done) | (rw [if_neg (by omega)]; first | (rw [iteP_pos (by assumption)]; done) | (rw [iteP_neg (by assumption)]; (repeat' split) <;> first | rfl | omega))

set_option maxHeartbeats 4000000 in
set_option maxRecDepth 100000 in
theorem k_rate {E : EV} {h : AH} {A : AD} {S : MS} {a f t w : Int} (hC : CR E A S h) (hI : Inv S) (g1 : InR a) (g2 : InR f) (g3 : InR t) (g4 : InR w) : CM E yX9_rate cX9_rate 11 (some .int) 2 0 0 [.ref (A 0 0), vI (a), vI (f), vI (t), vI (w)] h (qI (fun z h' => z = sp_rate S a f t w ∧ CR E A (S) h')) := by
  have hR := hC.2.2
  have hJ := hI
  obtain ⟨i1, i2, i3, i4, i5, i6, iSt, iSi, iWa, iSh, iLa, iS0, iS1, iZe⟩ := hJ
  refine CM.of (by decide) (Nat.le_of_ble_eq_true rfl) (L := [(0, .ref (A 0 0)), (1, vI (a)), (2, vI (f)), (3, vI (t)), (4, vI (w))]) rfl ?_
  refine ev_iload_n 1 rfl dX9_rate_0 ?_
  refine ev_iconst dX9_rate_1 ?_
  refine ev_icmp_eq (tgt := 15) dX9_rate_2 (by first | assumption | exact hR _ _ | decide | (simp only [InR]; omega)) (by decide) (by decide) (fun c2 => ?_) (fun c2 => ?_)
  · refine ev_iload_n 2 rfl dX9_rate_15 ?_
    refine c_X9_178 (k_isNight E (n := f) (by first | assumption | exact hR _ _ | decide | (simp only [InR]; omega))) rfl rfl (Nat.le_of_ble_eq_true rfl) (by decide) dX9_rate_16 (kB (fun b16 => ?_) (fun b16 => ?_))
    · refine ev_if_eq (tgt := 44) dX9_rate_19 (by decide) (by decide) (fun c => absurd c (by decide)) (fun _ => ?_)
      refine ev_iload_n 3 rfl dX9_rate_22 ?_
      refine c_X9_178 (k_isNight E (n := t) (by first | assumption | exact hR _ _ | decide | (simp only [InR]; omega))) rfl rfl (Nat.le_of_ble_eq_true rfl) (by decide) dX9_rate_23 (kB (fun b23 => ?_) (fun b23 => ?_))
      · refine ev_if_eq (tgt := 44) dX9_rate_26 (by decide) (by decide) (fun c => absurd c (by decide)) (fun _ => ?_)
        refine ev_iload_n 2 rfl dX9_rate_29 ?_
        refine ev_iload_n 3 rfl dX9_rate_30 ?_
        refine ev_icmp_gt (tgt := 44) dX9_rate_31 (by first | assumption | exact hR _ _ | decide | (simp only [InR]; omega)) (by first | assumption | exact hR _ _ | decide | (simp only [InR]; omega)) (by decide) (fun c31 => ?_) (fun c31 => ?_)
        · refine ev_iconst dX9_rate_44 ?_
          refine ev_ireturn dX9_rate_45 ?_
          refine ⟨_, rfl, ?_, hC⟩
          simp only [sp_rate]; rw [if_pos (by omega)]
        · refine ev_iload 4 rfl dX9_rate_34 ?_
          refine ev_iconst dX9_rate_36 ?_
          refine ev_iconst dX9_rate_37 ?_
          refine c_X9_67 (k_isWithin E (v := w) (a := 0) (b := 3) (by first | assumption | exact hR _ _ | decide | (simp only [InR]; omega)) (by decide) (by decide)) rfl rfl (Nat.le_of_ble_eq_true rfl) (by decide) dX9_rate_38 (kB (fun b38 => ?_) (fun b38 => ?_))
          · refine ev_if_ne (tgt := 46) dX9_rate_41 (by decide) (by decide) (fun _ => ?_) (fun c => absurd c (by decide))
            refine ev_iconst dX9_rate_46 ?_
            refine ev_istore (L' := [(5, vI (0)), (0, .ref (A 0 0)), (1, vI (a)), (2, vI (f)), (3, vI (t)), (4, vI (w))]) dX9_rate_47 (by decide) rfl ?_
            refine ev_iconst dX9_rate_49 ?_
            refine ev_istore (L' := [(6, vI (0)), (5, vI (0)), (0, .ref (A 0 0)), (1, vI (a)), (2, vI (f)), (3, vI (t)), (4, vI (w))]) dX9_rate_50 (by decide) rfl ?_
            refine ev_iconst dX9_rate_52 ?_
            refine ev_istore (L' := [(7, vI (0)), (6, vI (0)), (5, vI (0)), (0, .ref (A 0 0)), (1, vI (a)), (2, vI (f)), (3, vI (t)), (4, vI (w))]) dX9_rate_53 (by decide) rfl ?_
            refine ev_iconst dX9_rate_55 ?_
            refine ev_istore (L' := [(8, vI (0)), (7, vI (0)), (6, vI (0)), (5, vI (0)), (0, .ref (A 0 0)), (1, vI (a)), (2, vI (f)), (3, vI (t)), (4, vI (w))]) dX9_rate_56 (by decide) rfl ?_
            refine up_ind (P := fun i : Int => ∀ (xm : Int) (xs : Int) (xh : Int), 0 ≤ i → xm = sumI (raM S a f t) i → xs = sumI (raS S a f t) i → xh = sumI (raH S a f t) i → ((0 ≤ xm ∧ xm ≤ i) ∧ (0 ≤ xs ∧ xs ≤ i) ∧ 0 ≤ xh ∧ xh ≤ 24 * i) → Ev E RX9 cX9_rate 11 (some .int) "rate" (qI (fun z h' => z = sp_rate S a f t w ∧ CR E A (S) h')) 2 0 0 58 [(8, vI (i)), (7, vI (xs)), (6, vI (xh)), (5, vI (xm)), (0, .ref (A 0 0)), (1, vI (a)), (2, vI (f)), (3, vI (t)), (4, vI (w))] [] h) (N := S 34 0) ?_ 0 (by omega) 0 0 0 (by omega) (rfl) (rfl) (rfl) (by omega)
            intro i ihi hiN xm xs xh pi hxm hxs hxh hxb
            refine ev_iload 0 rfl dX9_rate_58 ?_
            refine ev_aload_n 4 rfl dX9_rate_60 ?_
            refine cg_X9_219 hC dX9_rate_61 ?_
            refine ev_icmp_ge (tgt := 172) dX9_rate_64 (by first | assumption | exact hR _ _ | decide | (simp only [InR]; omega)) (by first | assumption | exact hR _ _ | decide | (simp only [InR]; omega)) (by decide) (fun c64 => ?_) (fun c64 => ?_)
            · refine ev_iload 8 rfl dX9_rate_172 ?_
              rcases (show (w < 0 ∨ 2 < w) ∨ w = 0 ∨ w = 1 ∨ w = 2 by omega) with q | q | q | q
              · refine ev_tableOut (tgt := 209) dX9_rate_174 (by first | assumption | exact hR _ _ | decide | (simp only [InR]; omega)) q (by decide) ?_
                refine ev_iload 2 rfl dX9_rate_209 ?_
                refine ev_if_ne (tgt := 218) dX9_rate_211 (by first | assumption | exact hR _ _ | decide | (simp only [InR]; omega)) (by decide) (fun c211 => ?_) (fun c211 => ?_)
                · refine ev_sipush dX9_rate_218 (by decide) ?_
                  refine ev_iload 1 rfl dX9_rate_221 ?_
                  refine ev_imul dX9_rate_223 ?_
                  refine ev_iload 2 rfl dX9_rate_224 ?_
                  have td := tdiv_b (a := 1000 * xs) (b := xh) (A := 60000) (by omega)
                  refine ev_idiv dX9_rate_226 (by first | assumption | exact hR _ _ | decide | (simp only [InR]; omega)) (by first | assumption | exact hR _ _ | decide | (simp only [InR]; omega)) (by omega) (by first | assumption | exact hR _ _ | decide | (simp only [InR]; omega)) ?_
                  refine ev_ireturn dX9_rate_227 ?_
                  refine ⟨_, rfl, ?_, hC⟩
                  have e0 : i = S 34 0 := by omega
                  rw [e0] at hxm hxs hxh
                  simp only [sp_rate]; rw [if_neg (by omega), ← hxm, ← hxs, ← hxh]; first | rfl | ((repeat' split) <;> first | rfl | omega)
                · refine ev_iconst dX9_rate_214 ?_
                  refine ev_goto (tgt := 227) dX9_rate_215 (by decide) ?_
                  refine ev_ireturn dX9_rate_227 ?_
                  refine ⟨_, rfl, ?_, hC⟩
                  have e0 : i = S 34 0 := by omega
                  rw [e0] at hxm hxs hxh
                  simp only [sp_rate]; rw [if_neg (by omega), ← hxm, ← hxs, ← hxh]; first | rfl | ((repeat' split) <;> first | rfl | omega)
              · subst q
                refine ev_tableIn (tgt := 200) (off := 26) dX9_rate_174 (by decide) (by decide) (by decide) (by decide) (by decide) ?_
                refine ev_iload 3 rfl dX9_rate_200 ?_
                refine ev_ireturn dX9_rate_202 ?_
                refine ⟨_, rfl, ?_, hC⟩
                have e0 : i = S 34 0 := by omega
                rw [e0] at hxm hxs hxh
                simp only [sp_rate]; rw [if_neg (by omega), ← hxm, ← hxs, ← hxh]; first | rfl | ((repeat' split) <;> first | rfl | omega)
              · subst q
                refine ev_tableIn (tgt := 203) (off := 29) dX9_rate_174 (by decide) (by decide) (by decide) (by decide) (by decide) ?_
                refine ev_iload 1 rfl dX9_rate_203 ?_
                refine ev_ireturn dX9_rate_205 ?_
                refine ⟨_, rfl, ?_, hC⟩
                have e0 : i = S 34 0 := by omega
                rw [e0] at hxm hxs hxh
                simp only [sp_rate]; rw [if_neg (by omega), ← hxm, ← hxs, ← hxh]; first | rfl | ((repeat' split) <;> first | rfl | omega)
              · subst q
                refine ev_tableIn (tgt := 206) (off := 32) dX9_rate_174 (by decide) (by decide) (by decide) (by decide) (by decide) ?_
                refine ev_iload 2 rfl dX9_rate_206 ?_
                refine ev_ireturn dX9_rate_208 ?_
                refine ⟨_, rfl, ?_, hC⟩
                have e0 : i = S 34 0 := by omega
                rw [e0] at hxm hxs hxh
                simp only [sp_rate]; rw [if_neg (by omega), ← hxm, ← hxs, ← hxh]; first | rfl | ((repeat' split) <;> first | rfl | omega)
            · have w1 := iWa i (by omega) (by omega)
              refine ev_aload_n 4 rfl dX9_rate_67 ?_
              refine cg_X9_23 hC dX9_rate_68 ?_
              refine ev_iload 0 rfl dX9_rate_71 ?_
              refine c_aa3 hC dX9_rate_73 (by omega) (by omega) (by omega) ?_
              refine ev_astore (L' := [(9, .ref (A 22 i)), (8, vI (i)), (7, vI (xs)), (6, vI (xh)), (5, vI (xm)), (0, .ref (A 0 0)), (1, vI (a)), (2, vI (f)), (3, vI (t)), (4, vI (w))]) dX9_rate_74 (by decide) rfl ?_
              refine ev_iload_n 6 rfl dX9_rate_76 ?_
              refine ev_iconst dX9_rate_77 ?_
              refine ev_icmp_eq (tgt := 93) dX9_rate_78 (by first | assumption | exact hR _ _ | decide | (simp only [InR]; omega)) (by decide) (by decide) (fun c78 => ?_) (fun c78 => ?_)
              · refine ev_aload 0 rfl dX9_rate_93 ?_
                refine cg_X9_233 hC (by omega) dX9_rate_95 ?_
                refine ev_iload_n 7 rfl dX9_rate_98 ?_
                refine ev_iload_n 8 rfl dX9_rate_99 ?_
                refine c_X9_67 (k_isWithin E (v := S 36 i) (a := f) (b := t) (by first | assumption | exact hR _ _ | decide | (simp only [InR]; omega)) (by first | assumption | exact hR _ _ | decide | (simp only [InR]; omega)) (by first | assumption | exact hR _ _ | decide | (simp only [InR]; omega))) rfl rfl (Nat.le_of_ble_eq_true rfl) (by decide) dX9_rate_100 (kB (fun b100 => ?_) (fun b100 => ?_))
                · refine ev_if_eq (tgt := 110) dX9_rate_103 (by decide) (by decide) (fun c => absurd c (by decide)) (fun _ => ?_)
                  refine ev_iconst dX9_rate_106 ?_
                  refine ev_goto (tgt := 111) dX9_rate_107 (by decide) ?_
                  refine ev_istore (L' := [(10, vI (1)), (9, .ref (A 22 i)), (8, vI (i)), (7, vI (xs)), (6, vI (xh)), (5, vI (xm)), (0, .ref (A 0 0)), (1, vI (a)), (2, vI (f)), (3, vI (t)), (4, vI (w))]) dX9_rate_111 (by decide) rfl ?_
                  refine ev_iload 0 rfl dX9_rate_113 ?_
                  refine ev_if_eq (tgt := 166) dX9_rate_115 (by decide) (by decide) (fun c => absurd c (by decide)) (fun _ => ?_)
                  refine ev_aload 1 rfl dX9_rate_118 ?_
                  refine cg_X9_234 hC (by omega) dX9_rate_120 ?_
                  refine ev_if_le (tgt := 166) dX9_rate_123 (by first | assumption | exact hR _ _ | decide | (simp only [InR]; omega)) (by decide) (fun c123 => ?_) (fun c123 => ?_)
                  · refine ev_iinc (L' := [(8, vI (i + 1)), (10, vI (1)), (9, .ref (A 22 i)), (7, vI (xs)), (6, vI (xh)), (5, vI (xm)), (0, .ref (A 0 0)), (1, vI (a)), (2, vI (f)), (3, vI (t)), (4, vI (w))]) 2 rfl dX9_rate_166 (by decide) rfl ?_
                    refine ev_goto (tgt := 58) dX9_rate_169 (by decide) ?_
                    refine ev_pick (L' := [(8, vI (i + 1)), (7, vI (xs)), (6, vI (xh)), (5, vI (xm)), (0, .ref (A 0 0)), (1, vI (a)), (2, vI (f)), (3, vI (t)), (4, vI (w))]) [0, 3, 4, 5, 6, 7, 8, 9, 10] rfl ?_
                    exact ihi (i + 1) (by omega) (by omega) xm xs xh (by omega) (by rw [sumI_s _ (by omega), ← hxm]; simp only [raM]; first | (rw [if_neg (by omega)]; omega) | (rw [if_pos (by omega)])) (by rw [sumI_s _ (by omega), ← hxs]; simp only [raS]; first | (rw [if_neg (by omega)]; omega) | (rw [if_pos (by omega), iteP_pos (by assumption)]) | (rw [if_pos (by omega), iteP_neg (by assumption)])) (by rw [sumI_s _ (by omega), ← hxh]; simp only [raH]; first | (rw [if_neg (by omega)]; omega) | (rw [if_pos (by omega)])) (by omega)
                  · refine ev_iinc (L' := [(5, vI (xm + 1)), (10, vI (1)), (9, .ref (A 22 i)), (8, vI (i)), (7, vI (xs)), (6, vI (xh)), (0, .ref (A 0 0)), (1, vI (a)), (2, vI (f)), (3, vI (t)), (4, vI (w))]) 5 rfl dX9_rate_126 (by decide) rfl ?_
                    refine ev_iload 5 rfl dX9_rate_129 ?_
                    refine ev_aload 2 rfl dX9_rate_131 ?_
                    refine cg_X9_234 hC (by omega) dX9_rate_133 ?_
                    refine ev_iadd dX9_rate_136 ?_
                    refine ev_istore (L' := [(6, vI (xh + (S 37 i))), (5, vI (xm + 1)), (10, vI (1)), (9, .ref (A 22 i)), (8, vI (i)), (7, vI (xs)), (0, .ref (A 0 0)), (1, vI (a)), (2, vI (f)), (3, vI (t)), (4, vI (w))]) dX9_rate_137 (by decide) rfl ?_
                    refine ev_iload 5 rfl dX9_rate_139 ?_
                    refine ev_aload_n 6 rfl dX9_rate_141 ?_
                    refine ev_aload 3 rfl dX9_rate_142 ?_
                    refine cgR_X9_232 (i := i) (v := S 35 i) hC (by omega) rfl dX9_rate_144 ?_
                    refine ev_aload 3 rfl dX9_rate_147 ?_
                    refine cg_X9_233 hC (by omega) dX9_rate_149 ?_
                    refine c_X9_225 (k_saw (a := S 35 i) (n := S 36 i) hC hI (by omega) (by first | assumption | exact hR _ _ | decide | (simp only [InR]; omega))) hC.k0 rfl rfl (Nat.le_of_ble_eq_true rfl) (by decide) dX9_rate_152 (kB (fun b152 => ?_) (fun b152 => ?_))
                    · refine ev_if_eq (tgt := 162) dX9_rate_155 (by decide) (by decide) (fun c => absurd c (by decide)) (fun _ => ?_)
                      refine ev_iconst dX9_rate_158 ?_
                      refine ev_goto (tgt := 163) dX9_rate_159 (by decide) ?_
                      refine ev_iadd dX9_rate_163 ?_
                      refine ev_istore (L' := [(7, vI (xs + 1)), (6, vI (xh + (S 37 i))), (5, vI (xm + 1)), (10, vI (1)), (9, .ref (A 22 i)), (8, vI (i)), (0, .ref (A 0 0)), (1, vI (a)), (2, vI (f)), (3, vI (t)), (4, vI (w))]) dX9_rate_164 (by decide) rfl ?_
                      refine ev_iinc (L' := [(8, vI (i + 1)), (7, vI (xs + 1)), (6, vI (xh + (S 37 i))), (5, vI (xm + 1)), (10, vI (1)), (9, .ref (A 22 i)), (0, .ref (A 0 0)), (1, vI (a)), (2, vI (f)), (3, vI (t)), (4, vI (w))]) 5 rfl dX9_rate_166 (by decide) rfl ?_
                      refine ev_goto (tgt := 58) dX9_rate_169 (by decide) ?_
                      refine ev_pick (L' := [(8, vI (i + 1)), (7, vI (xs + 1)), (6, vI (xh + (S 37 i))), (5, vI (xm + 1)), (0, .ref (A 0 0)), (1, vI (a)), (2, vI (f)), (3, vI (t)), (4, vI (w))]) [0, 1, 2, 3, 6, 7, 8, 9, 10] rfl ?_
                      exact ihi (i + 1) (by omega) (by omega) (xm + 1) (xs + 1) (xh + (S 37 i)) (by omega) (by rw [sumI_s _ (by omega), ← hxm]; simp only [raM]; first | (rw [if_neg (by omega)]; omega) | (rw [if_pos (by omega)])) (by rw [sumI_s _ (by omega), ← hxs]; simp only [raS]; first | (rw [if_neg (by omega)]; omega) | (rw [if_pos (by omega), iteP_pos (by assumption)]) | (rw [if_pos (by omega), iteP_neg (by assumption)])) (by rw [sumI_s _ (by omega), ← hxh]; simp only [raH]; first | (rw [if_neg (by omega)]; omega) | (rw [if_pos (by omega)])) (by omega)
                    · refine ev_if_eq (tgt := 162) dX9_rate_155 (by decide) (by decide) (fun _ => ?_) (fun c => absurd c (by decide))
                      refine ev_iconst dX9_rate_162 ?_
                      refine ev_iadd dX9_rate_163 ?_
                      refine ev_istore (L' := [(7, vI (xs + 0)), (6, vI (xh + (S 37 i))), (5, vI (xm + 1)), (10, vI (1)), (9, .ref (A 22 i)), (8, vI (i)), (0, .ref (A 0 0)), (1, vI (a)), (2, vI (f)), (3, vI (t)), (4, vI (w))]) dX9_rate_164 (by decide) rfl ?_
                      refine ev_iinc (L' := [(8, vI (i + 1)), (7, vI (xs + 0)), (6, vI (xh + (S 37 i))), (5, vI (xm + 1)), (10, vI (1)), (9, .ref (A 22 i)), (0, .ref (A 0 0)), (1, vI (a)), (2, vI (f)), (3, vI (t)), (4, vI (w))]) 5 rfl dX9_rate_166 (by decide) rfl ?_
                      refine ev_goto (tgt := 58) dX9_rate_169 (by decide) ?_
                      refine ev_pick (L' := [(8, vI (i + 1)), (7, vI (xs + 0)), (6, vI (xh + (S 37 i))), (5, vI (xm + 1)), (0, .ref (A 0 0)), (1, vI (a)), (2, vI (f)), (3, vI (t)), (4, vI (w))]) [0, 1, 2, 3, 6, 7, 8, 9, 10] rfl ?_
                      exact ihi (i + 1) (by omega) (by omega) (xm + 1) (xs + 0) (xh + (S 37 i)) (by omega) (by rw [sumI_s _ (by omega), ← hxm]; simp only [raM]; first | (rw [if_neg (by omega)]; omega) | (rw [if_pos (by omega)])) (by rw [sumI_s _ (by omega), ← hxs]; simp only [raS]; first | (rw [if_neg (by omega)]; omega) | (rw [if_pos (by omega), iteP_pos (by assumption)]) | (rw [if_pos (by omega), iteP_neg (by assumption)])) (by rw [sumI_s _ (by omega), ← hxh]; simp only [raH]; first | (rw [if_neg (by omega)]; omega) | (rw [if_pos (by omega)])) (by omega)
                · refine ev_if_eq (tgt := 110) dX9_rate_103 (by decide) (by decide) (fun _ => ?_) (fun c => absurd c (by decide))
                  refine ev_iconst dX9_rate_110 ?_
                  refine ev_istore (L' := [(10, vI (0)), (9, .ref (A 22 i)), (8, vI (i)), (7, vI (xs)), (6, vI (xh)), (5, vI (xm)), (0, .ref (A 0 0)), (1, vI (a)), (2, vI (f)), (3, vI (t)), (4, vI (w))]) dX9_rate_111 (by decide) rfl ?_
                  refine ev_iload 0 rfl dX9_rate_113 ?_
                  refine ev_if_eq (tgt := 166) dX9_rate_115 (by decide) (by decide) (fun _ => ?_) (fun c => absurd c (by decide))
                  refine ev_iinc (L' := [(8, vI (i + 1)), (10, vI (0)), (9, .ref (A 22 i)), (7, vI (xs)), (6, vI (xh)), (5, vI (xm)), (0, .ref (A 0 0)), (1, vI (a)), (2, vI (f)), (3, vI (t)), (4, vI (w))]) 2 rfl dX9_rate_166 (by decide) rfl ?_
                  refine ev_goto (tgt := 58) dX9_rate_169 (by decide) ?_
                  refine ev_pick (L' := [(8, vI (i + 1)), (7, vI (xs)), (6, vI (xh)), (5, vI (xm)), (0, .ref (A 0 0)), (1, vI (a)), (2, vI (f)), (3, vI (t)), (4, vI (w))]) [0, 3, 4, 5, 6, 7, 8, 9, 10] rfl ?_
                  exact ihi (i + 1) (by omega) (by omega) xm xs xh (by omega) (by rw [sumI_s _ (by omega), ← hxm]; simp only [raM]; first | (rw [if_neg (by omega)]; omega) | (rw [if_pos (by omega)])) (by rw [sumI_s _ (by omega), ← hxs]; simp only [raS]; first | (rw [if_neg (by omega)]; omega) | (rw [if_pos (by omega), iteP_pos (by assumption)]) | (rw [if_pos (by omega), iteP_neg (by assumption)])) (by rw [sumI_s _ (by omega), ← hxh]; simp only [raH]; first | (rw [if_neg (by omega)]; omega) | (rw [if_pos (by omega)])) (by omega)
              · refine ev_aload 0 rfl dX9_rate_81 ?_
                refine cgR_X9_232 (i := i) (v := S 35 i) hC (by omega) rfl dX9_rate_83 ?_
                refine cg_X9_127 hC (by omega) dX9_rate_86 ?_
                refine ev_iload_n 6 rfl dX9_rate_89 ?_
                refine ev_icmp_ne (tgt := 110) dX9_rate_90 (by first | assumption | exact hR _ _ | decide | (simp only [InR]; omega)) (by first | assumption | exact hR _ _ | decide | (simp only [InR]; omega)) (by decide) (fun c90 => ?_) (fun c90 => ?_)
                · refine ev_iconst dX9_rate_110 ?_
                  refine ev_istore (L' := [(10, vI (0)), (9, .ref (A 22 i)), (8, vI (i)), (7, vI (xs)), (6, vI (xh)), (5, vI (xm)), (0, .ref (A 0 0)), (1, vI (a)), (2, vI (f)), (3, vI (t)), (4, vI (w))]) dX9_rate_111 (by decide) rfl ?_
                  refine ev_iload 0 rfl dX9_rate_113 ?_
                  refine ev_if_eq (tgt := 166) dX9_rate_115 (by decide) (by decide) (fun _ => ?_) (fun c => absurd c (by decide))
                  refine ev_iinc (L' := [(8, vI (i + 1)), (10, vI (0)), (9, .ref (A 22 i)), (7, vI (xs)), (6, vI (xh)), (5, vI (xm)), (0, .ref (A 0 0)), (1, vI (a)), (2, vI (f)), (3, vI (t)), (4, vI (w))]) 2 rfl dX9_rate_166 (by decide) rfl ?_
                  refine ev_goto (tgt := 58) dX9_rate_169 (by decide) ?_
                  refine ev_pick (L' := [(8, vI (i + 1)), (7, vI (xs)), (6, vI (xh)), (5, vI (xm)), (0, .ref (A 0 0)), (1, vI (a)), (2, vI (f)), (3, vI (t)), (4, vI (w))]) [0, 3, 4, 5, 6, 7, 8, 9, 10] rfl ?_
                  exact ihi (i + 1) (by omega) (by omega) xm xs xh (by omega) (by rw [sumI_s _ (by omega), ← hxm]; simp only [raM]; first | (rw [if_neg (by omega)]; omega) | (rw [if_pos (by omega)])) (by rw [sumI_s _ (by omega), ← hxs]; simp only [raS]; first | (rw [if_neg (by omega)]; omega) | (rw [if_pos (by omega), iteP_pos (by assumption)]) | (rw [if_pos (by omega), iteP_neg (by assumption)])) (by rw [sumI_s _ (by omega), ← hxh]; simp only [raH]; first | (rw [if_neg (by omega)]; omega) | (rw [if_pos (by omega)])) (by omega)
                · refine ev_aload 0 rfl dX9_rate_93 ?_
                  refine cg_X9_233 hC (by omega) dX9_rate_95 ?_
                  refine ev_iload_n 7 rfl dX9_rate_98 ?_
                  refine ev_iload_n 8 rfl dX9_rate_99 ?_
                  refine c_X9_67 (k_isWithin E (v := S 36 i) (a := f) (b := t) (by first | assumption | exact hR _ _ | decide | (simp only [InR]; omega)) (by first | assumption | exact hR _ _ | decide | (simp only [InR]; omega)) (by first | assumption | exact hR _ _ | decide | (simp only [InR]; omega))) rfl rfl (Nat.le_of_ble_eq_true rfl) (by decide) dX9_rate_100 (kB (fun b100 => ?_) (fun b100 => ?_))
                  · refine ev_if_eq (tgt := 110) dX9_rate_103 (by decide) (by decide) (fun c => absurd c (by decide)) (fun _ => ?_)
                    refine ev_iconst dX9_rate_106 ?_
                    refine ev_goto (tgt := 111) dX9_rate_107 (by decide) ?_
                    refine ev_istore (L' := [(10, vI (1)), (9, .ref (A 22 i)), (8, vI (i)), (7, vI (xs)), (6, vI (xh)), (5, vI (xm)), (0, .ref (A 0 0)), (1, vI (a)), (2, vI (f)), (3, vI (t)), (4, vI (w))]) dX9_rate_111 (by decide) rfl ?_
                    refine ev_iload 0 rfl dX9_rate_113 ?_
                    refine ev_if_eq (tgt := 166) dX9_rate_115 (by decide) (by decide) (fun c => absurd c (by decide)) (fun _ => ?_)
                    refine ev_aload 1 rfl dX9_rate_118 ?_
                    refine cg_X9_234 hC (by omega) dX9_rate_120 ?_
                    refine ev_if_le (tgt := 166) dX9_rate_123 (by first | assumption | exact hR _ _ | decide | (simp only [InR]; omega)) (by decide) (fun c123 => ?_) (fun c123 => ?_)
                    · refine ev_iinc (L' := [(8, vI (i + 1)), (10, vI (1)), (9, .ref (A 22 i)), (7, vI (xs)), (6, vI (xh)), (5, vI (xm)), (0, .ref (A 0 0)), (1, vI (a)), (2, vI (f)), (3, vI (t)), (4, vI (w))]) 2 rfl dX9_rate_166 (by decide) rfl ?_
                      refine ev_goto (tgt := 58) dX9_rate_169 (by decide) ?_
                      refine ev_pick (L' := [(8, vI (i + 1)), (7, vI (xs)), (6, vI (xh)), (5, vI (xm)), (0, .ref (A 0 0)), (1, vI (a)), (2, vI (f)), (3, vI (t)), (4, vI (w))]) [0, 3, 4, 5, 6, 7, 8, 9, 10] rfl ?_
                      exact ihi (i + 1) (by omega) (by omega) xm xs xh (by omega) (by rw [sumI_s _ (by omega), ← hxm]; simp only [raM]; first | (rw [if_neg (by omega)]; omega) | (rw [if_pos (by omega)])) (by rw [sumI_s _ (by omega), ← hxs]; simp only [raS]; first | (rw [if_neg (by omega)]; omega) | (rw [if_pos (by omega), iteP_pos (by assumption)]) | (rw [if_pos (by omega), iteP_neg (by assumption)])) (by rw [sumI_s _ (by omega), ← hxh]; simp only [raH]; first | (rw [if_neg (by omega)]; omega) | (rw [if_pos (by omega)])) (by omega)
                    · refine ev_iinc (L' := [(5, vI (xm + 1)), (10, vI (1)), (9, .ref (A 22 i)), (8, vI (i)), (7, vI (xs)), (6, vI (xh)), (0, .ref (A 0 0)), (1, vI (a)), (2, vI (f)), (3, vI (t)), (4, vI (w))]) 5 rfl dX9_rate_126 (by decide) rfl ?_
                      refine ev_iload 5 rfl dX9_rate_129 ?_
                      refine ev_aload 2 rfl dX9_rate_131 ?_
                      refine cg_X9_234 hC (by omega) dX9_rate_133 ?_
                      refine ev_iadd dX9_rate_136 ?_
                      refine ev_istore (L' := [(6, vI (xh + (S 37 i))), (5, vI (xm + 1)), (10, vI (1)), (9, .ref (A 22 i)), (8, vI (i)), (7, vI (xs)), (0, .ref (A 0 0)), (1, vI (a)), (2, vI (f)), (3, vI (t)), (4, vI (w))]) dX9_rate_137 (by decide) rfl ?_
                      refine ev_iload 5 rfl dX9_rate_139 ?_
                      refine ev_aload_n 6 rfl dX9_rate_141 ?_
                      refine ev_aload 3 rfl dX9_rate_142 ?_
                      refine cgR_X9_232 (i := i) (v := S 35 i) hC (by omega) rfl dX9_rate_144 ?_
                      refine ev_aload 3 rfl dX9_rate_147 ?_
                      refine cg_X9_233 hC (by omega) dX9_rate_149 ?_
                      refine c_X9_225 (k_saw (a := S 35 i) (n := S 36 i) hC hI (by omega) (by first | assumption | exact hR _ _ | decide | (simp only [InR]; omega))) hC.k0 rfl rfl (Nat.le_of_ble_eq_true rfl) (by decide) dX9_rate_152 (kB (fun b152 => ?_) (fun b152 => ?_))
                      · refine ev_if_eq (tgt := 162) dX9_rate_155 (by decide) (by decide) (fun c => absurd c (by decide)) (fun _ => ?_)
                        refine ev_iconst dX9_rate_158 ?_
                        refine ev_goto (tgt := 163) dX9_rate_159 (by decide) ?_
                        refine ev_iadd dX9_rate_163 ?_
                        refine ev_istore (L' := [(7, vI (xs + 1)), (6, vI (xh + (S 37 i))), (5, vI (xm + 1)), (10, vI (1)), (9, .ref (A 22 i)), (8, vI (i)), (0, .ref (A 0 0)), (1, vI (a)), (2, vI (f)), (3, vI (t)), (4, vI (w))]) dX9_rate_164 (by decide) rfl ?_
                        refine ev_iinc (L' := [(8, vI (i + 1)), (7, vI (xs + 1)), (6, vI (xh + (S 37 i))), (5, vI (xm + 1)), (10, vI (1)), (9, .ref (A 22 i)), (0, .ref (A 0 0)), (1, vI (a)), (2, vI (f)), (3, vI (t)), (4, vI (w))]) 5 rfl dX9_rate_166 (by decide) rfl ?_
                        refine ev_goto (tgt := 58) dX9_rate_169 (by decide) ?_
                        refine ev_pick (L' := [(8, vI (i + 1)), (7, vI (xs + 1)), (6, vI (xh + (S 37 i))), (5, vI (xm + 1)), (0, .ref (A 0 0)), (1, vI (a)), (2, vI (f)), (3, vI (t)), (4, vI (w))]) [0, 1, 2, 3, 6, 7, 8, 9, 10] rfl ?_
                        exact ihi (i + 1) (by omega) (by omega) (xm + 1) (xs + 1) (xh + (S 37 i)) (by omega) (by rw [sumI_s _ (by omega), ← hxm]; simp only [raM]; first | (rw [if_neg (by omega)]; omega) | (rw [if_pos (by omega)])) (by rw [sumI_s _ (by omega), ← hxs]; simp only [raS]; first | (rw [if_neg (by omega)]; omega) | (rw [if_pos (by omega), iteP_pos (by assumption)]) | (rw [if_pos (by omega), iteP_neg (by assumption)])) (by rw [sumI_s _ (by omega), ← hxh]; simp only [raH]; first | (rw [if_neg (by omega)]; omega) | (rw [if_pos (by omega)])) (by omega)
                      · refine ev_if_eq (tgt := 162) dX9_rate_155 (by decide) (by decide) (fun _ => ?_) (fun c => absurd c (by decide))
                        refine ev_iconst dX9_rate_162 ?_
                        refine ev_iadd dX9_rate_163 ?_
                        refine ev_istore (L' := [(7, vI (xs + 0)), (6, vI (xh + (S 37 i))), (5, vI (xm + 1)), (10, vI (1)), (9, .ref (A 22 i)), (8, vI (i)), (0, .ref (A 0 0)), (1, vI (a)), (2, vI (f)), (3, vI (t)), (4, vI (w))]) dX9_rate_164 (by decide) rfl ?_
                        refine ev_iinc (L' := [(8, vI (i + 1)), (7, vI (xs + 0)), (6, vI (xh + (S 37 i))), (5, vI (xm + 1)), (10, vI (1)), (9, .ref (A 22 i)), (0, .ref (A 0 0)), (1, vI (a)), (2, vI (f)), (3, vI (t)), (4, vI (w))]) 5 rfl dX9_rate_166 (by decide) rfl ?_
                        refine ev_goto (tgt := 58) dX9_rate_169 (by decide) ?_
                        refine ev_pick (L' := [(8, vI (i + 1)), (7, vI (xs + 0)), (6, vI (xh + (S 37 i))), (5, vI (xm + 1)), (0, .ref (A 0 0)), (1, vI (a)), (2, vI (f)), (3, vI (t)), (4, vI (w))]) [0, 1, 2, 3, 6, 7, 8, 9, 10] rfl ?_
                        exact ihi (i + 1) (by omega) (by omega) (xm + 1) (xs + 0) (xh + (S 37 i)) (by omega) (by rw [sumI_s _ (by omega), ← hxm]; simp only [raM]; first | (rw [if_neg (by omega)]; omega) | (rw [if_pos (by omega)])) (by rw [sumI_s _ (by omega), ← hxs]; simp only [raS]; first | (rw [if_neg (by omega)]; omega) | (rw [if_pos (by omega), iteP_pos (by assumption)]) | (rw [if_pos (by omega), iteP_neg (by assumption)])) (by rw [sumI_s _ (by omega), ← hxh]; simp only [raH]; first | (rw [if_neg (by omega)]; omega) | (rw [if_pos (by omega)])) (by omega)
                  · refine ev_if_eq (tgt := 110) dX9_rate_103 (by decide) (by decide) (fun _ => ?_) (fun c => absurd c (by decide))
                    refine ev_iconst dX9_rate_110 ?_
                    refine ev_istore (L' := [(10, vI (0)), (9, .ref (A 22 i)), (8, vI (i)), (7, vI (xs)), (6, vI (xh)), (5, vI (xm)), (0, .ref (A 0 0)), (1, vI (a)), (2, vI (f)), (3, vI (t)), (4, vI (w))]) dX9_rate_111 (by decide) rfl ?_
                    refine ev_iload 0 rfl dX9_rate_113 ?_
                    refine ev_if_eq (tgt := 166) dX9_rate_115 (by decide) (by decide) (fun _ => ?_) (fun c => absurd c (by decide))
                    refine ev_iinc (L' := [(8, vI (i + 1)), (10, vI (0)), (9, .ref (A 22 i)), (7, vI (xs)), (6, vI (xh)), (5, vI (xm)), (0, .ref (A 0 0)), (1, vI (a)), (2, vI (f)), (3, vI (t)), (4, vI (w))]) 2 rfl dX9_rate_166 (by decide) rfl ?_
                    refine ev_goto (tgt := 58) dX9_rate_169 (by decide) ?_
                    refine ev_pick (L' := [(8, vI (i + 1)), (7, vI (xs)), (6, vI (xh)), (5, vI (xm)), (0, .ref (A 0 0)), (1, vI (a)), (2, vI (f)), (3, vI (t)), (4, vI (w))]) [0, 3, 4, 5, 6, 7, 8, 9, 10] rfl ?_
                    exact ihi (i + 1) (by omega) (by omega) xm xs xh (by omega) (by rw [sumI_s _ (by omega), ← hxm]; simp only [raM]; first | (rw [if_neg (by omega)]; omega) | (rw [if_pos (by omega)])) (by rw [sumI_s _ (by omega), ← hxs]; simp only [raS]; first | (rw [if_neg (by omega)]; omega) | (rw [if_pos (by omega), iteP_pos (by assumption)]) | (rw [if_pos (by omega), iteP_neg (by assumption)])) (by rw [sumI_s _ (by omega), ← hxh]; simp only [raH]; first | (rw [if_neg (by omega)]; omega) | (rw [if_pos (by omega)])) (by omega)
          · refine ev_if_ne (tgt := 46) dX9_rate_41 (by decide) (by decide) (fun c => absurd c (by decide)) (fun _ => ?_)
            refine ev_iconst dX9_rate_44 ?_
            refine ev_ireturn dX9_rate_45 ?_
            refine ⟨_, rfl, ?_, hC⟩
            simp only [sp_rate]; rw [if_pos (by omega)]
      · refine ev_if_eq (tgt := 44) dX9_rate_26 (by decide) (by decide) (fun _ => ?_) (fun c => absurd c (by decide))
        refine ev_iconst dX9_rate_44 ?_
        refine ev_ireturn dX9_rate_45 ?_
        refine ⟨_, rfl, ?_, hC⟩
        simp only [sp_rate]; rw [if_pos (by omega)]
    · refine ev_if_eq (tgt := 44) dX9_rate_19 (by decide) (by decide) (fun _ => ?_) (fun c => absurd c (by decide))
      refine ev_iconst dX9_rate_44 ?_
      refine ev_ireturn dX9_rate_45 ?_
      refine ⟨_, rfl, ?_, hC⟩
      simp only [sp_rate]; rw [if_pos (by omega)]
  · refine ev_aload_n 0 rfl dX9_rate_5 ?_
    refine ev_iload_n 1 rfl dX9_rate_6 ?_
    refine c_X9_77 (k_stationAt (a := a) hC hI (by first | assumption | exact hR _ _ | decide | (simp only [InR]; omega))) hC.k0 rfl rfl (Nat.le_of_ble_eq_true rfl) (by decide) dX9_rate_7 (kN (fun b7 => ?_) (fun b7 => ?_))
    · refine ev_ifnonnull (tgt := 15) dX9_rate_10 (by decide) ?_
      refine ev_iload_n 2 rfl dX9_rate_15 ?_
      refine c_X9_178 (k_isNight E (n := f) (by first | assumption | exact hR _ _ | decide | (simp only [InR]; omega))) rfl rfl (Nat.le_of_ble_eq_true rfl) (by decide) dX9_rate_16 (kB (fun b16 => ?_) (fun b16 => ?_))
      · refine ev_if_eq (tgt := 44) dX9_rate_19 (by decide) (by decide) (fun c => absurd c (by decide)) (fun _ => ?_)
        refine ev_iload_n 3 rfl dX9_rate_22 ?_
        refine c_X9_178 (k_isNight E (n := t) (by first | assumption | exact hR _ _ | decide | (simp only [InR]; omega))) rfl rfl (Nat.le_of_ble_eq_true rfl) (by decide) dX9_rate_23 (kB (fun b23 => ?_) (fun b23 => ?_))
        · refine ev_if_eq (tgt := 44) dX9_rate_26 (by decide) (by decide) (fun c => absurd c (by decide)) (fun _ => ?_)
          refine ev_iload_n 2 rfl dX9_rate_29 ?_
          refine ev_iload_n 3 rfl dX9_rate_30 ?_
          refine ev_icmp_gt (tgt := 44) dX9_rate_31 (by first | assumption | exact hR _ _ | decide | (simp only [InR]; omega)) (by first | assumption | exact hR _ _ | decide | (simp only [InR]; omega)) (by decide) (fun c31 => ?_) (fun c31 => ?_)
          · refine ev_iconst dX9_rate_44 ?_
            refine ev_ireturn dX9_rate_45 ?_
            refine ⟨_, rfl, ?_, hC⟩
            simp only [sp_rate]; rw [if_pos (by omega)]
          · refine ev_iload 4 rfl dX9_rate_34 ?_
            refine ev_iconst dX9_rate_36 ?_
            refine ev_iconst dX9_rate_37 ?_
            refine c_X9_67 (k_isWithin E (v := w) (a := 0) (b := 3) (by first | assumption | exact hR _ _ | decide | (simp only [InR]; omega)) (by decide) (by decide)) rfl rfl (Nat.le_of_ble_eq_true rfl) (by decide) dX9_rate_38 (kB (fun b38 => ?_) (fun b38 => ?_))
            · refine ev_if_ne (tgt := 46) dX9_rate_41 (by decide) (by decide) (fun _ => ?_) (fun c => absurd c (by decide))
              refine ev_iconst dX9_rate_46 ?_
              refine ev_istore (L' := [(5, vI (0)), (0, .ref (A 0 0)), (1, vI (a)), (2, vI (f)), (3, vI (t)), (4, vI (w))]) dX9_rate_47 (by decide) rfl ?_
              refine ev_iconst dX9_rate_49 ?_
              refine ev_istore (L' := [(6, vI (0)), (5, vI (0)), (0, .ref (A 0 0)), (1, vI (a)), (2, vI (f)), (3, vI (t)), (4, vI (w))]) dX9_rate_50 (by decide) rfl ?_
              refine ev_iconst dX9_rate_52 ?_
              refine ev_istore (L' := [(7, vI (0)), (6, vI (0)), (5, vI (0)), (0, .ref (A 0 0)), (1, vI (a)), (2, vI (f)), (3, vI (t)), (4, vI (w))]) dX9_rate_53 (by decide) rfl ?_
              refine ev_iconst dX9_rate_55 ?_
              refine ev_istore (L' := [(8, vI (0)), (7, vI (0)), (6, vI (0)), (5, vI (0)), (0, .ref (A 0 0)), (1, vI (a)), (2, vI (f)), (3, vI (t)), (4, vI (w))]) dX9_rate_56 (by decide) rfl ?_
              refine up_ind (P := fun i : Int => ∀ (xm : Int) (xs : Int) (xh : Int), 0 ≤ i → xm = sumI (raM S a f t) i → xs = sumI (raS S a f t) i → xh = sumI (raH S a f t) i → ((0 ≤ xm ∧ xm ≤ i) ∧ (0 ≤ xs ∧ xs ≤ i) ∧ 0 ≤ xh ∧ xh ≤ 24 * i) → Ev E RX9 cX9_rate 11 (some .int) "rate" (qI (fun z h' => z = sp_rate S a f t w ∧ CR E A (S) h')) 2 0 0 58 [(8, vI (i)), (7, vI (xs)), (6, vI (xh)), (5, vI (xm)), (0, .ref (A 0 0)), (1, vI (a)), (2, vI (f)), (3, vI (t)), (4, vI (w))] [] h) (N := S 34 0) ?_ 0 (by omega) 0 0 0 (by omega) (rfl) (rfl) (rfl) (by omega)
              intro i ihi hiN xm xs xh pi hxm hxs hxh hxb
              refine ev_iload 0 rfl dX9_rate_58 ?_
              refine ev_aload_n 4 rfl dX9_rate_60 ?_
              refine cg_X9_219 hC dX9_rate_61 ?_
              refine ev_icmp_ge (tgt := 172) dX9_rate_64 (by first | assumption | exact hR _ _ | decide | (simp only [InR]; omega)) (by first | assumption | exact hR _ _ | decide | (simp only [InR]; omega)) (by decide) (fun c64 => ?_) (fun c64 => ?_)
              · refine ev_iload 8 rfl dX9_rate_172 ?_
                rcases (show (w < 0 ∨ 2 < w) ∨ w = 0 ∨ w = 1 ∨ w = 2 by omega) with q | q | q | q
                · refine ev_tableOut (tgt := 209) dX9_rate_174 (by first | assumption | exact hR _ _ | decide | (simp only [InR]; omega)) q (by decide) ?_
                  refine ev_iload 2 rfl dX9_rate_209 ?_
                  refine ev_if_ne (tgt := 218) dX9_rate_211 (by first | assumption | exact hR _ _ | decide | (simp only [InR]; omega)) (by decide) (fun c211 => ?_) (fun c211 => ?_)
                  · refine ev_sipush dX9_rate_218 (by decide) ?_
                    refine ev_iload 1 rfl dX9_rate_221 ?_
                    refine ev_imul dX9_rate_223 ?_
                    refine ev_iload 2 rfl dX9_rate_224 ?_
                    have td := tdiv_b (a := 1000 * xs) (b := xh) (A := 60000) (by omega)
                    refine ev_idiv dX9_rate_226 (by first | assumption | exact hR _ _ | decide | (simp only [InR]; omega)) (by first | assumption | exact hR _ _ | decide | (simp only [InR]; omega)) (by omega) (by first | assumption | exact hR _ _ | decide | (simp only [InR]; omega)) ?_
                    refine ev_ireturn dX9_rate_227 ?_
                    refine ⟨_, rfl, ?_, hC⟩
                    have e0 : i = S 34 0 := by omega
                    rw [e0] at hxm hxs hxh
                    simp only [sp_rate]; rw [if_neg (by omega), ← hxm, ← hxs, ← hxh]; first | rfl | ((repeat' split) <;> first | rfl | omega)
                  · refine ev_iconst dX9_rate_214 ?_
                    refine ev_goto (tgt := 227) dX9_rate_215 (by decide) ?_
                    refine ev_ireturn dX9_rate_227 ?_
                    refine ⟨_, rfl, ?_, hC⟩
                    have e0 : i = S 34 0 := by omega
                    rw [e0] at hxm hxs hxh
                    simp only [sp_rate]; rw [if_neg (by omega), ← hxm, ← hxs, ← hxh]; first | rfl | ((repeat' split) <;> first | rfl | omega)
                · subst q
                  refine ev_tableIn (tgt := 200) (off := 26) dX9_rate_174 (by decide) (by decide) (by decide) (by decide) (by decide) ?_
                  refine ev_iload 3 rfl dX9_rate_200 ?_
                  refine ev_ireturn dX9_rate_202 ?_
                  refine ⟨_, rfl, ?_, hC⟩
                  have e0 : i = S 34 0 := by omega
                  rw [e0] at hxm hxs hxh
                  simp only [sp_rate]; rw [if_neg (by omega), ← hxm, ← hxs, ← hxh]; first | rfl | ((repeat' split) <;> first | rfl | omega)
                · subst q
                  refine ev_tableIn (tgt := 203) (off := 29) dX9_rate_174 (by decide) (by decide) (by decide) (by decide) (by decide) ?_
                  refine ev_iload 1 rfl dX9_rate_203 ?_
                  refine ev_ireturn dX9_rate_205 ?_
                  refine ⟨_, rfl, ?_, hC⟩
                  have e0 : i = S 34 0 := by omega
                  rw [e0] at hxm hxs hxh
                  simp only [sp_rate]; rw [if_neg (by omega), ← hxm, ← hxs, ← hxh]; first | rfl | ((repeat' split) <;> first | rfl | omega)
                · subst q
                  refine ev_tableIn (tgt := 206) (off := 32) dX9_rate_174 (by decide) (by decide) (by decide) (by decide) (by decide) ?_
                  refine ev_iload 2 rfl dX9_rate_206 ?_
                  refine ev_ireturn dX9_rate_208 ?_
                  refine ⟨_, rfl, ?_, hC⟩
                  have e0 : i = S 34 0 := by omega
                  rw [e0] at hxm hxs hxh
                  simp only [sp_rate]; rw [if_neg (by omega), ← hxm, ← hxs, ← hxh]; first | rfl | ((repeat' split) <;> first | rfl | omega)
              · have w1 := iWa i (by omega) (by omega)
                refine ev_aload_n 4 rfl dX9_rate_67 ?_
                refine cg_X9_23 hC dX9_rate_68 ?_
                refine ev_iload 0 rfl dX9_rate_71 ?_
                refine c_aa3 hC dX9_rate_73 (by omega) (by omega) (by omega) ?_
                refine ev_astore (L' := [(9, .ref (A 22 i)), (8, vI (i)), (7, vI (xs)), (6, vI (xh)), (5, vI (xm)), (0, .ref (A 0 0)), (1, vI (a)), (2, vI (f)), (3, vI (t)), (4, vI (w))]) dX9_rate_74 (by decide) rfl ?_
                refine ev_iload_n 6 rfl dX9_rate_76 ?_
                refine ev_iconst dX9_rate_77 ?_
                refine ev_icmp_eq (tgt := 93) dX9_rate_78 (by first | assumption | exact hR _ _ | decide | (simp only [InR]; omega)) (by decide) (by decide) (fun c78 => ?_) (fun c78 => ?_)
                · refine ev_aload 0 rfl dX9_rate_93 ?_
                  refine cg_X9_233 hC (by omega) dX9_rate_95 ?_
                  refine ev_iload_n 7 rfl dX9_rate_98 ?_
                  refine ev_iload_n 8 rfl dX9_rate_99 ?_
                  refine c_X9_67 (k_isWithin E (v := S 36 i) (a := f) (b := t) (by first | assumption | exact hR _ _ | decide | (simp only [InR]; omega)) (by first | assumption | exact hR _ _ | decide | (simp only [InR]; omega)) (by first | assumption | exact hR _ _ | decide | (simp only [InR]; omega))) rfl rfl (Nat.le_of_ble_eq_true rfl) (by decide) dX9_rate_100 (kB (fun b100 => ?_) (fun b100 => ?_))
                  · refine ev_if_eq (tgt := 110) dX9_rate_103 (by decide) (by decide) (fun c => absurd c (by decide)) (fun _ => ?_)
                    refine ev_iconst dX9_rate_106 ?_
                    refine ev_goto (tgt := 111) dX9_rate_107 (by decide) ?_
                    refine ev_istore (L' := [(10, vI (1)), (9, .ref (A 22 i)), (8, vI (i)), (7, vI (xs)), (6, vI (xh)), (5, vI (xm)), (0, .ref (A 0 0)), (1, vI (a)), (2, vI (f)), (3, vI (t)), (4, vI (w))]) dX9_rate_111 (by decide) rfl ?_
                    refine ev_iload 0 rfl dX9_rate_113 ?_
                    refine ev_if_eq (tgt := 166) dX9_rate_115 (by decide) (by decide) (fun c => absurd c (by decide)) (fun _ => ?_)
                    refine ev_aload 1 rfl dX9_rate_118 ?_
                    refine cg_X9_234 hC (by omega) dX9_rate_120 ?_
                    refine ev_if_le (tgt := 166) dX9_rate_123 (by first | assumption | exact hR _ _ | decide | (simp only [InR]; omega)) (by decide) (fun c123 => ?_) (fun c123 => ?_)
                    · refine ev_iinc (L' := [(8, vI (i + 1)), (10, vI (1)), (9, .ref (A 22 i)), (7, vI (xs)), (6, vI (xh)), (5, vI (xm)), (0, .ref (A 0 0)), (1, vI (a)), (2, vI (f)), (3, vI (t)), (4, vI (w))]) 2 rfl dX9_rate_166 (by decide) rfl ?_
                      refine ev_goto (tgt := 58) dX9_rate_169 (by decide) ?_
                      refine ev_pick (L' := [(8, vI (i + 1)), (7, vI (xs)), (6, vI (xh)), (5, vI (xm)), (0, .ref (A 0 0)), (1, vI (a)), (2, vI (f)), (3, vI (t)), (4, vI (w))]) [0, 3, 4, 5, 6, 7, 8, 9, 10] rfl ?_
                      exact ihi (i + 1) (by omega) (by omega) xm xs xh (by omega) (by rw [sumI_s _ (by omega), ← hxm]; simp only [raM]; first | (rw [if_neg (by omega)]; omega) | (rw [if_pos (by omega)])) (by rw [sumI_s _ (by omega), ← hxs]; simp only [raS]; first | (rw [if_neg (by omega)]; omega) | (rw [if_pos (by omega), iteP_pos (by assumption)]) | (rw [if_pos (by omega), iteP_neg (by assumption)])) (by rw [sumI_s _ (by omega), ← hxh]; simp only [raH]; first | (rw [if_neg (by omega)]; omega) | (rw [if_pos (by omega)])) (by omega)
                    · refine ev_iinc (L' := [(5, vI (xm + 1)), (10, vI (1)), (9, .ref (A 22 i)), (8, vI (i)), (7, vI (xs)), (6, vI (xh)), (0, .ref (A 0 0)), (1, vI (a)), (2, vI (f)), (3, vI (t)), (4, vI (w))]) 5 rfl dX9_rate_126 (by decide) rfl ?_
                      refine ev_iload 5 rfl dX9_rate_129 ?_
                      refine ev_aload 2 rfl dX9_rate_131 ?_
                      refine cg_X9_234 hC (by omega) dX9_rate_133 ?_
                      refine ev_iadd dX9_rate_136 ?_
                      refine ev_istore (L' := [(6, vI (xh + (S 37 i))), (5, vI (xm + 1)), (10, vI (1)), (9, .ref (A 22 i)), (8, vI (i)), (7, vI (xs)), (0, .ref (A 0 0)), (1, vI (a)), (2, vI (f)), (3, vI (t)), (4, vI (w))]) dX9_rate_137 (by decide) rfl ?_
                      refine ev_iload 5 rfl dX9_rate_139 ?_
                      refine ev_aload_n 6 rfl dX9_rate_141 ?_
                      refine ev_aload 3 rfl dX9_rate_142 ?_
                      refine cgR_X9_232 (i := i) (v := S 35 i) hC (by omega) rfl dX9_rate_144 ?_
                      refine ev_aload 3 rfl dX9_rate_147 ?_
                      refine cg_X9_233 hC (by omega) dX9_rate_149 ?_
                      refine c_X9_225 (k_saw (a := S 35 i) (n := S 36 i) hC hI (by omega) (by first | assumption | exact hR _ _ | decide | (simp only [InR]; omega))) hC.k0 rfl rfl (Nat.le_of_ble_eq_true rfl) (by decide) dX9_rate_152 (kB (fun b152 => ?_) (fun b152 => ?_))
                      · refine ev_if_eq (tgt := 162) dX9_rate_155 (by decide) (by decide) (fun c => absurd c (by decide)) (fun _ => ?_)
                        refine ev_iconst dX9_rate_158 ?_
                        refine ev_goto (tgt := 163) dX9_rate_159 (by decide) ?_
                        refine ev_iadd dX9_rate_163 ?_
                        refine ev_istore (L' := [(7, vI (xs + 1)), (6, vI (xh + (S 37 i))), (5, vI (xm + 1)), (10, vI (1)), (9, .ref (A 22 i)), (8, vI (i)), (0, .ref (A 0 0)), (1, vI (a)), (2, vI (f)), (3, vI (t)), (4, vI (w))]) dX9_rate_164 (by decide) rfl ?_
                        refine ev_iinc (L' := [(8, vI (i + 1)), (7, vI (xs + 1)), (6, vI (xh + (S 37 i))), (5, vI (xm + 1)), (10, vI (1)), (9, .ref (A 22 i)), (0, .ref (A 0 0)), (1, vI (a)), (2, vI (f)), (3, vI (t)), (4, vI (w))]) 5 rfl dX9_rate_166 (by decide) rfl ?_
                        refine ev_goto (tgt := 58) dX9_rate_169 (by decide) ?_
                        refine ev_pick (L' := [(8, vI (i + 1)), (7, vI (xs + 1)), (6, vI (xh + (S 37 i))), (5, vI (xm + 1)), (0, .ref (A 0 0)), (1, vI (a)), (2, vI (f)), (3, vI (t)), (4, vI (w))]) [0, 1, 2, 3, 6, 7, 8, 9, 10] rfl ?_
                        exact ihi (i + 1) (by omega) (by omega) (xm + 1) (xs + 1) (xh + (S 37 i)) (by omega) (by rw [sumI_s _ (by omega), ← hxm]; simp only [raM]; first | (rw [if_neg (by omega)]; omega) | (rw [if_pos (by omega)])) (by rw [sumI_s _ (by omega), ← hxs]; simp only [raS]; first | (rw [if_neg (by omega)]; omega) | (rw [if_pos (by omega), iteP_pos (by assumption)]) | (rw [if_pos (by omega), iteP_neg (by assumption)])) (by rw [sumI_s _ (by omega), ← hxh]; simp only [raH]; first | (rw [if_neg (by omega)]; omega) | (rw [if_pos (by omega)])) (by omega)
                      · refine ev_if_eq (tgt := 162) dX9_rate_155 (by decide) (by decide) (fun _ => ?_) (fun c => absurd c (by decide))
                        refine ev_iconst dX9_rate_162 ?_
                        refine ev_iadd dX9_rate_163 ?_
                        refine ev_istore (L' := [(7, vI (xs + 0)), (6, vI (xh + (S 37 i))), (5, vI (xm + 1)), (10, vI (1)), (9, .ref (A 22 i)), (8, vI (i)), (0, .ref (A 0 0)), (1, vI (a)), (2, vI (f)), (3, vI (t)), (4, vI (w))]) dX9_rate_164 (by decide) rfl ?_
                        refine ev_iinc (L' := [(8, vI (i + 1)), (7, vI (xs + 0)), (6, vI (xh + (S 37 i))), (5, vI (xm + 1)), (10, vI (1)), (9, .ref (A 22 i)), (0, .ref (A 0 0)), (1, vI (a)), (2, vI (f)), (3, vI (t)), (4, vI (w))]) 5 rfl dX9_rate_166 (by decide) rfl ?_
                        refine ev_goto (tgt := 58) dX9_rate_169 (by decide) ?_
                        refine ev_pick (L' := [(8, vI (i + 1)), (7, vI (xs + 0)), (6, vI (xh + (S 37 i))), (5, vI (xm + 1)), (0, .ref (A 0 0)), (1, vI (a)), (2, vI (f)), (3, vI (t)), (4, vI (w))]) [0, 1, 2, 3, 6, 7, 8, 9, 10] rfl ?_
                        exact ihi (i + 1) (by omega) (by omega) (xm + 1) (xs + 0) (xh + (S 37 i)) (by omega) (by rw [sumI_s _ (by omega), ← hxm]; simp only [raM]; first | (rw [if_neg (by omega)]; omega) | (rw [if_pos (by omega)])) (by rw [sumI_s _ (by omega), ← hxs]; simp only [raS]; first | (rw [if_neg (by omega)]; omega) | (rw [if_pos (by omega), iteP_pos (by assumption)]) | (rw [if_pos (by omega), iteP_neg (by assumption)])) (by rw [sumI_s _ (by omega), ← hxh]; simp only [raH]; first | (rw [if_neg (by omega)]; omega) | (rw [if_pos (by omega)])) (by omega)
                  · refine ev_if_eq (tgt := 110) dX9_rate_103 (by decide) (by decide) (fun _ => ?_) (fun c => absurd c (by decide))
                    refine ev_iconst dX9_rate_110 ?_
                    refine ev_istore (L' := [(10, vI (0)), (9, .ref (A 22 i)), (8, vI (i)), (7, vI (xs)), (6, vI (xh)), (5, vI (xm)), (0, .ref (A 0 0)), (1, vI (a)), (2, vI (f)), (3, vI (t)), (4, vI (w))]) dX9_rate_111 (by decide) rfl ?_
                    refine ev_iload 0 rfl dX9_rate_113 ?_
                    refine ev_if_eq (tgt := 166) dX9_rate_115 (by decide) (by decide) (fun _ => ?_) (fun c => absurd c (by decide))
                    refine ev_iinc (L' := [(8, vI (i + 1)), (10, vI (0)), (9, .ref (A 22 i)), (7, vI (xs)), (6, vI (xh)), (5, vI (xm)), (0, .ref (A 0 0)), (1, vI (a)), (2, vI (f)), (3, vI (t)), (4, vI (w))]) 2 rfl dX9_rate_166 (by decide) rfl ?_
                    refine ev_goto (tgt := 58) dX9_rate_169 (by decide) ?_
                    refine ev_pick (L' := [(8, vI (i + 1)), (7, vI (xs)), (6, vI (xh)), (5, vI (xm)), (0, .ref (A 0 0)), (1, vI (a)), (2, vI (f)), (3, vI (t)), (4, vI (w))]) [0, 3, 4, 5, 6, 7, 8, 9, 10] rfl ?_
                    exact ihi (i + 1) (by omega) (by omega) xm xs xh (by omega) (by rw [sumI_s _ (by omega), ← hxm]; simp only [raM]; first | (rw [if_neg (by omega)]; omega) | (rw [if_pos (by omega)])) (by rw [sumI_s _ (by omega), ← hxs]; simp only [raS]; first | (rw [if_neg (by omega)]; omega) | (rw [if_pos (by omega), iteP_pos (by assumption)]) | (rw [if_pos (by omega), iteP_neg (by assumption)])) (by rw [sumI_s _ (by omega), ← hxh]; simp only [raH]; first | (rw [if_neg (by omega)]; omega) | (rw [if_pos (by omega)])) (by omega)
                · refine ev_aload 0 rfl dX9_rate_81 ?_
                  refine cgR_X9_232 (i := i) (v := S 35 i) hC (by omega) rfl dX9_rate_83 ?_
                  refine cg_X9_127 hC (by omega) dX9_rate_86 ?_
                  refine ev_iload_n 6 rfl dX9_rate_89 ?_
                  refine ev_icmp_ne (tgt := 110) dX9_rate_90 (by first | assumption | exact hR _ _ | decide | (simp only [InR]; omega)) (by first | assumption | exact hR _ _ | decide | (simp only [InR]; omega)) (by decide) (fun c90 => ?_) (fun c90 => ?_)
                  · refine ev_iconst dX9_rate_110 ?_
                    refine ev_istore (L' := [(10, vI (0)), (9, .ref (A 22 i)), (8, vI (i)), (7, vI (xs)), (6, vI (xh)), (5, vI (xm)), (0, .ref (A 0 0)), (1, vI (a)), (2, vI (f)), (3, vI (t)), (4, vI (w))]) dX9_rate_111 (by decide) rfl ?_
                    refine ev_iload 0 rfl dX9_rate_113 ?_
                    refine ev_if_eq (tgt := 166) dX9_rate_115 (by decide) (by decide) (fun _ => ?_) (fun c => absurd c (by decide))
                    refine ev_iinc (L' := [(8, vI (i + 1)), (10, vI (0)), (9, .ref (A 22 i)), (7, vI (xs)), (6, vI (xh)), (5, vI (xm)), (0, .ref (A 0 0)), (1, vI (a)), (2, vI (f)), (3, vI (t)), (4, vI (w))]) 2 rfl dX9_rate_166 (by decide) rfl ?_
                    refine ev_goto (tgt := 58) dX9_rate_169 (by decide) ?_
                    refine ev_pick (L' := [(8, vI (i + 1)), (7, vI (xs)), (6, vI (xh)), (5, vI (xm)), (0, .ref (A 0 0)), (1, vI (a)), (2, vI (f)), (3, vI (t)), (4, vI (w))]) [0, 3, 4, 5, 6, 7, 8, 9, 10] rfl ?_
                    exact ihi (i + 1) (by omega) (by omega) xm xs xh (by omega) (by rw [sumI_s _ (by omega), ← hxm]; simp only [raM]; first | (rw [if_neg (by omega)]; omega) | (rw [if_pos (by omega)])) (by rw [sumI_s _ (by omega), ← hxs]; simp only [raS]; first | (rw [if_neg (by omega)]; omega) | (rw [if_pos (by omega), iteP_pos (by assumption)]) | (rw [if_pos (by omega), iteP_neg (by assumption)])) (by rw [sumI_s _ (by omega), ← hxh]; simp only [raH]; first | (rw [if_neg (by omega)]; omega) | (rw [if_pos (by omega)])) (by omega)
                  · refine ev_aload 0 rfl dX9_rate_93 ?_
                    refine cg_X9_233 hC (by omega) dX9_rate_95 ?_
                    refine ev_iload_n 7 rfl dX9_rate_98 ?_
                    refine ev_iload_n 8 rfl dX9_rate_99 ?_
                    refine c_X9_67 (k_isWithin E (v := S 36 i) (a := f) (b := t) (by first | assumption | exact hR _ _ | decide | (simp only [InR]; omega)) (by first | assumption | exact hR _ _ | decide | (simp only [InR]; omega)) (by first | assumption | exact hR _ _ | decide | (simp only [InR]; omega))) rfl rfl (Nat.le_of_ble_eq_true rfl) (by decide) dX9_rate_100 (kB (fun b100 => ?_) (fun b100 => ?_))
                    · refine ev_if_eq (tgt := 110) dX9_rate_103 (by decide) (by decide) (fun c => absurd c (by decide)) (fun _ => ?_)
                      refine ev_iconst dX9_rate_106 ?_
                      refine ev_goto (tgt := 111) dX9_rate_107 (by decide) ?_
                      refine ev_istore (L' := [(10, vI (1)), (9, .ref (A 22 i)), (8, vI (i)), (7, vI (xs)), (6, vI (xh)), (5, vI (xm)), (0, .ref (A 0 0)), (1, vI (a)), (2, vI (f)), (3, vI (t)), (4, vI (w))]) dX9_rate_111 (by decide) rfl ?_
                      refine ev_iload 0 rfl dX9_rate_113 ?_
                      refine ev_if_eq (tgt := 166) dX9_rate_115 (by decide) (by decide) (fun c => absurd c (by decide)) (fun _ => ?_)
                      refine ev_aload 1 rfl dX9_rate_118 ?_
                      refine cg_X9_234 hC (by omega) dX9_rate_120 ?_
                      refine ev_if_le (tgt := 166) dX9_rate_123 (by first | assumption | exact hR _ _ | decide | (simp only [InR]; omega)) (by decide) (fun c123 => ?_) (fun c123 => ?_)
                      · refine ev_iinc (L' := [(8, vI (i + 1)), (10, vI (1)), (9, .ref (A 22 i)), (7, vI (xs)), (6, vI (xh)), (5, vI (xm)), (0, .ref (A 0 0)), (1, vI (a)), (2, vI (f)), (3, vI (t)), (4, vI (w))]) 2 rfl dX9_rate_166 (by decide) rfl ?_
                        refine ev_goto (tgt := 58) dX9_rate_169 (by decide) ?_
                        refine ev_pick (L' := [(8, vI (i + 1)), (7, vI (xs)), (6, vI (xh)), (5, vI (xm)), (0, .ref (A 0 0)), (1, vI (a)), (2, vI (f)), (3, vI (t)), (4, vI (w))]) [0, 3, 4, 5, 6, 7, 8, 9, 10] rfl ?_
                        exact ihi (i + 1) (by omega) (by omega) xm xs xh (by omega) (by rw [sumI_s _ (by omega), ← hxm]; simp only [raM]; first | (rw [if_neg (by omega)]; omega) | (rw [if_pos (by omega)])) (by rw [sumI_s _ (by omega), ← hxs]; simp only [raS]; first | (rw [if_neg (by omega)]; omega) | (rw [if_pos (by omega), iteP_pos (by assumption)]) | (rw [if_pos (by omega), iteP_neg (by assumption)])) (by rw [sumI_s _ (by omega), ← hxh]; simp only [raH]; first | (rw [if_neg (by omega)]; omega) | (rw [if_pos (by omega)])) (by omega)
                      · refine ev_iinc (L' := [(5, vI (xm + 1)), (10, vI (1)), (9, .ref (A 22 i)), (8, vI (i)), (7, vI (xs)), (6, vI (xh)), (0, .ref (A 0 0)), (1, vI (a)), (2, vI (f)), (3, vI (t)), (4, vI (w))]) 5 rfl dX9_rate_126 (by decide) rfl ?_
                        refine ev_iload 5 rfl dX9_rate_129 ?_
                        refine ev_aload 2 rfl dX9_rate_131 ?_
                        refine cg_X9_234 hC (by omega) dX9_rate_133 ?_
                        refine ev_iadd dX9_rate_136 ?_
                        refine ev_istore (L' := [(6, vI (xh + (S 37 i))), (5, vI (xm + 1)), (10, vI (1)), (9, .ref (A 22 i)), (8, vI (i)), (7, vI (xs)), (0, .ref (A 0 0)), (1, vI (a)), (2, vI (f)), (3, vI (t)), (4, vI (w))]) dX9_rate_137 (by decide) rfl ?_
                        refine ev_iload 5 rfl dX9_rate_139 ?_
                        refine ev_aload_n 6 rfl dX9_rate_141 ?_
                        refine ev_aload 3 rfl dX9_rate_142 ?_
                        refine cgR_X9_232 (i := i) (v := S 35 i) hC (by omega) rfl dX9_rate_144 ?_
                        refine ev_aload 3 rfl dX9_rate_147 ?_
                        refine cg_X9_233 hC (by omega) dX9_rate_149 ?_
                        refine c_X9_225 (k_saw (a := S 35 i) (n := S 36 i) hC hI (by omega) (by first | assumption | exact hR _ _ | decide | (simp only [InR]; omega))) hC.k0 rfl rfl (Nat.le_of_ble_eq_true rfl) (by decide) dX9_rate_152 (kB (fun b152 => ?_) (fun b152 => ?_))
                        · refine ev_if_eq (tgt := 162) dX9_rate_155 (by decide) (by decide) (fun c => absurd c (by decide)) (fun _ => ?_)
                          refine ev_iconst dX9_rate_158 ?_
                          refine ev_goto (tgt := 163) dX9_rate_159 (by decide) ?_
                          refine ev_iadd dX9_rate_163 ?_
                          refine ev_istore (L' := [(7, vI (xs + 1)), (6, vI (xh + (S 37 i))), (5, vI (xm + 1)), (10, vI (1)), (9, .ref (A 22 i)), (8, vI (i)), (0, .ref (A 0 0)), (1, vI (a)), (2, vI (f)), (3, vI (t)), (4, vI (w))]) dX9_rate_164 (by decide) rfl ?_
                          refine ev_iinc (L' := [(8, vI (i + 1)), (7, vI (xs + 1)), (6, vI (xh + (S 37 i))), (5, vI (xm + 1)), (10, vI (1)), (9, .ref (A 22 i)), (0, .ref (A 0 0)), (1, vI (a)), (2, vI (f)), (3, vI (t)), (4, vI (w))]) 5 rfl dX9_rate_166 (by decide) rfl ?_
                          refine ev_goto (tgt := 58) dX9_rate_169 (by decide) ?_
                          refine ev_pick (L' := [(8, vI (i + 1)), (7, vI (xs + 1)), (6, vI (xh + (S 37 i))), (5, vI (xm + 1)), (0, .ref (A 0 0)), (1, vI (a)), (2, vI (f)), (3, vI (t)), (4, vI (w))]) [0, 1, 2, 3, 6, 7, 8, 9, 10] rfl ?_
                          exact ihi (i + 1) (by omega) (by omega) (xm + 1) (xs + 1) (xh + (S 37 i)) (by omega) (by rw [sumI_s _ (by omega), ← hxm]; simp only [raM]; first | (rw [if_neg (by omega)]; omega) | (rw [if_pos (by omega)])) (by rw [sumI_s _ (by omega), ← hxs]; simp only [raS]; first | (rw [if_neg (by omega)]; omega) | (rw [if_pos (by omega), iteP_pos (by assumption)]) | (rw [if_pos (by omega), iteP_neg (by assumption)])) (by rw [sumI_s _ (by omega), ← hxh]; simp only [raH]; first | (rw [if_neg (by omega)]; omega) | (rw [if_pos (by omega)])) (by omega)
                        · refine ev_if_eq (tgt := 162) dX9_rate_155 (by decide) (by decide) (fun _ => ?_) (fun c => absurd c (by decide))
                          refine ev_iconst dX9_rate_162 ?_
                          refine ev_iadd dX9_rate_163 ?_
                          refine ev_istore (L' := [(7, vI (xs + 0)), (6, vI (xh + (S 37 i))), (5, vI (xm + 1)), (10, vI (1)), (9, .ref (A 22 i)), (8, vI (i)), (0, .ref (A 0 0)), (1, vI (a)), (2, vI (f)), (3, vI (t)), (4, vI (w))]) dX9_rate_164 (by decide) rfl ?_
                          refine ev_iinc (L' := [(8, vI (i + 1)), (7, vI (xs + 0)), (6, vI (xh + (S 37 i))), (5, vI (xm + 1)), (10, vI (1)), (9, .ref (A 22 i)), (0, .ref (A 0 0)), (1, vI (a)), (2, vI (f)), (3, vI (t)), (4, vI (w))]) 5 rfl dX9_rate_166 (by decide) rfl ?_
                          refine ev_goto (tgt := 58) dX9_rate_169 (by decide) ?_
                          refine ev_pick (L' := [(8, vI (i + 1)), (7, vI (xs + 0)), (6, vI (xh + (S 37 i))), (5, vI (xm + 1)), (0, .ref (A 0 0)), (1, vI (a)), (2, vI (f)), (3, vI (t)), (4, vI (w))]) [0, 1, 2, 3, 6, 7, 8, 9, 10] rfl ?_
                          exact ihi (i + 1) (by omega) (by omega) (xm + 1) (xs + 0) (xh + (S 37 i)) (by omega) (by rw [sumI_s _ (by omega), ← hxm]; simp only [raM]; first | (rw [if_neg (by omega)]; omega) | (rw [if_pos (by omega)])) (by rw [sumI_s _ (by omega), ← hxs]; simp only [raS]; first | (rw [if_neg (by omega)]; omega) | (rw [if_pos (by omega), iteP_pos (by assumption)]) | (rw [if_pos (by omega), iteP_neg (by assumption)])) (by rw [sumI_s _ (by omega), ← hxh]; simp only [raH]; first | (rw [if_neg (by omega)]; omega) | (rw [if_pos (by omega)])) (by omega)
                    · refine ev_if_eq (tgt := 110) dX9_rate_103 (by decide) (by decide) (fun _ => ?_) (fun c => absurd c (by decide))
                      refine ev_iconst dX9_rate_110 ?_
                      refine ev_istore (L' := [(10, vI (0)), (9, .ref (A 22 i)), (8, vI (i)), (7, vI (xs)), (6, vI (xh)), (5, vI (xm)), (0, .ref (A 0 0)), (1, vI (a)), (2, vI (f)), (3, vI (t)), (4, vI (w))]) dX9_rate_111 (by decide) rfl ?_
                      refine ev_iload 0 rfl dX9_rate_113 ?_
                      refine ev_if_eq (tgt := 166) dX9_rate_115 (by decide) (by decide) (fun _ => ?_) (fun c => absurd c (by decide))
                      refine ev_iinc (L' := [(8, vI (i + 1)), (10, vI (0)), (9, .ref (A 22 i)), (7, vI (xs)), (6, vI (xh)), (5, vI (xm)), (0, .ref (A 0 0)), (1, vI (a)), (2, vI (f)), (3, vI (t)), (4, vI (w))]) 2 rfl dX9_rate_166 (by decide) rfl ?_
                      refine ev_goto (tgt := 58) dX9_rate_169 (by decide) ?_
                      refine ev_pick (L' := [(8, vI (i + 1)), (7, vI (xs)), (6, vI (xh)), (5, vI (xm)), (0, .ref (A 0 0)), (1, vI (a)), (2, vI (f)), (3, vI (t)), (4, vI (w))]) [0, 3, 4, 5, 6, 7, 8, 9, 10] rfl ?_
                      exact ihi (i + 1) (by omega) (by omega) xm xs xh (by omega) (by rw [sumI_s _ (by omega), ← hxm]; simp only [raM]; first | (rw [if_neg (by omega)]; omega) | (rw [if_pos (by omega)])) (by rw [sumI_s _ (by omega), ← hxs]; simp only [raS]; first | (rw [if_neg (by omega)]; omega) | (rw [if_pos (by omega), iteP_pos (by assumption)]) | (rw [if_pos (by omega), iteP_neg (by assumption)])) (by rw [sumI_s _ (by omega), ← hxh]; simp only [raH]; first | (rw [if_neg (by omega)]; omega) | (rw [if_pos (by omega)])) (by omega)
            · refine ev_if_ne (tgt := 46) dX9_rate_41 (by decide) (by decide) (fun c => absurd c (by decide)) (fun _ => ?_)
              refine ev_iconst dX9_rate_44 ?_
              refine ev_ireturn dX9_rate_45 ?_
              refine ⟨_, rfl, ?_, hC⟩
              simp only [sp_rate]; rw [if_pos (by omega)]
        · refine ev_if_eq (tgt := 44) dX9_rate_26 (by decide) (by decide) (fun _ => ?_) (fun c => absurd c (by decide))
          refine ev_iconst dX9_rate_44 ?_
          refine ev_ireturn dX9_rate_45 ?_
          refine ⟨_, rfl, ?_, hC⟩
          simp only [sp_rate]; rw [if_pos (by omega)]
      · refine ev_if_eq (tgt := 44) dX9_rate_19 (by decide) (by decide) (fun _ => ?_) (fun c => absurd c (by decide))
        refine ev_iconst dX9_rate_44 ?_
        refine ev_ireturn dX9_rate_45 ?_
        refine ⟨_, rfl, ?_, hC⟩
        simp only [sp_rate]; rw [if_pos (by omega)]
    · refine ev_ifnonnullN dX9_rate_10 ?_
      refine ev_iconst dX9_rate_13 ?_
      refine ev_ireturn dX9_rate_14 ?_
      refine ⟨_, rfl, ?_, hC⟩
      simp only [sp_rate]; rw [if_pos (by omega)]

theorem rc_b {S : MS} {p n k : Int} (hn : 0 ≤ n) : 0 ≤ sumI (fun j => if (S 69 j).tmod p = k then 1 else 0) n ∧ sumI (fun j => if (S 69 j).tmod p = k then 1 else 0) n ≤ n := by
  have := sumI_b (f := fun j => if (S 69 j).tmod p = k then 1 else 0) (a := 0) (b := 1) hn (fun m _ _ => by (try dsimp only); split <;> omega)
  omega

set_option maxHeartbeats 4000000 in
set_option maxRecDepth 100000 in
theorem k_roundOf {E : EV} {h : AH} {A : AD} {S : MS} {p : Int} (hC : CR E A S h) (hI : Inv S) (hN : CInv S) (gp : 20 ≤ p ∧ p ≤ 40) : CM E yX9_roundOf cX9_roundOf 4 (some .int) 0 0 0 [.ref (A 0 0), vI (p)] h (qI (fun z h' => z = roundZ S p ∧ ∃ S', CR E A S' h' ∧ eqx [71] S S')) := by
  have hR := hC.2.2
  have hJ := hI
  obtain ⟨i1, i2, i3, i4, i5, i6, iSt, iSi, iWa, iSh, iLa, iS0, iS1, iZe⟩ := hJ
  have hN0 := hN.1
  refine CM.of (by decide) (Nat.le_of_ble_eq_true rfl) (L := [(0, .ref (A 0 0)), (1, vI (p))]) rfl ?_
  refine ev_iconst dX9_roundOf_0 ?_
  refine ev_istore_n (L' := [(2, vI (0)), (0, .ref (A 0 0)), (1, vI (p))]) dX9_roundOf_1 (by decide) rfl ?_
  refine up_ind (P := fun i : Int => ∀ (S1 : MS) (h2 : AH), 0 ≤ i → CR E A S1 h2 → eqx [71] S S1 → (∀ j : Int, 0 ≤ j → j < i → S1 71 j = 0) → Ev E RX9 cX9_roundOf 4 (some .int) "roundOf" (qI (fun z h' => z = roundZ S p ∧ ∃ S', CR E A S' h' ∧ eqx [71] S S')) 0 0 0 2 [(2, vI (i)), (0, .ref (A 0 0)), (1, vI (p))] [] h2) (N := p) ?_ 0 (by omega)  S h (by omega) hC eqx.rf (fun j h1 h2 => absurd h1 (by omega))
  intro i ihi hiN S1 h2 pi hM3 hx4 hv1
  have hRS1 := hM3.2.2
  have hxS1 : eqx scc S S1 := (eqx.rf (l := scc) (S := S)).tr hx4 (by decide) (by decide)
  have hIS1 := Inv.xc hI hxS1
  refine ev_iload_n 0 rfl dX9_roundOf_2 ?_
  refine ev_iload_n 2 rfl dX9_roundOf_3 ?_
  refine ev_icmp_ge (tgt := 20) dX9_roundOf_4 (by first | assumption | exact hR _ _ | exact hRS1 _ _ | decide | (simp only [InR]; omega)) (by first | assumption | exact hR _ _ | exact hRS1 _ _ | decide | (simp only [InR]; omega)) (by decide) (fun c4 => ?_) (fun c4 => ?_)
  · refine ev_iconst dX9_roundOf_20 ?_
    refine ev_istore_n (L' := [(2, vI (0)), (0, .ref (A 0 0)), (1, vI (p))]) dX9_roundOf_21 (by decide) rfl ?_
    refine up_ind (P := fun n : Int => ∀ (S5 : MS) (h6 : AH), 0 ≤ n → CR E A S5 h6 → eqx [71] S1 S5 → (∀ j : Int, 0 ≤ j → j < p → S5 71 j = sumI (fun u => if (S 69 u).tmod p = j then 1 else 0) n) → Ev E RX9 cX9_roundOf 4 (some .int) "roundOf" (qI (fun z h' => z = roundZ S p ∧ ∃ S', CR E A S' h' ∧ eqx [71] S S')) 0 0 0 22 [(2, vI (n)), (0, .ref (A 0 0)), (1, vI (p))] [] h6) (N := S 70 0) ?_ 0 (by omega)  S1 h2 (by omega) hM3 eqx.rf (fun j h1 h2 => hv1 j h1 (by omega))
    intro n ihn hnN S5 h6 pn hM7 hx8 hv2
    have hRS5 := hM7.2.2
    have hxS5 : eqx scc S S5 := (hxS1).tr hx8 (by decide) (by decide)
    have hIS5 := Inv.xc hI hxS5
    refine ev_iload_n 0 rfl dX9_roundOf_22 ?_
    refine ev_aload_n 1 rfl dX9_roundOf_23 ?_
    refine cgE_X9_240 (v := S 70 0) hM7 (by rw [hx8 70 (by decide), hx4 70 (by decide)]) dX9_roundOf_24 ?_
    refine ev_icmp_ge (tgt := 53) dX9_roundOf_27 (by first | assumption | exact hR _ _ | exact hRS1 _ _ | exact hRS5 _ _ | decide | (simp only [InR]; omega)) (by first | assumption | exact hR _ _ | exact hRS1 _ _ | exact hRS5 _ _ | decide | (simp only [InR]; omega)) (by decide) (fun c27 => ?_) (fun c27 => ?_)
    · have hv2e : ∀ j : Int, 0 ≤ j → j < p → S5 71 j = restZ S p 400 j := fun j h1 h2 => (hv2 j h1 h2).trans (by rw [rest_c hN, show n = S 70 0 by omega])
      refine ev_iconst dX9_roundOf_53 ?_
      refine ev_istore_n (L' := [(2, vI (0)), (0, .ref (A 0 0)), (1, vI (p))]) dX9_roundOf_54 (by decide) rfl ?_
      refine ev_iconst dX9_roundOf_55 ?_
      refine ev_istore_n (L' := [(3, vI (0)), (2, vI (0)), (0, .ref (A 0 0)), (1, vI (p))]) dX9_roundOf_56 (by decide) rfl ?_
      refine up_ind (P := fun k : Int => ∀ (t : Int), 0 ≤ k → t = sumI (fun k => restZ S p 400 k * restZ S p 400 k) k → Ev E RX9 cX9_roundOf 4 (some .int) "roundOf" (qI (fun z h' => z = roundZ S p ∧ ∃ S', CR E A S' h' ∧ eqx [71] S S')) 0 0 0 57 [(3, vI (k)), (2, vI (t)), (0, .ref (A 0 0)), (1, vI (p))] [] h6) (N := p) ?_ 0 (by omega) 0 (by omega) (rfl)
      intro k ihk hkN t pk hv3
      refine ev_iload_n 0 rfl dX9_roundOf_57 ?_
      refine ev_iload_n 3 rfl dX9_roundOf_58 ?_
      refine ev_icmp_ge (tgt := 84) dX9_roundOf_59 (by first | assumption | exact hR _ _ | exact hRS1 _ _ | exact hRS5 _ _ | decide | (simp only [InR]; omega)) (by first | assumption | exact hR _ _ | exact hRS1 _ _ | exact hRS5 _ _ | decide | (simp only [InR]; omega)) (by decide) (fun c59 => ?_) (fun c59 => ?_)
      · refine ev_iload_n 3 rfl dX9_roundOf_84 ?_
        refine ev_iload_n 1 rfl dX9_roundOf_85 ?_
        refine ev_imul dX9_roundOf_86 ?_
        refine ev_ireturn dX9_roundOf_87 ?_
        refine ⟨_, rfl, ?_, S5, hM7, (eqx.tr (l := [71]) (eqx.tr (l := [71]) (eqx.rf (l := [71]) (S := S)) hx4 (by decide) (by decide)) hx8 (by decide) (by decide))⟩
        unfold roundZ; rw [hv3, show k = p by omega]
      · refine ev_iload_n 1 rfl dX9_roundOf_62 ?_
        refine ev_aload_n 2 rfl dX9_roundOf_63 ?_
        refine cg_X9_37 hM7 dX9_roundOf_64 ?_
        refine ev_iload_n 0 rfl dX9_roundOf_67 ?_
        refine c_ld (k := 7) (s := 71) hM7 (by decide) rfl dX9_roundOf_68 (by omega) (by show _ < ((40 : Nat) : Int); omega) ?_
        refine ev_aload_n 2 rfl dX9_roundOf_69 ?_
        refine cg_X9_37 hM7 dX9_roundOf_70 ?_
        refine ev_iload_n 0 rfl dX9_roundOf_73 ?_
        refine c_ld (k := 7) (s := 71) hM7 (by decide) rfl dX9_roundOf_74 (by omega) (by show _ < ((40 : Nat) : Int); omega) ?_
        refine ev_imul dX9_roundOf_75 ?_
        refine ev_iadd dX9_roundOf_76 ?_
        refine ev_istore_n (L' := [(2, vI (t + ((S5 71 k) * (S5 71 k)))), (3, vI (k)), (0, .ref (A 0 0)), (1, vI (p))]) dX9_roundOf_77 (by decide) rfl ?_
        refine ev_iinc (L' := [(3, vI (k + 1)), (2, vI (t + ((S5 71 k) * (S5 71 k)))), (0, .ref (A 0 0)), (1, vI (p))]) 1 rfl dX9_roundOf_78 (by decide) rfl ?_
        refine ev_goto (tgt := 57) dX9_roundOf_81 (by decide) ?_
        exact ihk (k + 1) (by omega) (by omega) (t + ((S5 71 k) * (S5 71 k))) (by omega) (by rw [sumI_s _ (by omega), ← hv3, hv2e k (by omega) (by omega)])
    · have n69 := (hN.2.1 n (by omega) (by omega)).1
      have tb := tm_b (n := S 69 n) (p := p) (by omega) (by omega)
      have td := tdiv_b (a := S 69 n) (b := p) (A := 400) (by omega)
      have rb := rc_b (S := S) (p := p) (n := n) (k := (S 69 n).tmod p) (by omega)
      have re := hv2 ((S 69 n).tmod p) tb.1 tb.2
      refine ev_aload_n 1 rfl dX9_roundOf_30 ?_
      refine cg_X9_37 hM7 dX9_roundOf_31 ?_
      refine ev_aload_n 1 rfl dX9_roundOf_34 ?_
      refine cg_X9_34 hM7 dX9_roundOf_35 ?_
      refine ev_iload_n 0 rfl dX9_roundOf_38 ?_
      refine c_ldE (k := 6) (s := 69) (v := S 69 n) hM7 (by decide) rfl (by rw [hx8 69 (by decide), hx4 69 (by decide)]) dX9_roundOf_39 (by omega) (by show _ < ((40 : Nat) : Int); omega) ?_
      refine ev_iload_n 2 rfl dX9_roundOf_40 ?_
      refine ev_irem dX9_roundOf_41 (by first | assumption | exact hR _ _ | exact hRS1 _ _ | exact hRS5 _ _ | decide | (simp only [InR]; omega)) (by first | assumption | exact hR _ _ | exact hRS1 _ _ | exact hRS5 _ _ | decide | (simp only [InR]; omega)) (by omega) (by first | assumption | exact hR _ _ | exact hRS1 _ _ | exact hRS5 _ _ | decide | (simp only [InR]; omega)) ?_
      refine ev_dup2 dX9_roundOf_42 rfl rfl ?_
      refine c_ld (k := 7) (s := 71) hM7 (by decide) rfl dX9_roundOf_43 (by omega) (by show _ < ((40 : Nat) : Int); omega) ?_
      refine ev_iconst dX9_roundOf_44 ?_
      refine ev_iadd dX9_roundOf_45 ?_
      refine c_st (k := 7) (s := 71) hM7 (by decide) rfl (by decide) dX9_roundOf_46 (by omega) (by show _ < ((40 : Nat) : Int); omega) (by first | assumption | exact hR _ _ | exact hRS1 _ _ | exact hRS5 _ _ | decide | (simp only [InR]; omega)) (fun S9 h10 eS11 hC12 => ?_)
      have hRS9 := hC12.2.2
      have hxS9 : eqx scc S S9 := by rw [eS11]; exact (hxS5).up (by decide)
      have hIS9 := Inv.xc hI hxS9
      refine ev_iinc (L' := [(2, vI (n + 1)), (0, .ref (A 0 0)), (1, vI (p))]) 0 rfl dX9_roundOf_47 (by decide) rfl ?_
      refine ev_goto (tgt := 22) dX9_roundOf_50 (by decide) ?_
      exact ihn (n + 1) (by omega) (by omega) S9 h10 (by omega) hC12 (by rw [eS11]; exact eqx.up (l := [71]) hx8 (by decide)) (fun j h1 h2 => by rw [eS11, sumI_s _ (by omega)]; by_cases hj : j = (S 69 n).tmod p; (rw [hj, upS_at, if_pos rfl, ← hj, hv2 j h1 h2]); (rw [upS_nz hj, if_neg (fun q => hj q.symm), hv2 j h1 h2]; omega))
  · refine ev_aload_n 1 rfl dX9_roundOf_7 ?_
    refine cg_X9_37 hM3 dX9_roundOf_8 ?_
    refine ev_iload_n 0 rfl dX9_roundOf_11 ?_
    refine ev_iconst dX9_roundOf_12 ?_
    refine c_st (k := 7) (s := 71) hM3 (by decide) rfl (by decide) dX9_roundOf_13 (by omega) (by show _ < ((40 : Nat) : Int); omega) (by decide) (fun S13 h14 eS15 hC16 => ?_)
    have hRS13 := hC16.2.2
    have hxS13 : eqx scc S S13 := by rw [eS15]; exact (hxS1).up (by decide)
    have hIS13 := Inv.xc hI hxS13
    refine ev_iinc (L' := [(2, vI (i + 1)), (0, .ref (A 0 0)), (1, vI (p))]) 0 rfl dX9_roundOf_14 (by decide) rfl ?_
    refine ev_goto (tgt := 2) dX9_roundOf_17 (by decide) ?_
    exact ihi (i + 1) (by omega) (by omega) S13 h14 (by omega) hC16 (by rw [eS15]; exact eqx.up (l := [71]) hx4 (by decide)) (fun j h1 h2 => by rw [eS15]; by_cases hj : j = i; (rw [hj, upS_at]); (rw [upS_nz hj]; exact hv1 j h1 (by omega)))

theorem roundZ_xc {S S' : MS} {p : Int} (hx : eqx scc S S') : roundZ S' p = roundZ S p := by
  have h : ∀ a n, SeenP S' a n ↔ SeenP S a n := fun a n => by unfold SeenP; rw [hx 7 (by decide), hx 9 (by decide), hx 10 (by decide)]
  have h2 : seen1 S' = seen1 S := by unfold seen1; funext n; exact iteP_iff (h _ _)
  unfold roundZ restZ
  rw [h2]
theorem roundC_b {S : MS} {p : Int} (h : CInv S) (hp : 20 ≤ p ∧ p ≤ 40) (h7 : S 7 0 ≤ 40 := by omega) : 0 ≤ roundZ S p ∧ roundZ S p ≤ 2560000 := by
  have h1 := sumI_b (f := fun k => restZ S p 400 k * restZ S p 400 k) (a := 0) (b := 1600) (show 0 ≤ p by omega) (fun k _ _ => by
    (try dsimp only)
    rw [rest_c h]
    have hb := rc_b (S := S) (p := p) (n := S 70 0) (k := k) h.1.1
    have h0 := h.1
    have := mul_b (a := sumI (fun j => if (S 69 j).tmod p = k then 1 else 0) (S 70 0)) (b := sumI (fun j => if (S 69 j).tmod p = k then 1 else 0) (S 70 0)) (A := 40) (B := 40) (by omega) (by omega) (by decide)
    have := sq_nn (sumI (fun j => if (S 69 j).tmod p = k then 1 else 0) (S 70 0))
    omega)
  unfold roundZ
  have h2 : 0 ≤ sumI (fun k => restZ S p 400 k * restZ S p 400 k) p ∧ sumI (fun k => restZ S p 400 k * restZ S p 400 k) p ≤ 64000 := by omega
  have h3 := mul_b (a := p) (b := sumI (fun k => restZ S p 400 k * restZ S p 400 k) p) (A := 40) (B := 64000) (by omega) (by omega) (by decide)
  have h4 := Int.mul_nonneg (show 0 ≤ p by omega) h2.1
  omega

set_option maxHeartbeats 4000000 in
set_option maxRecDepth 100000 in
theorem k_round {E : EV} {h : AH} {A : AD} {S : MS} {p : Int} (hC : CR E A S h) (hI : Inv S) (hN : CInv S) (g1 : InR p) : CM E yX9_round cX9_round 2 (some .int) 1 0 0 [.ref (A 0 0), vI (p)] h (qI (fun z h' => z = sp_round S p ∧ ∃ S', CR E A S' h' ∧ eqx [71] S S')) := by
  have hR := hC.2.2
  have hJ := hI
  obtain ⟨i1, i2, i3, i4, i5, i6, iSt, iSi, iWa, iSh, iLa, iS0, iS1, iZe⟩ := hJ
  refine CM.of (by decide) (Nat.le_of_ble_eq_true rfl) (L := [(0, .ref (A 0 0)), (1, vI (p))]) rfl ?_
  refine ev_iload_n 1 rfl dX9_round_0 ?_
  refine ev_bipush dX9_round_1 (by decide) ?_
  refine ev_bipush dX9_round_3 (by decide) ?_
  refine c_X9_67 (k_isWithin E (v := p) (a := 20) (b := 40) (by first | assumption | exact hR _ _ | decide | (simp only [InR]; omega)) (by decide) (by decide)) rfl rfl (Nat.le_of_ble_eq_true rfl) (by decide) dX9_round_5 (kB (fun b5 => ?_) (fun b5 => ?_))
  · refine ev_if_eq (tgt := 19) dX9_round_8 (by decide) (by decide) (fun c => absurd c (by decide)) (fun _ => ?_)
    refine ev_aload_n 0 rfl dX9_round_11 ?_
    refine ev_iload_n 1 rfl dX9_round_12 ?_
    refine c_X9_237 (k_roundOf (p := p) hC hI hN (by omega)) hC.k0 rfl rfl (Nat.le_of_ble_eq_true rfl) (by decide) dX9_round_13 (kI (fun z1 h2 hqz1 => ?_))
    obtain ⟨hzz1, S3, hC4, ex5⟩ := hqz1
    have hRS3 := hC4.2.2
    have rbz1 := roundC_b (S := S) (p := p) hN (by omega)
    have hxS3 : eqx scc S S3 := (eqx.rf (l := scc) (S := S)).tr ex5 (by decide) (by decide)
    have hIS3 := Inv.xc hI hxS3
    refine ev_ren (b := roundZ S p) hzz1 ?_
    refine ev_goto (tgt := 20) dX9_round_16 (by decide) ?_
    refine ev_ireturn dX9_round_20 ?_
    refine ⟨_, rfl, ?_, S3, hC4, (eqx.tr (l := [71]) (eqx.rf (l := [71]) (S := S)) ex5 (by decide) (by decide))⟩
    simp only [sp_round]; first | (rw [if_pos (by omega)]; done) | (rw [if_neg (by omega)]; done)
  · refine ev_if_eq (tgt := 19) dX9_round_8 (by decide) (by decide) (fun _ => ?_) (fun c => absurd c (by decide))
    refine ev_iconst dX9_round_19 ?_
    refine ev_ireturn dX9_round_20 ?_
    refine ⟨_, rfl, ?_, S, hC, (eqx.rf (l := [71]) (S := S))⟩
    simp only [sp_round]; first | (rw [if_pos (by omega)]; done) | (rw [if_neg (by omega)]; done)

set_option maxHeartbeats 4000000 in
set_option maxRecDepth 100000 in
theorem k_best {E : EV} {h : AH} {A : AD} {S : MS} (hC : CR E A S h) (hI : Inv S) (hN : CInv S) : CM E yX9_best cX9_best 5 (some .int) 1 0 0 [.ref (A 0 0)] h (qI (fun z h' => z = sp_best S ∧ ∃ S', CR E A S' h' ∧ eqx [71] S S')) := by
  have hR := hC.2.2
  have hJ := hI
  obtain ⟨i1, i2, i3, i4, i5, i6, iSt, iSi, iWa, iSh, iLa, iS0, iS1, iZe⟩ := hJ
  have hN0 := hN.1
  refine CM.of (by decide) (Nat.le_of_ble_eq_true rfl) (L := [(0, .ref (A 0 0))]) rfl ?_
  refine ev_aload_n 0 rfl dX9_best_0 ?_
  refine cg_X9_240 hC dX9_best_1 ?_
  refine ev_iconst dX9_best_4 ?_
  refine ev_icmp_ge (tgt := 11) dX9_best_5 (by first | assumption | exact hR _ _ | decide | (simp only [InR]; omega)) (by decide) (by decide) (fun c5 => ?_) (fun c5 => ?_)
  · refine ev_bipush dX9_best_11 (by decide) ?_
    refine ev_istore_n (L' := [(1, vI (20)), (0, .ref (A 0 0))]) dX9_best_13 (by decide) rfl ?_
    refine ev_aload_n 1 rfl dX9_best_14 ?_
    refine ev_bipush dX9_best_15 (by decide) ?_
    refine c_X9_237 (k_roundOf (p := 20) hC hI hN (by omega)) hC.k0 rfl rfl (Nat.le_of_ble_eq_true rfl) (by decide) dX9_best_17 (kI (fun z1 h2 hqz1 => ?_))
    obtain ⟨hzz1, S3, hC4, ex5⟩ := hqz1
    have hRS3 := hC4.2.2
    have rbz1 := roundC_b (S := S) (p := 20) hN (by omega)
    have hxS3 : eqx scc S S3 := (eqx.rf (l := scc) (S := S)).tr ex5 (by decide) (by decide)
    have hIS3 := Inv.xc hI hxS3
    refine ev_ren (b := roundZ S 20) hzz1 ?_
    refine ev_istore_n (L' := [(2, vI (roundZ S 20)), (1, vI (20)), (0, .ref (A 0 0))]) dX9_best_20 (by decide) rfl ?_
    refine ev_bipush dX9_best_21 (by decide) ?_
    refine ev_istore_n (L' := [(3, vI (21)), (2, vI (roundZ S 20)), (1, vI (20)), (0, .ref (A 0 0))]) dX9_best_23 (by decide) rfl ?_
    refine up_ind (P := fun p : Int => ∀ (b : Int) (v : Int) (S6 : MS) (h7 : AH), 0 ≤ p → CR E A S6 h7 → eqx [71] S3 S6 → b = bestN S (p - 21).toNat → v = roundZ S b → ((20 ≤ b ∧ b ≤ 40) ∧ 21 ≤ p ∧ 0 ≤ v ∧ v ≤ 2560000) → Ev E RX9 cX9_best 5 (some .int) "best" (qI (fun z h' => z = sp_best S ∧ ∃ S', CR E A S' h' ∧ eqx [71] S S')) 1 0 0 24 [(3, vI (p)), (2, vI (v)), (1, vI (b)), (0, .ref (A 0 0))] [] h7) (N := 41) ?_ 21 (by omega) 20 (roundZ S 20) S3 h2 (by omega) hC4 eqx.rf (rfl) (rfl) (by omega)
    intro p ihp hpN b v S6 h7 pp hM8 hx9 hbn hbv hbb
    have hRS6 := hM8.2.2
    have hxS6 : eqx scc S S6 := (hxS3).tr hx9 (by decide) (by decide)
    have hIS6 := Inv.xc hI hxS6
    refine ev_iload_n 0 rfl dX9_best_24 ?_
    refine ev_bipush dX9_best_25 (by decide) ?_
    refine ev_icmp_gt (tgt := 54) dX9_best_27 (by first | assumption | exact hR _ _ | exact hRS3 _ _ | exact hRS6 _ _ | decide | (simp only [InR]; omega)) (by decide) (by decide) (fun c27 => ?_) (fun c27 => ?_)
    · refine ev_iload_n 2 rfl dX9_best_54 ?_
      refine ev_ireturn dX9_best_55 ?_
      refine ⟨_, rfl, ?_, S6, hM8, (eqx.tr (l := [71]) (eqx.tr (l := [71]) (eqx.rf (l := [71]) (S := S)) ex5 (by decide) (by decide)) hx9 (by decide) (by decide))⟩
      simp only [sp_best]; rw [nights_c hN, if_neg (by omega), hbn, show (p - 21).toNat = 20 by omega]
    · refine ev_aload_n 3 rfl dX9_best_30 ?_
      refine ev_iload_n 0 rfl dX9_best_31 ?_
      have hNS6 := CInv.x (l := [71]) hN (eqx.tr (l := [71]) (eqx.tr (l := [71]) (eqx.rf (l := [71]) (S := S)) ex5 (by decide) (by decide)) hx9 (by decide) (by decide)) (by decide) (by decide) (by decide) (by decide)
      refine c_X9_237 (k_roundOf (p := p) hM8 hIS6 hNS6 (by omega)) hM8.k0 rfl rfl (Nat.le_of_ble_eq_true rfl) (by decide) dX9_best_32 (kI (fun z10 h11 hqz10 => ?_))
      obtain ⟨hzz10, S12, hC13, ex14⟩ := hqz10
      rw [roundZ_xc hxS6] at hzz10
      have hRS12 := hC13.2.2
      have rbz10 := roundC_b (S := S) (p := p) hN (by omega)
      have hxS12 : eqx scc S S12 := (hxS6).tr ex14 (by decide) (by decide)
      have hIS12 := Inv.xc hI hxS12
      refine ev_ren (b := roundZ S p) hzz10 ?_
      refine ev_istore (L' := [(4, vI (roundZ S p)), (3, vI (p)), (2, vI (v)), (1, vI (b)), (0, .ref (A 0 0))]) dX9_best_35 (by decide) rfl ?_
      refine ev_iload 0 rfl dX9_best_37 ?_
      refine ev_iload_n 2 rfl dX9_best_39 ?_
      refine ev_icmp_le (tgt := 48) dX9_best_40 (by first | assumption | exact hR _ _ | exact hRS3 _ _ | exact hRS6 _ _ | exact hRS12 _ _ | decide | (simp only [InR]; omega)) (by first | assumption | exact hR _ _ | exact hRS3 _ _ | exact hRS6 _ _ | exact hRS12 _ _ | decide | (simp only [InR]; omega)) (by decide) (fun c40 => ?_) (fun c40 => ?_)
      · refine ev_iinc (L' := [(3, vI (p + 1)), (4, vI (roundZ S p)), (2, vI (v)), (1, vI (b)), (0, .ref (A 0 0))]) 1 rfl dX9_best_48 (by decide) rfl ?_
        refine ev_goto (tgt := 24) dX9_best_51 (by decide) ?_
        refine ev_pick (L' := [(3, vI (p + 1)), (2, vI (v)), (1, vI (b)), (0, .ref (A 0 0))]) [0, 2, 3, 4] rfl ?_
        exact ihp (p + 1) (by omega) (by omega) b v S12 h11 (by omega) hC13 (eqx.tr (l := [71]) hx9 ex14 (by decide) (by decide)) (by rw [show (p + 1 - 21).toNat = (p - 21).toNat + 1 by omega, bestN, ← hbn, show 21 + ((p - 21).toNat : Int) = p by omega]; rw [if_neg (by omega)]) (hbv) (by omega)
      · refine ev_iload_n 1 rfl dX9_best_43 ?_
        refine ev_istore_n (L' := [(1, vI (p)), (4, vI (roundZ S p)), (3, vI (p)), (2, vI (v)), (0, .ref (A 0 0))]) dX9_best_44 (by decide) rfl ?_
        refine ev_iload 1 rfl dX9_best_45 ?_
        refine ev_istore_n (L' := [(2, vI (roundZ S p)), (1, vI (p)), (4, vI (roundZ S p)), (3, vI (p)), (0, .ref (A 0 0))]) dX9_best_47 (by decide) rfl ?_
        refine ev_iinc (L' := [(3, vI (p + 1)), (2, vI (roundZ S p)), (1, vI (p)), (4, vI (roundZ S p)), (0, .ref (A 0 0))]) 3 rfl dX9_best_48 (by decide) rfl ?_
        refine ev_goto (tgt := 24) dX9_best_51 (by decide) ?_
        refine ev_pick (L' := [(3, vI (p + 1)), (2, vI (roundZ S p)), (1, vI (p)), (0, .ref (A 0 0))]) [0, 1, 2, 4] rfl ?_
        exact ihp (p + 1) (by omega) (by omega) p (roundZ S p) S12 h11 (by omega) hC13 (eqx.tr (l := [71]) hx9 ex14 (by decide) (by decide)) (by rw [show (p + 1 - 21).toNat = (p - 21).toNat + 1 by omega, bestN, ← hbn, show 21 + ((p - 21).toNat : Int) = p by omega]; rw [if_pos (by omega)]) (rfl) (by omega)
  · refine ev_bipush dX9_best_8 (by decide) ?_
    refine ev_ireturn dX9_best_10 ?_
    refine ⟨_, rfl, ?_, S, hC, (eqx.rf (l := [71]) (S := S))⟩
    simp only [sp_best]; rw [nights_c hN, if_pos (by omega)]

set_option maxHeartbeats 4000000 in
set_option maxRecDepth 100000 in
theorem k_areShared {E : EV} {h : AH} {A : AD} {S : MS} {a b : Int} (hC : CR E A S h) (hI : Inv S) (g1 : InR a) (g2 : InR b) : CM E yX9_areShared cX9_areShared 6 (some .boolean) 0 0 0 [.ref (A 0 0), vI (a), vI (b)] h (qB (0 ≤ scanI (ShB S a b) 0 (S 40 0)) h) := by
  have hR := hC.2.2
  have hJ := hI
  obtain ⟨i1, i2, i3, i4, i5, i6, iSt, iSi, iWa, iSh, iLa, iS0, iS1, iZe⟩ := hJ
  refine CM.of (by decide) (Nat.le_of_ble_eq_true rfl) (L := [(0, .ref (A 0 0)), (1, vI (a)), (2, vI (b))]) rfl ?_
  refine ev_iconst dX9_areShared_0 ?_
  refine ev_istore_n (L' := [(3, vI (0)), (0, .ref (A 0 0)), (1, vI (a)), (2, vI (b))]) dX9_areShared_1 (by decide) rfl ?_
  refine up_ind (P := fun i : Int => 0 ≤ i → scanI (ShB S a b) 0 (S 40 0) = scanI (ShB S a b) i (S 40 0) → Ev E RX9 cX9_areShared 6 (some .boolean) "areShared" (qB (0 ≤ scanI (ShB S a b) 0 (S 40 0)) h) 0 0 0 2 [(3, vI (i)), (0, .ref (A 0 0)), (1, vI (a)), (2, vI (b))] [] h) (N := S 40 0) ?_ 0 (by omega)  (by omega) (rfl)
  intro i ihi hiN pi hs
  refine ev_iload_n 0 rfl dX9_areShared_2 ?_
  refine ev_aload_n 1 rfl dX9_areShared_3 ?_
  refine cg_X9_247 hC dX9_areShared_4 ?_
  refine ev_icmp_ge (tgt := 58) dX9_areShared_7 (by first | assumption | exact hR _ _ | decide | (simp only [InR]; omega)) (by first | assumption | exact hR _ _ | decide | (simp only [InR]; omega)) (by decide) (fun c7 => ?_) (fun c7 => ?_)
  · refine ev_iconst dX9_areShared_58 ?_
    refine ev_zreturn (by decide) dX9_areShared_59 ?_
    exact ⟨rfl, Or.inr ⟨rfl, by rw [hs, scanI_end _ (by omega)]; decide⟩⟩
  · refine ev_aload_n 1 rfl dX9_areShared_10 ?_
    refine cg_X9_27 hC dX9_areShared_11 ?_
    refine ev_iload_n 0 rfl dX9_areShared_14 ?_
    refine c_ld (k := 4) (s := 41) hC (by decide) rfl dX9_areShared_15 (by omega) (by show _ < ((20 : Nat) : Int); omega) ?_
    refine ev_istore (L' := [(4, vI (S 41 i)), (3, vI (i)), (0, .ref (A 0 0)), (1, vI (a)), (2, vI (b))]) dX9_areShared_16 (by decide) rfl ?_
    refine ev_aload_n 2 rfl dX9_areShared_18 ?_
    refine cg_X9_31 hC dX9_areShared_19 ?_
    refine ev_iload_n 1 rfl dX9_areShared_22 ?_
    refine c_ld (k := 5) (s := 42) hC (by decide) rfl dX9_areShared_23 (by omega) (by show _ < ((20 : Nat) : Int); omega) ?_
    refine ev_istore (L' := [(5, vI (S 42 i)), (4, vI (S 41 i)), (3, vI (i)), (0, .ref (A 0 0)), (1, vI (a)), (2, vI (b))]) dX9_areShared_24 (by decide) rfl ?_
    refine ev_iload 1 rfl dX9_areShared_26 ?_
    refine ev_iload_n 4 rfl dX9_areShared_28 ?_
    refine ev_icmp_ne (tgt := 38) dX9_areShared_29 (by first | assumption | exact hR _ _ | decide | (simp only [InR]; omega)) (by first | assumption | exact hR _ _ | decide | (simp only [InR]; omega)) (by decide) (fun c29 => ?_) (fun c29 => ?_)
    · refine ev_iload 1 rfl dX9_areShared_38 ?_
      refine ev_iload_n 5 rfl dX9_areShared_40 ?_
      refine ev_icmp_ne (tgt := 52) dX9_areShared_41 (by first | assumption | exact hR _ _ | decide | (simp only [InR]; omega)) (by first | assumption | exact hR _ _ | decide | (simp only [InR]; omega)) (by decide) (fun c41 => ?_) (fun c41 => ?_)
      · refine ev_iinc (L' := [(3, vI (i + 1)), (5, vI (S 42 i)), (4, vI (S 41 i)), (0, .ref (A 0 0)), (1, vI (a)), (2, vI (b))]) 2 rfl dX9_areShared_52 (by decide) rfl ?_
        refine ev_goto (tgt := 2) dX9_areShared_55 (by decide) ?_
        refine ev_pick (L' := [(3, vI (i + 1)), (0, .ref (A 0 0)), (1, vI (a)), (2, vI (b))]) [0, 3, 4, 5] rfl ?_
        exact ihi (i + 1) (by omega) (by omega) (by omega) (by rw [hs, scanI_s _ (by omega), if_neg (by simp only [ShB, decide_eq_true_eq]; omega)])
      · refine ev_iload 0 rfl dX9_areShared_44 ?_
        refine ev_iload_n 4 rfl dX9_areShared_46 ?_
        refine ev_icmp_ne (tgt := 52) dX9_areShared_47 (by first | assumption | exact hR _ _ | decide | (simp only [InR]; omega)) (by first | assumption | exact hR _ _ | decide | (simp only [InR]; omega)) (by decide) (fun c47 => ?_) (fun c47 => ?_)
        · refine ev_iinc (L' := [(3, vI (i + 1)), (5, vI (S 42 i)), (4, vI (S 41 i)), (0, .ref (A 0 0)), (1, vI (a)), (2, vI (b))]) 2 rfl dX9_areShared_52 (by decide) rfl ?_
          refine ev_goto (tgt := 2) dX9_areShared_55 (by decide) ?_
          refine ev_pick (L' := [(3, vI (i + 1)), (0, .ref (A 0 0)), (1, vI (a)), (2, vI (b))]) [0, 3, 4, 5] rfl ?_
          exact ihi (i + 1) (by omega) (by omega) (by omega) (by rw [hs, scanI_s _ (by omega), if_neg (by simp only [ShB, decide_eq_true_eq]; omega)])
        · refine ev_iconst dX9_areShared_50 ?_
          refine ev_zreturn (by decide) dX9_areShared_51 ?_
          exact ⟨rfl, Or.inl ⟨rfl, by rw [hs, scanI_s _ (by omega), if_pos (by simp only [ShB, decide_eq_true_eq]; omega)]; omega⟩⟩
    · refine ev_iload 0 rfl dX9_areShared_32 ?_
      refine ev_iload_n 5 rfl dX9_areShared_34 ?_
      refine ev_icmp_eq (tgt := 50) dX9_areShared_35 (by first | assumption | exact hR _ _ | decide | (simp only [InR]; omega)) (by first | assumption | exact hR _ _ | decide | (simp only [InR]; omega)) (by decide) (fun c35 => ?_) (fun c35 => ?_)
      · refine ev_iconst dX9_areShared_50 ?_
        refine ev_zreturn (by decide) dX9_areShared_51 ?_
        exact ⟨rfl, Or.inl ⟨rfl, by rw [hs, scanI_s _ (by omega), if_pos (by simp only [ShB, decide_eq_true_eq]; omega)]; omega⟩⟩
      · refine ev_iload 1 rfl dX9_areShared_38 ?_
        refine ev_iload_n 5 rfl dX9_areShared_40 ?_
        refine ev_icmp_ne (tgt := 52) dX9_areShared_41 (by first | assumption | exact hR _ _ | decide | (simp only [InR]; omega)) (by first | assumption | exact hR _ _ | decide | (simp only [InR]; omega)) (by decide) (fun c41 => ?_) (fun c41 => ?_)
        · refine ev_iinc (L' := [(3, vI (i + 1)), (5, vI (S 42 i)), (4, vI (S 41 i)), (0, .ref (A 0 0)), (1, vI (a)), (2, vI (b))]) 2 rfl dX9_areShared_52 (by decide) rfl ?_
          refine ev_goto (tgt := 2) dX9_areShared_55 (by decide) ?_
          refine ev_pick (L' := [(3, vI (i + 1)), (0, .ref (A 0 0)), (1, vI (a)), (2, vI (b))]) [0, 3, 4, 5] rfl ?_
          exact ihi (i + 1) (by omega) (by omega) (by omega) (by rw [hs, scanI_s _ (by omega), if_neg (by simp only [ShB, decide_eq_true_eq]; omega)])
        · refine ev_iload 0 rfl dX9_areShared_44 ?_
          refine ev_iload_n 4 rfl dX9_areShared_46 ?_
          refine ev_icmp_ne (tgt := 52) dX9_areShared_47 (by first | assumption | exact hR _ _ | decide | (simp only [InR]; omega)) (by first | assumption | exact hR _ _ | decide | (simp only [InR]; omega)) (by decide) (fun c47 => ?_) (fun c47 => ?_)
          · refine ev_iinc (L' := [(3, vI (i + 1)), (5, vI (S 42 i)), (4, vI (S 41 i)), (0, .ref (A 0 0)), (1, vI (a)), (2, vI (b))]) 2 rfl dX9_areShared_52 (by decide) rfl ?_
            refine ev_goto (tgt := 2) dX9_areShared_55 (by decide) ?_
            refine ev_pick (L' := [(3, vI (i + 1)), (0, .ref (A 0 0)), (1, vI (a)), (2, vI (b))]) [0, 3, 4, 5] rfl ?_
            exact ihi (i + 1) (by omega) (by omega) (by omega) (by rw [hs, scanI_s _ (by omega), if_neg (by simp only [ShB, decide_eq_true_eq]; omega)])
          · refine ev_iconst dX9_areShared_50 ?_
            refine ev_zreturn (by decide) dX9_areShared_51 ?_
            exact ⟨rfl, Or.inl ⟨rfl, by rw [hs, scanI_s _ (by omega), if_pos (by simp only [ShB, decide_eq_true_eq]; omega)]; omega⟩⟩

set_option maxHeartbeats 4000000 in
set_option maxRecDepth 100000 in
theorem k_share {E : EV} {h : AH} {A : AD} {S : MS} {a b : Int} (hC : CR E A S h) (hI : Inv S) (g1 : InR a) (g2 : InR b) : CM E yX9_share cX9_share 5 (some .int) 2 0 0 [.ref (A 0 0), vI (a), vI (b)] h (qI (fun z h' => z = sp_share S a b ∧ CR E A (nx_share S a b) h')) := by
  have hR := hC.2.2
  have hJ := hI
  obtain ⟨i1, i2, i3, i4, i5, i6, iSt, iSi, iWa, iSh, iLa, iS0, iS1, iZe⟩ := hJ
  refine CM.of (by decide) (Nat.le_of_ble_eq_true rfl) (L := [(0, .ref (A 0 0)), (1, vI (a)), (2, vI (b))]) rfl ?_
  refine ev_aload_n 0 rfl dX9_share_0 ?_
  refine ev_iload_n 1 rfl dX9_share_1 ?_
  refine c_X9_115 (k_sightingAt (a := a) hC hI (by first | assumption | exact hR _ _ | decide | (simp only [InR]; omega))) hC.k0 rfl rfl (Nat.le_of_ble_eq_true rfl) (by decide) dX9_share_2 (kN (fun b2 => ?_) (fun b2 => ?_))
  · refine ev_astore_n (L' := [(3, .ref (A 21 a)), (0, .ref (A 0 0)), (1, vI (a)), (2, vI (b))]) dX9_share_5 (by decide) rfl ?_
    refine ev_aload_n 1 rfl dX9_share_6 ?_
    refine ev_iload_n 3 rfl dX9_share_7 ?_
    refine c_X9_115 (k_sightingAt (a := b) hC hI (by first | assumption | exact hR _ _ | decide | (simp only [InR]; omega))) hC.k0 rfl rfl (Nat.le_of_ble_eq_true rfl) (by decide) dX9_share_8 (kN (fun b8 => ?_) (fun b8 => ?_))
    · refine ev_astore (L' := [(4, .ref (A 21 b)), (3, .ref (A 21 a)), (0, .ref (A 0 0)), (1, vI (a)), (2, vI (b))]) dX9_share_11 (by decide) rfl ?_
      refine ev_aload_n 1 rfl dX9_share_13 ?_
      refine ev_ifnull dX9_share_14 ?_
      refine ev_aload 0 rfl dX9_share_17 ?_
      refine ev_ifnull dX9_share_19 ?_
      have sa := iSi a (by omega) (by omega)
      have sb := iSi b (by omega) (by omega)
      refine ev_aload_n 1 rfl dX9_share_22 ?_
      refine cgR_X9_123 (i := a) (v := S 9 a) hC hI (by unfold SG; omega) rfl dX9_share_23 ?_
      refine cg_X9_127 hC (by omega) dX9_share_26 ?_
      refine ev_aload 0 rfl dX9_share_29 ?_
      refine cgR_X9_123 (i := b) (v := S 9 b) hC hI (by unfold SG; omega) rfl dX9_share_31 ?_
      refine cg_X9_127 hC (by omega) dX9_share_34 ?_
      refine ev_icmp_ne (tgt := 42) dX9_share_37 (by first | assumption | exact hR _ _ | decide | (simp only [InR]; omega)) (by first | assumption | exact hR _ _ | decide | (simp only [InR]; omega)) (by decide) (fun c37 => ?_) (fun c37 => ?_)
      · refine ev_aload_n 2 rfl dX9_share_42 ?_
        refine ev_iload_n 3 rfl dX9_share_43 ?_
        refine ev_iload_n 4 rfl dX9_share_44 ?_
        refine c_X9_243 (k_areShared (a := a) (b := b) hC hI (by first | assumption | exact hR _ _ | decide | (simp only [InR]; omega)) (by first | assumption | exact hR _ _ | decide | (simp only [InR]; omega))) hC.k0 rfl rfl (Nat.le_of_ble_eq_true rfl) (by decide) dX9_share_45 (kB (fun b45 => ?_) (fun b45 => ?_))
        · refine ev_if_eq (tgt := 54) dX9_share_48 (by decide) (by decide) (fun c => absurd c (by decide)) (fun _ => ?_)
          refine ev_bipush dX9_share_51 (by decide) ?_
          refine ev_ireturn dX9_share_53 ?_
          refine ⟨_, rfl, ?_, ?_⟩
          · simp only [sp_share]; (repeat' split) <;> first | rfl | omega
          · simp only [nx_share]; first | (rw [if_pos (by omega)]; exact hC) | (rw [if_neg (by omega)]; exact hC)
        · refine ev_if_eq (tgt := 54) dX9_share_48 (by decide) (by decide) (fun _ => ?_) (fun c => absurd c (by decide))
          refine ev_aload_n 2 rfl dX9_share_54 ?_
          refine cg_X9_247 hC dX9_share_55 ?_
          refine ev_bipush dX9_share_58 (by decide) ?_
          refine ev_icmp_lt (tgt := 66) dX9_share_60 (by first | assumption | exact hR _ _ | decide | (simp only [InR]; omega)) (by decide) (by decide) (fun c60 => ?_) (fun c60 => ?_)
          · refine ev_aload_n 2 rfl dX9_share_66 ?_
            refine cg_X9_27 hC dX9_share_67 ?_
            refine ev_aload_n 2 rfl dX9_share_70 ?_
            refine cg_X9_247 hC dX9_share_71 ?_
            refine ev_iload_n 3 rfl dX9_share_74 ?_
            refine c_st (k := 4) (s := 41) hC (by decide) rfl (by decide) dX9_share_75 (by omega) (by show _ < ((20 : Nat) : Int); omega) (by first | assumption | exact hR _ _ | decide | (simp only [InR]; omega)) (fun S1 h2 eS3 hC4 => ?_)
            have hRS1 := hC4.2.2
            refine ev_aload_n 2 rfl dX9_share_76 ?_
            refine cg_X9_31 hC4 dX9_share_77 ?_
            refine ev_aload_n 2 rfl dX9_share_80 ?_
            refine cgE_X9_247 (v := S 40 0) hC4 (by rw [eS3, upS_ne (by decide)]) dX9_share_81 ?_
            refine ev_iload_n 4 rfl dX9_share_84 ?_
            refine c_st (k := 5) (s := 42) hC4 (by decide) rfl (by decide) dX9_share_85 (by omega) (by show _ < ((20 : Nat) : Int); omega) (by first | assumption | exact hR _ _ | exact hRS1 _ _ | decide | (simp only [InR]; omega)) (fun S5 h6 eS7 hC8 => ?_)
            have hRS5 := hC8.2.2
            refine ev_aload_n 2 rfl dX9_share_86 ?_
            refine ev_dup dX9_share_87 rfl ?_
            refine cgE_X9_247 (v := S 40 0) hC8 (by rw [eS7, upS_ne (by decide), eS3, upS_ne (by decide)]) dX9_share_88 ?_
            refine ev_iconst dX9_share_91 ?_
            refine ev_iadd dX9_share_92 ?_
            refine cp_X9_247 hC8 (by first | assumption | exact hR _ _ | exact hRS1 _ _ | exact hRS5 _ _ | decide | (simp only [InR]; omega)) dX9_share_93 (fun S9 h10 eS11 hC12 => ?_)
            have hRS9 := hC12.2.2
            refine ev_aload_n 2 rfl dX9_share_96 ?_
            refine cgE_X9_247 (v := (S 40 0) + 1) hC12 (by rw [eS11]; exact upS_at) dX9_share_97 ?_
            refine ev_ireturn dX9_share_100 ?_
            refine ⟨_, rfl, ?_, ?_⟩
            · simp only [sp_share]; (repeat' split) <;> first | rfl | omega
            · subst eS11 eS7 eS3
              simp only [nx_share]; first | (rw [if_pos (by omega)]; exact hC12) | (rw [if_neg (by omega)]; exact hC12)
          · refine ev_bipush dX9_share_63 (by decide) ?_
            refine ev_ireturn dX9_share_65 ?_
            refine ⟨_, rfl, ?_, ?_⟩
            · simp only [sp_share]; (repeat' split) <;> first | rfl | omega
            · simp only [nx_share]; first | (rw [if_pos (by omega)]; exact hC) | (rw [if_neg (by omega)]; exact hC)
      · refine ev_iconst dX9_share_40 ?_
        refine ev_ireturn dX9_share_41 ?_
        refine ⟨_, rfl, ?_, ?_⟩
        · simp only [sp_share]; (repeat' split) <;> first | rfl | omega
        · simp only [nx_share]; first | (rw [if_pos (by omega)]; exact hC) | (rw [if_neg (by omega)]; exact hC)
    · refine ev_astoreN (L' := [(4, .null), (3, .ref (A 21 a)), (0, .ref (A 0 0)), (1, vI (a)), (2, vI (b))]) dX9_share_11 (by decide) rfl ?_
      refine ev_aload_n 1 rfl dX9_share_13 ?_
      refine ev_ifnull dX9_share_14 ?_
      refine ev_aloadN 0 rfl dX9_share_17 ?_
      refine ev_ifnullN (tgt := 40) dX9_share_19 (by decide) ?_
      refine ev_iconst dX9_share_40 ?_
      refine ev_ireturn dX9_share_41 ?_
      refine ⟨_, rfl, ?_, ?_⟩
      · simp only [sp_share]; (repeat' split) <;> first | rfl | omega
      · simp only [nx_share]; first | (rw [if_pos (by omega)]; exact hC) | (rw [if_neg (by omega)]; exact hC)
  · refine ev_astore_nN (L' := [(3, .null), (0, .ref (A 0 0)), (1, vI (a)), (2, vI (b))]) dX9_share_5 (by decide) rfl ?_
    refine ev_aload_n 1 rfl dX9_share_6 ?_
    refine ev_iload_n 3 rfl dX9_share_7 ?_
    refine c_X9_115 (k_sightingAt (a := b) hC hI (by first | assumption | exact hR _ _ | decide | (simp only [InR]; omega))) hC.k0 rfl rfl (Nat.le_of_ble_eq_true rfl) (by decide) dX9_share_8 (kN (fun b8 => ?_) (fun b8 => ?_))
    · refine ev_astore (L' := [(4, .ref (A 21 b)), (3, .null), (0, .ref (A 0 0)), (1, vI (a)), (2, vI (b))]) dX9_share_11 (by decide) rfl ?_
      refine ev_aload_nN 1 rfl dX9_share_13 ?_
      refine ev_ifnullN (tgt := 40) dX9_share_14 (by decide) ?_
      refine ev_iconst dX9_share_40 ?_
      refine ev_ireturn dX9_share_41 ?_
      refine ⟨_, rfl, ?_, ?_⟩
      · simp only [sp_share]; (repeat' split) <;> first | rfl | omega
      · simp only [nx_share]; first | (rw [if_pos (by omega)]; exact hC) | (rw [if_neg (by omega)]; exact hC)
    · refine ev_astoreN (L' := [(4, .null), (3, .null), (0, .ref (A 0 0)), (1, vI (a)), (2, vI (b))]) dX9_share_11 (by decide) rfl ?_
      refine ev_aload_nN 1 rfl dX9_share_13 ?_
      refine ev_ifnullN (tgt := 40) dX9_share_14 (by decide) ?_
      refine ev_iconst dX9_share_40 ?_
      refine ev_ireturn dX9_share_41 ?_
      refine ⟨_, rfl, ?_, ?_⟩
      · simp only [sp_share]; (repeat' split) <;> first | rfl | omega
      · simp only [nx_share]; first | (rw [if_pos (by omega)]; exact hC) | (rw [if_neg (by omega)]; exact hC)

set_option maxHeartbeats 4000000 in
set_option maxRecDepth 100000 in
theorem k_mended {E : EV} {h : AH} {A : AD} {S : MS} {a w : Int} (hC : CR E A S h) (hI : Inv S) (g1 : InR a) (g2 : InR w) : CM E yX9_mended cX9_mended 12 (some .int) 2 0 0 [.ref (A 0 0), vI (a), vI (w)] h (qI (fun z h' => z = sp_mended S a w ∧ CR E A (S) h')) := by
  have hR := hC.2.2
  have hJ := hI
  obtain ⟨i1, i2, i3, i4, i5, i6, iSt, iSi, iWa, iSh, iLa, iS0, iS1, iZe⟩ := hJ
  refine CM.of (by decide) (Nat.le_of_ble_eq_true rfl) (L := [(0, .ref (A 0 0)), (1, vI (a)), (2, vI (w))]) rfl ?_
  refine ev_aload_n 0 rfl dX9_mended_0 ?_
  refine ev_iload_n 1 rfl dX9_mended_1 ?_
  refine c_X9_77 (k_stationAt (a := a) hC hI (by first | assumption | exact hR _ _ | decide | (simp only [InR]; omega))) hC.k0 rfl rfl (Nat.le_of_ble_eq_true rfl) (by decide) dX9_mended_2 (kN (fun b2 => ?_) (fun b2 => ?_))
  · refine ev_astore_n (L' := [(3, .ref (A 20 a)), (0, .ref (A 0 0)), (1, vI (a)), (2, vI (w))]) dX9_mended_5 (by decide) rfl ?_
    refine ev_aload_n 0 rfl dX9_mended_6 ?_
    refine ev_ifnull dX9_mended_7 ?_
    refine ev_iload_n 3 rfl dX9_mended_10 ?_
    refine ev_iconst dX9_mended_11 ?_
    refine ev_iconst dX9_mended_12 ?_
    refine c_X9_67 (k_isWithin E (v := w) (a := 0) (b := 1) (by first | assumption | exact hR _ _ | decide | (simp only [InR]; omega)) (by decide) (by decide)) rfl rfl (Nat.le_of_ble_eq_true rfl) (by decide) dX9_mended_13 (kB (fun b13 => ?_) (fun b13 => ?_))
    · refine ev_if_ne (tgt := 23) dX9_mended_16 (by decide) (by decide) (fun _ => ?_) (fun c => absurd c (by decide))
      have sta := iSt a (by omega) (by omega)
      refine ev_aload_n 0 rfl dX9_mended_23 ?_
      refine cg_X9_81 hC (by omega) dX9_mended_24 ?_
      refine ev_istore (L' := [(4, vI (S 5 a)), (3, .ref (A 20 a)), (0, .ref (A 0 0)), (1, vI (a)), (2, vI (w))]) dX9_mended_27 (by decide) rfl ?_
      refine ev_aload_n 1 rfl dX9_mended_29 ?_
      refine cg_X9_84 hC (by omega) dX9_mended_30 ?_
      refine ev_istore (L' := [(5, vI (S 6 a)), (4, vI (S 5 a)), (3, .ref (A 20 a)), (0, .ref (A 0 0)), (1, vI (a)), (2, vI (w))]) dX9_mended_33 (by decide) rfl ?_
      refine ev_iconst dX9_mended_35 ?_
      refine ev_istore (L' := [(6, vI (0)), (5, vI (S 6 a)), (4, vI (S 5 a)), (3, .ref (A 20 a)), (0, .ref (A 0 0)), (1, vI (a)), (2, vI (w))]) dX9_mended_36 (by decide) rfl ?_
      refine up_ind (P := fun i : Int => ∀ (lo : Int) (hi : Int), 0 ≤ i → lo = mLo S a i.toNat → hi = mHi S a i.toNat → ((-60 ≤ lo ∧ lo ≤ 3000) ∧ -3000 ≤ hi ∧ hi ≤ 60) → Ev E RX9 cX9_mended 12 (some .int) "mended" (qI (fun z h' => z = sp_mended S a w ∧ CR E A (S) h')) 2 0 0 38 [(6, vI (i)), (5, vI (hi)), (4, vI (lo)), (3, .ref (A 20 a)), (0, .ref (A 0 0)), (1, vI (a)), (2, vI (w))] [] h) (N := S 40 0) ?_ 0 (by omega) (S 5 a) (S 6 a) (by omega) (rfl) (rfl) (by omega)
      intro i ihi hiN lo hi pi hlo hhi hmb
      refine ev_iload 0 rfl dX9_mended_38 ?_
      refine ev_aload_n 4 rfl dX9_mended_40 ?_
      refine cg_X9_247 hC dX9_mended_41 ?_
      refine ev_icmp_ge (tgt := 206) dX9_mended_44 (by first | assumption | exact hR _ _ | decide | (simp only [InR]; omega)) (by first | assumption | exact hR _ _ | decide | (simp only [InR]; omega)) (by decide) (fun c44 => ?_) (fun c44 => ?_)
      · refine ev_iload 2 rfl dX9_mended_206 ?_
        refine ev_iload 1 rfl dX9_mended_208 ?_
        refine ev_icmp_le (tgt := 217) dX9_mended_210 (by first | assumption | exact hR _ _ | decide | (simp only [InR]; omega)) (by first | assumption | exact hR _ _ | decide | (simp only [InR]; omega)) (by decide) (fun c210 => ?_) (fun c210 => ?_)
        · refine ev_iload_n 6 rfl dX9_mended_217 ?_
          refine ev_if_ne (tgt := 226) dX9_mended_218 (by first | assumption | exact hR _ _ | decide | (simp only [InR]; omega)) (by decide) (fun c218 => ?_) (fun c218 => ?_)
          · refine ev_iload 1 rfl dX9_mended_226 ?_
            refine ev_ireturn dX9_mended_228 ?_
            refine ⟨_, rfl, ?_, hC⟩
            rw [show i = S 40 0 by omega] at hlo hhi
            simp only [sp_mended]; rw [if_neg (by omega), ← hlo, ← hhi]; (repeat' split) <;> first | rfl | omega
          · refine ev_iload 2 rfl dX9_mended_221 ?_
            refine ev_goto (tgt := 228) dX9_mended_223 (by decide) ?_
            refine ev_ireturn dX9_mended_228 ?_
            refine ⟨_, rfl, ?_, hC⟩
            rw [show i = S 40 0 by omega] at hlo hhi
            simp only [sp_mended]; rw [if_neg (by omega), ← hlo, ← hhi]; (repeat' split) <;> first | rfl | omega
        · refine ev_sipush dX9_mended_213 (by decide) ?_
          refine ev_ireturn dX9_mended_216 ?_
          refine ⟨_, rfl, ?_, hC⟩
          rw [show i = S 40 0 by omega] at hlo hhi
          simp only [sp_mended]; rw [if_neg (by omega), ← hlo, ← hhi]; (repeat' split) <;> first | rfl | omega
      · obtain ⟨sh1, sh2, sh3⟩ := iSh i (by omega) (by omega)
        have si1 := iSi _ sh1.1 sh1.2
        have si2 := iSi _ sh2.1 sh2.2
        have st1 := iSt _ si1.2.1.1 si1.2.1.2
        have st2 := iSt _ si2.2.1.1 si2.2.1.2
        refine ev_aload_n 4 rfl dX9_mended_47 ?_
        refine cg_X9_17 hC dX9_mended_48 ?_
        refine ev_aload_n 4 rfl dX9_mended_51 ?_
        refine cg_X9_27 hC dX9_mended_52 ?_
        refine ev_iload 0 rfl dX9_mended_55 ?_
        refine c_ld (k := 4) (s := 41) hC (by decide) rfl dX9_mended_57 (by omega) (by show _ < ((20 : Nat) : Int); omega) ?_
        refine c_aa2 hC dX9_mended_58 (by omega) (by omega) (by omega) ?_
        refine ev_astore (L' := [(7, .ref (A 21 (S 41 i))), (6, vI (i)), (5, vI (hi)), (4, vI (lo)), (3, .ref (A 20 a)), (0, .ref (A 0 0)), (1, vI (a)), (2, vI (w))]) dX9_mended_59 (by decide) rfl ?_
        refine ev_aload_n 5 rfl dX9_mended_61 ?_
        refine cg_X9_17 hC dX9_mended_62 ?_
        refine ev_aload_n 5 rfl dX9_mended_65 ?_
        refine cg_X9_31 hC dX9_mended_66 ?_
        refine ev_iload 1 rfl dX9_mended_69 ?_
        refine c_ld (k := 5) (s := 42) hC (by decide) rfl dX9_mended_71 (by omega) (by show _ < ((20 : Nat) : Int); omega) ?_
        refine c_aa2 hC dX9_mended_72 (by omega) (by omega) (by omega) ?_
        refine ev_astore (L' := [(8, .ref (A 21 (S 42 i))), (7, .ref (A 21 (S 41 i))), (6, vI (i)), (5, vI (hi)), (4, vI (lo)), (3, .ref (A 20 a)), (0, .ref (A 0 0)), (1, vI (a)), (2, vI (w))]) dX9_mended_73 (by decide) rfl ?_
        refine ev_aload 1 rfl dX9_mended_75 ?_
        refine cgR_X9_123 (i := S 41 i) (v := S 9 (S 41 i)) hC hI (by unfold SG; omega) rfl dX9_mended_77 ?_
        refine cg_X9_127 hC (by omega) dX9_mended_80 ?_
        refine ev_iload_n 7 rfl dX9_mended_83 ?_
        refine ev_icmp_eq (tgt := 99) dX9_mended_84 (by first | assumption | exact hR _ _ | decide | (simp only [InR]; omega)) (by first | assumption | exact hR _ _ | decide | (simp only [InR]; omega)) (by decide) (fun c84 => ?_) (fun c84 => ?_)
        · refine ev_aload 1 rfl dX9_mended_99 ?_
          refine cgR_X9_123 (i := S 41 i) (v := S 9 (S 41 i)) hC hI (by unfold SG; omega) rfl dX9_mended_101 ?_
          refine cg_X9_127 hC (by omega) dX9_mended_104 ?_
          refine ev_iload_n 7 rfl dX9_mended_107 ?_
          refine ev_icmp_ne (tgt := 115) dX9_mended_108 (by first | assumption | exact hR _ _ | decide | (simp only [InR]; omega)) (by first | assumption | exact hR _ _ | decide | (simp only [InR]; omega)) (by decide) (fun c108 => ?_) (fun c108 => ?_)
          · exact absurd c84 c108
          · refine ev_iconst dX9_mended_111 ?_
            refine ev_goto (tgt := 116) dX9_mended_112 (by decide) ?_
            refine ev_istore (L' := [(9, vI (1)), (8, .ref (A 21 (S 42 i))), (7, .ref (A 21 (S 41 i))), (6, vI (i)), (5, vI (hi)), (4, vI (lo)), (3, .ref (A 20 a)), (0, .ref (A 0 0)), (1, vI (a)), (2, vI (w))]) dX9_mended_116 (by decide) rfl ?_
            refine ev_iload 0 rfl dX9_mended_118 ?_
            refine ev_if_eq (tgt := 137) dX9_mended_120 (by decide) (by decide) (fun c => absurd c (by decide)) (fun _ => ?_)
            refine ev_aload 2 rfl dX9_mended_123 ?_
            refine cg_X9_133 hC hI (by unfold SG; omega) dX9_mended_125 ?_
            refine ev_aload 1 rfl dX9_mended_128 ?_
            refine cg_X9_133 hC hI (by unfold SG; omega) dX9_mended_130 ?_
            refine ev_isub dX9_mended_133 ?_
            refine ev_goto (tgt := 148) dX9_mended_134 (by decide) ?_
            refine ev_istore (L' := [(10, vI ((S 11 (S 41 i)) - (S 11 (S 42 i)))), (9, vI (1)), (8, .ref (A 21 (S 42 i))), (7, .ref (A 21 (S 41 i))), (6, vI (i)), (5, vI (hi)), (4, vI (lo)), (3, .ref (A 20 a)), (0, .ref (A 0 0)), (1, vI (a)), (2, vI (w))]) dX9_mended_148 (by decide) rfl ?_
            refine ev_iload 1 rfl dX9_mended_150 ?_
            refine ev_if_eq (tgt := 163) dX9_mended_152 (by decide) (by decide) (fun c => absurd c (by decide)) (fun _ => ?_)
            refine ev_aload 2 rfl dX9_mended_155 ?_
            refine cgR_X9_123 (i := S 42 i) (v := S 9 (S 42 i)) hC hI (by unfold SG; omega) rfl dX9_mended_157 ?_
            refine ev_goto (tgt := 168) dX9_mended_160 (by decide) ?_
            refine ev_astore (L' := [(11, .ref (A 20 (S 9 (S 42 i)))), (10, vI ((S 11 (S 41 i)) - (S 11 (S 42 i)))), (9, vI (1)), (8, .ref (A 21 (S 42 i))), (7, .ref (A 21 (S 41 i))), (6, vI (i)), (5, vI (hi)), (4, vI (lo)), (3, .ref (A 20 a)), (0, .ref (A 0 0)), (1, vI (a)), (2, vI (w))]) dX9_mended_168 (by decide) rfl ?_
            refine ev_iload 7 rfl dX9_mended_170 ?_
            refine ev_iload 1 rfl dX9_mended_172 ?_
            refine ev_aload 0 rfl dX9_mended_174 ?_
            refine cg_X9_81 hC (by omega) dX9_mended_176 ?_
            refine ev_iadd dX9_mended_179 ?_
            refine c_X9_250 (j_max E (a := lo) (b := ((S 11 (S 41 i)) - (S 11 (S 42 i))) + (S 5 (S 9 (S 42 i)))) (by first | assumption | exact hR _ _ | decide | (simp only [InR]; omega)) (by first | assumption | exact hR _ _ | decide | (simp only [InR]; omega))) rfl rfl (Nat.le_of_ble_eq_true rfl) (by decide) dX9_mended_180 (kP ?_)
            refine ev_istore (L' := [(4, vI (max lo (((S 11 (S 41 i)) - (S 11 (S 42 i))) + (S 5 (S 9 (S 42 i)))))), (11, .ref (A 20 (S 9 (S 42 i)))), (10, vI ((S 11 (S 41 i)) - (S 11 (S 42 i)))), (9, vI (1)), (8, .ref (A 21 (S 42 i))), (7, .ref (A 21 (S 41 i))), (6, vI (i)), (5, vI (hi)), (3, .ref (A 20 a)), (0, .ref (A 0 0)), (1, vI (a)), (2, vI (w))]) dX9_mended_183 (by decide) rfl ?_
            refine ev_iload 7 rfl dX9_mended_185 ?_
            refine ev_iload 2 rfl dX9_mended_187 ?_
            refine ev_aload 1 rfl dX9_mended_189 ?_
            refine cg_X9_84 hC (by omega) dX9_mended_191 ?_
            refine ev_iadd dX9_mended_194 ?_
            refine c_X9_255 (j_min E (a := hi) (b := ((S 11 (S 41 i)) - (S 11 (S 42 i))) + (S 6 (S 9 (S 42 i)))) (by first | assumption | exact hR _ _ | decide | (simp only [InR]; omega)) (by first | assumption | exact hR _ _ | decide | (simp only [InR]; omega))) rfl rfl (Nat.le_of_ble_eq_true rfl) (by decide) dX9_mended_195 (kP ?_)
            refine ev_istore (L' := [(5, vI (min hi (((S 11 (S 41 i)) - (S 11 (S 42 i))) + (S 6 (S 9 (S 42 i)))))), (4, vI (max lo (((S 11 (S 41 i)) - (S 11 (S 42 i))) + (S 5 (S 9 (S 42 i)))))), (11, .ref (A 20 (S 9 (S 42 i)))), (10, vI ((S 11 (S 41 i)) - (S 11 (S 42 i)))), (9, vI (1)), (8, .ref (A 21 (S 42 i))), (7, .ref (A 21 (S 41 i))), (6, vI (i)), (3, .ref (A 20 a)), (0, .ref (A 0 0)), (1, vI (a)), (2, vI (w))]) dX9_mended_198 (by decide) rfl ?_
            refine ev_iinc (L' := [(6, vI (i + 1)), (5, vI (min hi (((S 11 (S 41 i)) - (S 11 (S 42 i))) + (S 6 (S 9 (S 42 i)))))), (4, vI (max lo (((S 11 (S 41 i)) - (S 11 (S 42 i))) + (S 5 (S 9 (S 42 i)))))), (11, .ref (A 20 (S 9 (S 42 i)))), (10, vI ((S 11 (S 41 i)) - (S 11 (S 42 i)))), (9, vI (1)), (8, .ref (A 21 (S 42 i))), (7, .ref (A 21 (S 41 i))), (3, .ref (A 20 a)), (0, .ref (A 0 0)), (1, vI (a)), (2, vI (w))]) 7 rfl dX9_mended_200 (by decide) rfl ?_
            refine ev_goto (tgt := 38) dX9_mended_203 (by decide) ?_
            refine ev_pick (L' := [(6, vI (i + 1)), (5, vI (min hi (((S 11 (S 41 i)) - (S 11 (S 42 i))) + (S 6 (S 9 (S 42 i)))))), (4, vI (max lo (((S 11 (S 41 i)) - (S 11 (S 42 i))) + (S 5 (S 9 (S 42 i)))))), (3, .ref (A 20 a)), (0, .ref (A 0 0)), (1, vI (a)), (2, vI (w))]) [0, 1, 2, 8, 9, 10, 11] rfl ?_
            exact ihi (i + 1) (by omega) (by omega) (max lo (((S 11 (S 41 i)) - (S 11 (S 42 i))) + (S 5 (S 9 (S 42 i))))) (min hi (((S 11 (S 41 i)) - (S 11 (S 42 i))) + (S 6 (S 9 (S 42 i))))) (by omega) (by rw [show (i + 1).toNat = i.toNat + 1 by omega, mLo, Int.toNat_of_nonneg (show 0 ≤ i by omega), ← hlo]; unfold mA mB; simp only [if_pos (show S 9 (S 41 i) = a by omega)]; split <;> omega) (by rw [show (i + 1).toNat = i.toNat + 1 by omega, mHi, Int.toNat_of_nonneg (show 0 ≤ i by omega), ← hhi]; unfold mA mB; simp only [if_pos (show S 9 (S 41 i) = a by omega)]; split <;> omega) (by omega)
        · refine ev_aload 0 rfl dX9_mended_87 ?_
          refine cgR_X9_123 (i := S 42 i) (v := S 9 (S 42 i)) hC hI (by unfold SG; omega) rfl dX9_mended_89 ?_
          refine cg_X9_127 hC (by omega) dX9_mended_92 ?_
          refine ev_iload_n 7 rfl dX9_mended_95 ?_
          refine ev_icmp_ne (tgt := 200) dX9_mended_96 (by first | assumption | exact hR _ _ | decide | (simp only [InR]; omega)) (by first | assumption | exact hR _ _ | decide | (simp only [InR]; omega)) (by decide) (fun c96 => ?_) (fun c96 => ?_)
          · refine ev_iinc (L' := [(6, vI (i + 1)), (8, .ref (A 21 (S 42 i))), (7, .ref (A 21 (S 41 i))), (5, vI (hi)), (4, vI (lo)), (3, .ref (A 20 a)), (0, .ref (A 0 0)), (1, vI (a)), (2, vI (w))]) 2 rfl dX9_mended_200 (by decide) rfl ?_
            refine ev_goto (tgt := 38) dX9_mended_203 (by decide) ?_
            refine ev_pick (L' := [(6, vI (i + 1)), (5, vI (hi)), (4, vI (lo)), (3, .ref (A 20 a)), (0, .ref (A 0 0)), (1, vI (a)), (2, vI (w))]) [0, 3, 4, 5, 6, 7, 8] rfl ?_
            exact ihi (i + 1) (by omega) (by omega) lo hi (by omega) (by rw [show (i + 1).toNat = i.toNat + 1 by omega, mLo, Int.toNat_of_nonneg (show 0 ≤ i by omega), ← hlo]; unfold mA; simp only [if_neg (show ¬ S 9 (S 41 i) = a by omega), if_neg (show ¬ S 9 (S 42 i) = a by omega)]) (by rw [show (i + 1).toNat = i.toNat + 1 by omega, mHi, Int.toNat_of_nonneg (show 0 ≤ i by omega), ← hhi]; unfold mA; simp only [if_neg (show ¬ S 9 (S 41 i) = a by omega), if_neg (show ¬ S 9 (S 42 i) = a by omega)]) (by omega)
          · refine ev_aload 1 rfl dX9_mended_99 ?_
            refine cgR_X9_123 (i := S 41 i) (v := S 9 (S 41 i)) hC hI (by unfold SG; omega) rfl dX9_mended_101 ?_
            refine cg_X9_127 hC (by omega) dX9_mended_104 ?_
            refine ev_iload_n 7 rfl dX9_mended_107 ?_
            refine ev_icmp_ne (tgt := 115) dX9_mended_108 (by first | assumption | exact hR _ _ | decide | (simp only [InR]; omega)) (by first | assumption | exact hR _ _ | decide | (simp only [InR]; omega)) (by decide) (fun c108 => ?_) (fun c108 => ?_)
            · refine ev_iconst dX9_mended_115 ?_
              refine ev_istore (L' := [(9, vI (0)), (8, .ref (A 21 (S 42 i))), (7, .ref (A 21 (S 41 i))), (6, vI (i)), (5, vI (hi)), (4, vI (lo)), (3, .ref (A 20 a)), (0, .ref (A 0 0)), (1, vI (a)), (2, vI (w))]) dX9_mended_116 (by decide) rfl ?_
              refine ev_iload 0 rfl dX9_mended_118 ?_
              refine ev_if_eq (tgt := 137) dX9_mended_120 (by decide) (by decide) (fun _ => ?_) (fun c => absurd c (by decide))
              refine ev_aload 1 rfl dX9_mended_137 ?_
              refine cg_X9_133 hC hI (by unfold SG; omega) dX9_mended_139 ?_
              refine ev_aload 2 rfl dX9_mended_142 ?_
              refine cg_X9_133 hC hI (by unfold SG; omega) dX9_mended_144 ?_
              refine ev_isub dX9_mended_147 ?_
              refine ev_istore (L' := [(10, vI ((S 11 (S 42 i)) - (S 11 (S 41 i)))), (9, vI (0)), (8, .ref (A 21 (S 42 i))), (7, .ref (A 21 (S 41 i))), (6, vI (i)), (5, vI (hi)), (4, vI (lo)), (3, .ref (A 20 a)), (0, .ref (A 0 0)), (1, vI (a)), (2, vI (w))]) dX9_mended_148 (by decide) rfl ?_
              refine ev_iload 1 rfl dX9_mended_150 ?_
              refine ev_if_eq (tgt := 163) dX9_mended_152 (by decide) (by decide) (fun _ => ?_) (fun c => absurd c (by decide))
              refine ev_aload 3 rfl dX9_mended_163 ?_
              refine cgR_X9_123 (i := S 41 i) (v := S 9 (S 41 i)) hC hI (by unfold SG; omega) rfl dX9_mended_165 ?_
              refine ev_astore (L' := [(11, .ref (A 20 (S 9 (S 41 i)))), (10, vI ((S 11 (S 42 i)) - (S 11 (S 41 i)))), (9, vI (0)), (8, .ref (A 21 (S 42 i))), (7, .ref (A 21 (S 41 i))), (6, vI (i)), (5, vI (hi)), (4, vI (lo)), (3, .ref (A 20 a)), (0, .ref (A 0 0)), (1, vI (a)), (2, vI (w))]) dX9_mended_168 (by decide) rfl ?_
              refine ev_iload 7 rfl dX9_mended_170 ?_
              refine ev_iload 1 rfl dX9_mended_172 ?_
              refine ev_aload 0 rfl dX9_mended_174 ?_
              refine cg_X9_81 hC (by omega) dX9_mended_176 ?_
              refine ev_iadd dX9_mended_179 ?_
              refine c_X9_250 (j_max E (a := lo) (b := ((S 11 (S 42 i)) - (S 11 (S 41 i))) + (S 5 (S 9 (S 41 i)))) (by first | assumption | exact hR _ _ | decide | (simp only [InR]; omega)) (by first | assumption | exact hR _ _ | decide | (simp only [InR]; omega))) rfl rfl (Nat.le_of_ble_eq_true rfl) (by decide) dX9_mended_180 (kP ?_)
              refine ev_istore (L' := [(4, vI (max lo (((S 11 (S 42 i)) - (S 11 (S 41 i))) + (S 5 (S 9 (S 41 i)))))), (11, .ref (A 20 (S 9 (S 41 i)))), (10, vI ((S 11 (S 42 i)) - (S 11 (S 41 i)))), (9, vI (0)), (8, .ref (A 21 (S 42 i))), (7, .ref (A 21 (S 41 i))), (6, vI (i)), (5, vI (hi)), (3, .ref (A 20 a)), (0, .ref (A 0 0)), (1, vI (a)), (2, vI (w))]) dX9_mended_183 (by decide) rfl ?_
              refine ev_iload 7 rfl dX9_mended_185 ?_
              refine ev_iload 2 rfl dX9_mended_187 ?_
              refine ev_aload 1 rfl dX9_mended_189 ?_
              refine cg_X9_84 hC (by omega) dX9_mended_191 ?_
              refine ev_iadd dX9_mended_194 ?_
              refine c_X9_255 (j_min E (a := hi) (b := ((S 11 (S 42 i)) - (S 11 (S 41 i))) + (S 6 (S 9 (S 41 i)))) (by first | assumption | exact hR _ _ | decide | (simp only [InR]; omega)) (by first | assumption | exact hR _ _ | decide | (simp only [InR]; omega))) rfl rfl (Nat.le_of_ble_eq_true rfl) (by decide) dX9_mended_195 (kP ?_)
              refine ev_istore (L' := [(5, vI (min hi (((S 11 (S 42 i)) - (S 11 (S 41 i))) + (S 6 (S 9 (S 41 i)))))), (4, vI (max lo (((S 11 (S 42 i)) - (S 11 (S 41 i))) + (S 5 (S 9 (S 41 i)))))), (11, .ref (A 20 (S 9 (S 41 i)))), (10, vI ((S 11 (S 42 i)) - (S 11 (S 41 i)))), (9, vI (0)), (8, .ref (A 21 (S 42 i))), (7, .ref (A 21 (S 41 i))), (6, vI (i)), (3, .ref (A 20 a)), (0, .ref (A 0 0)), (1, vI (a)), (2, vI (w))]) dX9_mended_198 (by decide) rfl ?_
              refine ev_iinc (L' := [(6, vI (i + 1)), (5, vI (min hi (((S 11 (S 42 i)) - (S 11 (S 41 i))) + (S 6 (S 9 (S 41 i)))))), (4, vI (max lo (((S 11 (S 42 i)) - (S 11 (S 41 i))) + (S 5 (S 9 (S 41 i)))))), (11, .ref (A 20 (S 9 (S 41 i)))), (10, vI ((S 11 (S 42 i)) - (S 11 (S 41 i)))), (9, vI (0)), (8, .ref (A 21 (S 42 i))), (7, .ref (A 21 (S 41 i))), (3, .ref (A 20 a)), (0, .ref (A 0 0)), (1, vI (a)), (2, vI (w))]) 7 rfl dX9_mended_200 (by decide) rfl ?_
              refine ev_goto (tgt := 38) dX9_mended_203 (by decide) ?_
              refine ev_pick (L' := [(6, vI (i + 1)), (5, vI (min hi (((S 11 (S 42 i)) - (S 11 (S 41 i))) + (S 6 (S 9 (S 41 i)))))), (4, vI (max lo (((S 11 (S 42 i)) - (S 11 (S 41 i))) + (S 5 (S 9 (S 41 i)))))), (3, .ref (A 20 a)), (0, .ref (A 0 0)), (1, vI (a)), (2, vI (w))]) [0, 1, 2, 8, 9, 10, 11] rfl ?_
              exact ihi (i + 1) (by omega) (by omega) (max lo (((S 11 (S 42 i)) - (S 11 (S 41 i))) + (S 5 (S 9 (S 41 i))))) (min hi (((S 11 (S 42 i)) - (S 11 (S 41 i))) + (S 6 (S 9 (S 41 i))))) (by omega) (by rw [show (i + 1).toNat = i.toNat + 1 by omega, mLo, Int.toNat_of_nonneg (show 0 ≤ i by omega), ← hlo]; unfold mA mB; simp only [if_neg (show ¬ S 9 (S 41 i) = a by omega), if_pos (show S 9 (S 42 i) = a by omega)]; split <;> omega) (by rw [show (i + 1).toNat = i.toNat + 1 by omega, mHi, Int.toNat_of_nonneg (show 0 ≤ i by omega), ← hhi]; unfold mA mB; simp only [if_neg (show ¬ S 9 (S 41 i) = a by omega), if_pos (show S 9 (S 42 i) = a by omega)]; split <;> omega) (by omega)
            · exact absurd (show S 9 (S 41 i) = a by omega) c84
    · refine ev_if_ne (tgt := 23) dX9_mended_16 (by decide) (by decide) (fun c => absurd c (by decide)) (fun _ => ?_)
      refine ev_sipush dX9_mended_19 (by decide) ?_
      refine ev_ireturn dX9_mended_22 ?_
      refine ⟨_, rfl, ?_, hC⟩
      simp only [sp_mended]; rw [if_pos (by omega)]
  · refine ev_astore_nN (L' := [(3, .null), (0, .ref (A 0 0)), (1, vI (a)), (2, vI (w))]) dX9_mended_5 (by decide) rfl ?_
    refine ev_aload_nN 0 rfl dX9_mended_6 ?_
    refine ev_ifnullN (tgt := 19) dX9_mended_7 (by decide) ?_
    refine ev_sipush dX9_mended_19 (by decide) ?_
    refine ev_ireturn dX9_mended_22 ?_
    refine ⟨_, rfl, ?_, hC⟩
    simp only [sp_mended]; rw [if_pos (by omega)]

set_option maxHeartbeats 4000000 in
set_option maxRecDepth 100000 in
theorem k_count {E : EV} {h : AH} {A : AD} {S : MS} {w : Int} (hC : CR E A S h) (hI : Inv S) (hN : CInv S) (g1 : InR w) : CM E yX9_count cX9_count 2 (some .int) 0 0 0 [.ref (A 0 0), vI (w)] h (qI (fun z h' => z = sp_count5 S w (nightsZ S) ∧ CR E A S h')) := by
  have hR := hC.2.2
  have hJ := hI
  obtain ⟨i1, i2, i3, i4, i5, i6, iSt, iSi, iWa, iSh, iLa, iS0, iS1, iZe⟩ := hJ
  refine CM.of (by decide) (Nat.le_of_ble_eq_true rfl) (L := [(0, .ref (A 0 0)), (1, vI (w))]) rfl ?_
  refine ev_iload_n 1 rfl dX9_count_0 ?_
  rcases (show (w < 0 ∨ 4 < w) ∨ w = 0 ∨ w = 1 ∨ w = 2 ∨ w = 3 ∨ w = 4 by omega) with q | q | q | q | q | q
  · refine ev_tableOut (tgt := 61) dX9_count_1 (by first | assumption | exact hR _ _ | decide | (simp only [InR]; omega)) q (by decide) ?_
    refine ev_iconst dX9_count_61 ?_
    refine ev_ireturn dX9_count_62 ?_
    refine ⟨_, rfl, ?_, hC⟩
    unfold sp_count5; rw [nights_c hN]; first | rfl | ((repeat' split) <;> first | rfl | omega)
  · subst q
    refine ev_tableIn (tgt := 36) (off := 35) dX9_count_1 (by decide) (by decide) (by decide) (by decide) (by decide) ?_
    refine ev_aload_n 0 rfl dX9_count_36 ?_
    refine cg_X9_71 hC dX9_count_37 ?_
    refine ev_ireturn dX9_count_40 ?_
    refine ⟨_, rfl, ?_, hC⟩
    unfold sp_count5; rw [nights_c hN]; first | rfl | ((repeat' split) <;> first | rfl | omega)
  · subst q
    refine ev_tableIn (tgt := 41) (off := 40) dX9_count_1 (by decide) (by decide) (by decide) (by decide) (by decide) ?_
    refine ev_aload_n 0 rfl dX9_count_41 ?_
    refine cg_X9_91 hC dX9_count_42 ?_
    refine ev_ireturn dX9_count_45 ?_
    refine ⟨_, rfl, ?_, hC⟩
    unfold sp_count5; rw [nights_c hN]; first | rfl | ((repeat' split) <;> first | rfl | omega)
  · subst q
    refine ev_tableIn (tgt := 46) (off := 45) dX9_count_1 (by decide) (by decide) (by decide) (by decide) (by decide) ?_
    refine ev_aload_n 0 rfl dX9_count_46 ?_
    refine cg_X9_219 hC dX9_count_47 ?_
    refine ev_ireturn dX9_count_50 ?_
    refine ⟨_, rfl, ?_, hC⟩
    unfold sp_count5; rw [nights_c hN]; first | rfl | ((repeat' split) <;> first | rfl | omega)
  · subst q
    refine ev_tableIn (tgt := 51) (off := 50) dX9_count_1 (by decide) (by decide) (by decide) (by decide) (by decide) ?_
    refine ev_aload_n 0 rfl dX9_count_51 ?_
    refine cg_X9_247 hC dX9_count_52 ?_
    refine ev_ireturn dX9_count_55 ?_
    refine ⟨_, rfl, ?_, hC⟩
    unfold sp_count5; rw [nights_c hN]; first | rfl | ((repeat' split) <;> first | rfl | omega)
  · subst q
    refine ev_tableIn (tgt := 56) (off := 55) dX9_count_1 (by decide) (by decide) (by decide) (by decide) (by decide) ?_
    refine ev_aload_n 0 rfl dX9_count_56 ?_
    refine cg_X9_240 hC dX9_count_57 ?_
    refine ev_ireturn dX9_count_60 ?_
    refine ⟨_, rfl, ?_, hC⟩
    unfold sp_count5; rw [nights_c hN]; first | rfl | ((repeat' split) <;> first | rfl | omega)

