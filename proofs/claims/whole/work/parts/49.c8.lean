theorem selL_le {S : MS} {n : Int} (i : Nat) : len0 (selL S n i) ≤ len0 (selL S n (i + 1)) := by
  rw [selL]
  split
  · rw [len0_app]
    omega
  · exact Int.le_refl _
theorem selL_mono {S : MS} {n : Int} {i j : Nat} (h : i ≤ j) : len0 (selL S n i) ≤ len0 (selL S n j) := by
  induction j with
  | zero =>
    rw [show i = 0 by omega]
    exact Int.le_refl _
  | succ j ih =>
    by_cases e : i = j + 1
    · rw [e]
      exact Int.le_refl _
    · exact Int.le_trans (ih (by omega)) (selL_le j)
/-- what has been gathered of a NIGHT before SIGHTING k -/
def GaI (S S1 : MS) (n k : Int) : Prop := S1 56 0 = len0 (selL S n k.toNat) ∧ len0 (selL S n k.toNat) ≤ 10 ∧ ∀ j, 0 ≤ j → j < len0 (selL S n k.toNat) → S1 51 j = at0 (selL S n k.toNat) j ∧ S1 68 j = at0 (selL S n k.toNat) j
theorem ga_step {S S1 S2 S3 S4 : MS} {n k : Int} (hk : 0 ≤ k) (hs : SelP S n k) (h : GaI S S1 n k) (h10 : S1 56 0 < 10) (e2 : S2 = upS S1 68 (S1 56 0) k) (e3 : S3 = upS S2 51 (S1 56 0) k) (e4 : S4 = upS S3 56 0 (S1 56 0 + 1)) : GaI S S4 n (k + 1) := by
  obtain ⟨hl, hl10, hj⟩ := h
  unfold GaI
  rw [selL_s hk, if_pos hs, len0_app]
  refine ⟨by rw [e4, upS_at, hl], by omega, fun j h1 h2 => ?_⟩
  have a51 : S4 51 = updZ (S1 51) (S1 56 0) k := by rw [e4, upS_ne (by decide), e3, upS_k, e2, upS_ne (by decide)]
  have a68 : S4 68 = updZ (S1 68) (S1 56 0) k := by rw [e4, upS_ne (by decide), e3, upS_ne (by decide), e2, upS_k]
  rw [a51, a68]
  unfold updZ
  by_cases e : j = len0 (selL S n k.toNat)
  · rw [if_pos (by omega), if_pos (by omega), e, at0_last]
    exact ⟨rfl, rfl⟩
  · rw [if_neg (by omega), if_neg (by omega), at0_old h1 (by omega)]
    exact hj j h1 (by omega)
theorem ga_same {S S1 : MS} {n k : Int} (hk : 0 ≤ k) (hs : ¬ SelP S n k) (h : GaI S S1 n k) : GaI S S1 n (k + 1) := by
  unfold GaI
  rw [selL_s hk, if_neg hs]
  exact h

set_option maxHeartbeats 4000000 in
set_option maxRecDepth 100000 in
theorem k_gather {E : EV} {h : AH} {A : AD} {S : MS} {n : Int} (hC : CR E A S h) (hI : Inv S) (hJ : ∀ j, S 68 j < S 7 0) (g1 : InR n) : CM E yX6_gather cX6_gather 7 (some .boolean) 0 0 0 [.ref (A 11 0), .ref (A 2 0), vI (S 7 0), vI (n)] h (qI (fun z h' => ∃ S', CR E A S' h' ∧ eqx [51, 56, 68] S S' ∧ (∀ j, S' 68 j < S 7 0) ∧ ((z = 0 ∧ 10 < len0 (nightL S n)) ∨ (z = 1 ∧ GaI S S' n (S 7 0))))) := by
  have hR := hC.2.2
  have hJ := hI
  obtain ⟨i1, i2, i3, i4, i5, i6, iSt, iSi, iWa, iSh, iLa, iS0, iS1, iZe⟩ := hJ
  refine CM.of (by decide) (Nat.le_of_ble_eq_true rfl) (L := [(0, .ref (A 11 0)), (1, .ref (A 2 0)), (2, vI (S 7 0)), (3, vI (n))]) rfl ?_
  refine ev_aload_n 0 rfl dX6_gather_0 ?_
  refine ev_iconst dX6_gather_1 ?_
  refine cp_X6_40 hC (by decide) dX6_gather_2 (fun S1 h2 eS3 hC4 => ?_)
  have hRS1 := hC4.2.2
  have hxS1 : eqx scc S S1 := by rw [eS3]; exact (eqx.rf (l := scc) (S := S)).up (by decide)
  have hIS1 := Inv.xc hI hxS1
  refine ev_iconst dX6_gather_5 ?_
  refine ev_istore (L' := [(4, vI (0)), (0, .ref (A 11 0)), (1, .ref (A 2 0)), (2, vI (S 7 0)), (3, vI (n))]) dX6_gather_6 (by decide) rfl ?_
  refine up_ind (P := fun i : Int => ∀ (S5 : MS) (h6 : AH), 0 ≤ i → CR E A S5 h6 → eqx [51, 56, 68] S1 S5 → (∀ j, S5 68 j < S 7 0) → GaI S S5 n i → Ev E RX6 cX6_gather 7 (some .boolean) "gather" (qI (fun z h' => ∃ S', CR E A S' h' ∧ eqx [51, 56, 68] S S' ∧ (∀ j, S' 68 j < S 7 0) ∧ ((z = 0 ∧ 10 < len0 (nightL S n)) ∨ (z = 1 ∧ GaI S S' n (S 7 0))))) 0 0 0 8 [(4, vI (i)), (0, .ref (A 11 0)), (1, .ref (A 2 0)), (2, vI (S 7 0)), (3, vI (n))] [] h6) (N := S 7 0) ?_ 0 (by omega)  S1 h2 (by omega) hC4 eqx.rf (fun j => by rw [eS3, upS_ne (by decide)]; exact hJ j) (⟨by rw [eS3, upS_at]; rfl, by have : len0 (selL S n (0 : Int).toNat) = 0 := rfl; omega, fun j h1 h2 => absurd h2 (by have : len0 (selL S n (0 : Int).toNat) = 0 := rfl; omega)⟩)
  intro i ihi hiN S5 h6 pi hM7 hx8 h68 hga
  have hRS5 := hM7.2.2
  have hxS5 : eqx scc S S5 := (hxS1).tr hx8 (by decide) (by decide)
  have hIS5 := Inv.xc hI hxS5
  have hga10 := hga.2.1
  have hga1 := hga.1
  have ln0 := len0_nn (selL S n i.toNat)
  refine ev_iload 0 rfl dX6_gather_8 ?_
  refine ev_iload_n 3 rfl dX6_gather_10 ?_
  refine ev_icmp_ge (tgt := 93) dX6_gather_11 (by first | assumption | exact hR _ _ | exact hRS1 _ _ | exact hRS5 _ _ | decide | (simp only [InR]; omega)) (by first | assumption | exact hR _ _ | exact hRS1 _ _ | exact hRS5 _ _ | decide | (simp only [InR]; omega)) (by decide) (fun c11 => ?_) (fun c11 => ?_)
  · refine ev_iconst dX6_gather_93 ?_
    refine ev_zreturn (by decide) dX6_gather_94 ?_
    exact ⟨_, rfl, S5, hM7, (eqx.tr (l := [51, 56, 68]) (show eqx [51, 56, 68] S S1 from by rw [eS3]; exact (eqx.rf (l := [51, 56, 68]) (S := S)).up (by decide)) hx8 (by decide) (by decide)), h68, Or.inr ⟨rfl, by rw [show S 7 0 = i by omega]; exact hga⟩⟩
  · have si := iSi i (by omega) (by omega)
    refine ev_aload_n 2 rfl dX6_gather_14 ?_
    refine ev_iload 0 rfl dX6_gather_15 ?_
    refine c_aa2 hM7 dX6_gather_17 (by omega) (by omega) (by rw [hx8 7 (by decide), eS3, upS_ne (by decide)]; omega) ?_
    refine ev_astore (L' := [(6, .ref (A 21 i)), (4, vI (i)), (0, .ref (A 11 0)), (1, .ref (A 2 0)), (2, vI (S 7 0)), (3, vI (n))]) dX6_gather_18 (by decide) rfl ?_
    refine ev_aload 0 rfl dX6_gather_20 ?_
    refine cio_X6_17 (i := i) hM7 hIS5 (by unfold SG; rw [hx8 7 (by decide), eS3, upS_ne (by decide)]; omega) dX6_gather_22 (fun c22 => ?_) (fun c22 => ?_)
    · rw [hx8 8 (by decide), eS3, upS_ne (by decide)] at c22
      refine ev_if_eq (tgt := 87) dX6_gather_25 (by decide) (by decide) (fun c => absurd c (by decide)) (fun _ => ?_)
      refine ev_aload 0 rfl dX6_gather_28 ?_
      refine ccs_X6_17 (i := i) hM7 hIS5 (by unfold SG; rw [hx8 7 (by decide), eS3, upS_ne (by decide)]; omega) (by rw [hx8 8 (by decide), eS3, upS_ne (by decide)]; first | assumption | omega) dX6_gather_30 ?_
      refine ev_astore (L' := [(5, .ref (A 21 i)), (6, .ref (A 21 i)), (4, vI (i)), (0, .ref (A 11 0)), (1, .ref (A 2 0)), (2, vI (S 7 0)), (3, vI (n))]) dX6_gather_33 (by decide) rfl ?_
      refine ev_aload 0 rfl dX6_gather_35 ?_
      refine cgE_X6_44 (v := S 10 i) hM7 hIS5 (by unfold SG; rw [hx8 7 (by decide), eS3, upS_ne (by decide)]; omega) (by rw [hx8 8 (by decide), eS3, upS_ne (by decide)]; first | assumption | omega) (by rw [hx8 10 (by decide), eS3, upS_ne (by decide)]) dX6_gather_37 ?_
      refine ev_iload_n 6 rfl dX6_gather_40 ?_
      refine ev_icmp_ne (tgt := 87) dX6_gather_41 (by first | assumption | exact hR _ _ | exact hRS1 _ _ | exact hRS5 _ _ | decide | (simp only [InR]; omega)) (by first | assumption | exact hR _ _ | exact hRS1 _ _ | exact hRS5 _ _ | decide | (simp only [InR]; omega)) (by decide) (fun c41 => ?_) (fun c41 => ?_)
      · refine ev_iinc (L' := [(4, vI (i + 1)), (5, .ref (A 21 i)), (6, .ref (A 21 i)), (0, .ref (A 11 0)), (1, .ref (A 2 0)), (2, vI (S 7 0)), (3, vI (n))]) 2 rfl dX6_gather_87 (by decide) rfl ?_
        refine ev_goto (tgt := 8) dX6_gather_90 (by decide) ?_
        refine ev_pick (L' := [(4, vI (i + 1)), (0, .ref (A 11 0)), (1, .ref (A 2 0)), (2, vI (S 7 0)), (3, vI (n))]) [0, 3, 4, 5, 6] rfl ?_
        exact ihi (i + 1) (by omega) (by omega) S5 h6 (by omega) hM7 hx8 (h68) (ga_same (by omega) (by unfold SelP; omega) hga)
      · refine ev_aload_n 3 rfl dX6_gather_44 ?_
        refine cg_X6_40 hM7 dX6_gather_45 ?_
        refine ev_bipush dX6_gather_48 (by decide) ?_
        refine ev_icmp_lt (tgt := 55) dX6_gather_50 (by first | assumption | exact hR _ _ | exact hRS1 _ _ | exact hRS5 _ _ | decide | (simp only [InR]; omega)) (by decide) (by decide) (fun c50 => ?_) (fun c50 => ?_)
        · refine ev_aload_n 3 rfl dX6_gather_55 ?_
          refine cg_X6_19 hM7 dX6_gather_56 ?_
          refine ev_aload_n 3 rfl dX6_gather_59 ?_
          refine cg_X6_40 hM7 dX6_gather_60 ?_
          refine ev_aload 0 rfl dX6_gather_63 ?_
          refine c_as13 (v := i) hM7 hIS5 (by unfold SG; rw [hx8 7 (by decide), eS3, upS_ne (by decide)]; omega) (by rw [hx8 8 (by decide), eS3, upS_ne (by decide)]; first | assumption | omega) (by first | assumption | exact hR _ _ | exact hRS1 _ _ | exact hRS5 _ _ | decide | (simp only [InR]; omega)) dX6_gather_65 (by omega) (by omega) (fun S9 h10 eS11 hC12 => ?_)
          have hRS9 := hC12.2.2
          have hxS9 : eqx scc S S9 := by rw [eS11]; exact (hxS5).up (by decide)
          have hIS9 := Inv.xc hI hxS9
          refine ev_aload_n 3 rfl dX6_gather_66 ?_
          refine cg_X6_23 hC12 dX6_gather_67 ?_
          refine ev_aload_n 3 rfl dX6_gather_70 ?_
          refine cgE_X6_40 (v := S5 56 0) hC12 (by rw [eS11, upS_ne (by decide)]) dX6_gather_71 ?_
          refine ev_iload 2 rfl dX6_gather_74 ?_
          refine c_st (k := 14) (s := 51) hC12 (by decide) rfl (by decide) dX6_gather_76 (by omega) (by show _ < ((10 : Nat) : Int); omega) (by first | assumption | exact hR _ _ | exact hRS1 _ _ | exact hRS5 _ _ | exact hRS9 _ _ | decide | (simp only [InR]; omega)) (fun S13 h14 eS15 hC16 => ?_)
          have hRS13 := hC16.2.2
          have hxS13 : eqx scc S S13 := by rw [eS15]; exact (hxS9).up (by decide)
          have hIS13 := Inv.xc hI hxS13
          refine ev_aload_n 3 rfl dX6_gather_77 ?_
          refine ev_dup dX6_gather_78 rfl ?_
          refine cgE_X6_40 (v := S5 56 0) hC16 (by rw [eS15, upS_ne (by decide), eS11, upS_ne (by decide)]) dX6_gather_79 ?_
          refine ev_iconst dX6_gather_82 ?_
          refine ev_iadd dX6_gather_83 ?_
          refine cp_X6_40 hC16 (by first | assumption | exact hR _ _ | exact hRS1 _ _ | exact hRS5 _ _ | exact hRS9 _ _ | exact hRS13 _ _ | decide | (simp only [InR]; omega)) dX6_gather_84 (fun S17 h18 eS19 hC20 => ?_)
          have hRS17 := hC20.2.2
          have hxS17 : eqx scc S S17 := by rw [eS19]; exact (hxS13).up (by decide)
          have hIS17 := Inv.xc hI hxS17
          refine ev_iinc (L' := [(4, vI (i + 1)), (5, .ref (A 21 i)), (6, .ref (A 21 i)), (0, .ref (A 11 0)), (1, .ref (A 2 0)), (2, vI (S 7 0)), (3, vI (n))]) 2 rfl dX6_gather_87 (by decide) rfl ?_
          refine ev_goto (tgt := 8) dX6_gather_90 (by decide) ?_
          refine ev_pick (L' := [(4, vI (i + 1)), (0, .ref (A 11 0)), (1, .ref (A 2 0)), (2, vI (S 7 0)), (3, vI (n))]) [0, 3, 4, 5, 6] rfl ?_
          exact ihi (i + 1) (by omega) (by omega) S17 h18 (by omega) hC20 (by rw [eS19]; exact eqx.up (l := [51, 56, 68]) (by rw [eS15]; exact eqx.up (l := [51, 56, 68]) (by rw [eS11]; exact eqx.up (l := [51, 56, 68]) hx8 (by decide)) (by decide)) (by decide)) (fun j => by rw [eS19, upS_ne (by decide), eS15, upS_ne (by decide), eS11, upS_k]; unfold updZ; split; omega; exact h68 j) (ga_step (by omega) (by unfold SelP; omega) hga (by omega) eS11 eS15 eS19)
        · refine ev_iconst dX6_gather_53 ?_
          refine ev_zreturn (by decide) dX6_gather_54 ?_
          have h11 : len0 (selL S n (i + 1).toNat) = len0 (selL S n i.toNat) + 1 := by rw [selL_s (by omega), if_pos (by unfold SelP; omega), len0_app]
          have hmo := selL_mono (S := S) (n := n) (show (i + 1).toNat ≤ (S 7 0).toNat by omega)
          have hga1 := hga.1
          exact ⟨_, rfl, S5, hM7, (eqx.tr (l := [51, 56, 68]) (show eqx [51, 56, 68] S S1 from by rw [eS3]; exact (eqx.rf (l := [51, 56, 68]) (S := S)).up (by decide)) hx8 (by decide) (by decide)), h68, Or.inl ⟨rfl, by unfold nightL; omega⟩⟩
    · rw [hx8 8 (by decide), eS3, upS_ne (by decide)] at c22
      refine ev_if_eq (tgt := 87) dX6_gather_25 (by decide) (by decide) (fun _ => ?_) (fun c => absurd c (by decide))
      refine ev_iinc (L' := [(4, vI (i + 1)), (6, .ref (A 21 i)), (0, .ref (A 11 0)), (1, .ref (A 2 0)), (2, vI (S 7 0)), (3, vI (n))]) 1 rfl dX6_gather_87 (by decide) rfl ?_
      refine ev_goto (tgt := 8) dX6_gather_90 (by decide) ?_
      refine ev_pick (L' := [(4, vI (i + 1)), (0, .ref (A 11 0)), (1, .ref (A 2 0)), (2, vI (S 7 0)), (3, vI (n))]) [0, 2, 3, 4, 5] rfl ?_
      exact ihi (i + 1) (by omega) (by omega) S5 h6 (by omega) hM7 hx8 (h68) (ga_same (by omega) (by unfold SelP; omega) hga)

/-- the bits of those ahead of j that it meets, below b -/
def MtP (S : MS) (l : List Int) (b j x : Int) : Prop := (0 ≤ x ∧ x < 1024) ∧ ∀ u, 0 ≤ u → tb x u = (decide (u < b) && decide (u < j) && MM S l j u)
theorem Mt_0 {S : MS} {l : List Int} {j : Int} : MtP S l 0 j 0 := ⟨by decide, fun u hu => by rw [tb_0, decide_eq_false (show ¬ u < 0 by omega)]; rfl⟩
theorem Mt_lift {S : MS} {l : List Int} {b j x : Int} (h : MtP S l b j x) (hj : j ≤ b ∨ MM S l j b = false) : MtP S l (b + 1) j x := by
  refine ⟨h.1, fun u hu => ?_⟩
  rw [h.2 u hu]
  by_cases e : u = b
  · subst e
    rw [decide_eq_false (show ¬ u < u by omega), decide_eq_true (show u < u + 1 by omega)]
    rcases hj with q | q
    · rw [decide_eq_false (show ¬ u < j by omega)]
      rfl
    · rw [q]
      simp
  · by_cases e2 : u < b
    · rw [decide_eq_true e2, decide_eq_true (show u < b + 1 by omega)]
    · rw [decide_eq_false e2, decide_eq_false (show ¬ u < b + 1 by omega)]
theorem Mt_set {S : MS} {l : List Int} {b j x : Int} (h : MtP S l b j x) (b0 : 0 ≤ b) (b1 : b < 10) (hj : b < j) (hM : MM S l j b = true) : MtP S l (b + 1) j (orZ x (shlZ 1 b)) := by
  obtain ⟨h1, h2⟩ := orZ_b h.1.1 h.1.2 b0 b1
  refine ⟨h1, fun u hu => ?_⟩
  rw [h2 u hu, h.2 u hu]
  by_cases e : u = b
  · subst e
    rw [decide_eq_true (show u < u + 1 by omega), decide_eq_true (show u = u by rfl), decide_eq_true hj, hM]
    simp
  · rw [decide_eq_false e, Bool.or_false]
    by_cases e2 : u < b
    · rw [decide_eq_true e2, decide_eq_true (show u < b + 1 by omega)]
    · rw [decide_eq_false e2, decide_eq_false (show ¬ u < b + 1 by omega)]
/-- the sky's list is l: its numbers, its arcs -/
def SkL (S : MS) (l : List Int) (N : Int) : Prop := S 56 0 = N ∧ (0 ≤ N ∧ N ≤ 10) ∧ ∀ j, 0 ≤ j → j < N → (S 51 j = at0 l j ∧ S 68 j = at0 l j) ∧ SG S (at0 l j) ∧ S 8 (at0 l j) ≠ 0
theorem SkL.x {l0 : List Nat} {S S' : MS} {l : List Int} {N : Int} (h : SkL S l N) (hx : eqx l0 S S') (h7 : 7 ∉ l0) (h8 : 8 ∉ l0) (h51 : 51 ∉ l0) (h56 : 56 ∉ l0) (h68 : 68 ∉ l0) : SkL S' l N := by
  unfold SkL SG at h ⊢
  rw [hx 7 h7, hx 8 h8, hx 51 h51, hx 56 h56, hx 68 h68]
  exact h
theorem MeP_xc {S S' : MS} {a b : Int} (hx : eqx scc S S') : MeP S' a b ↔ MeP S a b := by unfold MeP; rw [CrP_xc hx, frZ_xc hx, laZ_xc hx, frZ_xc hx, laZ_xc hx, hx 10 (by decide)]
theorem MM_xc {S S' : MS} {l : List Int} (hx : eqx scc S S') : MM S' l = MM S l := by
  funext i j
  unfold MM
  rw [show (MeP S' (at0 l i) (at0 l j)) = (MeP S (at0 l i) (at0 l j)) from propext (MeP_xc hx)]

set_option maxHeartbeats 4000000 in
set_option maxRecDepth 100000 in
theorem k_findMeetings {E : EV} {h : AH} {A : AD} {S : MS} {l : List Int} {N th : Int} (hC : CR E A S h) (hI : Inv S) (hK : SkL S l N) (hth : th = S 16 0) : CM E yX6_findMeetings cX6_findMeetings 5 none 5 0 0 [.ref (A 11 0), .ref (A 9 0), vI (th)] h (qV (fun h' => ∃ S', CR E A S' h' ∧ eqx [50, 52] S S' ∧ ∀ v, 0 ≤ v → v < N → MtP S l v v (S' 52 v))) := by
  have hR := hC.2.2
  have hJ := hI
  obtain ⟨i1, i2, i3, i4, i5, i6, iSt, iSi, iWa, iSh, iLa, iS0, iS1, iZe⟩ := hJ
  obtain ⟨k1, k2, k3⟩ := hK
  refine CM.of (by decide) (Nat.le_of_ble_eq_true rfl) (L := [(0, .ref (A 11 0)), (1, .ref (A 9 0)), (2, vI (th))]) rfl ?_
  refine ev_iconst dX6_findMeetings_0 ?_
  refine ev_istore_n (L' := [(3, vI (0)), (0, .ref (A 11 0)), (1, .ref (A 9 0)), (2, vI (th))]) dX6_findMeetings_1 (by decide) rfl ?_
  refine up_ind (P := fun i : Int => ∀ (S1 : MS) (h2 : AH), 0 ≤ i → CR E A S1 h2 → eqx [52] S S1 → (∀ v : Int, 0 ≤ v → v < i → S1 52 v = 0) → Ev E RX6 cX6_findMeetings 5 none "findMeetings" (qV (fun h' => ∃ S', CR E A S' h' ∧ eqx [50, 52] S S' ∧ ∀ v, 0 ≤ v → v < N → MtP S l v v (S' 52 v))) 5 0 0 2 [(3, vI (i)), (0, .ref (A 11 0)), (1, .ref (A 9 0)), (2, vI (th))] [] h2) (N := N) ?_ 0 (by omega)  S h (by omega) hC eqx.rf (fun v v0 v1 => absurd v0 (by omega))
  intro i ihi hiN S1 h2 pi hM3 hx4 hz
  have hRS1 := hM3.2.2
  have hxS1 : eqx scc S S1 := (eqx.rf (l := scc) (S := S)).tr hx4 (by decide) (by decide)
  have hIS1 := Inv.xc hI hxS1
  refine ev_iload_n 0 rfl dX6_findMeetings_2 ?_
  refine ev_aload_n 1 rfl dX6_findMeetings_3 ?_
  refine cgE_X6_40 (v := N) hM3 (by rw [hx4 56 (by decide), k1]) dX6_findMeetings_4 ?_
  refine ev_icmp_ge (tgt := 23) dX6_findMeetings_7 (by first | assumption | exact hR _ _ | exact hRS1 _ _ | decide | (simp only [InR]; omega)) (by first | assumption | exact hR _ _ | exact hRS1 _ _ | decide | (simp only [InR]; omega)) (by decide) (fun c7 => ?_) (fun c7 => ?_)
  · refine ev_iconst dX6_findMeetings_23 ?_
    refine ev_istore_n (L' := [(3, vI (0)), (0, .ref (A 11 0)), (1, .ref (A 9 0)), (2, vI (th))]) dX6_findMeetings_24 (by decide) rfl ?_
    refine up_ind (P := fun i : Int => ∀ (S5 : MS) (h6 : AH), 0 ≤ i → CR E A S5 h6 → eqx [50, 52] S1 S5 → (∀ v : Int, 0 ≤ v → v < N → MtP S l (i) v (S5 52 v)) → Ev E RX6 cX6_findMeetings 5 none "findMeetings" (qV (fun h' => ∃ S', CR E A S' h' ∧ eqx [50, 52] S S' ∧ ∀ v, 0 ≤ v → v < N → MtP S l v v (S' 52 v))) 5 0 0 25 [(3, vI (i)), (0, .ref (A 11 0)), (1, .ref (A 9 0)), (2, vI (th))] [] h6) (N := N) ?_ 0 (by omega)  S1 h2 (by omega) hM3 eqx.rf (fun v v0 v1 => by rw [hz v v0 (by omega)]; exact Mt_0)
    intro i ihi hiN S5 h6 pi hM7 hx8 hmi
    have hRS5 := hM7.2.2
    have hxS5 : eqx scc S S5 := (hxS1).tr hx8 (by decide) (by decide)
    have hIS5 := Inv.xc hI hxS5
    refine ev_iload_n 0 rfl dX6_findMeetings_25 ?_
    refine ev_aload_n 1 rfl dX6_findMeetings_26 ?_
    refine cgE_X6_40 (v := N) hM7 (by rw [hx8 56 (by decide), hx4 56 (by decide), k1]) dX6_findMeetings_27 ?_
    refine ev_icmp_ge (tgt := 112) dX6_findMeetings_30 (by first | assumption | exact hR _ _ | exact hRS1 _ _ | exact hRS5 _ _ | decide | (simp only [InR]; omega)) (by first | assumption | exact hR _ _ | exact hRS1 _ _ | exact hRS5 _ _ | decide | (simp only [InR]; omega)) (by decide) (fun c30 => ?_) (fun c30 => ?_)
    · refine ev_return dX6_findMeetings_112 ?_
      exact ⟨rfl, S5, hM7, (eqx.tr (l := [50, 52]) (eqx.tr (l := [50, 52]) (eqx.rf (l := [50, 52]) (S := S)) hx4 (by decide) (by decide)) hx8 (by decide) (by decide)), fun v v0 v1 => by have q := hmi v v0 v1; rw [show i = N by omega] at q; refine ⟨q.1, fun u hu => ?_⟩; rw [q.2 u hu]; by_cases hv : u < v; (rw [decide_eq_true (show u < N by omega), decide_eq_true hv]); (rw [decide_eq_false hv]; simp)⟩
    · refine ev_iload_n 0 rfl dX6_findMeetings_33 ?_
      refine ev_iconst dX6_findMeetings_34 ?_
      refine ev_iadd dX6_findMeetings_35 ?_
      refine ev_istore (L' := [(4, vI (i + 1)), (3, vI (i)), (0, .ref (A 11 0)), (1, .ref (A 9 0)), (2, vI (th))]) dX6_findMeetings_36 (by decide) rfl ?_
      refine up_ind (P := fun j : Int => ∀ (S9 : MS) (h10 : AH), 0 ≤ j → CR E A S9 h10 → eqx [50, 52] S5 S9 → i < j → (∀ v : Int, 0 ≤ v → v < N → MtP S l (if v < j then i + 1 else i) v (S9 52 v)) → Ev E RX6 cX6_findMeetings 5 none "findMeetings" (qV (fun h' => ∃ S', CR E A S' h' ∧ eqx [50, 52] S S' ∧ ∀ v, 0 ≤ v → v < N → MtP S l v v (S' 52 v))) 5 0 0 38 [(4, vI (j)), (3, vI (i)), (0, .ref (A 11 0)), (1, .ref (A 9 0)), (2, vI (th))] [] h10) (N := N) ?_ (i + 1) (by omega)  S5 h6 (by omega) hM7 eqx.rf (by omega) (fun v v0 v1 => by by_cases hv : v < i + 1; (rw [if_pos hv]; exact Mt_lift (hmi v v0 v1) (Or.inl (by omega))); (rw [if_neg hv]; exact hmi v v0 v1))
      intro j ihj hjN S9 h10 pj hM11 hx12 hij hmj
      have hRS9 := hM11.2.2
      have hxS9 : eqx scc S S9 := (hxS5).tr hx12 (by decide) (by decide)
      have hIS9 := Inv.xc hI hxS9
      refine ev_iload 0 rfl dX6_findMeetings_38 ?_
      refine ev_aload_n 2 rfl dX6_findMeetings_40 ?_
      refine cgE_X6_40 (v := N) hM11 (by rw [hx12 56 (by decide), hx8 56 (by decide), hx4 56 (by decide), k1]) dX6_findMeetings_41 ?_
      refine ev_icmp_ge (tgt := 106) dX6_findMeetings_44 (by first | assumption | exact hR _ _ | exact hRS1 _ _ | exact hRS5 _ _ | exact hRS9 _ _ | decide | (simp only [InR]; omega)) (by first | assumption | exact hR _ _ | exact hRS1 _ _ | exact hRS5 _ _ | exact hRS9 _ _ | decide | (simp only [InR]; omega)) (by decide) (fun c44 => ?_) (fun c44 => ?_)
      · refine ev_iinc (L' := [(3, vI (i + 1)), (4, vI (j)), (0, .ref (A 11 0)), (1, .ref (A 9 0)), (2, vI (th))]) 1 rfl dX6_findMeetings_106 (by decide) rfl ?_
        refine ev_goto (tgt := 25) dX6_findMeetings_109 (by decide) ?_
        refine ev_pick (L' := [(3, vI (i + 1)), (0, .ref (A 11 0)), (1, .ref (A 9 0)), (2, vI (th))]) [0, 2, 3, 4] rfl ?_
        exact ihi (i + 1) (by omega) (by omega) S9 h10 (by omega) hM11 (eqx.tr (l := [50, 52]) hx8 hx12 (by decide) (by decide)) (fun v v0 v1 => by have q := hmj v v0 v1; rw [show j = N by omega, if_pos v1] at q; exact q)
      · have sgi := (k3 i (by omega) (by omega)).2
        have sgj := (k3 j (by omega) (by omega)).2
        have mjb := hmj j (by omega) (by omega)
        refine ev_aload_n 2 rfl dX6_findMeetings_47 ?_
        refine cg_X6_19 hM11 dX6_findMeetings_48 ?_
        refine ev_iload_n 1 rfl dX6_findMeetings_51 ?_
        refine c_aa13 (v := at0 l i) hM11 (by rw [hx12 68 (by decide), hx8 68 (by decide), hx4 68 (by decide)]; exact (k3 i (by omega) (by omega)).1.2) (by omega) dX6_findMeetings_52 (by omega) (by omega) ?_
        refine ev_aload_n 2 rfl dX6_findMeetings_53 ?_
        refine cg_X6_19 hM11 dX6_findMeetings_54 ?_
        refine ev_iload 0 rfl dX6_findMeetings_57 ?_
        refine c_aa13 (v := at0 l j) hM11 (by rw [hx12 68 (by decide), hx8 68 (by decide), hx4 68 (by decide)]; exact (k3 j (by omega) (by omega)).1.2) (by omega) dX6_findMeetings_59 (by omega) (by omega) ?_
        refine cv_X6_77 hM11 hIS9 (by unfold SG; rw [hx12 7 (by decide), hx8 7 (by decide), hx4 7 (by decide)]; first | exact sgi.1 | exact sgj.1) (by rw [hx12 8 (by decide), hx8 8 (by decide), hx4 8 (by decide)]; first | exact sgi.2 | exact sgj.2) (k_atOnce (a := at0 l i) (b := at0 l j) hM11 hIS9 (by unfold SG; rw [hx12 7 (by decide), hx8 7 (by decide), hx4 7 (by decide)]; first | exact sgi.1 | exact sgj.1) (by unfold SG; rw [hx12 7 (by decide), hx8 7 (by decide), hx4 7 (by decide)]; first | exact sgi.1 | exact sgj.1) (by rw [hx12 8 (by decide), hx8 8 (by decide), hx4 8 (by decide)]; first | exact sgi.2 | exact sgj.2) (by rw [hx12 8 (by decide), hx8 8 (by decide), hx4 8 (by decide)]; first | exact sgi.2 | exact sgj.2)) rfl rfl (Nat.le_of_ble_eq_true rfl) (by decide) dX6_findMeetings_60 (kB (fun b60 => ?_) (fun b60 => ?_))
        · rw [hxS9 10 (by decide), frZ_xc hxS9, laZ_xc hxS9, frZ_xc hxS9, laZ_xc hxS9] at b60
          refine ev_if_eq (tgt := 100) dX6_findMeetings_63 (by decide) (by decide) (fun c => absurd c (by decide)) (fun _ => ?_)
          refine ev_aload_n 3 rfl dX6_findMeetings_66 ?_
          refine ev_aload_n 2 rfl dX6_findMeetings_67 ?_
          refine cg_X6_19 hM11 dX6_findMeetings_68 ?_
          refine ev_iload_n 1 rfl dX6_findMeetings_71 ?_
          refine c_aa13 (v := at0 l i) hM11 (by rw [hx12 68 (by decide), hx8 68 (by decide), hx4 68 (by decide)]; exact (k3 i (by omega) (by omega)).1.2) (by omega) dX6_findMeetings_72 (by omega) (by omega) ?_
          refine ev_aload_n 2 rfl dX6_findMeetings_73 ?_
          refine cg_X6_19 hM11 dX6_findMeetings_74 ?_
          refine ev_iload 0 rfl dX6_findMeetings_77 ?_
          refine c_aa13 (v := at0 l j) hM11 (by rw [hx12 68 (by decide), hx8 68 (by decide), hx4 68 (by decide)]; exact (k3 j (by omega) (by omega)).1.2) (by omega) dX6_findMeetings_79 (by omega) (by omega) ?_
          refine ev_iload_n 4 rfl dX6_findMeetings_80 ?_
          refine c_X6_81 (k_find (a := at0 l i) (b := at0 l j) (th := th) hM11 hIS9 (by unfold SG; rw [hx12 7 (by decide), hx8 7 (by decide), hx4 7 (by decide)]; first | exact sgi.1 | exact sgj.1) (by unfold SG; rw [hx12 7 (by decide), hx8 7 (by decide), hx4 7 (by decide)]; first | exact sgi.1 | exact sgj.1) (by rw [hx12 8 (by decide), hx8 8 (by decide), hx4 8 (by decide)]; first | exact sgi.2 | exact sgj.2) (by rw [hx12 8 (by decide), hx8 8 (by decide), hx4 8 (by decide)]; first | exact sgi.2 | exact sgj.2) (by rw [hx12 16 (by decide), hx8 16 (by decide), hx4 16 (by decide)]; exact hth)) hM11.k9 rfl rfl (Nat.le_of_ble_eq_true rfl) (by decide) dX6_findMeetings_81 (kI (fun z13 h14 hqz13 => ?_))
          obtain ⟨S15, hC16, ex17, ⟨rfl, b81, v81⟩ | ⟨rfl, b81⟩⟩ := hqz13
          · rw [CrP_xc hxS9] at b81
            have hRS15 := hC16.2.2
            have hxS15 : eqx scc S S15 := (hxS9).tr ex17 (by decide) (by decide)
            have hIS15 := Inv.xc hI hxS15
            refine ev_if_eq (tgt := 100) dX6_findMeetings_84 (by decide) (by decide) (fun c => absurd c (by decide)) (fun _ => ?_)
            refine ev_aload_n 2 rfl dX6_findMeetings_87 ?_
            refine cg_X6_27 hC16 dX6_findMeetings_88 ?_
            refine ev_iload 0 rfl dX6_findMeetings_91 ?_
            refine ev_dup2 dX6_findMeetings_93 rfl rfl ?_
            refine c_ldE (k := 15) (s := 52) (v := S9 52 j) hC16 (by decide) rfl (by rw [ex17 52 (by decide)]) dX6_findMeetings_94 (by omega) (by show _ < ((10 : Nat) : Int); omega) ?_
            refine ev_iconst dX6_findMeetings_95 ?_
            refine ev_iload_n 1 rfl dX6_findMeetings_96 ?_
            refine ev_ishl dX6_findMeetings_97 ?_
            refine ev_ior dX6_findMeetings_98 ?_
            have oz : InR (orZ (S9 52 j) (shlZ 1 i)) := iI_in _
            refine c_st (k := 15) (s := 52) hC16 (by decide) rfl (by decide) dX6_findMeetings_99 (by omega) (by show _ < ((10 : Nat) : Int); omega) (by first | assumption | exact hR _ _ | exact hRS1 _ _ | exact hRS5 _ _ | exact hRS9 _ _ | exact hRS15 _ _ | decide | (simp only [InR]; omega)) (fun S18 h19 eS20 hC21 => ?_)
            have hRS18 := hC21.2.2
            have hxS18 : eqx scc S S18 := by rw [eS20]; exact (hxS15).up (by decide)
            have hIS18 := Inv.xc hI hxS18
            refine ev_iinc (L' := [(4, vI (j + 1)), (3, vI (i)), (0, .ref (A 11 0)), (1, .ref (A 9 0)), (2, vI (th))]) 0 rfl dX6_findMeetings_100 (by decide) rfl ?_
            refine ev_goto (tgt := 38) dX6_findMeetings_103 (by decide) ?_
            exact ihj (j + 1) (by omega) (by omega) S18 h19 (by omega) hC21 (by rw [eS20]; exact eqx.up (l := [50, 52]) (eqx.tr (l := [50, 52]) hx12 ex17 (by decide) (by decide)) (by decide)) (by omega) (fun v v0 v1 => by rw [eS20]; by_cases hv : v = j; (subst hv; rw [upS_at, if_pos (show v < v + 1 by omega)]; have q := hmj v v0 v1; rw [if_neg (show ¬ v < v by omega)] at q; exact Mt_set q (by omega) (by omega) (by omega) (by rw [MM_sw]; exact MM_y ⟨b81, b60.1, b60.2.1, b60.2.2⟩)); (rw [upS_nz hv, ex17 52 (by decide)]; have q := hmj v v0 v1; by_cases hv2 : v < j; (rw [if_pos (show v < j + 1 by omega)]; rw [if_pos hv2] at q; exact q); (rw [if_neg (show ¬ v < j + 1 by omega)]; rw [if_neg hv2] at q; exact q)))
          · rw [CrP_xc hxS9] at b81
            have hRS15 := hC16.2.2
            have hxS15 : eqx scc S S15 := (hxS9).tr ex17 (by decide) (by decide)
            have hIS15 := Inv.xc hI hxS15
            refine ev_if_eq (tgt := 100) dX6_findMeetings_84 (by decide) (by decide) (fun _ => ?_) (fun c => absurd c (by decide))
            refine ev_iinc (L' := [(4, vI (j + 1)), (3, vI (i)), (0, .ref (A 11 0)), (1, .ref (A 9 0)), (2, vI (th))]) 0 rfl dX6_findMeetings_100 (by decide) rfl ?_
            refine ev_goto (tgt := 38) dX6_findMeetings_103 (by decide) ?_
            exact ihj (j + 1) (by omega) (by omega) S15 h14 (by omega) hC16 (eqx.tr (l := [50, 52]) hx12 ex17 (by decide) (by decide)) (by omega) (fun v v0 v1 => by rw [ex17 52 (by decide)]; have q := hmj v v0 v1; by_cases hv : v = j; (subst hv; rw [if_pos (show v < v + 1 by omega)]; rw [if_neg (show ¬ v < v by omega)] at q; exact Mt_lift q (Or.inr (by rw [MM_sw]; exact (MM_n (fun q => b81 q.1))))); (by_cases hv2 : v < j; (rw [if_pos (show v < j + 1 by omega)]; rw [if_pos hv2] at q; exact q); (rw [if_neg (show ¬ v < j + 1 by omega)]; rw [if_neg hv2] at q; exact q)))
        · rw [hxS9 10 (by decide), frZ_xc hxS9, laZ_xc hxS9, frZ_xc hxS9, laZ_xc hxS9] at b60
          refine ev_if_eq (tgt := 100) dX6_findMeetings_63 (by decide) (by decide) (fun _ => ?_) (fun c => absurd c (by decide))
          refine ev_iinc (L' := [(4, vI (j + 1)), (3, vI (i)), (0, .ref (A 11 0)), (1, .ref (A 9 0)), (2, vI (th))]) 0 rfl dX6_findMeetings_100 (by decide) rfl ?_
          refine ev_goto (tgt := 38) dX6_findMeetings_103 (by decide) ?_
          exact ihj (j + 1) (by omega) (by omega) S9 h10 (by omega) hM11 hx12 (by omega) (fun v v0 v1 => by have q := hmj v v0 v1; by_cases hv : v = j; (subst hv; rw [if_pos (show v < v + 1 by omega)]; rw [if_neg (show ¬ v < v by omega)] at q; exact Mt_lift q (Or.inr (by rw [MM_sw]; exact (MM_n (fun q => b60 ⟨q.2.1, q.2.2.1, q.2.2.2⟩))))); (by_cases hv2 : v < j; (rw [if_pos (show v < j + 1 by omega)]; rw [if_pos hv2] at q; exact q); (rw [if_neg (show ¬ v < j + 1 by omega)]; rw [if_neg hv2] at q; exact q)))
  · refine ev_aload_n 1 rfl dX6_findMeetings_10 ?_
    refine cg_X6_27 hM3 dX6_findMeetings_11 ?_
    refine ev_iload_n 0 rfl dX6_findMeetings_14 ?_
    refine ev_iconst dX6_findMeetings_15 ?_
    refine c_st (k := 15) (s := 52) hM3 (by decide) rfl (by decide) dX6_findMeetings_16 (by omega) (by show _ < ((10 : Nat) : Int); omega) (by decide) (fun S22 h23 eS24 hC25 => ?_)
    have hRS22 := hC25.2.2
    have hxS22 : eqx scc S S22 := by rw [eS24]; exact (hxS1).up (by decide)
    have hIS22 := Inv.xc hI hxS22
    refine ev_iinc (L' := [(3, vI (i + 1)), (0, .ref (A 11 0)), (1, .ref (A 9 0)), (2, vI (th))]) 0 rfl dX6_findMeetings_17 (by decide) rfl ?_
    refine ev_goto (tgt := 2) dX6_findMeetings_20 (by decide) ?_
    exact ihi (i + 1) (by omega) (by omega) S22 h23 (by omega) hC25 (by rw [eS24]; exact eqx.up (l := [52]) hx4 (by decide)) (fun v v0 v1 => by rw [eS24]; by_cases hv : v = i; (rw [hv, upS_at]); (rw [upS_nz hv]; exact hz v v0 (by omega)))

