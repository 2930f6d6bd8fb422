/-- what the class tells of set k -/
def PC (S : MS) (l r : List Int) (N : Int) (S1 : MS) (k : Int) : Prop := S1 58 k = meK r k N ∧ S1 67 k = prK r k N ∧ S1 60 k = avK S l r k 0 N ∧ S1 61 k = avK S l r k 1 N ∧ S1 62 k = avK S l r k 2 N ∧ S1 64 k = -4 ∧ S1 59 k = tiK S l r k N ∧ S1 63 k = fiK l r k N
theorem PC_x {S S' S1 : MS} {l r : List Int} {N k : Int} (hx : eqx scc S S') (h : PC S' l r N S1 k) : PC S l r N S1 k := by
  have e1 : tiK S' l r k N = tiK S l r k N := by
    unfold tiK frK toK
    rw [show plF S' l r k = plF S l r k from by unfold plF; funext i; rw [frZ_xc hx], show plT S' l r k = plT S l r k from by unfold plT; funext i; rw [laZ_xc hx]]
  have e2 : ∀ w, avK S' l r k w N = avK S l r k w N := fun w => by
    unfold avK suK
    rw [show plX S' l r k w N = plX S l r k w N from by
      unfold plX
      funext i
      rw [show rwX S' l r k w i = rwX S l r k w i from by unfold rwX; funext j; rw [partZ_xc hx]]]
  unfold PC at h ⊢
  rw [e1, e2, e2, e2] at h
  exact h
theorem PC_cu {S S1 S2 : MS} {l r : List Int} {N k u : Int} (h : PC S l r N S1 u) (hc : CuE S1 S2 k) (hu : u ≠ k) : PC S l r N S2 u := by
  unfold PC at h ⊢
  rw [hc 58 (by decide) u hu, hc 67 (by decide) u hu, hc 60 (by decide) u hu, hc 61 (by decide) u hu, hc 62 (by decide) u hu, hc 64 (by decide) u hu, hc 59 (by decide) u hu, hc 63 (by decide) u hu]
  exact h
theorem me_pos {r : List Int} {N k : Int} (hN : 0 ≤ N) (h : ∃ j, (0 ≤ j ∧ j < N) ∧ at0 r j = k) : 0 < meK r k N := by
  obtain ⟨j, hj, he⟩ := h
  unfold meK
  rw [sum_dn hN]
  have h1 := sumI_b (f := plM r k) (a := 0) (b := 1) hj.1 (fun i _ _ => plM_b)
  have key : ∀ n, j < n → 0 < sumI (plM r k) n := by
    have : ∀ m : Nat, 0 < sumI (plM r k) (j + 1 + m) := by
      intro m
      induction m with
      | zero =>
        rw [show j + 1 + ((0 : Nat) : Int) = j + 1 by omega, sumI_s _ hj.1, show plM r k j = 1 from if_pos he]
        omega
      | succ m ih =>
        rw [show j + 1 + ((m + 1 : Nat) : Int) = j + 1 + (m : Int) + 1 by omega, sumI_s _ (by omega)]
        have := plM_b (r := r) (k := k) (i := j + 1 + m)
        omega
    intro n hn
    have h2 := this (n - (j + 1)).toNat
    rw [show j + 1 + ((n - (j + 1)).toNat : Int) = n by omega] at h2
    exact h2
  exact key N hj.2
def FCc (S S' : MS) (l r : List Int) (c : Int) : Prop := S' 57 0 = c ∧ (∀ u, 0 ≤ u → u < len0 l → S' 55 u = at0 r u) ∧ ∀ k, 0 ≤ k → k < c → PC S l r (len0 l) S' k

set_option maxHeartbeats 4000000 in
set_option maxRecDepth 100000 in
theorem k_partCurtains {E : EV} {h : AH} {A : AD} {S : MS} {l : List Int} {th : Int} (hC : CR E A S h) (hI : Inv S) (hK : SkL S l (len0 l)) (hth : th = S 16 0) : CM E yX6_partCurtains cX6_partCurtains 5 (some .int) 13 0 0 [.ref (A 11 0), .ref (A 9 0), vI (th)] h (qI (fun z h' => ∃ S', CR E A S' h' ∧ eqx [50, 52, 53, 55, 57, 58, 59, 60, 61, 62, 63, 64, 65, 66, 67] S S' ∧ ∃ r, FewP (MM S l) (len0 l) z r ∧ FCc S S' l r z)) := by
  have hR := hC.2.2
  have hJ := hI
  obtain ⟨i1, i2, i3, i4, i5, i6, iSt, iSi, iWa, iSh, iLa, iS0, iS1, iZe⟩ := hJ
  have hK0 := hK
  obtain ⟨k1, k2, k3⟩ := hK0
  refine CM.of (by decide) (Nat.le_of_ble_eq_true rfl) (L := [(0, .ref (A 11 0)), (1, .ref (A 9 0)), (2, vI (th))]) rfl ?_
  refine ev_aload_n 0 rfl dX6_partCurtains_0 ?_
  refine ev_aload_n 1 rfl dX6_partCurtains_1 ?_
  refine ev_iload_n 2 rfl dX6_partCurtains_2 ?_
  refine c_X6_47 (k_findMeetings hC hI hK hth) hC.k11 rfl rfl (Nat.le_of_ble_eq_true rfl) (by decide) dX6_partCurtains_3 (kV (fun h2 hqh2 => ?_))
  obtain ⟨S1, hC3, ex4, hmt⟩ := hqh2
  have hRS1 := hC3.2.2
  have hxS1 : eqx scc S S1 := (eqx.rf (l := scc) (S := S)).tr ex4 (by decide) (by decide)
  have hIS1 := Inv.xc hI hxS1
  refine ev_aload_n 0 rfl dX6_partCurtains_6 ?_
  refine ev_iconst dX6_partCurtains_7 ?_
  refine cp_X6_51 hC3 (by decide) dX6_partCurtains_8 (fun S5 h6 eS7 hC8 => ?_)
  have hRS5 := hC8.2.2
  have hxS5 : eqx scc S S5 := by rw [eS7]; exact (hxS1).up (by decide)
  have hIS5 := Inv.xc hI hxS5
  refine ev_aload_n 0 rfl dX6_partCurtains_11 ?_
  refine cgE_X6_40 (v := len0 l) hC8 (by rw [eS7, upS_ne (by decide), ex4 56 (by decide), k1]) dX6_partCurtains_12 ?_
  refine ev_if_ne (tgt := 22) dX6_partCurtains_15 (by first | assumption | exact hR _ _ | exact hRS1 _ _ | exact hRS5 _ _ | decide | (simp only [InR]; omega)) (by decide) (fun c15 => ?_) (fun c15 => ?_)
  · refine ev_iconst dX6_partCurtains_22 ?_
    refine ev_istore_n (L' := [(3, vI (0)), (0, .ref (A 11 0)), (1, .ref (A 9 0)), (2, vI (th))]) dX6_partCurtains_23 (by decide) rfl ?_
    refine ev_iconst dX6_partCurtains_24 ?_
    refine ev_istore (L' := [(4, vI (1)), (3, vI (0)), (0, .ref (A 11 0)), (1, .ref (A 9 0)), (2, vI (th))]) dX6_partCurtains_25 (by decide) rfl ?_
    refine up_ind (P := fun q : Int => ∀ (pt : Int) (S9 : MS) (h10 : AH), 0 ≤ q → CR E A S9 h10 → eqx [53, 55, 57] S5 S9 → ((pt = 0 ∧ 1 ≤ len0 l ∧ (∀ u : Int, 0 ≤ u → u < q → dfs (MM S l) u (len0 l).toNat [] = none)) ∨ (pt = 1 ∧ (∃ r, FewP (MM S l) (len0 l) (S9 57 0) r ∧ len0 r = len0 l ∧ ∀ u : Int, 0 ≤ u → u < len0 l → S9 55 u = at0 r u))) → (1 ≤ q ∧ (pt = 0 ∨ pt = 1)) → Ev E RX6 cX6_partCurtains 5 (some .int) "partCurtains" (qI (fun z h' => ∃ S', CR E A S' h' ∧ eqx [50, 52, 53, 55, 57, 58, 59, 60, 61, 62, 63, 64, 65, 66, 67] S S' ∧ ∃ r, FewP (MM S l) (len0 l) z r ∧ FCc S S' l r z)) 13 0 0 27 [(4, vI (q)), (3, vI (pt)), (0, .ref (A 11 0)), (1, .ref (A 9 0)), (2, vI (th))] [] h10) (N := len0 l + 2) ?_ 1 (by omega) 0 S5 h6 (by omega) hC8 eqx.rf (Or.inl ⟨rfl, by omega, fun u u0 u1 => by rw [show u = 0 by omega, show (len0 l).toNat = ((len0 l).toNat - 1) + 1 by omega, dfs_s]; rfl⟩) (by omega)
    intro q ihq hqN pt S9 h10 pq hM11 hx12 hal hq1
    have hRS9 := hM11.2.2
    have hxS9 : eqx scc S S9 := (hxS5).tr hx12 (by decide) (by decide)
    have hIS9 := Inv.xc hI hxS9
    refine ev_iload 0 rfl dX6_partCurtains_27 ?_
    refine ev_aload_n 2 rfl dX6_partCurtains_29 ?_
    refine cgE_X6_40 (v := len0 l) hM11 (by rw [hx12 56 (by decide), eS7, upS_ne (by decide), ex4 56 (by decide), k1]) dX6_partCurtains_30 ?_
    refine ev_icmp_gt (tgt := 61) dX6_partCurtains_33 (by first | assumption | exact hR _ _ | exact hRS1 _ _ | exact hRS5 _ _ | exact hRS9 _ _ | decide | (simp only [InR]; omega)) (by first | assumption | exact hR _ _ | exact hRS1 _ _ | exact hRS5 _ _ | exact hRS9 _ _ | decide | (simp only [InR]; omega)) (by decide) (fun c33 => ?_) (fun c33 => ?_)
    · have hfw0 : ∃ r, FewP (MM S l) (len0 l) (S9 57 0) r ∧ len0 r = len0 l ∧ ∀ u : Int, 0 ≤ u → u < len0 l → S9 55 u = at0 r u := by
        rcases hal with ⟨a1, a2, a3⟩ | ⟨a1, a2⟩
        · exact absurd (a3 (len0 l) (by omega) (by omega)) (dfs_full _ _ Gd_nil (by have e0 : begL [] = 0 := rfl; omega))
        · exact a2
      obtain ⟨r, hfw, hlr, hr55⟩ := hfw0
      obtain ⟨fg1, fg2, fg3⟩ := few_ok k2.1 hfw
      have hc0 := hfw.1
      have hc1 := few_le k2.1 hfw
      have hok : Okl S l r (len0 l) := ⟨k2, fun j j0 j1 => (k3 j j0 j1).2.1, fun i j i0 ij j1 he => CrP_sw (MM_of (fg1.2.2 i j i0 ij (by omega) he)).1⟩
      refine ev_iconst dX6_partCurtains_61 ?_
      refine ev_istore (L' := [(4, vI (0)), (3, vI (pt)), (0, .ref (A 11 0)), (1, .ref (A 9 0)), (2, vI (th))]) dX6_partCurtains_62 (by decide) rfl ?_
      refine up_ind (P := fun k : Int => ∀ (S13 : MS) (h14 : AH), 0 ≤ k → CR E A S13 h14 → eqx [50, 58, 59, 60, 61, 62, 63, 64, 65, 66, 67] S9 S13 → (∀ u : Int, 0 ≤ u → u < k → PC S l r (len0 l) S13 u) → Ev E RX6 cX6_partCurtains 5 (some .int) "partCurtains" (qI (fun z h' => ∃ S', CR E A S' h' ∧ eqx [50, 52, 53, 55, 57, 58, 59, 60, 61, 62, 63, 64, 65, 66, 67] S S' ∧ ∃ r, FewP (MM S l) (len0 l) z r ∧ FCc S S' l r z)) 13 0 0 64 [(4, vI (k)), (3, vI (pt)), (0, .ref (A 11 0)), (1, .ref (A 9 0)), (2, vI (th))] [] h14) (N := S9 57 0) ?_ 0 (by omega)  S9 h10 (by omega) hM11 eqx.rf (fun u u0 u1 => absurd u0 (by omega))
      intro k ihk hkN S13 h14 pk hM15 hx16 hpl
      have hRS13 := hM15.2.2
      have hxS13 : eqx scc S S13 := (hxS9).tr hx16 (by decide) (by decide)
      have hIS13 := Inv.xc hI hxS13
      refine ev_iload 0 rfl dX6_partCurtains_64 ?_
      refine ev_aload_n 2 rfl dX6_partCurtains_66 ?_
      refine cgE_X6_51 (v := S9 57 0) hM15 (by rw [hx16 57 (by decide)]) dX6_partCurtains_67 ?_
      refine ev_icmp_ge (tgt := 87) dX6_partCurtains_70 (by first | assumption | exact hR _ _ | exact hRS1 _ _ | exact hRS5 _ _ | exact hRS9 _ _ | exact hRS13 _ _ | decide | (simp only [InR]; omega)) (by first | assumption | exact hR _ _ | exact hRS1 _ _ | exact hRS5 _ _ | exact hRS9 _ _ | exact hRS13 _ _ | decide | (simp only [InR]; omega)) (by decide) (fun c70 => ?_) (fun c70 => ?_)
      · refine ev_aload_n 2 rfl dX6_partCurtains_87 ?_
        refine cgE_X6_51 (v := S9 57 0) hM15 (by rw [hx16 57 (by decide)]) dX6_partCurtains_88 ?_
        refine ev_ireturn dX6_partCurtains_91 ?_
        refine ⟨_, rfl, S13, hM15, (eqx.tr (l := [50, 52, 53, 55, 57, 58, 59, 60, 61, 62, 63, 64, 65, 66, 67]) (eqx.tr (l := [50, 52, 53, 55, 57, 58, 59, 60, 61, 62, 63, 64, 65, 66, 67]) (show eqx [50, 52, 53, 55, 57, 58, 59, 60, 61, 62, 63, 64, 65, 66, 67] S S5 from by rw [eS7]; exact (eqx.tr (l := [50, 52, 53, 55, 57, 58, 59, 60, 61, 62, 63, 64, 65, 66, 67]) (eqx.rf (l := [50, 52, 53, 55, 57, 58, 59, 60, 61, 62, 63, 64, 65, 66, 67]) (S := S)) ex4 (by decide) (by decide)).up (by decide)) hx12 (by decide) (by decide)) hx16 (by decide) (by decide)), r, hfw, by rw [hx16 57 (by decide)], fun u u0 u1 => by rw [hx16 55 (by decide)]; exact hr55 u u0 u1, fun u u0 u1 => hpl u u0 (by omega)⟩
      · refine ev_aload_n 2 rfl dX6_partCurtains_73 ?_
        refine ev_iload 0 rfl dX6_partCurtains_74 ?_
        refine ev_aload_n 3 rfl dX6_partCurtains_76 ?_
        refine ev_iload_n 4 rfl dX6_partCurtains_77 ?_
        have hne := me_pos (N := len0 l) k2.1 (by obtain ⟨j, j0, j1, j2⟩ := mem_at0 (fg1.2.1 k (by omega) (by omega)); exact ⟨j, by omega, j2⟩)
        have hok1 : Okl S13 l r (len0 l) := ⟨hok.1, fun j j0 j1 => by unfold SG; rw [hxS13 7 (by decide)]; exact hok.2.1 j j0 j1, fun i j i0 ij j1 he => (CrP_xc hxS13).mpr (hok.2.2 i j i0 ij j1 he)⟩
        refine c_X6_58 (k_tellCurtain (l := l) (r := r) (N := len0 l) (th := th) (k := k) hM15 hIS13 (hK.x (l0 := [50, 52, 53, 55, 57, 58, 59, 60, 61, 62, 63, 64, 65, 66, 67]) (eqx.tr (l := [50, 52, 53, 55, 57, 58, 59, 60, 61, 62, 63, 64, 65, 66, 67]) (eqx.tr (l := [50, 52, 53, 55, 57, 58, 59, 60, 61, 62, 63, 64, 65, 66, 67]) (show eqx [50, 52, 53, 55, 57, 58, 59, 60, 61, 62, 63, 64, 65, 66, 67] S S5 from by rw [eS7]; exact (eqx.tr (l := [50, 52, 53, 55, 57, 58, 59, 60, 61, 62, 63, 64, 65, 66, 67]) (eqx.rf (l := [50, 52, 53, 55, 57, 58, 59, 60, 61, 62, 63, 64, 65, 66, 67]) (S := S)) ex4 (by decide) (by decide)).up (by decide)) hx12 (by decide) (by decide)) hx16 (by decide) (by decide)) (by decide) (by decide) (by decide) (by decide) (by decide)) (by rw [hxS13 16 (by decide)]; exact hth) (fun u u0 u1 => by rw [hx16 55 (by decide)]; exact ⟨hr55 u u0 u1, by have := fg1.1 _ (at0_mem (cs := r) u0 (by omega)); omega⟩) hok1 (by omega) hne) hM15.k11 rfl rfl (Nat.le_of_ble_eq_true rfl) (by decide) dX6_partCurtains_78 (kV (fun h17 hqh17 => ?_))
        obtain ⟨S18, hC19, ex20, cu, p58, p67, p60, p61, p62, p64, p5⟩ := hqh17
        have hRS18 := hC19.2.2
        have hpk : PC S l r (len0 l) S18 k := PC_x hxS13 ⟨p58, p67, p60, p61, p62, p64, (p5 hne).1, (p5 hne).2⟩
        have hxS18 : eqx scc S S18 := (hxS13).tr ex20 (by decide) (by decide)
        have hIS18 := Inv.xc hI hxS18
        refine ev_iinc (L' := [(4, vI (k + 1)), (3, vI (pt)), (0, .ref (A 11 0)), (1, .ref (A 9 0)), (2, vI (th))]) 0 rfl dX6_partCurtains_81 (by decide) rfl ?_
        refine ev_goto (tgt := 64) dX6_partCurtains_84 (by decide) ?_
        exact ihk (k + 1) (by omega) (by omega) S18 h17 (by omega) hC19 (eqx.tr (l := [50, 58, 59, 60, 61, 62, 63, 64, 65, 66, 67]) hx16 ex20 (by decide) (by decide)) (fun u u0 u1 => (Int.lt_or_eq_of_le (show u ≤ k by omega)).elim (fun x => PC_cu (hpl u u0 x) cu (by omega)) (fun x => by subst x; exact hpk))
    · refine ev_iload_n 1 rfl dX6_partCurtains_36 ?_
      refine ev_if_ne (tgt := 61) dX6_partCurtains_37 (by first | assumption | exact hR _ _ | exact hRS1 _ _ | exact hRS5 _ _ | exact hRS9 _ _ | decide | (simp only [InR]; omega)) (by decide) (fun c37 => ?_) (fun c37 => ?_)
      · have hfw0 : ∃ r, FewP (MM S l) (len0 l) (S9 57 0) r ∧ len0 r = len0 l ∧ ∀ u : Int, 0 ≤ u → u < len0 l → S9 55 u = at0 r u := by
          rcases hal with ⟨a1, a2, a3⟩ | ⟨a1, a2⟩
          · omega
          · exact a2
        obtain ⟨r, hfw, hlr, hr55⟩ := hfw0
        obtain ⟨fg1, fg2, fg3⟩ := few_ok k2.1 hfw
        have hc0 := hfw.1
        have hc1 := few_le k2.1 hfw
        have hok : Okl S l r (len0 l) := ⟨k2, fun j j0 j1 => (k3 j j0 j1).2.1, fun i j i0 ij j1 he => CrP_sw (MM_of (fg1.2.2 i j i0 ij (by omega) he)).1⟩
        refine ev_iconst dX6_partCurtains_61 ?_
        refine ev_istore (L' := [(4, vI (0)), (3, vI (pt)), (0, .ref (A 11 0)), (1, .ref (A 9 0)), (2, vI (th))]) dX6_partCurtains_62 (by decide) rfl ?_
        refine up_ind (P := fun k : Int => ∀ (S21 : MS) (h22 : AH), 0 ≤ k → CR E A S21 h22 → eqx [50, 58, 59, 60, 61, 62, 63, 64, 65, 66, 67] S9 S21 → (∀ u : Int, 0 ≤ u → u < k → PC S l r (len0 l) S21 u) → Ev E RX6 cX6_partCurtains 5 (some .int) "partCurtains" (qI (fun z h' => ∃ S', CR E A S' h' ∧ eqx [50, 52, 53, 55, 57, 58, 59, 60, 61, 62, 63, 64, 65, 66, 67] S S' ∧ ∃ r, FewP (MM S l) (len0 l) z r ∧ FCc S S' l r z)) 13 0 0 64 [(4, vI (k)), (3, vI (pt)), (0, .ref (A 11 0)), (1, .ref (A 9 0)), (2, vI (th))] [] h22) (N := S9 57 0) ?_ 0 (by omega)  S9 h10 (by omega) hM11 eqx.rf (fun u u0 u1 => absurd u0 (by omega))
        intro k ihk hkN S21 h22 pk hM23 hx24 hpl
        have hRS21 := hM23.2.2
        have hxS21 : eqx scc S S21 := (hxS9).tr hx24 (by decide) (by decide)
        have hIS21 := Inv.xc hI hxS21
        refine ev_iload 0 rfl dX6_partCurtains_64 ?_
        refine ev_aload_n 2 rfl dX6_partCurtains_66 ?_
        refine cgE_X6_51 (v := S9 57 0) hM23 (by rw [hx24 57 (by decide)]) dX6_partCurtains_67 ?_
        refine ev_icmp_ge (tgt := 87) dX6_partCurtains_70 (by first | assumption | exact hR _ _ | exact hRS1 _ _ | exact hRS5 _ _ | exact hRS9 _ _ | exact hRS21 _ _ | decide | (simp only [InR]; omega)) (by first | assumption | exact hR _ _ | exact hRS1 _ _ | exact hRS5 _ _ | exact hRS9 _ _ | exact hRS21 _ _ | decide | (simp only [InR]; omega)) (by decide) (fun c70 => ?_) (fun c70 => ?_)
        · refine ev_aload_n 2 rfl dX6_partCurtains_87 ?_
          refine cgE_X6_51 (v := S9 57 0) hM23 (by rw [hx24 57 (by decide)]) dX6_partCurtains_88 ?_
          refine ev_ireturn dX6_partCurtains_91 ?_
          refine ⟨_, rfl, S21, hM23, (eqx.tr (l := [50, 52, 53, 55, 57, 58, 59, 60, 61, 62, 63, 64, 65, 66, 67]) (eqx.tr (l := [50, 52, 53, 55, 57, 58, 59, 60, 61, 62, 63, 64, 65, 66, 67]) (show eqx [50, 52, 53, 55, 57, 58, 59, 60, 61, 62, 63, 64, 65, 66, 67] S S5 from by rw [eS7]; exact (eqx.tr (l := [50, 52, 53, 55, 57, 58, 59, 60, 61, 62, 63, 64, 65, 66, 67]) (eqx.rf (l := [50, 52, 53, 55, 57, 58, 59, 60, 61, 62, 63, 64, 65, 66, 67]) (S := S)) ex4 (by decide) (by decide)).up (by decide)) hx12 (by decide) (by decide)) hx24 (by decide) (by decide)), r, hfw, by rw [hx24 57 (by decide)], fun u u0 u1 => by rw [hx24 55 (by decide)]; exact hr55 u u0 u1, fun u u0 u1 => hpl u u0 (by omega)⟩
        · refine ev_aload_n 2 rfl dX6_partCurtains_73 ?_
          refine ev_iload 0 rfl dX6_partCurtains_74 ?_
          refine ev_aload_n 3 rfl dX6_partCurtains_76 ?_
          refine ev_iload_n 4 rfl dX6_partCurtains_77 ?_
          have hne := me_pos (N := len0 l) k2.1 (by obtain ⟨j, j0, j1, j2⟩ := mem_at0 (fg1.2.1 k (by omega) (by omega)); exact ⟨j, by omega, j2⟩)
          have hok1 : Okl S21 l r (len0 l) := ⟨hok.1, fun j j0 j1 => by unfold SG; rw [hxS21 7 (by decide)]; exact hok.2.1 j j0 j1, fun i j i0 ij j1 he => (CrP_xc hxS21).mpr (hok.2.2 i j i0 ij j1 he)⟩
          refine c_X6_58 (k_tellCurtain (l := l) (r := r) (N := len0 l) (th := th) (k := k) hM23 hIS21 (hK.x (l0 := [50, 52, 53, 55, 57, 58, 59, 60, 61, 62, 63, 64, 65, 66, 67]) (eqx.tr (l := [50, 52, 53, 55, 57, 58, 59, 60, 61, 62, 63, 64, 65, 66, 67]) (eqx.tr (l := [50, 52, 53, 55, 57, 58, 59, 60, 61, 62, 63, 64, 65, 66, 67]) (show eqx [50, 52, 53, 55, 57, 58, 59, 60, 61, 62, 63, 64, 65, 66, 67] S S5 from by rw [eS7]; exact (eqx.tr (l := [50, 52, 53, 55, 57, 58, 59, 60, 61, 62, 63, 64, 65, 66, 67]) (eqx.rf (l := [50, 52, 53, 55, 57, 58, 59, 60, 61, 62, 63, 64, 65, 66, 67]) (S := S)) ex4 (by decide) (by decide)).up (by decide)) hx12 (by decide) (by decide)) hx24 (by decide) (by decide)) (by decide) (by decide) (by decide) (by decide) (by decide)) (by rw [hxS21 16 (by decide)]; exact hth) (fun u u0 u1 => by rw [hx24 55 (by decide)]; exact ⟨hr55 u u0 u1, by have := fg1.1 _ (at0_mem (cs := r) u0 (by omega)); omega⟩) hok1 (by omega) hne) hM23.k11 rfl rfl (Nat.le_of_ble_eq_true rfl) (by decide) dX6_partCurtains_78 (kV (fun h25 hqh25 => ?_))
          obtain ⟨S26, hC27, ex28, cu, p58, p67, p60, p61, p62, p64, p5⟩ := hqh25
          have hRS26 := hC27.2.2
          have hpk : PC S l r (len0 l) S26 k := PC_x hxS21 ⟨p58, p67, p60, p61, p62, p64, (p5 hne).1, (p5 hne).2⟩
          have hxS26 : eqx scc S S26 := (hxS21).tr ex28 (by decide) (by decide)
          have hIS26 := Inv.xc hI hxS26
          refine ev_iinc (L' := [(4, vI (k + 1)), (3, vI (pt)), (0, .ref (A 11 0)), (1, .ref (A 9 0)), (2, vI (th))]) 0 rfl dX6_partCurtains_81 (by decide) rfl ?_
          refine ev_goto (tgt := 64) dX6_partCurtains_84 (by decide) ?_
          exact ihk (k + 1) (by omega) (by omega) S26 h25 (by omega) hC27 (eqx.tr (l := [50, 58, 59, 60, 61, 62, 63, 64, 65, 66, 67]) hx24 ex28 (by decide) (by decide)) (fun u u0 u1 => (Int.lt_or_eq_of_le (show u ≤ k by omega)).elim (fun x => PC_cu (hpl u u0 x) cu (by omega)) (fun x => by subst x; exact hpk))
      · replace hal := hal.resolve_right (fun x => by omega)
        refine ev_aload_n 2 rfl dX6_partCurtains_40 ?_
        refine ev_iconst dX6_partCurtains_41 ?_
        refine ev_iconst dX6_partCurtains_42 ?_
        refine ev_iload 0 rfl dX6_partCurtains_43 ?_
        have hpf : PfS (MM S l) (len0 l) S9 [] := by
          refine ⟨by rw [hx12 56 (by decide), eS7, upS_ne (by decide), ex4 56 (by decide)]; exact k1, k2.2, fun u u0 u1 => absurd u1 (by unfold len0; simp; omega), fun v v0 v1 => absurd v1 (by have e0 : begL [] = 0 := rfl; omega), fun v v0 v1 => ?_, fun x hx => by cases hx⟩
          have hv := hmt v v0 v1
          rw [hx12 52 (by decide), eS7, upS_ne (by decide)]
          exact ⟨hv.1, fun u u0 u1 => by rw [hv.2 u u0, decide_eq_true u1]; rfl⟩
        have hk : CM E yX6_partFrom cX6_partFrom 6 (some .boolean) ((len0 l).toNat + 1) 0 0 [.ref (A 11 0), vI 0, vI 0, vI q] h10 (QPF E A (MM S l) (len0 l) q (len0 l).toNat [] S9) := k_partFrom (by omega) (len0 l).toNat [] S9 h10 (by have e0 : len0 [] = 0 := rfl; omega) hM11 hpf
        refine c_X6_54 hk hM11.k11 rfl rfl (Nat.le_of_ble_eq_true rfl) (by omega) dX6_partCurtains_45 (kI (fun z29 h30 hqz29 => ?_))
        obtain ⟨S31, hC32, ex33, ⟨rfl, r, r1, r2, r3⟩ | ⟨rfl, hno, _, _⟩⟩ := hqz29
        · have hRS31 := hC32.2.2
          have hxS31 : eqx scc S S31 := (hxS9).tr ex33 (by decide) (by decide)
          have hIS31 := Inv.xc hI hxS31
          refine ev_istore_n (L' := [(3, vI (1)), (4, vI (q)), (0, .ref (A 11 0)), (1, .ref (A 9 0)), (2, vI (th))]) dX6_partCurtains_48 (by decide) rfl ?_
          refine ev_aload_n 2 rfl dX6_partCurtains_49 ?_
          refine ev_iload 1 rfl dX6_partCurtains_50 ?_
          refine cp_X6_51 hC32 (by first | assumption | exact hR _ _ | exact hRS1 _ _ | exact hRS5 _ _ | exact hRS9 _ _ | exact hRS31 _ _ | decide | (simp only [InR]; omega)) dX6_partCurtains_52 (fun S34 h35 eS36 hC37 => ?_)
          have hRS34 := hC37.2.2
          have hxS34 : eqx scc S S34 := by rw [eS36]; exact (hxS31).up (by decide)
          have hIS34 := Inv.xc hI hxS34
          refine ev_iinc (L' := [(4, vI (q + 1)), (3, vI (1)), (0, .ref (A 11 0)), (1, .ref (A 9 0)), (2, vI (th))]) 1 rfl dX6_partCurtains_55 (by decide) rfl ?_
          refine ev_goto (tgt := 27) dX6_partCurtains_58 (by decide) ?_
          exact ihq (q + 1) (by omega) (by omega) 1 S34 h35 (by omega) hC37 (by rw [eS36]; exact eqx.up (l := [53, 55, 57]) (eqx.tr (l := [53, 55, 57]) hx12 ex33 (by decide) (by decide)) (by decide)) (Or.inr ⟨rfl, r, by rw [eS36, upS_at]; exact ⟨by omega, r1, hal.2.2⟩, r2, fun u u0 u1 => by rw [eS36, upS_ne (by decide)]; exact r3 u u0 u1⟩) (by omega)
        · have hRS31 := hC32.2.2
          have hxS31 : eqx scc S S31 := (hxS9).tr ex33 (by decide) (by decide)
          have hIS31 := Inv.xc hI hxS31
          refine ev_istore_n (L' := [(3, vI (0)), (4, vI (q)), (0, .ref (A 11 0)), (1, .ref (A 9 0)), (2, vI (th))]) dX6_partCurtains_48 (by decide) rfl ?_
          refine ev_aload_n 2 rfl dX6_partCurtains_49 ?_
          refine ev_iload 1 rfl dX6_partCurtains_50 ?_
          refine cp_X6_51 hC32 (by first | assumption | exact hR _ _ | exact hRS1 _ _ | exact hRS5 _ _ | exact hRS9 _ _ | exact hRS31 _ _ | decide | (simp only [InR]; omega)) dX6_partCurtains_52 (fun S38 h39 eS40 hC41 => ?_)
          have hRS38 := hC41.2.2
          have hxS38 : eqx scc S S38 := by rw [eS40]; exact (hxS31).up (by decide)
          have hIS38 := Inv.xc hI hxS38
          refine ev_iinc (L' := [(4, vI (q + 1)), (3, vI (0)), (0, .ref (A 11 0)), (1, .ref (A 9 0)), (2, vI (th))]) 1 rfl dX6_partCurtains_55 (by decide) rfl ?_
          refine ev_goto (tgt := 27) dX6_partCurtains_58 (by decide) ?_
          exact ihq (q + 1) (by omega) (by omega) 0 S38 h39 (by omega) hC41 (by rw [eS40]; exact eqx.up (l := [53, 55, 57]) (eqx.tr (l := [53, 55, 57]) hx12 ex33 (by decide) (by decide)) (by decide)) (Or.inl ⟨rfl, hal.2.1, fun u u0 u1 => (Int.lt_or_eq_of_le (show u ≤ q by omega)).elim (fun x => hal.2.2 u u0 x) (fun x => by subst x; exact hno)⟩) (by omega)
  · refine ev_iconst dX6_partCurtains_18 ?_
    refine ev_goto (tgt := 23) dX6_partCurtains_19 (by decide) ?_
    refine ev_istore_n (L' := [(3, vI (1)), (0, .ref (A 11 0)), (1, .ref (A 9 0)), (2, vI (th))]) dX6_partCurtains_23 (by decide) rfl ?_
    refine ev_iconst dX6_partCurtains_24 ?_
    refine ev_istore (L' := [(4, vI (1)), (3, vI (1)), (0, .ref (A 11 0)), (1, .ref (A 9 0)), (2, vI (th))]) dX6_partCurtains_25 (by decide) rfl ?_
    refine up_ind (P := fun q : Int => ∀ (pt : Int) (S42 : MS) (h43 : AH), 0 ≤ q → CR E A S42 h43 → eqx [53, 55, 57] S5 S42 → ((pt = 0 ∧ 1 ≤ len0 l ∧ (∀ u : Int, 0 ≤ u → u < q → dfs (MM S l) u (len0 l).toNat [] = none)) ∨ (pt = 1 ∧ (∃ r, FewP (MM S l) (len0 l) (S42 57 0) r ∧ len0 r = len0 l ∧ ∀ u : Int, 0 ≤ u → u < len0 l → S42 55 u = at0 r u))) → (1 ≤ q ∧ (pt = 0 ∨ pt = 1)) → Ev E RX6 cX6_partCurtains 5 (some .int) "partCurtains" (qI (fun z h' => ∃ S', CR E A S' h' ∧ eqx [50, 52, 53, 55, 57, 58, 59, 60, 61, 62, 63, 64, 65, 66, 67] S S' ∧ ∃ r, FewP (MM S l) (len0 l) z r ∧ FCc S S' l r z)) 13 0 0 27 [(4, vI (q)), (3, vI (pt)), (0, .ref (A 11 0)), (1, .ref (A 9 0)), (2, vI (th))] [] h43) (N := len0 l + 2) ?_ 1 (by omega) 1 S5 h6 (by omega) hC8 eqx.rf (Or.inr ⟨rfl, [], by rw [eS7, upS_at]; exact ⟨by omega, by rw [show len0 l = 0 by omega]; rfl, fun u u0 u1 => absurd u0 (by omega)⟩, by have e0 : len0 [] = 0 := rfl; omega, fun u u0 u1 => absurd u1 (by omega)⟩) (by omega)
    intro q ihq hqN pt S42 h43 pq hM44 hx45 hal hq1
    have hRS42 := hM44.2.2
    have hxS42 : eqx scc S S42 := (hxS5).tr hx45 (by decide) (by decide)
    have hIS42 := Inv.xc hI hxS42
    refine ev_iload 0 rfl dX6_partCurtains_27 ?_
    refine ev_aload_n 2 rfl dX6_partCurtains_29 ?_
    refine cgE_X6_40 (v := len0 l) hM44 (by rw [hx45 56 (by decide), eS7, upS_ne (by decide), ex4 56 (by decide), k1]) dX6_partCurtains_30 ?_
    refine ev_icmp_gt (tgt := 61) dX6_partCurtains_33 (by first | assumption | exact hR _ _ | exact hRS1 _ _ | exact hRS5 _ _ | exact hRS42 _ _ | decide | (simp only [InR]; omega)) (by first | assumption | exact hR _ _ | exact hRS1 _ _ | exact hRS5 _ _ | exact hRS42 _ _ | decide | (simp only [InR]; omega)) (by decide) (fun c33 => ?_) (fun c33 => ?_)
    · have hfw0 : ∃ r, FewP (MM S l) (len0 l) (S42 57 0) r ∧ len0 r = len0 l ∧ ∀ u : Int, 0 ≤ u → u < len0 l → S42 55 u = at0 r u := by
        rcases hal with ⟨a1, a2, a3⟩ | ⟨a1, a2⟩
        · exact absurd (a3 (len0 l) (by omega) (by omega)) (dfs_full _ _ Gd_nil (by have e0 : begL [] = 0 := rfl; omega))
        · exact a2
      obtain ⟨r, hfw, hlr, hr55⟩ := hfw0
      obtain ⟨fg1, fg2, fg3⟩ := few_ok k2.1 hfw
      have hc0 := hfw.1
      have hc1 := few_le k2.1 hfw
      have hok : Okl S l r (len0 l) := ⟨k2, fun j j0 j1 => (k3 j j0 j1).2.1, fun i j i0 ij j1 he => CrP_sw (MM_of (fg1.2.2 i j i0 ij (by omega) he)).1⟩
      refine ev_iconst dX6_partCurtains_61 ?_
      refine ev_istore (L' := [(4, vI (0)), (3, vI (pt)), (0, .ref (A 11 0)), (1, .ref (A 9 0)), (2, vI (th))]) dX6_partCurtains_62 (by decide) rfl ?_
      refine up_ind (P := fun k : Int => ∀ (S46 : MS) (h47 : AH), 0 ≤ k → CR E A S46 h47 → eqx [50, 58, 59, 60, 61, 62, 63, 64, 65, 66, 67] S42 S46 → (∀ u : Int, 0 ≤ u → u < k → PC S l r (len0 l) S46 u) → Ev E RX6 cX6_partCurtains 5 (some .int) "partCurtains" (qI (fun z h' => ∃ S', CR E A S' h' ∧ eqx [50, 52, 53, 55, 57, 58, 59, 60, 61, 62, 63, 64, 65, 66, 67] S S' ∧ ∃ r, FewP (MM S l) (len0 l) z r ∧ FCc S S' l r z)) 13 0 0 64 [(4, vI (k)), (3, vI (pt)), (0, .ref (A 11 0)), (1, .ref (A 9 0)), (2, vI (th))] [] h47) (N := S42 57 0) ?_ 0 (by omega)  S42 h43 (by omega) hM44 eqx.rf (fun u u0 u1 => absurd u0 (by omega))
      intro k ihk hkN S46 h47 pk hM48 hx49 hpl
      have hRS46 := hM48.2.2
      have hxS46 : eqx scc S S46 := (hxS42).tr hx49 (by decide) (by decide)
      have hIS46 := Inv.xc hI hxS46
      refine ev_iload 0 rfl dX6_partCurtains_64 ?_
      refine ev_aload_n 2 rfl dX6_partCurtains_66 ?_
      refine cgE_X6_51 (v := S42 57 0) hM48 (by rw [hx49 57 (by decide)]) dX6_partCurtains_67 ?_
      refine ev_icmp_ge (tgt := 87) dX6_partCurtains_70 (by first | assumption | exact hR _ _ | exact hRS1 _ _ | exact hRS5 _ _ | exact hRS42 _ _ | exact hRS46 _ _ | decide | (simp only [InR]; omega)) (by first | assumption | exact hR _ _ | exact hRS1 _ _ | exact hRS5 _ _ | exact hRS42 _ _ | exact hRS46 _ _ | decide | (simp only [InR]; omega)) (by decide) (fun c70 => ?_) (fun c70 => ?_)
      · refine ev_aload_n 2 rfl dX6_partCurtains_87 ?_
        refine cgE_X6_51 (v := S42 57 0) hM48 (by rw [hx49 57 (by decide)]) dX6_partCurtains_88 ?_
        refine ev_ireturn dX6_partCurtains_91 ?_
        refine ⟨_, rfl, S46, hM48, (eqx.tr (l := [50, 52, 53, 55, 57, 58, 59, 60, 61, 62, 63, 64, 65, 66, 67]) (eqx.tr (l := [50, 52, 53, 55, 57, 58, 59, 60, 61, 62, 63, 64, 65, 66, 67]) (show eqx [50, 52, 53, 55, 57, 58, 59, 60, 61, 62, 63, 64, 65, 66, 67] S S5 from by rw [eS7]; exact (eqx.tr (l := [50, 52, 53, 55, 57, 58, 59, 60, 61, 62, 63, 64, 65, 66, 67]) (eqx.rf (l := [50, 52, 53, 55, 57, 58, 59, 60, 61, 62, 63, 64, 65, 66, 67]) (S := S)) ex4 (by decide) (by decide)).up (by decide)) hx45 (by decide) (by decide)) hx49 (by decide) (by decide)), r, hfw, by rw [hx49 57 (by decide)], fun u u0 u1 => by rw [hx49 55 (by decide)]; exact hr55 u u0 u1, fun u u0 u1 => hpl u u0 (by omega)⟩
      · refine ev_aload_n 2 rfl dX6_partCurtains_73 ?_
        refine ev_iload 0 rfl dX6_partCurtains_74 ?_
        refine ev_aload_n 3 rfl dX6_partCurtains_76 ?_
        refine ev_iload_n 4 rfl dX6_partCurtains_77 ?_
        have hne := me_pos (N := len0 l) k2.1 (by obtain ⟨j, j0, j1, j2⟩ := mem_at0 (fg1.2.1 k (by omega) (by omega)); exact ⟨j, by omega, j2⟩)
        have hok1 : Okl S46 l r (len0 l) := ⟨hok.1, fun j j0 j1 => by unfold SG; rw [hxS46 7 (by decide)]; exact hok.2.1 j j0 j1, fun i j i0 ij j1 he => (CrP_xc hxS46).mpr (hok.2.2 i j i0 ij j1 he)⟩
        refine c_X6_58 (k_tellCurtain (l := l) (r := r) (N := len0 l) (th := th) (k := k) hM48 hIS46 (hK.x (l0 := [50, 52, 53, 55, 57, 58, 59, 60, 61, 62, 63, 64, 65, 66, 67]) (eqx.tr (l := [50, 52, 53, 55, 57, 58, 59, 60, 61, 62, 63, 64, 65, 66, 67]) (eqx.tr (l := [50, 52, 53, 55, 57, 58, 59, 60, 61, 62, 63, 64, 65, 66, 67]) (show eqx [50, 52, 53, 55, 57, 58, 59, 60, 61, 62, 63, 64, 65, 66, 67] S S5 from by rw [eS7]; exact (eqx.tr (l := [50, 52, 53, 55, 57, 58, 59, 60, 61, 62, 63, 64, 65, 66, 67]) (eqx.rf (l := [50, 52, 53, 55, 57, 58, 59, 60, 61, 62, 63, 64, 65, 66, 67]) (S := S)) ex4 (by decide) (by decide)).up (by decide)) hx45 (by decide) (by decide)) hx49 (by decide) (by decide)) (by decide) (by decide) (by decide) (by decide) (by decide)) (by rw [hxS46 16 (by decide)]; exact hth) (fun u u0 u1 => by rw [hx49 55 (by decide)]; exact ⟨hr55 u u0 u1, by have := fg1.1 _ (at0_mem (cs := r) u0 (by omega)); omega⟩) hok1 (by omega) hne) hM48.k11 rfl rfl (Nat.le_of_ble_eq_true rfl) (by decide) dX6_partCurtains_78 (kV (fun h50 hqh50 => ?_))
        obtain ⟨S51, hC52, ex53, cu, p58, p67, p60, p61, p62, p64, p5⟩ := hqh50
        have hRS51 := hC52.2.2
        have hpk : PC S l r (len0 l) S51 k := PC_x hxS46 ⟨p58, p67, p60, p61, p62, p64, (p5 hne).1, (p5 hne).2⟩
        have hxS51 : eqx scc S S51 := (hxS46).tr ex53 (by decide) (by decide)
        have hIS51 := Inv.xc hI hxS51
        refine ev_iinc (L' := [(4, vI (k + 1)), (3, vI (pt)), (0, .ref (A 11 0)), (1, .ref (A 9 0)), (2, vI (th))]) 0 rfl dX6_partCurtains_81 (by decide) rfl ?_
        refine ev_goto (tgt := 64) dX6_partCurtains_84 (by decide) ?_
        exact ihk (k + 1) (by omega) (by omega) S51 h50 (by omega) hC52 (eqx.tr (l := [50, 58, 59, 60, 61, 62, 63, 64, 65, 66, 67]) hx49 ex53 (by decide) (by decide)) (fun u u0 u1 => (Int.lt_or_eq_of_le (show u ≤ k by omega)).elim (fun x => PC_cu (hpl u u0 x) cu (by omega)) (fun x => by subst x; exact hpk))
    · refine ev_iload_n 1 rfl dX6_partCurtains_36 ?_
      refine ev_if_ne (tgt := 61) dX6_partCurtains_37 (by first | assumption | exact hR _ _ | exact hRS1 _ _ | exact hRS5 _ _ | exact hRS42 _ _ | decide | (simp only [InR]; omega)) (by decide) (fun c37 => ?_) (fun c37 => ?_)
      · have hfw0 : ∃ r, FewP (MM S l) (len0 l) (S42 57 0) r ∧ len0 r = len0 l ∧ ∀ u : Int, 0 ≤ u → u < len0 l → S42 55 u = at0 r u := by
          rcases hal with ⟨a1, a2, a3⟩ | ⟨a1, a2⟩
          · omega
          · exact a2
        obtain ⟨r, hfw, hlr, hr55⟩ := hfw0
        obtain ⟨fg1, fg2, fg3⟩ := few_ok k2.1 hfw
        have hc0 := hfw.1
        have hc1 := few_le k2.1 hfw
        have hok : Okl S l r (len0 l) := ⟨k2, fun j j0 j1 => (k3 j j0 j1).2.1, fun i j i0 ij j1 he => CrP_sw (MM_of (fg1.2.2 i j i0 ij (by omega) he)).1⟩
        refine ev_iconst dX6_partCurtains_61 ?_
        refine ev_istore (L' := [(4, vI (0)), (3, vI (pt)), (0, .ref (A 11 0)), (1, .ref (A 9 0)), (2, vI (th))]) dX6_partCurtains_62 (by decide) rfl ?_
        refine up_ind (P := fun k : Int => ∀ (S54 : MS) (h55 : AH), 0 ≤ k → CR E A S54 h55 → eqx [50, 58, 59, 60, 61, 62, 63, 64, 65, 66, 67] S42 S54 → (∀ u : Int, 0 ≤ u → u < k → PC S l r (len0 l) S54 u) → Ev E RX6 cX6_partCurtains 5 (some .int) "partCurtains" (qI (fun z h' => ∃ S', CR E A S' h' ∧ eqx [50, 52, 53, 55, 57, 58, 59, 60, 61, 62, 63, 64, 65, 66, 67] S S' ∧ ∃ r, FewP (MM S l) (len0 l) z r ∧ FCc S S' l r z)) 13 0 0 64 [(4, vI (k)), (3, vI (pt)), (0, .ref (A 11 0)), (1, .ref (A 9 0)), (2, vI (th))] [] h55) (N := S42 57 0) ?_ 0 (by omega)  S42 h43 (by omega) hM44 eqx.rf (fun u u0 u1 => absurd u0 (by omega))
        intro k ihk hkN S54 h55 pk hM56 hx57 hpl
        have hRS54 := hM56.2.2
        have hxS54 : eqx scc S S54 := (hxS42).tr hx57 (by decide) (by decide)
        have hIS54 := Inv.xc hI hxS54
        refine ev_iload 0 rfl dX6_partCurtains_64 ?_
        refine ev_aload_n 2 rfl dX6_partCurtains_66 ?_
        refine cgE_X6_51 (v := S42 57 0) hM56 (by rw [hx57 57 (by decide)]) dX6_partCurtains_67 ?_
        refine ev_icmp_ge (tgt := 87) dX6_partCurtains_70 (by first | assumption | exact hR _ _ | exact hRS1 _ _ | exact hRS5 _ _ | exact hRS42 _ _ | exact hRS54 _ _ | decide | (simp only [InR]; omega)) (by first | assumption | exact hR _ _ | exact hRS1 _ _ | exact hRS5 _ _ | exact hRS42 _ _ | exact hRS54 _ _ | decide | (simp only [InR]; omega)) (by decide) (fun c70 => ?_) (fun c70 => ?_)
        · refine ev_aload_n 2 rfl dX6_partCurtains_87 ?_
          refine cgE_X6_51 (v := S42 57 0) hM56 (by rw [hx57 57 (by decide)]) dX6_partCurtains_88 ?_
          refine ev_ireturn dX6_partCurtains_91 ?_
          refine ⟨_, rfl, S54, hM56, (eqx.tr (l := [50, 52, 53, 55, 57, 58, 59, 60, 61, 62, 63, 64, 65, 66, 67]) (eqx.tr (l := [50, 52, 53, 55, 57, 58, 59, 60, 61, 62, 63, 64, 65, 66, 67]) (show eqx [50, 52, 53, 55, 57, 58, 59, 60, 61, 62, 63, 64, 65, 66, 67] S S5 from by rw [eS7]; exact (eqx.tr (l := [50, 52, 53, 55, 57, 58, 59, 60, 61, 62, 63, 64, 65, 66, 67]) (eqx.rf (l := [50, 52, 53, 55, 57, 58, 59, 60, 61, 62, 63, 64, 65, 66, 67]) (S := S)) ex4 (by decide) (by decide)).up (by decide)) hx45 (by decide) (by decide)) hx57 (by decide) (by decide)), r, hfw, by rw [hx57 57 (by decide)], fun u u0 u1 => by rw [hx57 55 (by decide)]; exact hr55 u u0 u1, fun u u0 u1 => hpl u u0 (by omega)⟩
        · refine ev_aload_n 2 rfl dX6_partCurtains_73 ?_
          refine ev_iload 0 rfl dX6_partCurtains_74 ?_
          refine ev_aload_n 3 rfl dX6_partCurtains_76 ?_
          refine ev_iload_n 4 rfl dX6_partCurtains_77 ?_
          have hne := me_pos (N := len0 l) k2.1 (by obtain ⟨j, j0, j1, j2⟩ := mem_at0 (fg1.2.1 k (by omega) (by omega)); exact ⟨j, by omega, j2⟩)
          have hok1 : Okl S54 l r (len0 l) := ⟨hok.1, fun j j0 j1 => by unfold SG; rw [hxS54 7 (by decide)]; exact hok.2.1 j j0 j1, fun i j i0 ij j1 he => (CrP_xc hxS54).mpr (hok.2.2 i j i0 ij j1 he)⟩
          refine c_X6_58 (k_tellCurtain (l := l) (r := r) (N := len0 l) (th := th) (k := k) hM56 hIS54 (hK.x (l0 := [50, 52, 53, 55, 57, 58, 59, 60, 61, 62, 63, 64, 65, 66, 67]) (eqx.tr (l := [50, 52, 53, 55, 57, 58, 59, 60, 61, 62, 63, 64, 65, 66, 67]) (eqx.tr (l := [50, 52, 53, 55, 57, 58, 59, 60, 61, 62, 63, 64, 65, 66, 67]) (show eqx [50, 52, 53, 55, 57, 58, 59, 60, 61, 62, 63, 64, 65, 66, 67] S S5 from by rw [eS7]; exact (eqx.tr (l := [50, 52, 53, 55, 57, 58, 59, 60, 61, 62, 63, 64, 65, 66, 67]) (eqx.rf (l := [50, 52, 53, 55, 57, 58, 59, 60, 61, 62, 63, 64, 65, 66, 67]) (S := S)) ex4 (by decide) (by decide)).up (by decide)) hx45 (by decide) (by decide)) hx57 (by decide) (by decide)) (by decide) (by decide) (by decide) (by decide) (by decide)) (by rw [hxS54 16 (by decide)]; exact hth) (fun u u0 u1 => by rw [hx57 55 (by decide)]; exact ⟨hr55 u u0 u1, by have := fg1.1 _ (at0_mem (cs := r) u0 (by omega)); omega⟩) hok1 (by omega) hne) hM56.k11 rfl rfl (Nat.le_of_ble_eq_true rfl) (by decide) dX6_partCurtains_78 (kV (fun h58 hqh58 => ?_))
          obtain ⟨S59, hC60, ex61, cu, p58, p67, p60, p61, p62, p64, p5⟩ := hqh58
          have hRS59 := hC60.2.2
          have hpk : PC S l r (len0 l) S59 k := PC_x hxS54 ⟨p58, p67, p60, p61, p62, p64, (p5 hne).1, (p5 hne).2⟩
          have hxS59 : eqx scc S S59 := (hxS54).tr ex61 (by decide) (by decide)
          have hIS59 := Inv.xc hI hxS59
          refine ev_iinc (L' := [(4, vI (k + 1)), (3, vI (pt)), (0, .ref (A 11 0)), (1, .ref (A 9 0)), (2, vI (th))]) 0 rfl dX6_partCurtains_81 (by decide) rfl ?_
          refine ev_goto (tgt := 64) dX6_partCurtains_84 (by decide) ?_
          exact ihk (k + 1) (by omega) (by omega) S59 h58 (by omega) hC60 (eqx.tr (l := [50, 58, 59, 60, 61, 62, 63, 64, 65, 66, 67]) hx57 ex61 (by decide) (by decide)) (fun u u0 u1 => (Int.lt_or_eq_of_le (show u ≤ k by omega)).elim (fun x => PC_cu (hpl u u0 x) cu (by omega)) (fun x => by subst x; exact hpk))
      · replace hal := hal.resolve_right (fun x => by omega)
        refine ev_aload_n 2 rfl dX6_partCurtains_40 ?_
        refine ev_iconst dX6_partCurtains_41 ?_
        refine ev_iconst dX6_partCurtains_42 ?_
        refine ev_iload 0 rfl dX6_partCurtains_43 ?_
        have hpf : PfS (MM S l) (len0 l) S42 [] := by
          refine ⟨by rw [hx45 56 (by decide), eS7, upS_ne (by decide), ex4 56 (by decide)]; exact k1, k2.2, fun u u0 u1 => absurd u1 (by unfold len0; simp; omega), fun v v0 v1 => absurd v1 (by have e0 : begL [] = 0 := rfl; omega), fun v v0 v1 => ?_, fun x hx => by cases hx⟩
          have hv := hmt v v0 v1
          rw [hx45 52 (by decide), eS7, upS_ne (by decide)]
          exact ⟨hv.1, fun u u0 u1 => by rw [hv.2 u u0, decide_eq_true u1]; rfl⟩
        have hk : CM E yX6_partFrom cX6_partFrom 6 (some .boolean) ((len0 l).toNat + 1) 0 0 [.ref (A 11 0), vI 0, vI 0, vI q] h43 (QPF E A (MM S l) (len0 l) q (len0 l).toNat [] S42) := k_partFrom (by omega) (len0 l).toNat [] S42 h43 (by have e0 : len0 [] = 0 := rfl; omega) hM44 hpf
        refine c_X6_54 hk hM44.k11 rfl rfl (Nat.le_of_ble_eq_true rfl) (by omega) dX6_partCurtains_45 (kI (fun z62 h63 hqz62 => ?_))
        obtain ⟨S64, hC65, ex66, ⟨rfl, r, r1, r2, r3⟩ | ⟨rfl, hno, _, _⟩⟩ := hqz62
        · have hRS64 := hC65.2.2
          have hxS64 : eqx scc S S64 := (hxS42).tr ex66 (by decide) (by decide)
          have hIS64 := Inv.xc hI hxS64
          refine ev_istore_n (L' := [(3, vI (1)), (4, vI (q)), (0, .ref (A 11 0)), (1, .ref (A 9 0)), (2, vI (th))]) dX6_partCurtains_48 (by decide) rfl ?_
          refine ev_aload_n 2 rfl dX6_partCurtains_49 ?_
          refine ev_iload 1 rfl dX6_partCurtains_50 ?_
          refine cp_X6_51 hC65 (by first | assumption | exact hR _ _ | exact hRS1 _ _ | exact hRS5 _ _ | exact hRS42 _ _ | exact hRS64 _ _ | decide | (simp only [InR]; omega)) dX6_partCurtains_52 (fun S67 h68 eS69 hC70 => ?_)
          have hRS67 := hC70.2.2
          have hxS67 : eqx scc S S67 := by rw [eS69]; exact (hxS64).up (by decide)
          have hIS67 := Inv.xc hI hxS67
          refine ev_iinc (L' := [(4, vI (q + 1)), (3, vI (1)), (0, .ref (A 11 0)), (1, .ref (A 9 0)), (2, vI (th))]) 1 rfl dX6_partCurtains_55 (by decide) rfl ?_
          refine ev_goto (tgt := 27) dX6_partCurtains_58 (by decide) ?_
          exact ihq (q + 1) (by omega) (by omega) 1 S67 h68 (by omega) hC70 (by rw [eS69]; exact eqx.up (l := [53, 55, 57]) (eqx.tr (l := [53, 55, 57]) hx45 ex66 (by decide) (by decide)) (by decide)) (Or.inr ⟨rfl, r, by rw [eS69, upS_at]; exact ⟨by omega, r1, hal.2.2⟩, r2, fun u u0 u1 => by rw [eS69, upS_ne (by decide)]; exact r3 u u0 u1⟩) (by omega)
        · have hRS64 := hC65.2.2
          have hxS64 : eqx scc S S64 := (hxS42).tr ex66 (by decide) (by decide)
          have hIS64 := Inv.xc hI hxS64
          refine ev_istore_n (L' := [(3, vI (0)), (4, vI (q)), (0, .ref (A 11 0)), (1, .ref (A 9 0)), (2, vI (th))]) dX6_partCurtains_48 (by decide) rfl ?_
          refine ev_aload_n 2 rfl dX6_partCurtains_49 ?_
          refine ev_iload 1 rfl dX6_partCurtains_50 ?_
          refine cp_X6_51 hC65 (by first | assumption | exact hR _ _ | exact hRS1 _ _ | exact hRS5 _ _ | exact hRS42 _ _ | exact hRS64 _ _ | decide | (simp only [InR]; omega)) dX6_partCurtains_52 (fun S71 h72 eS73 hC74 => ?_)
          have hRS71 := hC74.2.2
          have hxS71 : eqx scc S S71 := by rw [eS73]; exact (hxS64).up (by decide)
          have hIS71 := Inv.xc hI hxS71
          refine ev_iinc (L' := [(4, vI (q + 1)), (3, vI (0)), (0, .ref (A 11 0)), (1, .ref (A 9 0)), (2, vI (th))]) 1 rfl dX6_partCurtains_55 (by decide) rfl ?_
          refine ev_goto (tgt := 27) dX6_partCurtains_58 (by decide) ?_
          exact ihq (q + 1) (by omega) (by omega) 0 S71 h72 (by omega) hC74 (by rw [eS73]; exact eqx.up (l := [53, 55, 57]) (eqx.tr (l := [53, 55, 57]) hx45 ex66 (by decide) (by decide)) (by decide)) (Or.inl ⟨rfl, hal.2.1, fun u u0 u1 => (Int.lt_or_eq_of_le (show u ≤ q by omega)).elim (fun x => hal.2.2 u u0 x) (fun x => by subst x; exact hno)⟩) (by omega)

set_option maxHeartbeats 4000000 in
set_option maxRecDepth 100000 in
theorem k_setOfSighting {E : EV} {h : AH} {A : AD} {S : MS} {l r : List Int} {N a : Int} (hC : CR E A S h) (hI : Inv S) (hK : SkL S l N) (hrs : ∀ u : Int, 0 ≤ u → u < N → S 55 u = at0 r u) (ga : InR a) (hex : ∃ j, 0 ≤ j ∧ j < N ∧ at0 l j = a) : CM E yX6_setOfSighting cX6_setOfSighting 3 (some .int) 0 0 0 [.ref (A 11 0), vI (a)] h (qP (at0 r (scanI (ixB l a) 0 N)) h) := by
  have hR := hC.2.2
  have hJ := hI
  obtain ⟨i1, i2, i3, i4, i5, i6, iSt, iSi, iWa, iSh, iLa, iS0, iS1, iZe⟩ := hJ
  obtain ⟨k1, k2, k3⟩ := hK
  obtain ⟨jx, jx0, jx1, jx2⟩ := hex
  have hne := (scanI_ne (p := ixB l a) (decide_eq_true jx2) jx1 0 jx0).resolve_right (by omega)
  refine CM.of (by decide) (Nat.le_of_ble_eq_true rfl) (L := [(0, .ref (A 11 0)), (1, vI (a))]) rfl ?_
  refine ev_iconst dX6_setOfSighting_0 ?_
  refine ev_istore_n (L' := [(2, vI (0)), (0, .ref (A 11 0)), (1, vI (a))]) dX6_setOfSighting_1 (by decide) rfl ?_
  refine up_ind (P := fun i : Int => 0 ≤ i → scanI (ixB l a) 0 N = scanI (ixB l a) i N → Ev E RX6 cX6_setOfSighting 3 (some .int) "setOfSighting" (qP (at0 r (scanI (ixB l a) 0 N)) h) 0 0 0 2 [(2, vI (i)), (0, .ref (A 11 0)), (1, vI (a))] [] h) (N := N) ?_ 0 (by omega)  (by omega) (rfl)
  intro i ihi hiN pi hsc
  have sgx : ∀ j, 0 ≤ j → j < N → SG S (at0 l j) := fun j j0 j1 => (k3 j j0 j1).2.1
  refine ev_iload_n 0 rfl dX6_setOfSighting_2 ?_
  refine ev_aload_n 1 rfl dX6_setOfSighting_3 ?_
  refine cgE_X6_40 (v := N) hC (by rw [k1]) dX6_setOfSighting_4 ?_
  refine ev_icmp_ge (tgt := 33) dX6_setOfSighting_7 (by first | assumption | exact hR _ _ | decide | (simp only [InR]; omega)) (by first | assumption | exact hR _ _ | decide | (simp only [InR]; omega)) (by decide) (fun c7 => ?_) (fun c7 => ?_)
  · refine ev_bipush dX6_setOfSighting_33 (by decide) ?_
    refine ev_ireturn dX6_setOfSighting_35 ?_
    exact absurd (hsc.trans (scanI_end _ (by omega))) hne
  · have sgi := sgx i (by omega) (by omega)
    refine ev_aload_n 1 rfl dX6_setOfSighting_10 ?_
    refine cg_X6_23 hC dX6_setOfSighting_11 ?_
    refine ev_iload_n 0 rfl dX6_setOfSighting_14 ?_
    refine c_ld (k := 14) (s := 51) hC (by decide) rfl dX6_setOfSighting_15 (by omega) (by show _ < ((10 : Nat) : Int); omega) ?_
    refine ev_ren (b := at0 l i) ((k3 i (by omega) (by omega)).1.1) ?_
    refine ev_iload_n 2 rfl dX6_setOfSighting_16 ?_
    refine ev_icmp_ne (tgt := 27) dX6_setOfSighting_17 (by first | assumption | exact hR _ _ | decide | (simp only [InR]; omega)) (by first | assumption | exact hR _ _ | decide | (simp only [InR]; omega)) (by decide) (fun c17 => ?_) (fun c17 => ?_)
    · refine ev_iinc (L' := [(2, vI (i + 1)), (0, .ref (A 11 0)), (1, vI (a))]) 0 rfl dX6_setOfSighting_27 (by decide) rfl ?_
      refine ev_goto (tgt := 2) dX6_setOfSighting_30 (by decide) ?_
      exact ihi (i + 1) (by omega) (by omega) (by omega) (by rw [hsc, scanI_s _ (by omega), if_neg (by unfold ixB; rw [decide_eq_true_iff]; omega)])
    · refine ev_aload_n 1 rfl dX6_setOfSighting_20 ?_
      refine cg_X6_36 hC dX6_setOfSighting_21 ?_
      refine ev_iload_n 0 rfl dX6_setOfSighting_24 ?_
      refine c_ld (k := 18) (s := 55) hC (by decide) rfl dX6_setOfSighting_25 (by omega) (by show _ < ((10 : Nat) : Int); omega) ?_
      refine ev_ireturn dX6_setOfSighting_26 ?_
      exact ⟨rfl, congrArg (fun z => some (vI z)) (by rw [hsc, scanI_s _ (by omega), if_pos (by unfold ixB; exact decide_eq_true (by omega))]; exact hrs i (by omega) (by omega))⟩

