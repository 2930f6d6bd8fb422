theorem sumN_nn {f : Int → Int} : ∀ n : Nat, (∀ k, 0 ≤ k → k < (n : Int) → 0 ≤ f k) → 0 ≤ sumI f n := by
  intro n
  induction n with
  | zero => intro _; exact Int.le_refl _
  | succ n ih =>
    intro hf
    rw [show ((n + 1 : Nat) : Int) = (n : Int) + 1 by omega, sumI_s _ (by omega)]
    have h1 := ih (fun k k0 k1 => hf k k0 (by omega))
    have h2 := hf n (by omega) (by omega)
    omega
theorem sum_ex {f : Int → Int} : ∀ n : Nat, (∀ k, 0 ≤ k → k < (n : Int) → 0 ≤ f k) → 0 < sumI f n → ∃ k, (0 ≤ k ∧ k < (n : Int)) ∧ 0 < f k := by
  intro n
  induction n with
  | zero =>
    intro _ h
    have e : sumI f ((0 : Nat) : Int) = 0 := rfl
    omega
  | succ n ih =>
    intro hf h
    rw [show ((n + 1 : Nat) : Int) = (n : Int) + 1 by omega, sumI_s _ (by omega)] at h
    by_cases q : 0 < f n
    · exact ⟨n, by omega, q⟩
    · obtain ⟨k, hk, hp⟩ := ih (fun k k0 k1 => hf k k0 (by omega)) (by omega)
      exact ⟨k, by omega, hp⟩
theorem sum_two {f : Int → Int} : ∀ n : Nat, (∀ k, 0 ≤ k → k < (n : Int) → 0 ≤ f k ∧ f k ≤ 1) → 2 ≤ sumI f n → ∃ i j, (0 ≤ i ∧ i < j ∧ j < (n : Int)) ∧ 0 < f i ∧ 0 < f j := by
  intro n
  induction n with
  | zero =>
    intro _ h
    have e : sumI f ((0 : Nat) : Int) = 0 := rfl
    omega
  | succ n ih =>
    intro hf h
    rw [show ((n + 1 : Nat) : Int) = (n : Int) + 1 by omega, sumI_s _ (by omega)] at h
    have hn := hf n (by omega) (by omega)
    by_cases q : 0 < f n
    · obtain ⟨k, hk, hp⟩ := sum_ex n (fun k k0 k1 => (hf k k0 (by omega)).1) (by omega)
      exact ⟨k, n, by omega, hp, q⟩
    · obtain ⟨i, j, hij, hp⟩ := ih (fun k k0 k1 => hf k k0 (by omega)) (by omega)
      exact ⟨i, j, by omega, hp⟩
theorem sum_ge {f : Int → Int} {i : Int} (i0 : 0 ≤ i) : ∀ n : Nat, (∀ k, 0 ≤ k → k < (n : Int) → 0 ≤ f k) → i < (n : Int) → f i ≤ sumI f n := by
  intro n
  induction n with
  | zero => intro _ h; omega
  | succ n ih =>
    intro hf h
    rw [show ((n + 1 : Nat) : Int) = (n : Int) + 1 by omega, sumI_s _ (by omega)]
    have hn := hf n (by omega) (by omega)
    by_cases q : i = n
    · rw [q]
      have hs : 0 ≤ sumI f n := by
        have := sumN_nn (f := f) n (fun k k0 k1 => hf k k0 (by omega))
        exact this
      omega
    · have := ih (fun k k0 k1 => hf k k0 (by omega)) (by omega)
      omega
theorem pr_me {r : List Int} {N k : Int} (hN : 0 ≤ N ∧ N ≤ 10) : 0 < prK r k N ↔ 2 ≤ meK r k N := by
  unfold prK meK
  rw [sum_dn hN.1, sum_dn hN.1]
  have eN : (N.toNat : Int) = N := Int.toNat_of_nonneg hN.1
  constructor
  · intro h
    rw [← eN] at h
    obtain ⟨i, hi, hp⟩ := sum_ex N.toNat (fun k _ _ => by rw [eN]; exact (plP_b hN).1) h
    rw [eN] at hp hi
    have hk : at0 r i = k := by
      by_cases q : at0 r i = k
      · exact q
      · have : plP r k N i = 0 := if_neg q
        omega
    have hp2 : plP r k N i = sumI (rwP r k i) N := if_pos hk
    rw [hp2, ← eN] at hp
    obtain ⟨j, hj, hq⟩ := sum_ex N.toNat (fun k _ _ => rwP_b.1) hp
    rw [eN] at hj
    have hj2 : i < j ∧ at0 r j = k := by
      by_cases q : i < j ∧ at0 r j = k
      · exact q
      · have : rwP r k i j = 0 := if_neg q
        omega
    have m1 : plM r k i = 1 := if_pos hk
    have m2 : plM r k j = 1 := if_pos hj2.2
    have g1 := sum_ge (f := plM r k) hi.1 j.toNat (fun k _ _ => plM_b.1) (by omega)
    rw [Int.toNat_of_nonneg hj.1] at g1
    have g2 : sumI (plM r k) (j + 1) ≤ sumI (plM r k) N := by
      have : ∀ m : Nat, sumI (plM r k) (j + 1) ≤ sumI (plM r k) (j + 1 + m) := by
        intro m
        induction m with
        | zero =>
          rw [show j + 1 + ((0 : Nat) : Int) = j + 1 by omega]
          exact Int.le_refl _
        | succ m ih =>
          rw [show j + 1 + ((m + 1 : Nat) : Int) = j + 1 + (m : Int) + 1 by omega, sumI_s (i := j + 1 + (m : Int)) _ (by omega)]
          have := plM_b (r := r) (k := k) (i := j + 1 + m)
          omega
      have h2 := this (N - (j + 1)).toNat
      rw [show j + 1 + ((N - (j + 1)).toNat : Int) = N by omega] at h2
      exact h2
    rw [sumI_s _ hj.1, m2] at g2
    omega
  · intro h
    rw [← eN] at h
    obtain ⟨i, j, hij, hp, hq⟩ := sum_two N.toNat (fun k _ _ => plM_b) h
    rw [eN] at hij
    have hk : at0 r i = k := by
      by_cases q : at0 r i = k
      · exact q
      · have : plM r k i = 0 := if_neg q
        omega
    have hj2 : at0 r j = k := by
      by_cases q : at0 r j = k
      · exact q
      · have : plM r k j = 0 := if_neg q
        omega
    have hp2 : plP r k N i = sumI (rwP r k i) N := if_pos hk
    have w1 : rwP r k i j = 1 := if_pos ⟨hij.2.1, hj2⟩
    have g1 := sum_ge (f := rwP r k i) (i := j) (by omega) N.toNat (fun k _ _ => rwP_b.1) (by omega)
    have g2 := sum_ge (f := plP r k N) (i := i) hij.1 N.toNat (fun k _ _ => (plP_b hN).1) (by omega)
    rw [eN] at g1 g2
    omega

set_option maxHeartbeats 4000000 in
set_option maxRecDepth 100000 in
theorem k_lookAt {E : EV} {h : AH} {A : AD} {S : MS} {n : Int} (hC : CR E A S h) (hI : Inv S) (hJ : ∀ j, S 68 j < S 7 0) (g1 : InR n) : CM E yX9_lookAt cX9_lookAt 2 (some .int) 14 0 0 [.ref (A 0 0), vI (n)] h (qI (fun z h' => ∃ S', CR E A S' h' ∧ eqx [50, 51, 52, 53, 55, 56, 57, 58, 59, 60, 61, 62, 63, 64, 65, 66, 67, 68] S S' ∧ (∀ j, S' 68 j < S 7 0) ∧ ((10 < len0 (nightL S n) ∧ z = -3) ∨ (len0 (nightL S n) ≤ 10 ∧ ∃ r, FewP (MM S (nightL S n)) (len0 (nightL S n)) z r ∧ SkL S' (nightL S n) (len0 (nightL S n)) ∧ FCc S S' (nightL S n) r z)))) := by
  have hR := hC.2.2
  have hJ := hI
  obtain ⟨i1, i2, i3, i4, i5, i6, iSt, iSi, iWa, iSh, iLa, iS0, iS1, iZe⟩ := hJ
  refine CM.of (by decide) (Nat.le_of_ble_eq_true rfl) (L := [(0, .ref (A 0 0)), (1, vI (n))]) rfl ?_
  refine ev_aload_n 0 rfl dX9_lookAt_0 ?_
  refine cg_X9_56 hC dX9_lookAt_1 ?_
  refine ev_aload_n 0 rfl dX9_lookAt_4 ?_
  refine cg_X9_17 hC dX9_lookAt_5 ?_
  refine ev_aload_n 0 rfl dX9_lookAt_8 ?_
  refine cg_X9_91 hC dX9_lookAt_9 ?_
  refine ev_iload_n 1 rfl dX9_lookAt_12 ?_
  refine c_X9_297 (k_gather (n := n) hC hI hJ g1) hC.k11 rfl rfl (Nat.le_of_ble_eq_true rfl) (by decide) dX9_lookAt_13 (kI (fun z1 h2 hqz1 => ?_))
  obtain ⟨S3, hC4, ex5, h68, ⟨rfl, hful⟩ | ⟨rfl, hga⟩⟩ := hqz1
  · have hRS3 := hC4.2.2
    have hxS3 : eqx scc S S3 := (eqx.rf (l := scc) (S := S)).tr ex5 (by decide) (by decide)
    have hIS3 := Inv.xc hI hxS3
    refine ev_if_ne (tgt := 22) dX9_lookAt_16 (by decide) (by decide) (fun c => absurd c (by decide)) (fun _ => ?_)
    refine ev_bipush dX9_lookAt_19 (by decide) ?_
    refine ev_ireturn dX9_lookAt_21 ?_
    exact ⟨_, rfl, S3, hC4, (eqx.tr (l := [50, 51, 52, 53, 55, 56, 57, 58, 59, 60, 61, 62, 63, 64, 65, 66, 67, 68]) (eqx.rf (l := [50, 51, 52, 53, 55, 56, 57, 58, 59, 60, 61, 62, 63, 64, 65, 66, 67, 68]) (S := S)) ex5 (by decide) (by decide)), h68, Or.inl ⟨hful, rfl⟩⟩
  · have hRS3 := hC4.2.2
    have hxS3 : eqx scc S S3 := (eqx.rf (l := scc) (S := S)).tr ex5 (by decide) (by decide)
    have hIS3 := Inv.xc hI hxS3
    obtain ⟨nb1, nb2⟩ := night_b (S := S) (n := n) hI
    have hga2 : len0 (nightL S n) ≤ 10 := hga.2.1
    have hsk : SkL S3 (nightL S n) (len0 (nightL S n)) := ⟨hga.1, ⟨nb1.1, hga2⟩, fun j j0 j1 => ⟨hga.2.2 j j0 j1, by unfold SG; rw [ex5 7 (by decide)]; exact (nb2 j j0 j1).1, by rw [ex5 8 (by decide)]; have := (nb2 j j0 j1).2.2; omega⟩⟩
    refine ev_if_ne (tgt := 22) dX9_lookAt_16 (by decide) (by decide) (fun _ => ?_) (fun c => absurd c (by decide))
    refine ev_aload_n 0 rfl dX9_lookAt_22 ?_
    refine cg_X9_56 hC4 dX9_lookAt_23 ?_
    refine ev_aload_n 0 rfl dX9_lookAt_26 ?_
    refine cg_X9_49 hC4 dX9_lookAt_27 ?_
    refine ev_aload_n 0 rfl dX9_lookAt_30 ?_
    refine cgE_X9_60 (v := S 16 0) hC4 (by rw [ex5 16 (by decide)]) dX9_lookAt_31 ?_
    refine c_X9_301 (k_partCurtains (l := (nightL S n)) (th := S 16 0) hC4 hIS3 hsk (by rw [ex5 16 (by decide)])) hC4.k11 rfl rfl (Nat.le_of_ble_eq_true rfl) (by decide) dX9_lookAt_34 (kI (fun z6 h7 hqz6 => ?_))
    obtain ⟨S8, hC9, ex10, r, hfw, hfc⟩ := hqz6
    rw [MM_xc hxS3] at hfw
    refine ev_ireturn dX9_lookAt_37 ?_
    exact ⟨_, rfl, S8, hC9, eqx.tr (l := [50, 51, 52, 53, 55, 56, 57, 58, 59, 60, 61, 62, 63, 64, 65, 66, 67, 68]) ex5 ex10 (by decide) (by decide), by rw [ex10 68 (by decide)]; exact h68, Or.inr ⟨hga2, r, hfw, hsk.x ex10 (by decide) (by decide) (by decide) (by decide) (by decide), hfc.1, hfc.2.1, fun k k0 k1 => PC_x hxS3 (hfc.2.2 k k0 k1)⟩⟩

set_option maxHeartbeats 4000000 in
set_option maxRecDepth 100000 in
theorem k_curtains {E : EV} {h : AH} {A : AD} {S : MS} {n : Int} (hC : CR E A S h) (hI : Inv S) (hJ : ∀ j, S 68 j < S 7 0) (g1 : InR n) : CM E yX9_curtains cX9_curtains 2 (some .int) 15 0 0 [.ref (A 0 0), vI (n)] h (qI (fun z h' => z = sp_curtains S n ∧ ∃ S', CR E A S' h' ∧ eqx [50, 51, 52, 53, 54, 55, 56, 57, 58, 59, 60, 61, 62, 63, 64, 65, 66, 67, 68] S S' ∧ ∀ j, S' 68 j < S 7 0)) := by
  have hR := hC.2.2
  have hJ := hI
  obtain ⟨i1, i2, i3, i4, i5, i6, iSt, iSi, iWa, iSh, iLa, iS0, iS1, iZe⟩ := hJ
  refine CM.of (by decide) (Nat.le_of_ble_eq_true rfl) (L := [(0, .ref (A 0 0)), (1, vI (n))]) rfl ?_
  refine ev_iload_n 1 rfl dX9_curtains_0 ?_
  refine c_X9_178 (k_isNight E (n := n) (by first | assumption | exact hR _ _ | decide | (simp only [InR]; omega))) rfl rfl (Nat.le_of_ble_eq_true rfl) (by decide) dX9_curtains_1 (kB (fun b1 => ?_) (fun b1 => ?_))
  · refine ev_if_eq (tgt := 15) dX9_curtains_4 (by decide) (by decide) (fun c => absurd c (by decide)) (fun _ => ?_)
    refine ev_aload_n 0 rfl dX9_curtains_7 ?_
    refine ev_iload_n 1 rfl dX9_curtains_8 ?_
    obtain ⟨nb1, nb2⟩ := night_b (S := S) (n := n) hI
    refine c_X9_181 (k_lookAt (n := n) hC hI hJ (by first | assumption | exact hR _ _ | decide | (simp only [InR]; omega))) hC.k0 rfl rfl (Nat.le_of_ble_eq_true rfl) (by decide) dX9_curtains_9 (kI (fun z1 h2 hqz1 => ?_))
    obtain ⟨S3, hC4, ex5, h68, ⟨hful, rfl⟩ | ⟨hful, r, hfw, hsk, hfc⟩⟩ := hqz1
    · have hRS3 := hC4.2.2
      have hxS3 : eqx scc S S3 := (eqx.rf (l := scc) (S := S)).tr ex5 (by decide) (by decide)
      have hIS3 := Inv.xc hI hxS3
      refine ev_goto (tgt := 16) dX9_curtains_12 (by decide) ?_
      refine ev_ireturn dX9_curtains_16 ?_
      refine ⟨_, rfl, ?_, S3, hC4, (eqx.tr (l := [50, 51, 52, 53, 54, 55, 56, 57, 58, 59, 60, 61, 62, 63, 64, 65, 66, 67, 68]) (eqx.rf (l := [50, 51, 52, 53, 54, 55, 56, 57, 58, 59, 60, 61, 62, 63, 64, 65, 66, 67, 68]) (S := S)) ex5 (by decide) (by decide)), h68⟩
      simp only [sp_curtains]; rw [if_neg (by omega), if_pos (by omega)]
    · have hRS3 := hC4.2.2
      have hcu : cuZ S n = (z1, r) := fewZ_eq hfw
      have hc0 := hfw.1
      have hc1 := few_le nb1.1 hfw
      obtain ⟨fg1, fg2, fg3⟩ := few_ok nb1.1 hfw
      have hxS3 : eqx scc S S3 := (eqx.rf (l := scc) (S := S)).tr ex5 (by decide) (by decide)
      have hIS3 := Inv.xc hI hxS3
      refine ev_goto (tgt := 16) dX9_curtains_12 (by decide) ?_
      refine ev_ireturn dX9_curtains_16 ?_
      refine ⟨_, rfl, ?_, S3, hC4, (eqx.tr (l := [50, 51, 52, 53, 54, 55, 56, 57, 58, 59, 60, 61, 62, 63, 64, 65, 66, 67, 68]) (eqx.rf (l := [50, 51, 52, 53, 54, 55, 56, 57, 58, 59, 60, 61, 62, 63, 64, 65, 66, 67, 68]) (S := S)) ex5 (by decide) (by decide)), h68⟩
      simp only [sp_curtains]; rw [if_neg (by omega), if_neg (by omega), hcu]
  · refine ev_if_eq (tgt := 15) dX9_curtains_4 (by decide) (by decide) (fun _ => ?_) (fun c => absurd c (by decide))
    refine ev_iconst dX9_curtains_15 ?_
    refine ev_ireturn dX9_curtains_16 ?_
    refine ⟨_, rfl, ?_, S, hC, (eqx.rf (l := [50, 51, 52, 53, 54, 55, 56, 57, 58, 59, 60, 61, 62, 63, 64, 65, 66, 67, 68]) (S := S)), hJ⟩
    simp only [sp_curtains]; rw [if_pos (by omega)]

set_option maxHeartbeats 4000000 in
set_option maxRecDepth 100000 in
theorem k_curtain {E : EV} {h : AH} {A : AD} {S : MS} {n k w : Int} (hC : CR E A S h) (hI : Inv S) (hJ : ∀ j, S 68 j < S 7 0) (g1 : InR n) (g2 : InR k) (g3 : InR w) : CM E yX9_curtain cX9_curtain 6 (some .int) 15 0 0 [.ref (A 0 0), vI (n), vI (k), vI (w)] h (qI (fun z h' => z = sp_curtain S n k w ∧ ∃ S', CR E A S' h' ∧ eqx [50, 51, 52, 53, 54, 55, 56, 57, 58, 59, 60, 61, 62, 63, 64, 65, 66, 67, 68] S S' ∧ ∀ j, S' 68 j < S 7 0)) := by
  have hR := hC.2.2
  have hJ := hI
  obtain ⟨i1, i2, i3, i4, i5, i6, iSt, iSi, iWa, iSh, iLa, iS0, iS1, iZe⟩ := hJ
  refine CM.of (by decide) (Nat.le_of_ble_eq_true rfl) (L := [(0, .ref (A 0 0)), (1, vI (n)), (2, vI (k)), (3, vI (w))]) rfl ?_
  refine ev_iload_n 1 rfl dX9_curtain_0 ?_
  refine c_X9_178 (k_isNight E (n := n) (by first | assumption | exact hR _ _ | decide | (simp only [InR]; omega))) rfl rfl (Nat.le_of_ble_eq_true rfl) (by decide) dX9_curtain_1 (kB (fun b1 => ?_) (fun b1 => ?_))
  · refine ev_if_eq (tgt := 20) dX9_curtain_4 (by decide) (by decide) (fun c => absurd c (by decide)) (fun _ => ?_)
    refine ev_iload_n 2 rfl dX9_curtain_7 ?_
    refine ev_if_lt (tgt := 20) dX9_curtain_8 (by first | assumption | exact hR _ _ | decide | (simp only [InR]; omega)) (by decide) (fun c8 => ?_) (fun c8 => ?_)
    · refine ev_ldc (z := -100001) dX9_curtain_20 k_X9_164 (by decide) ?_
      refine ev_ireturn dX9_curtain_22 ?_
      refine ⟨_, rfl, ?_, S, hC, (eqx.rf (l := [50, 51, 52, 53, 54, 55, 56, 57, 58, 59, 60, 61, 62, 63, 64, 65, 66, 67, 68]) (S := S)), hJ⟩
      simp only [sp_curtain]; rw [if_pos (by omega)]
    · refine ev_iload_n 3 rfl dX9_curtain_11 ?_
      refine ev_iconst dX9_curtain_12 ?_
      refine ev_iconst dX9_curtain_13 ?_
      refine c_X9_67 (k_isWithin E (v := w) (a := 0) (b := 5) (by first | assumption | exact hR _ _ | decide | (simp only [InR]; omega)) (by decide) (by decide)) rfl rfl (Nat.le_of_ble_eq_true rfl) (by decide) dX9_curtain_14 (kB (fun b14 => ?_) (fun b14 => ?_))
      · refine ev_if_ne (tgt := 23) dX9_curtain_17 (by decide) (by decide) (fun _ => ?_) (fun c => absurd c (by decide))
        refine ev_aload_n 0 rfl dX9_curtain_23 ?_
        refine ev_iload_n 1 rfl dX9_curtain_24 ?_
        obtain ⟨nb1, nb2⟩ := night_b (S := S) (n := n) hI
        refine c_X9_181 (k_lookAt (n := n) hC hI hJ (by first | assumption | exact hR _ _ | decide | (simp only [InR]; omega))) hC.k0 rfl rfl (Nat.le_of_ble_eq_true rfl) (by decide) dX9_curtain_25 (kI (fun z1 h2 hqz1 => ?_))
        obtain ⟨S3, hC4, ex5, h68, ⟨hful, rfl⟩ | ⟨hful, r, hfw, hsk, hfc⟩⟩ := hqz1
        · have hRS3 := hC4.2.2
          have hxS3 : eqx scc S S3 := (eqx.rf (l := scc) (S := S)).tr ex5 (by decide) (by decide)
          have hIS3 := Inv.xc hI hxS3
          refine ev_istore (L' := [(4, vI (-3)), (0, .ref (A 0 0)), (1, vI (n)), (2, vI (k)), (3, vI (w))]) dX9_curtain_28 (by decide) rfl ?_
          refine ev_iload 0 rfl dX9_curtain_30 ?_
          refine ev_bipush dX9_curtain_32 (by decide) ?_
          refine ev_icmp_ne (tgt := 40) dX9_curtain_34 (by decide) (by decide) (by decide) (fun c34 => ?_) (fun c34 => ?_)
          · exact absurd rfl c34
          · refine ev_ldc (z := -100003) dX9_curtain_37 k_X9_184 (by decide) ?_
            refine ev_ireturn dX9_curtain_39 ?_
            refine ⟨_, rfl, ?_, S3, hC4, (eqx.tr (l := [50, 51, 52, 53, 54, 55, 56, 57, 58, 59, 60, 61, 62, 63, 64, 65, 66, 67, 68]) (eqx.rf (l := [50, 51, 52, 53, 54, 55, 56, 57, 58, 59, 60, 61, 62, 63, 64, 65, 66, 67, 68]) (S := S)) ex5 (by decide) (by decide)), h68⟩
            simp only [sp_curtain]; rw [if_neg (by omega), if_pos (by omega)]
        · have hRS3 := hC4.2.2
          have hcu : cuZ S n = (z1, r) := fewZ_eq hfw
          have hc0 := hfw.1
          have hc1 := few_le nb1.1 hfw
          obtain ⟨fg1, fg2, fg3⟩ := few_ok nb1.1 hfw
          have hxS3 : eqx scc S S3 := (eqx.rf (l := scc) (S := S)).tr ex5 (by decide) (by decide)
          have hIS3 := Inv.xc hI hxS3
          refine ev_istore (L' := [(4, vI (z1)), (0, .ref (A 0 0)), (1, vI (n)), (2, vI (k)), (3, vI (w))]) dX9_curtain_28 (by decide) rfl ?_
          refine ev_iload 0 rfl dX9_curtain_30 ?_
          refine ev_bipush dX9_curtain_32 (by decide) ?_
          refine ev_icmp_ne (tgt := 40) dX9_curtain_34 (by first | assumption | exact hR _ _ | exact hRS3 _ _ | decide | (simp only [InR]; omega)) (by decide) (by decide) (fun c34 => ?_) (fun c34 => ?_)
          · refine ev_iload_n 3 rfl dX9_curtain_40 ?_
            refine ev_iload 0 rfl dX9_curtain_41 ?_
            refine ev_icmp_lt (tgt := 49) dX9_curtain_43 (by first | assumption | exact hR _ _ | exact hRS3 _ _ | decide | (simp only [InR]; omega)) (by first | assumption | exact hR _ _ | exact hRS3 _ _ | decide | (simp only [InR]; omega)) (by decide) (fun c43 => ?_) (fun c43 => ?_)
            · obtain ⟨p1, pp, p3, p4, p5, p6, p2, p7⟩ := hfc.2.2 k (by omega) (by omega)
              have pm := pr_me (r := r) (k := k) (N := len0 (nightL S n)) (by omega)
              refine ev_aload_n 1 rfl dX9_curtain_49 ?_
              refine cg_X9_56 hC4 dX9_curtain_50 ?_
              refine cg_X9_185 hC4 dX9_curtain_53 ?_
              refine ev_iload_n 3 rfl dX9_curtain_56 ?_
              refine c_aa12 hC4 dX9_curtain_57 (by omega) (by omega) ?_
              refine ev_astore (L' := [(5, .ref (A 19 k)), (4, vI (z1)), (0, .ref (A 0 0)), (1, vI (n)), (2, vI (k)), (3, vI (w))]) dX9_curtain_58 (by decide) rfl ?_
              refine ev_iload_n 5 rfl dX9_curtain_60 ?_
              refine ev_iconst dX9_curtain_61 ?_
              refine ev_iconst dX9_curtain_62 ?_
              refine c_X9_67 (k_isWithin E (v := w) (a := 2) (b := 4) (by first | assumption | exact hR _ _ | exact hRS3 _ _ | decide | (simp only [InR]; omega)) (by decide) (by decide)) rfl rfl (Nat.le_of_ble_eq_true rfl) (by decide) dX9_curtain_63 (kB (fun b63 => ?_) (fun b63 => ?_))
              · refine ev_if_eq (tgt := 80) dX9_curtain_66 (by decide) (by decide) (fun c => absurd c (by decide)) (fun _ => ?_)
                refine ev_aload 0 rfl dX9_curtain_69 ?_
                refine c_X9_189 (k_hasPlace (k := k) hC4 (by omega)) (hC4.k19 (by omega)) rfl rfl (Nat.le_of_ble_eq_true rfl) (by decide) dX9_curtain_71 (kB (fun b71 => ?_) (fun b71 => ?_))
                · refine ev_if_ne (tgt := 80) dX9_curtain_74 (by decide) (by decide) (fun _ => ?_) (fun c => absurd c (by decide))
                  refine ev_aload 0 rfl dX9_curtain_80 ?_
                  refine ev_iload_n 5 rfl dX9_curtain_82 ?_
                  refine c_X9_195 (k_answer (k := k) (w := w) hC4 (by omega) (by first | assumption | exact hR _ _ | exact hRS3 _ _ | decide | (simp only [InR]; omega))) (hC4.k19 (by omega)) rfl rfl (Nat.le_of_ble_eq_true rfl) (by decide) dX9_curtain_83 (kP ?_)
                  refine ev_ren (b := cuA S (nightL S n) r k w) (by unfold cuA; rw [p1, p2, p3, p4, p5, p7]) ?_
                  refine ev_ireturn dX9_curtain_86 ?_
                  refine ⟨_, rfl, ?_, S3, hC4, (eqx.tr (l := [50, 51, 52, 53, 54, 55, 56, 57, 58, 59, 60, 61, 62, 63, 64, 65, 66, 67, 68]) (eqx.rf (l := [50, 51, 52, 53, 54, 55, 56, 57, 58, 59, 60, 61, 62, 63, 64, 65, 66, 67, 68]) (S := S)) ex5 (by decide) (by decide)), h68⟩
                  simp only [sp_curtain]; rw [if_neg (by omega), if_neg (by omega), hcu, if_neg (by omega)]; dsimp only; rw [if_neg (by omega)]
                · refine ev_if_ne (tgt := 80) dX9_curtain_74 (by decide) (by decide) (fun c => absurd c (by decide)) (fun _ => ?_)
                  refine ev_ldc (z := -100004) dX9_curtain_77 k_X9_176 (by decide) ?_
                  refine ev_ireturn dX9_curtain_79 ?_
                  refine ⟨_, rfl, ?_, S3, hC4, (eqx.tr (l := [50, 51, 52, 53, 54, 55, 56, 57, 58, 59, 60, 61, 62, 63, 64, 65, 66, 67, 68]) (eqx.rf (l := [50, 51, 52, 53, 54, 55, 56, 57, 58, 59, 60, 61, 62, 63, 64, 65, 66, 67, 68]) (S := S)) ex5 (by decide) (by decide)), h68⟩
                  simp only [sp_curtain]; rw [if_neg (by omega), if_neg (by omega), hcu, if_neg (by omega)]; dsimp only; rw [if_pos ⟨by omega, by omega⟩]
              · refine ev_if_eq (tgt := 80) dX9_curtain_66 (by decide) (by decide) (fun _ => ?_) (fun c => absurd c (by decide))
                refine ev_aload 0 rfl dX9_curtain_80 ?_
                refine ev_iload_n 5 rfl dX9_curtain_82 ?_
                refine c_X9_195 (k_answer (k := k) (w := w) hC4 (by omega) (by first | assumption | exact hR _ _ | exact hRS3 _ _ | decide | (simp only [InR]; omega))) (hC4.k19 (by omega)) rfl rfl (Nat.le_of_ble_eq_true rfl) (by decide) dX9_curtain_83 (kP ?_)
                refine ev_ren (b := cuA S (nightL S n) r k w) (by unfold cuA; rw [p1, p2, p3, p4, p5, p7]) ?_
                refine ev_ireturn dX9_curtain_86 ?_
                refine ⟨_, rfl, ?_, S3, hC4, (eqx.tr (l := [50, 51, 52, 53, 54, 55, 56, 57, 58, 59, 60, 61, 62, 63, 64, 65, 66, 67, 68]) (eqx.rf (l := [50, 51, 52, 53, 54, 55, 56, 57, 58, 59, 60, 61, 62, 63, 64, 65, 66, 67, 68]) (S := S)) ex5 (by decide) (by decide)), h68⟩
                simp only [sp_curtain]; rw [if_neg (by omega), if_neg (by omega), hcu, if_neg (by omega)]; dsimp only; rw [if_neg (by omega)]
            · refine ev_ldc (z := -100001) dX9_curtain_46 k_X9_164 (by decide) ?_
              refine ev_ireturn dX9_curtain_48 ?_
              refine ⟨_, rfl, ?_, S3, hC4, (eqx.tr (l := [50, 51, 52, 53, 54, 55, 56, 57, 58, 59, 60, 61, 62, 63, 64, 65, 66, 67, 68]) (eqx.rf (l := [50, 51, 52, 53, 54, 55, 56, 57, 58, 59, 60, 61, 62, 63, 64, 65, 66, 67, 68]) (S := S)) ex5 (by decide) (by decide)), h68⟩
              simp only [sp_curtain]; rw [if_neg (by omega), if_neg (by omega), hcu, if_pos (by omega)]
          · exact absurd hc0 (by omega)
      · refine ev_if_ne (tgt := 23) dX9_curtain_17 (by decide) (by decide) (fun c => absurd c (by decide)) (fun _ => ?_)
        refine ev_ldc (z := -100001) dX9_curtain_20 k_X9_164 (by decide) ?_
        refine ev_ireturn dX9_curtain_22 ?_
        refine ⟨_, rfl, ?_, S, hC, (eqx.rf (l := [50, 51, 52, 53, 54, 55, 56, 57, 58, 59, 60, 61, 62, 63, 64, 65, 66, 67, 68]) (S := S)), hJ⟩
        simp only [sp_curtain]; rw [if_pos (by omega)]
  · refine ev_if_eq (tgt := 20) dX9_curtain_4 (by decide) (by decide) (fun _ => ?_) (fun c => absurd c (by decide))
    refine ev_ldc (z := -100001) dX9_curtain_20 k_X9_164 (by decide) ?_
    refine ev_ireturn dX9_curtain_22 ?_
    refine ⟨_, rfl, ?_, S, hC, (eqx.rf (l := [50, 51, 52, 53, 54, 55, 56, 57, 58, 59, 60, 61, 62, 63, 64, 65, 66, 67, 68]) (S := S)), hJ⟩
    simp only [sp_curtain]; rw [if_pos (by omega)]

set_option maxHeartbeats 4000000 in
set_option maxRecDepth 100000 in
theorem k_curtainOf {E : EV} {h : AH} {A : AD} {S : MS} {a : Int} (hC : CR E A S h) (hI : Inv S) (hJ : ∀ j, S 68 j < S 7 0) (g1 : InR a) : CM E yX9_curtainOf cX9_curtainOf 3 (some .int) 15 0 0 [.ref (A 0 0), vI (a)] h (qI (fun z h' => z = sp_curtainOf S a ∧ ∃ S', CR E A S' h' ∧ eqx [50, 51, 52, 53, 54, 55, 56, 57, 58, 59, 60, 61, 62, 63, 64, 65, 66, 67, 68] S S' ∧ ∀ j, S' 68 j < S 7 0)) := by
  have hR := hC.2.2
  have hJ := hI
  obtain ⟨i1, i2, i3, i4, i5, i6, iSt, iSi, iWa, iSh, iLa, iS0, iS1, iZe⟩ := hJ
  refine CM.of (by decide) (Nat.le_of_ble_eq_true rfl) (L := [(0, .ref (A 0 0)), (1, vI (a))]) rfl ?_
  refine ev_aload_n 0 rfl dX9_curtainOf_0 ?_
  refine ev_iload_n 1 rfl dX9_curtainOf_1 ?_
  refine c_X9_115 (k_sightingAt (a := a) hC hI (by first | assumption | exact hR _ _ | decide | (simp only [InR]; omega))) hC.k0 rfl rfl (Nat.le_of_ble_eq_true rfl) (by decide) dX9_curtainOf_2 (kN (fun b2 => ?_) (fun b2 => ?_))
  · refine ev_astore_n (L' := [(2, .ref (A 21 a)), (0, .ref (A 0 0)), (1, vI (a))]) dX9_curtainOf_5 (by decide) rfl ?_
    refine ev_aload_n 0 rfl dX9_curtainOf_6 ?_
    refine ev_ifnonnull (tgt := 12) dX9_curtainOf_7 (by decide) ?_
    refine ev_aload_n 0 rfl dX9_curtainOf_12 ?_
    refine cio_X9_105 (i := a) hC hI (by unfold SG; omega) dX9_curtainOf_13 (fun c13 => ?_) (fun c13 => ?_)
    · refine ev_if_ne (tgt := 22) dX9_curtainOf_16 (by decide) (by decide) (fun _ => ?_) (fun c => absurd c (by decide))
      refine ev_aload_n 1 rfl dX9_curtainOf_22 ?_
      refine ev_aload_n 0 rfl dX9_curtainOf_23 ?_
      refine cg_X9_130 hC hI (by unfold SG; omega) dX9_curtainOf_24 ?_
      obtain ⟨nb1, nb2⟩ := night_b (S := S) (n := S 10 a) hI
      refine c_X9_181 (k_lookAt (n := S 10 a) hC hI hJ (by first | assumption | exact hR _ _ | decide | (simp only [InR]; omega))) hC.k0 rfl rfl (Nat.le_of_ble_eq_true rfl) (by decide) dX9_curtainOf_27 (kI (fun z1 h2 hqz1 => ?_))
      obtain ⟨S3, hC4, ex5, h68, ⟨hful, rfl⟩ | ⟨hful, r, hfw, hsk, hfc⟩⟩ := hqz1
      · have hRS3 := hC4.2.2
        have hxS3 : eqx scc S S3 := (eqx.rf (l := scc) (S := S)).tr ex5 (by decide) (by decide)
        have hIS3 := Inv.xc hI hxS3
        refine ev_bipush dX9_curtainOf_30 (by decide) ?_
        refine ev_icmp_ne (tgt := 40) dX9_curtainOf_32 (by decide) (by decide) (by decide) (fun c32 => ?_) (fun c32 => ?_)
        · exact absurd rfl c32
        · refine ev_bipush dX9_curtainOf_35 (by decide) ?_
          refine ev_goto (tgt := 48) dX9_curtainOf_37 (by decide) ?_
          refine ev_ireturn dX9_curtainOf_48 ?_
          refine ⟨_, rfl, ?_, S3, hC4, (eqx.tr (l := [50, 51, 52, 53, 54, 55, 56, 57, 58, 59, 60, 61, 62, 63, 64, 65, 66, 67, 68]) (eqx.rf (l := [50, 51, 52, 53, 54, 55, 56, 57, 58, 59, 60, 61, 62, 63, 64, 65, 66, 67, 68]) (S := S)) ex5 (by decide) (by decide)), h68⟩
          simp only [sp_curtainOf]; rw [if_neg (by omega), if_neg (by omega), if_pos (by omega)]
      · have hRS3 := hC4.2.2
        have hcu : cuZ S (S 10 a) = (z1, r) := fewZ_eq hfw
        have hc0 := hfw.1
        have hc1 := few_le nb1.1 hfw
        obtain ⟨fg1, fg2, fg3⟩ := few_ok nb1.1 hfw
        have hxS3 : eqx scc S S3 := (eqx.rf (l := scc) (S := S)).tr ex5 (by decide) (by decide)
        have hIS3 := Inv.xc hI hxS3
        refine ev_bipush dX9_curtainOf_30 (by decide) ?_
        refine ev_icmp_ne (tgt := 40) dX9_curtainOf_32 (by first | assumption | exact hR _ _ | exact hRS3 _ _ | decide | (simp only [InR]; omega)) (by decide) (by decide) (fun c32 => ?_) (fun c32 => ?_)
        · refine ev_aload_n 1 rfl dX9_curtainOf_40 ?_
          refine cg_X9_56 hC4 dX9_curtainOf_41 ?_
          refine ev_iload_n 2 rfl dX9_curtainOf_44 ?_
          refine c_X9_198 (k_setOfSighting (l := nightL S (S 10 a)) (r := r) (N := len0 (nightL S (S 10 a))) (a := a) hC4 hIS3 hsk hfc.2.1 (by first | assumption | exact hR _ _) (night_at hI (by unfold SG; omega) (by unfold SelP; have := iSi a (by omega) (by omega); omega))) hC4.k11 rfl rfl (Nat.le_of_ble_eq_true rfl) (by decide) dX9_curtainOf_45 (kP ?_)
          refine ev_ireturn dX9_curtainOf_48 ?_
          refine ⟨_, rfl, ?_, S3, hC4, (eqx.tr (l := [50, 51, 52, 53, 54, 55, 56, 57, 58, 59, 60, 61, 62, 63, 64, 65, 66, 67, 68]) (eqx.rf (l := [50, 51, 52, 53, 54, 55, 56, 57, 58, 59, 60, 61, 62, 63, 64, 65, 66, 67, 68]) (S := S)) ex5 (by decide) (by decide)), h68⟩
          simp only [sp_curtainOf]; rw [if_neg (by omega), if_neg (by omega), if_neg (by omega), hcu]
        · exact absurd hc0 (by omega)
    · refine ev_if_ne (tgt := 22) dX9_curtainOf_16 (by decide) (by decide) (fun c => absurd c (by decide)) (fun _ => ?_)
      refine ev_bipush dX9_curtainOf_19 (by decide) ?_
      refine ev_ireturn dX9_curtainOf_21 ?_
      refine ⟨_, rfl, ?_, S, hC, (eqx.rf (l := [50, 51, 52, 53, 54, 55, 56, 57, 58, 59, 60, 61, 62, 63, 64, 65, 66, 67, 68]) (S := S)), hJ⟩
      simp only [sp_curtainOf]; rw [if_neg (by omega), if_pos (by omega)]
  · refine ev_astore_nN (L' := [(2, .null), (0, .ref (A 0 0)), (1, vI (a))]) dX9_curtainOf_5 (by decide) rfl ?_
    refine ev_aload_nN 0 rfl dX9_curtainOf_6 ?_
    refine ev_ifnonnullN dX9_curtainOf_7 ?_
    refine ev_iconst dX9_curtainOf_10 ?_
    refine ev_ireturn dX9_curtainOf_11 ?_
    refine ⟨_, rfl, ?_, S, hC, (eqx.rf (l := [50, 51, 52, 53, 54, 55, 56, 57, 58, 59, 60, 61, 62, 63, 64, 65, 66, 67, 68]) (S := S)), hJ⟩
    simp only [sp_curtainOf]; rw [if_pos (by omega)]

