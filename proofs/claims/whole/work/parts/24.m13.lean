/-- the state of the search: cs are the sets of those ahead, s the next set to be tried -/
def PS (M : Int → Int → Bool) (n : Int) (S : MS) (cs : List Int) : Prop := (∀ i : Int, 0 ≤ i → i < len0 cs → S 22 i = at0 cs i) ∧ S 19 0 = n ∧ n ≤ 10 ∧ (∀ k : Int, 0 ≤ k → k < n → (0 ≤ S 23 k ∧ S 23 k < 1024) ∧ ∀ i : Int, 0 ≤ i → i < k → M k i = tb (S 23 k) i) ∧ Sm cs

set_option maxHeartbeats 4000000 in
set_option maxRecDepth 100000 in
theorem part_step {E : EV} {h : AH} {o : Nat} {ad : Nat → Nat} {S : MS} {M : Int → Int → Bool} {cs : List Int} {k n s most : Int} {d : Nat} {Q : Option Value → AH → Prop} (hM : MR E o ad S h) (hP : PS M n S cs) (hk : k = len0 cs) (hkn : k < n) (hs : S 22 k = s - 1) (hs0 : 0 ≤ s) (hs1 : s ≤ begL cs + 1) (gm : 0 ≤ most ∧ most ≤ 10) (hd2 : 1 ≤ d)
    (hT : ∀ (t : Int) (S2 : MS) (h2 : AH), s ≤ t → t ≤ begL cs → t < most → okL M cs t → (∀ u, s ≤ u → u < t → ¬ okL M cs u) → MR E o ad S2 h2 → eqx [22] S S2 → (∀ i : Int, 0 ≤ i → i < k → S2 22 i = S 22 i) → S2 22 k = t → (k + 1 < n → S2 22 (k + 1) = -1) → Ev E RX10 cX10_part 5 (some .boolean) "part" Q d 0 0 9 [(2, vI (k + 1)), (0, .ref (o)), (1, vI (most))] [] h2)
    (hF : (∀ u, s ≤ u → u ≤ begL cs → u < most → ¬ okL M cs u) → Ev E RX10 cX10_part 5 (some .boolean) "part" Q d 0 0 9 [(2, vI (k + (-1))), (0, .ref (o)), (1, vI (most))] [] h) : Ev E RX10 cX10_part 5 (some .boolean) "part" (Q) d 0 0 9 [(2, vI (k)), (0, .ref (o)), (1, vI (most))] [] h := by
  have hR := hM.2.2.2.2
  obtain ⟨hp, hn, hn10, hbb, hsm⟩ := hP
  have ln0 := len0_nn cs
  have hbk := hbb k (by omega) (by omega)
  have hbg := begL_b hsm
  refine ev_iload_n 0 rfl dX10_part_9 ?_
  refine ev_if_lt (tgt := 112) dX10_part_10 (by first | assumption | exact hR _ _ | decide | (simp only [InR]; omega)) (by decide) (fun c10 => ?_) (fun c10 => ?_)
  · exact absurd c10 (by omega)
  · refine ev_iload_n 0 rfl dX10_part_13 ?_
    refine ev_aload_n 1 rfl dX10_part_14 ?_
    refine mg_238 hM dX10_part_15 ?_
    refine ev_icmp_ge (tgt := 112) dX10_part_18 (by first | assumption | exact hR _ _ | decide | (simp only [InR]; omega)) (by first | assumption | exact hR _ _ | decide | (simp only [InR]; omega)) (by decide) (fun c18 => ?_) (fun c18 => ?_)
    · exact absurd c18 (by omega)
    · refine ev_aload_n 1 rfl dX10_part_21 ?_
      refine ev_iload_n 0 rfl dX10_part_22 ?_
      refine c_X10_241 (m_setsAhead (cs := cs) hM hp hk (by omega) hsm) hM.1 rfl rfl (Nat.le_of_ble_eq_true rfl) (by omega) dX10_part_23 (kP ?_)
      refine ev_istore_n (L' := [(3, vI (begL cs)), (2, vI (k)), (0, .ref (o)), (1, vI (most))]) dX10_part_26 (by decide) rfl ?_
      refine ev_aload_n 2 rfl dX10_part_27 ?_
      refine mg_59 hM dX10_part_28 ?_
      refine ev_iload_n 1 rfl dX10_part_31 ?_
      refine m_ld (k := 22) hM (by decide) dX10_part_32 (by omega) (by show _ < ((10 : Nat) : Int); omega) ?_
      refine ev_iconst dX10_part_33 ?_
      refine ev_iadd dX10_part_34 ?_
      refine ev_ren (b := s) (by omega) ?_
      refine ev_istore (L' := [(4, vI (s)), (3, vI (begL cs)), (2, vI (k)), (0, .ref (o)), (1, vI (most))]) dX10_part_35 (by decide) rfl ?_
      refine up_ind (P := fun t : Int => (∀ u : Int, s ≤ u → u < t → ¬ okL M cs u) → s ≤ t → Ev E RX10 cX10_part 5 (some .boolean) "part" (Q) d 0 0 37 [(4, vI (t)), (3, vI (begL cs)), (2, vI (k)), (0, .ref (o)), (1, vI (most))] [] h) (N := begL cs + 1) ?_ s (by omega)  (fun u h1 h2 => absurd h1 (by omega)) (by omega)
      intro t iht htN hn2 hst
      refine ev_iload 0 rfl dX10_part_37 ?_
      refine ev_iload_n 1 rfl dX10_part_39 ?_
      refine ev_icmp_gt (tgt := 65) dX10_part_40 (by first | assumption | exact hR _ _ | decide | (simp only [InR]; omega)) (by first | assumption | exact hR _ _ | decide | (simp only [InR]; omega)) (by decide) (fun c40 => ?_) (fun c40 => ?_)
      · refine ev_iload 0 rfl dX10_part_65 ?_
        refine ev_iload_n 1 rfl dX10_part_67 ?_
        refine ev_icmp_gt (tgt := 106) dX10_part_68 (by first | assumption | exact hR _ _ | decide | (simp only [InR]; omega)) (by first | assumption | exact hR _ _ | decide | (simp only [InR]; omega)) (by decide) (fun c68 => ?_) (fun c68 => ?_)
        · refine ev_iinc (L' := [(2, vI (k + (-1))), (4, vI (t)), (3, vI (begL cs)), (0, .ref (o)), (1, vI (most))]) 2 rfl dX10_part_106 (by decide) rfl ?_
          refine ev_goto (tgt := 9) dX10_part_109 (by decide) ?_
          refine ev_pick (L' := [(2, vI (k + (-1))), (0, .ref (o)), (1, vI (most))]) [0, 3, 4] rfl ?_
          exact hF (fun u u1 u2 u3 => hn2 u u1 (by omega))
        · exact absurd c40 c68
      · refine ev_iload 0 rfl dX10_part_43 ?_
        refine ev_iload_n 4 rfl dX10_part_45 ?_
        refine ev_icmp_ge (tgt := 65) dX10_part_46 (by first | assumption | exact hR _ _ | decide | (simp only [InR]; omega)) (by first | assumption | exact hR _ _ | decide | (simp only [InR]; omega)) (by decide) (fun c46 => ?_) (fun c46 => ?_)
        · refine ev_iload 0 rfl dX10_part_65 ?_
          refine ev_iload_n 1 rfl dX10_part_67 ?_
          refine ev_icmp_gt (tgt := 106) dX10_part_68 (by first | assumption | exact hR _ _ | decide | (simp only [InR]; omega)) (by first | assumption | exact hR _ _ | decide | (simp only [InR]; omega)) (by decide) (fun c68 => ?_) (fun c68 => ?_)
          · exact absurd c68 (by omega)
          · refine ev_iload 0 rfl dX10_part_71 ?_
            refine ev_iload_n 4 rfl dX10_part_73 ?_
            refine ev_icmp_ge (tgt := 106) dX10_part_74 (by first | assumption | exact hR _ _ | decide | (simp only [InR]; omega)) (by first | assumption | exact hR _ _ | decide | (simp only [InR]; omega)) (by decide) (fun c74 => ?_) (fun c74 => ?_)
            · refine ev_iinc (L' := [(2, vI (k + (-1))), (4, vI (t)), (3, vI (begL cs)), (0, .ref (o)), (1, vI (most))]) 2 rfl dX10_part_106 (by decide) rfl ?_
              refine ev_goto (tgt := 9) dX10_part_109 (by decide) ?_
              refine ev_pick (L' := [(2, vI (k + (-1))), (0, .ref (o)), (1, vI (most))]) [0, 3, 4] rfl ?_
              exact hF (fun u u1 u2 u3 => hn2 u u1 (by omega))
            · exact absurd c46 c74
        · refine ev_aload_n 3 rfl dX10_part_49 ?_
          refine ev_iload_n 2 rfl dX10_part_50 ?_
          refine ev_iload 0 rfl dX10_part_51 ?_
          refine c_X10_244 (m_canBeIn (M := M) (cs := cs) hM hp hk (by omega) hbk.2 hbk.1 (by first | assumption | exact hR _ _ | decide | (simp only [InR]; omega))) hM.1 rfl rfl (Nat.le_of_ble_eq_true rfl) (by omega) dX10_part_53 (kB (fun b53 => ?_) (fun b53 => ?_))
          · refine ev_if_ne (tgt := 65) dX10_part_56 (by decide) (by decide) (fun _ => ?_) (fun c => absurd c (by decide))
            refine ev_iload 0 rfl dX10_part_65 ?_
            refine ev_iload_n 1 rfl dX10_part_67 ?_
            refine ev_icmp_gt (tgt := 106) dX10_part_68 (by first | assumption | exact hR _ _ | decide | (simp only [InR]; omega)) (by first | assumption | exact hR _ _ | decide | (simp only [InR]; omega)) (by decide) (fun c68 => ?_) (fun c68 => ?_)
            · exact absurd c68 (by omega)
            · refine ev_iload 0 rfl dX10_part_71 ?_
              refine ev_iload_n 4 rfl dX10_part_73 ?_
              refine ev_icmp_ge (tgt := 106) dX10_part_74 (by first | assumption | exact hR _ _ | decide | (simp only [InR]; omega)) (by first | assumption | exact hR _ _ | decide | (simp only [InR]; omega)) (by decide) (fun c74 => ?_) (fun c74 => ?_)
              · exact absurd c74 (by omega)
              · refine ev_aload_n 3 rfl dX10_part_77 ?_
                refine mg_59 hM dX10_part_78 ?_
                refine ev_iload_n 2 rfl dX10_part_81 ?_
                refine ev_iload 0 rfl dX10_part_82 ?_
                refine m_st (k := 22) hM (by decide) dX10_part_84 (by omega) (by show _ < ((10 : Nat) : Int); omega) (by first | assumption | exact hR _ _ | decide | (simp only [InR]; omega)) (fun S1 h2 eS3 hM4 => ?_)
                have hRS1 := hM4.2.2.2.2
                refine ev_iinc (L' := [(2, vI (k + 1)), (4, vI (t)), (3, vI (begL cs)), (0, .ref (o)), (1, vI (most))]) 2 rfl dX10_part_85 (by decide) rfl ?_
                refine ev_iload_n 0 rfl dX10_part_88 ?_
                refine ev_aload_n 3 rfl dX10_part_89 ?_
                refine mgE_238 (v := S 19 0) hM4 (by rw [eS3, upS_ne (by decide)]) dX10_part_90 ?_
                refine ev_icmp_ge (tgt := 109) dX10_part_93 (by first | assumption | exact hR _ _ | exact hRS1 _ _ | decide | (simp only [InR]; omega)) (by first | assumption | exact hR _ _ | exact hRS1 _ _ | decide | (simp only [InR]; omega)) (by decide) (fun c93 => ?_) (fun c93 => ?_)
                · refine ev_goto (tgt := 9) dX10_part_109 (by decide) ?_
                  refine ev_pick (L' := [(2, vI (k + 1)), (0, .ref (o)), (1, vI (most))]) [0, 3, 4] rfl ?_
                  exact hT t S1 h2 (by omega) (by omega) (by omega) b53 hn2 hM4 (by rw [eS3]; exact eqx.rf.up (by decide)) (fun i i1 i2 => by rw [eS3]; exact upS_nz (by omega)) (by rw [eS3]; exact upS_at) (fun q => absurd q (by omega))
                · refine ev_aload_n 3 rfl dX10_part_96 ?_
                  refine mg_59 hM4 dX10_part_97 ?_
                  refine ev_iload_n 0 rfl dX10_part_100 ?_
                  refine ev_iconst dX10_part_101 ?_
                  refine m_st (k := 22) hM4 (by decide) dX10_part_102 (by omega) (by show _ < ((10 : Nat) : Int); omega) (by decide) (fun S5 h6 eS7 hM8 => ?_)
                  have hRS5 := hM8.2.2.2.2
                  refine ev_goto (tgt := 109) dX10_part_103 (by decide) ?_
                  refine ev_goto (tgt := 9) dX10_part_109 (by decide) ?_
                  refine ev_pick (L' := [(2, vI (k + 1)), (0, .ref (o)), (1, vI (most))]) [0, 3, 4] rfl ?_
                  exact hT t S5 h6 (by omega) (by omega) (by omega) b53 hn2 hM8 (by rw [eS7, eS3]; exact (eqx.rf.up (by decide)).up (by decide)) (fun i i1 i2 => by rw [eS7, upS_nz (by omega), eS3]; exact upS_nz (by omega)) (by rw [eS7, upS_nz (by omega), eS3]; exact upS_at) (fun _ => by rw [eS7]; exact upS_at)
          · refine ev_if_ne (tgt := 65) dX10_part_56 (by decide) (by decide) (fun c => absurd c (by decide)) (fun _ => ?_)
            refine ev_iinc (L' := [(4, vI (t + 1)), (3, vI (begL cs)), (2, vI (k)), (0, .ref (o)), (1, vI (most))]) 0 rfl dX10_part_59 (by decide) rfl ?_
            refine ev_goto (tgt := 37) dX10_part_62 (by decide) ?_
            exact iht (t + 1) (by omega) (by omega) (fun u h1 h2 => (Int.lt_or_eq_of_le (show u ≤ t by omega)).elim (fun q => hn2 u h1 q) (fun q => by subst q; assumption)) (by omega)

theorem PS_app {M : Int → Int → Bool} {n : Int} {S S2 : MS} {cs : List Int} {k t : Int} (hP : PS M n S cs) (hk : k = len0 cs) (hx : eqx [22] S S2) (h1 : ∀ i : Int, 0 ≤ i → i < k → S2 22 i = S 22 i) (h2 : S2 22 k = t) (t0 : 0 ≤ t) (t1 : t < 10) : PS M n S2 (cs ++ [t]) := by
  obtain ⟨a1, a2, a3, a4, a5⟩ := hP
  refine ⟨fun i i0 i1 => ?_, by rw [hx 19 (by decide)]; exact a2, a3, fun k k0 k1 => ?_, Sm_app a5 t0 t1⟩
  · rw [len0_app] at i1
    by_cases e : i = len0 cs
    · rw [e, at0_last, ← hk, h2]
    · rw [at0_old i0 (by omega), h1 i i0 (by omega)]
      exact a1 i i0 (by omega)
  · rw [hx 23 (by decide)]
    exact a4 k k0 k1
theorem PS_keep {M : Int → Int → Bool} {n : Int} {S S2 : MS} {cs : List Int} (hP : PS M n S cs) (hx : eqx [22] S S2) (h1 : ∀ i : Int, 0 ≤ i → i < len0 cs → S2 22 i = at0 cs i) : PS M n S2 cs := by
  obtain ⟨a1, a2, a3, a4, a5⟩ := hP
  exact ⟨h1, by rw [hx 19 (by decide)]; exact a2, a3, fun k k0 k1 => by rw [hx 23 (by decide)]; exact a4 k k0 k1, a5⟩
set_option maxHeartbeats 4000000 in
theorem part_dfs {E : EV} {o : Nat} {ad : Nat → Nat} {M : Int → Int → Bool} {n most : Int} {d : Nat} {Q : Option Value → AH → Prop} (gm : 0 ≤ most ∧ most ≤ 10) (hd2 : 1 ≤ d) : ∀ (m : Nat) (s : Int) (cs : List Int) (S : MS) (h : AH), len0 cs + ((m + 1 : Nat) : Int) = n → MR E o ad S h → PS M n S cs → S 22 (len0 cs) = s - 1 → 0 ≤ s → s ≤ begL cs + 1 →
    (∀ (r : List Int) (S2 : MS) (h2 : AH), tryS (stp M most m cs) (min (begL cs + 1) most - s).toNat s = some r → MR E o ad S2 h2 → eqx [22] S S2 → len0 r = n → (∀ i : Int, 0 ≤ i → i < n → S2 22 i = at0 r i) → Sm r → Ev E RX10 cX10_part 5 (some .boolean) "part" Q d 0 0 9 [(2, vI (n)), (0, .ref (o)), (1, vI (most))] [] h2) →
    (tryS (stp M most m cs) (min (begL cs + 1) most - s).toNat s = none → ∀ (S2 : MS) (h2 : AH), MR E o ad S2 h2 → eqx [22] S S2 → (∀ i : Int, 0 ≤ i → i < len0 cs → S2 22 i = at0 cs i) → Ev E RX10 cX10_part 5 (some .boolean) "part" Q d 0 0 9 [(2, vI (len0 cs + (-1))), (0, .ref (o)), (1, vI (most))] [] h2) → Ev E RX10 cX10_part 5 (some .boolean) "part" Q d 0 0 9 [(2, vI (len0 cs)), (0, .ref (o)), (1, vI (most))] [] h := by
  intro m
  induction m with
  | zero =>
    intro s cs S h hlen hM hP hs hs0 hs1 hS hF
    refine part_step hM hP rfl (by omega) hs hs0 hs1 gm hd2 (fun t S2 h2 t0 t1 t2 t3 t4 hM2 hx e1 e2 e3 => ?_) (fun hu => ?_)
    · have hsk := try_skip (f := stp M most 0 cs) (b := min (begL cs + 1) most) s t t0 (by omega) (fun u u1 u2 => stp_n (t4 u u1 u2))
      have hit := try_hit (f := stp M most 0 cs) (b := min (begL cs + 1) most) (t := t) (by omega)
      rw [stp_y t3] at hit
      have hPa := PS_app hP rfl hx e1 e2 (by omega) (by omega)
      have hl2 : len0 (cs ++ [t]) = n := by rw [len0_app]; omega
      have hfin := hS (cs ++ [t]) S2 h2 (by rw [hsk, hit]; rfl) hM2 hx hl2 (fun i i0 i1 => hPa.1 i i0 (by omega)) hPa.2.2.2.2
      rw [show len0 cs + 1 = n by omega]
      exact hfin
    · have hsk : tryS (stp M most 0 cs) (min (begL cs + 1) most - s).toNat s = none := by
        by_cases hc : s ≤ min (begL cs + 1) most
        · rw [try_skip (f := stp M most 0 cs) (b := min (begL cs + 1) most) s (min (begL cs + 1) most) hc (by omega) (fun u u1 u2 => stp_n (hu u u1 (by omega) (by omega)))]
          rw [show (min (begL cs + 1) most - min (begL cs + 1) most).toNat = 0 by omega]; rfl
        · rw [show (min (begL cs + 1) most - s).toNat = 0 by omega]; rfl
      exact hF hsk S h hM eqx.rf hP.1
  | succ m ih =>
    intro s cs S h hlen hM hP hs hs0 hs1 hS hF
    have ln0 := len0_nn cs
    have key : ∀ s, s ≤ begL cs + 1 → ∀ (S : MS) (h : AH), MR E o ad S h → PS M n S cs → S 22 (len0 cs) = s - 1 → 0 ≤ s →
        (∀ (r : List Int) (S2 : MS) (h2 : AH), tryS (stp M most (m + 1) cs) (min (begL cs + 1) most - s).toNat s = some r → MR E o ad S2 h2 → eqx [22] S S2 → len0 r = n → (∀ i : Int, 0 ≤ i → i < n → S2 22 i = at0 r i) → Sm r → Ev E RX10 cX10_part 5 (some .boolean) "part" Q d 0 0 9 [(2, vI (n)), (0, .ref (o)), (1, vI (most))] [] h2) →
        (tryS (stp M most (m + 1) cs) (min (begL cs + 1) most - s).toNat s = none → ∀ (S2 : MS) (h2 : AH), MR E o ad S2 h2 → eqx [22] S S2 → (∀ i : Int, 0 ≤ i → i < len0 cs → S2 22 i = at0 cs i) → Ev E RX10 cX10_part 5 (some .boolean) "part" Q d 0 0 9 [(2, vI (len0 cs + (-1))), (0, .ref (o)), (1, vI (most))] [] h2) → Ev E RX10 cX10_part 5 (some .boolean) "part" Q d 0 0 9 [(2, vI (len0 cs)), (0, .ref (o)), (1, vI (most))] [] h := by
      refine up_ind (fun s ihs hs1 => ?_)
      intro S h hM hP hs hs0 hS hF
      refine part_step hM hP rfl (by omega) hs hs0 hs1 gm hd2 (fun t S2 h2 t0 t1 t2 t3 t4 hM2 hx e1 e2 e3 => ?_) (fun hu => ?_)
      · have hsk := try_skip (f := stp M most (m + 1) cs) (b := min (begL cs + 1) most) s t t0 (by omega) (fun u u1 u2 => stp_n (t4 u u1 u2))
        have hit := try_hit (f := stp M most (m + 1) cs) (b := min (begL cs + 1) most) (t := t) (by omega)
        rw [stp_y t3, dfs_s] at hit
        have hPa := PS_app hP rfl hx e1 e2 (by omega) (by omega)
        have hba := begL_b hPa.2.2.2.2
        have hnx := ih 0 (cs ++ [t]) S2 h2 (by rw [len0_app]; omega) hM2 hPa (by rw [len0_app, e3 (by omega)]; rfl) (by omega) (by omega)
          (fun r S3 h3 hr hM3 hx3 hl3 ha3 hs3 => hS r S3 h3 (by rw [hsk, hit, hr]) hM3 (hx.tr hx3 (by decide) (by decide)) hl3 ha3 hs3)
          (fun hno S3 h3 hM3 hx3 ha3 => by
            rw [len0_app, show len0 cs + 1 + (-1) = len0 cs by omega]
            have hx13 : eqx [22] S S3 := hx.tr hx3 (by decide) (by decide)
            have g1 : ∀ i : Int, 0 ≤ i → i < len0 cs → S3 22 i = at0 cs i := fun i i0 i1 => by rw [ha3 i i0 (by rw [len0_app]; omega), at0_old i0 i1]
            have g2 : S3 22 (len0 cs) = (t + 1) - 1 := by rw [ha3 (len0 cs) ln0 (by rw [len0_app]; omega), at0_last]; omega
            refine ihs (t + 1) (by omega) (by omega) S3 h3 hM3 (PS_keep hP hx13 g1) g2 (by omega) (fun r S4 h4 hr hM4 hx4 hl4 ha4 hs4 => hS r S4 h4 (by rw [hsk, hit, hno]; exact hr) hM4 (hx13.tr hx4 (by decide) (by decide)) hl4 ha4 hs4) (fun hno2 S4 h4 hM4 hx4 ha4 => hF (by rw [hsk, hit, hno]; exact hno2) S4 h4 hM4 (hx13.tr hx4 (by decide) (by decide)) ha4))
        rw [len0_app] at hnx
        exact hnx
      · have hsk : tryS (stp M most (m + 1) cs) (min (begL cs + 1) most - s).toNat s = none := by
          by_cases hc : s ≤ min (begL cs + 1) most
          · rw [try_skip (f := stp M most (m + 1) cs) (b := min (begL cs + 1) most) s (min (begL cs + 1) most) hc (by omega) (fun u u1 u2 => stp_n (hu u u1 (by omega) (by omega)))]
            rw [show (min (begL cs + 1) most - min (begL cs + 1) most).toNat = 0 by omega]; rfl
          · rw [show (min (begL cs + 1) most - s).toNat = 0 by omega]; rfl
        exact hF hsk S h hM eqx.rf hP.1
    exact key s hs1 S h hM hP hs hs0 hS hF
