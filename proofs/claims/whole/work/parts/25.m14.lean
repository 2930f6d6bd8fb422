set_option maxHeartbeats 4000000 in
set_option maxRecDepth 100000 in
theorem part_end1 {E : EV} {h : AH} {o : Nat} {ad : Nat → Nat} {S : MS} {k most : Int} {d : Nat} {Q : Option Value → AH → Prop} (hM : MR E o ad S h) (hk : S 19 0 = k) (hk0 : 0 ≤ k ∧ k ≤ 10) (hQ : Q (some (vI 1)) h) : Ev E RX10 cX10_part 5 (some .boolean) "part" (Q) d 0 0 9 [(2, vI (k)), (0, .ref (o)), (1, vI (most))] [] h := by
  have hR := hM.2.2.2.2
  refine ev_iload_n 0 rfl dX10_part_9 ?_
  refine ev_if_lt (tgt := 112) dX10_part_10 (by first | assumption | exact hR _ _ | decide | (simp only [InR]; omega)) (by decide) (fun c10 => ?_) (fun c10 => ?_)
  · exact absurd c10 (by omega)
  · refine ev_iload_n 0 rfl dX10_part_13 ?_
    refine ev_aload_n 1 rfl dX10_part_14 ?_
    refine mg_238 hM dX10_part_15 ?_
    refine ev_icmp_ge (tgt := 112) dX10_part_18 (by first | assumption | exact hR _ _ | decide | (simp only [InR]; omega)) (by first | assumption | exact hR _ _ | decide | (simp only [InR]; omega)) (by decide) (fun c18 => ?_) (fun c18 => ?_)
    · refine ev_iload_n 0 rfl dX10_part_112 ?_
      refine ev_aload_n 1 rfl dX10_part_113 ?_
      refine mg_238 hM dX10_part_114 ?_
      refine ev_icmp_ne (tgt := 124) dX10_part_117 (by first | assumption | exact hR _ _ | decide | (simp only [InR]; omega)) (by first | assumption | exact hR _ _ | decide | (simp only [InR]; omega)) (by decide) (fun c117 => ?_) (fun c117 => ?_)
      · exact absurd hk.symm c117
      · refine ev_iconst dX10_part_120 ?_
        refine ev_goto (tgt := 125) dX10_part_121 (by decide) ?_
        refine ev_zreturn (by decide) dX10_part_125 ?_
        exact hQ
    · exact absurd (show S 19 0 ≤ k by omega) c18

set_option maxHeartbeats 4000000 in
set_option maxRecDepth 100000 in
theorem part_end0 {E : EV} {h : AH} {o : Nat} {ad : Nat → Nat} {S : MS} {k most : Int} {d : Nat} {Q : Option Value → AH → Prop} (hM : MR E o ad S h) (hk : 0 ≤ S 19 0) (hk0 : k = -1) (hQ : Q (some (vI 0)) h) : Ev E RX10 cX10_part 5 (some .boolean) "part" (Q) d 0 0 9 [(2, vI (k)), (0, .ref (o)), (1, vI (most))] [] h := by
  have hR := hM.2.2.2.2
  refine ev_iload_n 0 rfl dX10_part_9 ?_
  refine ev_if_lt (tgt := 112) dX10_part_10 (by first | assumption | exact hR _ _ | decide | (simp only [InR]; omega)) (by decide) (fun c10 => ?_) (fun c10 => ?_)
  · refine ev_iload_n 0 rfl dX10_part_112 ?_
    refine ev_aload_n 1 rfl dX10_part_113 ?_
    refine mg_238 hM dX10_part_114 ?_
    refine ev_icmp_ne (tgt := 124) dX10_part_117 (by first | assumption | exact hR _ _ | decide | (simp only [InR]; omega)) (by first | assumption | exact hR _ _ | decide | (simp only [InR]; omega)) (by decide) (fun c117 => ?_) (fun c117 => ?_)
    · refine ev_iconst dX10_part_124 ?_
      refine ev_zreturn (by decide) dX10_part_125 ?_
      exact hQ
    · exact absurd c117 (by omega)
  · exact absurd (show k < 0 by omega) c10

set_option maxHeartbeats 4000000 in
set_option maxRecDepth 100000 in
theorem m_part {E : EV} {h : AH} {o : Nat} {ad : Nat → Nat} {S : MS} {M : Int → Int → Bool} {n most : Int} (hM : MR E o ad S h) (hP : PS M n S []) (hn1 : 1 ≤ n) (gm : 0 ≤ most ∧ most ≤ 10) : CM E yX10_part cX10_part 5 (some .boolean) 1 0 0 [.ref (o), vI (most)] h (qI (fun z h' => ∃ S', MR E o ad S' h' ∧ eqx [22] S S' ∧ ((z = 1 ∧ ∃ r, dfs M most n.toNat [] = some r ∧ len0 r = n ∧ (∀ i : Int, 0 ≤ i → i < n → S' 22 i = at0 r i) ∧ Sm r) ∨ (z = 0 ∧ dfs M most n.toNat [] = none)))) := by
  have hR := hM.2.2.2.2
  have hn10 := hP.2.2.1
  refine CM.of (by decide) (Nat.le_of_ble_eq_true rfl) (L := [(0, .ref (o)), (1, vI (most))]) rfl ?_
  refine ev_iconst dX10_part_0 ?_
  refine ev_istore_n (L' := [(2, vI (0)), (0, .ref (o)), (1, vI (most))]) dX10_part_1 (by decide) rfl ?_
  refine ev_aload_n 1 rfl dX10_part_2 ?_
  refine mg_59 hM dX10_part_3 ?_
  refine ev_iconst dX10_part_6 ?_
  refine ev_iconst dX10_part_7 ?_
  refine m_st (k := 22) hM (by decide) dX10_part_8 (by omega) (by show _ < ((10 : Nat) : Int); omega) (by decide) (fun S1 h2 eS3 hM4 => ?_)
  have hRS1 := hM4.2.2.2.2
  skip
  skip
  refine ev_pick (L' := [(2, vI (0)), (0, .ref (o)), (1, vI (most))]) [0, 1, 2] rfl ?_
  have hx1 : eqx [22] S S1 := by rw [eS3]; exact eqx.rf.up (by decide)
  have hP1 : PS M n S1 [] := PS_keep hP hx1 (fun i i0 i1 => absurd i1 (by unfold len0; simp; omega))
  have hds : dfs M most n.toNat [] = tryS (stp M most (n.toNat - 1) []) (min (begL [] + 1) most - 0).toNat 0 := by rw [← dfs_s, show n.toNat - 1 + 1 = n.toNat by omega]
  refine part_dfs (M := M) (n := n) gm (by decide) (n.toNat - 1) 0 [] S1 h2 (by unfold len0; simp; omega) hM4 hP1 (by rw [eS3]; exact upS_at) (by omega) (by decide) (fun r S2 h2 hr hM2 hx2 hl2 ha2 hs2 => ?_) (fun hno S2 h2 hM2 hx2 ha2 => ?_)
  · exact part_end1 hM2 (by rw [hx2 19 (by decide)]; exact hP1.2.1) (by omega) ⟨_, rfl, S2, hM2, hx1.tr hx2 (by decide) (by decide), Or.inl ⟨rfl, r, by rw [hds]; exact hr, hl2, ha2, hs2⟩⟩
  · exact part_end0 hM2 (by rw [hx2 19 (by decide), hP1.2.1]; omega) (by unfold len0; simp) ⟨_, rfl, S2, hM2, hx1.tr hx2 (by decide) (by decide), Or.inr ⟨rfl, by rw [hds]; exact hno⟩⟩
