set_option maxHeartbeats 4000000 in
set_option maxRecDepth 100000 in
theorem m_setsAhead {E : EV} {h : AH} {o : Nat} {ad : Nat → Nat} {S : MS} {cs : List Int} {k : Int} (hM : MR E o ad S h) (hp : ∀ i : Int, 0 ≤ i → i < len0 cs → S 22 i = at0 cs i) (hk : k = len0 cs) (hk1 : k ≤ 10) (hsm : Sm cs) : CM E yX10_setsAhead cX10_setsAhead 4 (some .int) 0 0 0 [.ref (o), vI (k)] h (qP (begL cs) h) := by
  have hR := hM.2.2.2.2
  have ln0 := len0_nn cs
  refine CM.of (by decide) (Nat.le_of_ble_eq_true rfl) (L := [(0, .ref (o)), (1, vI (k))]) rfl ?_
  refine ev_iconst dX10_setsAhead_0 ?_
  refine ev_istore_n (L' := [(2, vI (-1)), (0, .ref (o)), (1, vI (k))]) dX10_setsAhead_1 (by decide) rfl ?_
  refine ev_iconst dX10_setsAhead_2 ?_
  refine ev_istore_n (L' := [(3, vI (0)), (2, vI (-1)), (0, .ref (o)), (1, vI (k))]) dX10_setsAhead_3 (by decide) rfl ?_
  refine up_ind (P := fun i : Int => ∀ (t : Int), 0 ≤ i → t = begL (cs.take i.toNat) - 1 → Ev E RX10 cX10_setsAhead 4 (some .int) "setsAhead" (qP (begL cs) h) 0 0 0 4 [(3, vI (i)), (2, vI (t)), (0, .ref (o)), (1, vI (k))] [] h) (N := k) ?_ 0 (by omega) (-1) (by omega) (rfl)
  intro i ihi hiN t pi ht
  have tb0 := begL_b (Sm_take hsm i.toNat)
  refine ev_iload_n 0 rfl dX10_setsAhead_4 ?_
  refine ev_iload_n 3 rfl dX10_setsAhead_5 ?_
  refine ev_icmp_ge (tgt := 36) dX10_setsAhead_6 (by first | assumption | exact hR _ _ | decide | (simp only [InR]; omega)) (by first | assumption | exact hR _ _ | decide | (simp only [InR]; omega)) (by decide) (fun c6 => ?_) (fun c6 => ?_)
  · refine ev_iload_n 1 rfl dX10_setsAhead_36 ?_
    refine ev_iconst dX10_setsAhead_37 ?_
    refine ev_iadd dX10_setsAhead_38 ?_
    refine ev_ireturn dX10_setsAhead_39 ?_
    exact ⟨rfl, congrArg (fun z => some (vI z)) (show t + 1 = begL cs from by rw [ht, show i = len0 cs by omega, show cs.take (len0 cs).toNat = cs from by unfold len0; simp]; omega)⟩
  · have hpi := hp i (by omega) (by omega)
    have hsi := hsm _ (at0_mem (cs := cs) (i := i) (by omega) (by omega))
    refine ev_aload_n 2 rfl dX10_setsAhead_9 ?_
    refine mg_59 hM dX10_setsAhead_10 ?_
    refine ev_iload_n 0 rfl dX10_setsAhead_13 ?_
    refine m_ld (k := 22) hM (by decide) dX10_setsAhead_14 (by omega) (by show _ < ((10 : Nat) : Int); omega) ?_
    refine ev_iload_n 1 rfl dX10_setsAhead_15 ?_
    refine ev_icmp_le (tgt := 28) dX10_setsAhead_16 (by first | assumption | exact hR _ _ | decide | (simp only [InR]; omega)) (by first | assumption | exact hR _ _ | decide | (simp only [InR]; omega)) (by decide) (fun c16 => ?_) (fun c16 => ?_)
    · refine ev_iload_n 1 rfl dX10_setsAhead_28 ?_
      refine ev_istore_n (L' := [(2, vI (t)), (3, vI (i)), (0, .ref (o)), (1, vI (k))]) dX10_setsAhead_29 (by decide) rfl ?_
      refine ev_iinc (L' := [(3, vI (i + 1)), (2, vI (t)), (0, .ref (o)), (1, vI (k))]) 1 rfl dX10_setsAhead_30 (by decide) rfl ?_
      refine ev_goto (tgt := 4) dX10_setsAhead_33 (by decide) ?_
      exact ihi (i + 1) (by omega) (by omega) t (by omega) (by rw [take_s (by omega) (by omega), begL_app _ _ (by omega), ← hpi]; first | (rw [if_pos (by omega)]; omega) | (rw [if_neg (by omega)]; omega))
    · refine ev_aload_n 2 rfl dX10_setsAhead_19 ?_
      refine mg_59 hM dX10_setsAhead_20 ?_
      refine ev_iload_n 0 rfl dX10_setsAhead_23 ?_
      refine m_ld (k := 22) hM (by decide) dX10_setsAhead_24 (by omega) (by show _ < ((10 : Nat) : Int); omega) ?_
      refine ev_goto (tgt := 29) dX10_setsAhead_25 (by decide) ?_
      refine ev_istore_n (L' := [(2, vI (S 22 i)), (3, vI (i)), (0, .ref (o)), (1, vI (k))]) dX10_setsAhead_29 (by decide) rfl ?_
      refine ev_iinc (L' := [(3, vI (i + 1)), (2, vI (S 22 i)), (0, .ref (o)), (1, vI (k))]) 1 rfl dX10_setsAhead_30 (by decide) rfl ?_
      refine ev_goto (tgt := 4) dX10_setsAhead_33 (by decide) ?_
      exact ihi (i + 1) (by omega) (by omega) (S 22 i) (by omega) (by rw [take_s (by omega) (by omega), begL_app _ _ (by omega), ← hpi]; first | (rw [if_pos (by omega)]; omega) | (rw [if_neg (by omega)]; omega))

set_option maxHeartbeats 4000000 in
set_option maxRecDepth 100000 in
theorem m_canBeIn {E : EV} {h : AH} {o : Nat} {ad : Nat → Nat} {S : MS} {cs : List Int} {k s : Int} {M : Int → Int → Bool} (hM : MR E o ad S h) (hp : ∀ i : Int, 0 ≤ i → i < len0 cs → S 22 i = at0 cs i) (hk : k = len0 cs) (hk1 : k < 10) (hb : ∀ i : Int, 0 ≤ i → i < k → M k i = tb (S 23 k) i) (hb0 : 0 ≤ S 23 k ∧ S 23 k < 1024) (g2 : InR s) : CM E yX10_canBeIn cX10_canBeIn 4 (some .boolean) 0 0 0 [.ref (o), vI (k), vI (s)] h (qB (okL M cs s) h) := by
  have hR := hM.2.2.2.2
  have ln0 := len0_nn cs
  refine CM.of (by decide) (Nat.le_of_ble_eq_true rfl) (L := [(0, .ref (o)), (1, vI (k)), (2, vI (s))]) rfl ?_
  refine ev_iconst dX10_canBeIn_0 ?_
  refine ev_istore_n (L' := [(3, vI (0)), (0, .ref (o)), (1, vI (k)), (2, vI (s))]) dX10_canBeIn_1 (by decide) rfl ?_
  refine up_ind (P := fun i : Int => 0 ≤ i → (∀ j : Int, 0 ≤ j → j < i → at0 cs j = s → M k j = true) → Ev E RX10 cX10_canBeIn 4 (some .boolean) "canBeIn" (qB (okL M cs s) h) 0 0 0 2 [(3, vI (i)), (0, .ref (o)), (1, vI (k)), (2, vI (s))] [] h) (N := k) ?_ 0 (by omega)  (by omega) (fun j h1 h2 => absurd h1 (by omega))
  intro i ihi hiN pi hs
  refine ev_iload_n 0 rfl dX10_canBeIn_2 ?_
  refine ev_iload_n 2 rfl dX10_canBeIn_3 ?_
  refine ev_icmp_ge (tgt := 38) dX10_canBeIn_4 (by first | assumption | exact hR _ _ | decide | (simp only [InR]; omega)) (by first | assumption | exact hR _ _ | decide | (simp only [InR]; omega)) (by decide) (fun c4 => ?_) (fun c4 => ?_)
  · refine ev_iconst dX10_canBeIn_38 ?_
    refine ev_zreturn (by decide) dX10_canBeIn_39 ?_
    exact ⟨rfl, Or.inl ⟨rfl, fun j h1 h2 he => by rw [← hk]; exact hs j h1 (by omega) he⟩⟩
  · have hpi := hp i (by omega) (by omega)
    refine ev_aload_n 1 rfl dX10_canBeIn_7 ?_
    refine mg_59 hM dX10_canBeIn_8 ?_
    refine ev_iload_n 0 rfl dX10_canBeIn_11 ?_
    refine m_ld (k := 22) hM (by decide) dX10_canBeIn_12 (by omega) (by show _ < ((10 : Nat) : Int); omega) ?_
    refine ev_iload_n 3 rfl dX10_canBeIn_13 ?_
    refine ev_icmp_ne (tgt := 32) dX10_canBeIn_14 (by first | assumption | exact hR _ _ | decide | (simp only [InR]; omega)) (by first | assumption | exact hR _ _ | decide | (simp only [InR]; omega)) (by decide) (fun c14 => ?_) (fun c14 => ?_)
    · refine ev_iinc (L' := [(3, vI (i + 1)), (0, .ref (o)), (1, vI (k)), (2, vI (s))]) 0 rfl dX10_canBeIn_32 (by decide) rfl ?_
      refine ev_goto (tgt := 2) dX10_canBeIn_35 (by decide) ?_
      exact ihi (i + 1) (by omega) (by omega) (by omega) (fun j h1 h2 => (Int.lt_or_eq_of_le (show j ≤ i by omega)).elim (fun q => hs j h1 q) (fun q he => by subst q; first | (exact absurd (hpi.trans he) (by assumption)) | (rw [hb j h1 (by omega)]; exact hbt)))
    · refine ev_aload_n 1 rfl dX10_canBeIn_17 ?_
      refine mg_62 hM dX10_canBeIn_18 ?_
      refine ev_iload_n 2 rfl dX10_canBeIn_21 ?_
      refine m_ld (k := 23) hM (by decide) dX10_canBeIn_22 (by omega) (by show _ < ((10 : Nat) : Int); omega) ?_
      refine ev_iload_n 0 rfl dX10_canBeIn_23 ?_
      refine ev_ishr dX10_canBeIn_24 ?_
      refine ev_iconst dX10_canBeIn_25 ?_
      refine ev_iand dX10_canBeIn_26 ?_
      cases hbt : tb (S 23 k) i
      · refine ev_ren (b := 0) (by rw [bit_1 (by omega) (by omega) (by omega) (by omega), hbt]; rfl) ?_
        refine ev_if_ne (tgt := 32) dX10_canBeIn_27 (by decide) (by decide) (fun c => absurd c (by decide)) (fun _ => ?_)
        refine ev_iconst dX10_canBeIn_30 ?_
        refine ev_zreturn (by decide) dX10_canBeIn_31 ?_
        exact ⟨rfl, Or.inr ⟨rfl, fun q => by have q1 := q i (by omega) (by omega) (by omega); rw [← hk, hb i (by omega) (by omega), hbt] at q1; exact absurd q1 (by decide)⟩⟩
      · refine ev_ren (b := 1) (by rw [bit_1 (by omega) (by omega) (by omega) (by omega), hbt]; rfl) ?_
        refine ev_if_ne (tgt := 32) dX10_canBeIn_27 (by decide) (by decide) (fun _ => ?_) (fun c => absurd c (by decide))
        refine ev_iinc (L' := [(3, vI (i + 1)), (0, .ref (o)), (1, vI (k)), (2, vI (s))]) 0 rfl dX10_canBeIn_32 (by decide) rfl ?_
        refine ev_goto (tgt := 2) dX10_canBeIn_35 (by decide) ?_
        exact ihi (i + 1) (by omega) (by omega) (by omega) (fun j h1 h2 => (Int.lt_or_eq_of_le (show j ≤ i by omega)).elim (fun q => hs j h1 q) (fun q he => by subst q; first | (exact absurd (hpi.trans he) (by assumption)) | (rw [hb j h1 (by omega)]; exact hbt)))
