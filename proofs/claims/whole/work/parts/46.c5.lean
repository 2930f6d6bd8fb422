def CJ (S : MS) : Prop := CInv S ∧ ∀ j, S 68 j < S 7 0
theorem CJ.x {l : List Nat} {S S' : MS} (h : CJ S) (hx : eqx l S S') (h7 : 7 ∉ l) (h10 : 10 ∉ l) (h68 : 68 ∉ l) (h69 : 69 ∉ l) (h70 : 70 ∉ l) : CJ S' := by
  refine ⟨h.1.x hx h7 h10 h69 h70, ?_⟩
  rw [hx 68 h68, hx 7 h7]
  exact h.2
theorem put_7 {S : MS} {kd a1 a2 a3 a4 a5 c l : Int} : nx_put S kd a1 a2 a3 a4 a5 c l 7 0 = S 7 0 + 1 := by
  unfold nx_put
  exact upS_at
theorem put_10 {S : MS} {kd a1 a2 a3 a4 a5 c l k : Int} : nx_put S kd a1 a2 a3 a4 a5 c l 10 k = if k = S 7 0 then a2 else S 10 k := by
  unfold nx_put
  rw [upS_ne (by decide), upS_ne (by decide), upS_ne (by decide), upS_ne (by decide), upS_ne (by decide), upS_ne (by decide), upS_k]
  unfold updZ
  split
  · rfl
  · rw [upS_ne (by decide), upS_ne (by decide)]
theorem put_o {S : MS} {kd a1 a2 a3 a4 a5 c l : Int} {k : Nat} (h : k ∉ [7, 8, 9, 10, 11, 12, 13, 14, 15]) : nx_put S kd a1 a2 a3 a4 a5 c l k = S k := by
  have h2 : ∀ x ∈ [7, 8, 9, 10, 11, 12, 13, 14, 15], k ≠ x := fun x hx e => h (e ▸ hx)
  unfold nx_put
  rw [upS_ne (h2 7 (by decide)), upS_ne (h2 15 (by decide)), upS_ne (h2 14 (by decide)), upS_ne (h2 13 (by decide)), upS_ne (h2 12 (by decide)), upS_ne (h2 11 (by decide)), upS_ne (h2 10 (by decide)), upS_ne (h2 9 (by decide)), upS_ne (h2 8 (by decide))]
theorem eqx.up2 {l : List Nat} {S S1 : MS} {k : Nat} {z w : Int} (h : eqx l S S1) : eqx l (upS S k z w) (upS S1 k z w) := by
  intro j hj
  by_cases e : j = k
  · subst e
    rw [upS_k, upS_k, h j hj]
  · rw [upS_ne e, upS_ne e, h j hj]
theorem eqx.put {l : List Nat} {S S1 : MS} {kd a1 a2 a3 a4 a5 c l0 : Int} (h : eqx l S S1) (h7 : 7 ∉ l) : eqx l (nx_put S kd a1 a2 a3 a4 a5 c l0) (nx_put S1 kd a1 a2 a3 a4 a5 c l0) := by
  unfold nx_put
  rw [h 7 h7]
  exact eqx.up2 (eqx.up2 (eqx.up2 (eqx.up2 (eqx.up2 (eqx.up2 (eqx.up2 (eqx.up2 (eqx.up2 h))))))))
theorem CJ.put1 {S : MS} {kd a1 a2 a3 a4 a5 c l : Int} (hJ : CJ S) (h7 : 0 ≤ S 7 0) (hs : ∃ j, (0 ≤ j ∧ j < S 70 0) ∧ S 69 j = a2) : CJ (nx_put S kd a1 a2 a3 a4 a5 c l) := by
  obtain ⟨⟨h0, h1, h2, h3⟩, h4⟩ := hJ
  unfold CJ CInv SG
  rw [put_7, put_o (k := 70) (by decide), put_o (k := 69) (by decide), put_o (k := 68) (by decide)]
  refine ⟨⟨by omega, fun j j0 j1 => ⟨(h1 j j0 j1).1, ?_⟩, fun k hk => ?_, h3⟩, fun j => by have := h4 j; omega⟩
  · obtain ⟨k, hk, he⟩ := (h1 j j0 j1).2
    refine ⟨k, by omega, ?_⟩
    rw [put_10, if_neg (by omega)]
    exact he
  · rw [put_10]
    by_cases e : k = S 7 0
    · rw [if_pos e]
      exact hs
    · rw [if_neg e]
      exact h2 k ⟨hk.1, by omega⟩
theorem CJ.put2 {S : MS} {kd a1 a2 a3 a4 a5 c l : Int} (hJ : CJ S) (h7 : 0 ≤ S 7 0) (ha : 0 ≤ a2 ∧ a2 < 400) (hs : ¬ ∃ j, (0 ≤ j ∧ j < S 70 0) ∧ S 69 j = a2) : CJ (nx_put (upS (upS S 69 (S 70 0) a2) 70 0 (S 70 0 + 1)) kd a1 a2 a3 a4 a5 c l) := by
  obtain ⟨⟨h0, h1, h2, h3⟩, h4⟩ := hJ
  have e7 : (upS (upS S 69 (S 70 0) a2) 70 0 (S 70 0 + 1)) 7 = S 7 := by rw [upS_ne (by decide), upS_ne (by decide)]
  have e10 : (upS (upS S 69 (S 70 0) a2) 70 0 (S 70 0 + 1)) 10 = S 10 := by rw [upS_ne (by decide), upS_ne (by decide)]
  have e68 : (upS (upS S 69 (S 70 0) a2) 70 0 (S 70 0 + 1)) 68 = S 68 := by rw [upS_ne (by decide), upS_ne (by decide)]
  have e69 : ∀ j, (upS (upS S 69 (S 70 0) a2) 70 0 (S 70 0 + 1)) 69 j = if j = S 70 0 then a2 else S 69 j := fun j => by
    rw [upS_ne (by decide), upS_k]
    rfl
  have e70 : (upS (upS S 69 (S 70 0) a2) 70 0 (S 70 0 + 1)) 70 0 = S 70 0 + 1 := upS_at
  unfold CJ CInv SG
  rw [put_7, put_o (k := 70) (by decide), put_o (k := 69) (by decide), put_o (k := 68) (by decide), e7, e68, e70]
  refine ⟨⟨by omega, fun j j0 j1 => ?_, fun k hk => ?_, fun i j i0 ij j1 => ?_⟩, fun j => by have := h4 j; omega⟩
  · rw [e69]
    by_cases e : j = S 70 0
    · rw [if_pos e]
      refine ⟨ha, S 7 0, by omega, ?_⟩
      rw [put_10, e7, if_pos rfl]
    · rw [if_neg e]
      obtain ⟨g1, k, hk, he⟩ := h1 j j0 (by omega)
      refine ⟨g1, k, by omega, ?_⟩
      rw [put_10, e7, if_neg (by omega), e10]
      exact he
  · rw [put_10, e7, e10]
    by_cases e : k = S 7 0
    · rw [if_pos e]
      exact ⟨S 70 0, by omega, by rw [e69, if_pos rfl]⟩
    · rw [if_neg e]
      obtain ⟨j, hj, he⟩ := h2 k ⟨hk.1, by omega⟩
      exact ⟨j, by omega, by rw [e69, if_neg (by omega)]; exact he⟩
  · rw [e69, e69, if_neg (by omega)]
    by_cases e : j = S 70 0
    · rw [if_pos e]
      exact fun q => hs ⟨i, by omega, q⟩
    · rw [if_neg e]
      exact h3 i j i0 ij (by omega)
section KEEP
variable {E : EV} {cc : ByteArray} {nL : Nat} {ret : Option FieldType} {mn : String} {Q : Option Value → AH → Prop} {d kc ks pc : Nat} {L : List (Nat × Value)} {st : List Value} {h : AH} {A : AD} {S : MS} {q : Nat} {kd a1 a2 a3 a4 a5 c l : Int}
theorem cgq_130 (hk : kd = 0 ∨ kd = 1 ∨ kd = 2) (hq : h q = some (glc A kd a1 a2 a3 a4 a5 c l)) (hd : decode cc pc = .ok (.getfield 130, 3)) (kk : Ev E RX9 cc nL ret mn Q d kc ks (pc + 3) L (vI a2 :: st) h) : Ev E RX9 cc nL ret mn Q d kc ks pc L (.ref q :: st) h := by
  unfold glc at hq
  rcases hk with e | e | e <;> subst e
  · rw [if_pos rfl] at hq
    exact g_X9_130_3 hd hq rfl kk
  · rw [if_neg (by decide), if_pos rfl] at hq
    exact g_X9_130_0 hd hq rfl kk
  · rw [if_neg (by decide), if_neg (by decide)] at hq
    exact g_X9_130_4 hd hq rfl kk
theorem casq {a n : Nat} {f : Int → Option Nat} {z : Int} (hk : kd = 0 ∨ kd = 1 ∨ kd = 2) (hq : h q = some (glc A kd a1 a2 a3 a4 a5 c l)) (hd : decode cc pc = .ok (.aastore, 1)) (ha : h a = some (arR E 2 n f)) (hn : n < 2 ^ 31) (h0 : 0 ≤ z) (h1 : z < n) (kk : Ev E RX9 cc nL ret mn Q d kc ks (pc + 1) L st (ah_up h a (arR E 2 n (updR f z (some q))))) : Ev E RX9 cc nL ret mn Q d kc ks pc L (.ref q :: vI z :: .ref a :: st) h := by
  unfold glc at hq
  rcases hk with e | e | e <;> subst e
  · rw [if_pos rfl] at hq
    exact ev_aastore (ci := 3) (r := (RX3, TX3, 5)) rfl rfl hd ha hq hn h0 h1 kk
  · rw [if_neg (by decide), if_pos rfl] at hq
    exact ev_aastoreO (ci := 0) (r := (RX0, TX0, 8)) (C := RX3) rfl (by decide) rfl hd ha hq hn h0 h1 kk
  · rw [if_neg (by decide), if_neg (by decide)] at hq
    exact ev_aastoreO (ci := 4) (r := (RX4, TX4, 9)) (C := RX3) rfl (by decide) rfl hd ha hq hn h0 h1 kk
theorem keep_tail {n : Int} (hC : CR E A S h) (hI : Inv S) (h68 : ∀ j, S 68 j < S 7 0) (ho : ∀ k i, dom S k i → A k i ≠ q) (hk : kd = 0 ∨ kd = 1 ∨ kd = 2) (hq : h q = some (glc A kd a1 a2 a3 a4 a5 c l)) (hn : S 7 0 = n) (g7 : n < 40) (gt : TO S a1 a2 a3 a4 a5) (gc : 0 ≤ c ∧ c ≤ 4) (gl : -45 ≤ l ∧ l ≤ 45) (kk : ∀ h', CR E (upA A 21 (S 7 0) q) (nx_put S kd a1 a2 a3 a4 a5 c l) h' → Q (some (vI n)) h') : Ev E RX9 cX9_keep 3 (some .int) "keep" Q d kc ks 39 [(2, vI n), (0, .ref (A 0 0)), (1, .ref q)] [] h := by
  have n0 := hI.2.1
  have q02 : A 0 0 ≠ A 2 0 := fun e => absurd (hC.2.1 _ _ _ _ (dom_0 (by decide)) (dom_0 (by decide)) e).1 (by decide)
  refine ev_aload_n 1 rfl dX9_keep_39 ?_
  refine g_X9_17_9 dX9_keep_40 hC.k0 rfl ?_
  refine ev_iload_n 0 rfl dX9_keep_43 ?_
  refine ev_aload_n 2 rfl dX9_keep_44 ?_
  subst hn
  refine casq (f := fun j => if j < S 7 0 then some (A 21 j) else none) hk hq dX9_keep_45 hC.k2 (by decide) (by omega) (by omega) ?_
  refine ev_aload_n 1 rfl dX9_keep_46 ?_
  refine ev_dup dX9_keep_47 rfl ?_
  refine g_X9_91_9 dX9_keep_48 ((ah_ne q02).trans hC.k0) rfl ?_
  refine ev_iconst dX9_keep_51 ?_
  refine ev_iadd dX9_keep_52 ?_
  refine p_X9_91_9 dX9_keep_53 ((ah_ne q02).trans hC.k0) (Nat.le_of_ble_eq_true rfl) ?_
  refine ev_iload_n 0 rfl dX9_keep_56 ?_
  refine ev_ireturn dX9_keep_57 ?_
  have i1 := hI.1
  exact kk _ (hC.addSi hI ho h68 hq (upS_in (upS_in (upS_in (upS_in (upS_in (upS_in (upS_in (upS_in (upS_in hC.2.2 (by simp only [InR]; omega)) (by simp only [InR]; omega)) (by simp only [InR]; omega)) (by simp only [InR]; omega)) (by simp only [InR]; omega)) (by simp only [InR]; omega)) (by simp only [InR]; omega)) (by simp only [InR]; omega)) (by simp only [InR]; omega)))
end KEEP
set_option maxHeartbeats 4000000 in
theorem k_keep {E : EV} {h : AH} {A : AD} {S : MS} {q : Nat} {kd a1 a2 a3 a4 a5 c l : Int} (hC : CR E A S h) (hI : Inv S) (hJ : CJ S) (ho : ∀ k i, dom S k i → A k i ≠ q) (hk : kd = 0 ∨ kd = 1 ∨ kd = 2) (hq : h q = some (glc A kd a1 a2 a3 a4 a5 c l)) (g7 : S 7 0 < 40) (gt : TO S a1 a2 a3 a4 a5) (gc : 0 ≤ c ∧ c ≤ 4) (gl : -45 ≤ l ∧ l ≤ 45) : CM E yX9_keep cX9_keep 3 (some .int) 1 0 0 [.ref (A 0 0), .ref q] h (qI (fun z h' => z = S 7 0 ∧ ∃ A' S', CR E A' S' h' ∧ A' 0 0 = A 0 0 ∧ (∀ i, A' 24 i = A 24 i) ∧ eqx [69, 70] (nx_put S kd a1 a2 a3 a4 a5 c l) S' ∧ CJ S')) := by
  have n0 := hI.2.1
  have j0 := hJ.1.1
  refine CM.of (by decide) (Nat.le_of_ble_eq_true rfl) (L := [(0, .ref (A 0 0)), (1, .ref q)]) rfl ?_
  refine ev_aload_n 0 rfl dX9_keep_0 ?_
  refine cg_X9_91 hC dX9_keep_1 ?_
  refine ev_istore_n (L' := [(2, vI (S 7 0)), (0, .ref (A 0 0)), (1, .ref q)]) dX9_keep_4 (by decide) rfl ?_
  refine ev_aload_n 1 rfl dX9_keep_5 ?_
  refine ev_aload_n 2 rfl dX9_keep_6 ?_
  refine cgq_130 hk hq dX9_keep_7 ?_
  refine c_X9_286 (k_isSeenNight (n := a2) hC hI (by omega) (by simp only [InR]; omega)) hC.k0 rfl rfl (Nat.le_of_ble_eq_true rfl) (by decide) dX9_keep_10 (kB (fun b => ?_) (fun b => ?_))
  · refine ev_if_ne (tgt := 39) dX9_keep_13 (by decide) (by decide) (fun _ => ?_) (fun c => absurd c (by decide))
    exact keep_tail hC hI hJ.2 ho hk hq rfl g7 gt gc gl (fun h' hC' => ⟨_, rfl, rfl, _, _, hC', upA_k (by decide), fun i => upA_k (by decide), eqx.rf, hJ.put1 n0.1 b⟩)
  · refine ev_if_ne (tgt := 39) dX9_keep_13 (by decide) (by decide) (fun c => absurd c (by decide)) (fun _ => ?_)
    refine ev_aload_n 1 rfl dX9_keep_16 ?_
    refine cg_X9_34 hC dX9_keep_17 ?_
    refine ev_aload_n 1 rfl dX9_keep_20 ?_
    refine cg_X9_240 hC dX9_keep_21 ?_
    refine ev_aload_n 2 rfl dX9_keep_24 ?_
    refine cgq_130 hk hq dX9_keep_25 ?_
    refine ev_iastore (f := S 69) dX9_keep_28 hC.k6 (by decide) (by omega) (by omega) ?_
    have hC1 : CR E A (upS S 69 (S 70 0) a2) (ah_up h (A 6 0) (arI E 40 (updZ (S 69) (S 70 0) a2))) := hC.set0 (k := 6) (by decide) (by decide) (by rw [cel_ar 6 (by decide)]; exact congrArg (arI E 40) upS_k) (by simp only [InR]; omega)
    have hq1 : (ah_up h (A 6 0) (arI E 40 (updZ (S 69) (S 70 0) a2))) q = some (glc A kd a1 a2 a3 a4 a5 c l) := (ah_ne (fun e => ho 6 0 (dom_0 (by decide)) e.symm)).trans hq
    refine ev_aload_n 1 rfl dX9_keep_29 ?_
    refine ev_dup dX9_keep_30 rfl ?_
    refine cgE_X9_240 (v := S 70 0) hC1 (by rw [upS_ne (by decide)]) dX9_keep_31 ?_
    refine ev_iconst dX9_keep_34 ?_
    refine ev_iadd dX9_keep_35 ?_
    refine p_X9_240_9 dX9_keep_36 hC1.k0 (Nat.le_of_ble_eq_true rfl) ?_
    have hC2 : CR E A (upS (upS S 69 (S 70 0) a2) 70 0 (S 70 0 + 1)) (ah_up (ah_up h (A 6 0) (arI E 40 (updZ (S 69) (S 70 0) a2))) (A 0 0) _) := hC1.set0 (k := 0) (by decide) (by decide) (by rfl) (by simp only [InR]; omega)
    have hq2 := (ah_ne (h := ah_up h (A 6 0) (arI E 40 (updZ (S 69) (S 70 0) a2))) (e := cel E A (upS (upS S 69 (S 70 0) a2) 70 0 (S 70 0 + 1)) 0 0) (fun e => ho 0 0 (dom_0 (by decide)) e.symm)).trans hq1
    have hx : eqx [69, 70] S (upS (upS S 69 (S 70 0) a2) 70 0 (S 70 0 + 1)) := (eqx.rf.up (by decide)).up (by decide)
    have hI2 : Inv (upS (upS S 69 (S 70 0) a2) 70 0 (S 70 0 + 1)) := hI.xc (eqx.tr (l := scc) eqx.rf hx (fun x hx => hx) (by decide))
    refine keep_tail (S := upS (upS S 69 (S 70 0) a2) 70 0 (S 70 0 + 1)) hC2 hI2 ?_ ?_ hk hq2 (by rw [hx 7 (by decide)]) g7 ?_ gc gl (fun h' hC' => ⟨_, rfl, rfl, _, _, hC', upA_k (by decide), fun i => upA_k (by decide), hx.put (by decide), hJ.put2 n0.1 (by omega) b⟩)
    · rw [hx 68 (by decide), hx 7 (by decide)]
      exact hJ.2
    · intro k i hd
      exact ho k i (by rw [dom_up (by decide), dom_up (by decide)] at hd; exact hd)
    · unfold TO
      rw [hx 2 (by decide)]
      exact gt

