/-! bits that are none of another's -/
theorem gl_b {x : Int} (hx : 0 ≤ x) (i : Nat) (hi : i < 32) : (iI x).toBitVec.getLsbD i = x.toNat.testBit i := by
  rw [iI_nI hx]
  show (BitVec.ofNat 32 x.toNat).getLsbD i = _
  rw [BitVec.getLsbD_ofNat, decide_eq_true hi, Bool.true_and]
theorem m1_b : ∀ i, i < 32 → (iI (-1)).toBitVec.getLsbD i = true := by decide
theorem z32 {x : Int32} : x.toInt = 0 ↔ x.toBitVec = 0#32 := by
  constructor
  · intro h
    have h2 : x = 0 := Int32.toInt_inj.mp (h.trans rfl)
    rw [h2]
    rfl
  · intro h
    have h2 : x = 0 := Int32.toBitVec_inj.mp h
    rw [h2]
    rfl
theorem andn_0 {x y : Int} (hx : 0 ≤ x ∧ x < 1024) (hy : 0 ≤ y ∧ y < 1024) : andZ x (xorZ y (-1)) = 0 ↔ ∀ u, 0 ≤ u → tb x u = true → tb y u = true := by
  unfold andZ xorZ
  rw [iI_of, z32]
  show (iI x).toBitVec &&& ((iI y).toBitVec ^^^ (iI (-1)).toBitVec) = 0#32 ↔ _
  constructor
  · intro h u hu hx2
    unfold tb at hx2 ⊢
    by_cases h32 : u.toNat < 32
    · have h3 := congrArg (fun b : BitVec 32 => b.getLsbD u.toNat) h
      simp only [BitVec.getLsbD_and, BitVec.getLsbD_xor, gl_b hx.1 _ h32, gl_b hy.1 _ h32, m1_b _ h32, hx2, BitVec.getLsbD_zero] at h3
      simpa using h3
    · have h4 : x.toNat.testBit u.toNat = false := Nat.testBit_lt_two_pow (Nat.lt_of_lt_of_le (show x.toNat < 2 ^ 10 by omega) (Nat.pow_le_pow_right (by decide) (by omega)))
      rw [h4] at hx2
      cases hx2
  · intro h
    apply BitVec.eq_of_getLsbD_eq
    intro i hi
    rw [BitVec.getLsbD_and, BitVec.getLsbD_xor, gl_b hx.1 _ hi, gl_b hy.1 _ hi, m1_b _ hi, BitVec.getLsbD_zero]
    have h5 := h (i : Int) (by omega)
    unfold tb at h5
    rw [Int.toNat_natCast] at h5
    cases hb : x.toNat.testBit i
    · rfl
    · rw [h5 hb]
      rfl
theorem bit_free {f t b : Int} (hf : 0 ≤ f ∧ f < 1024) (ht : 0 ≤ t ∧ t < 1024) (hb : 0 ≤ b ∧ b < 10) : andZ (andZ f (xorZ t (-1))) (shlZ 1 b) = 0 ↔ ¬ (tb f b = true ∧ tb t b = false) := by
  rw [shlZ_1 hb.1 (by omega)]
  unfold andZ xorZ
  rw [iI_of, iI_of, z32]
  show ((iI f).toBitVec &&& ((iI t).toBitVec ^^^ (iI (-1)).toBitVec)) &&& (iI ((2 ^ b.toNat : Nat) : Int)).toBitVec = 0#32 ↔ _
  have h2 : ∀ i, i < 32 → (iI ((2 ^ b.toNat : Nat) : Int)).toBitVec.getLsbD i = decide (b.toNat = i) := fun i hi => by
    rw [gl_b (Int.natCast_nonneg _) i hi, Int.toNat_natCast, Nat.testBit_two_pow]
  have hb32 : b.toNat < 32 := by omega
  constructor
  · intro h q
    have h3 := congrArg (fun b2 : BitVec 32 => b2.getLsbD b.toNat) h
    unfold tb at q
    simp only [BitVec.getLsbD_and, BitVec.getLsbD_xor, gl_b hf.1 _ hb32, gl_b ht.1 _ hb32, m1_b _ hb32, h2 _ hb32, q.1, q.2, BitVec.getLsbD_zero] at h3
    simp at h3
  · intro h
    apply BitVec.eq_of_getLsbD_eq
    intro i hi
    rw [BitVec.getLsbD_and, BitVec.getLsbD_and, BitVec.getLsbD_xor, gl_b hf.1 _ hi, gl_b ht.1 _ hi, m1_b _ hi, h2 _ hi, BitVec.getLsbD_zero]
    by_cases e : b.toNat = i
    · subst e
      unfold tb at h
      cases h1 : f.toNat.testBit b.toNat
      · rfl
      · cases h4 : t.toNat.testBit b.toNat
        · exact absurd ⟨h1, h4⟩ h
        · simp
    · rw [decide_eq_false e, Bool.and_false]
/-! parting: the class's search is the same search -/
def MbQ (cs : List Int) (k x : Int) : Prop := (0 ≤ x ∧ x < 1024) ∧ ∀ u, 0 ≤ u → tb x u = (decide (u < len0 cs) && decide (at0 cs u = k))
theorem MbQ_new {cs : List Int} : MbQ cs (begL cs) 0 := by
  refine ⟨by decide, fun u hu => ?_⟩
  rw [tb_0]
  by_cases e : u < len0 cs
  · have := begL_gt (at0_mem hu e)
    rw [decide_eq_false (show ¬ at0 cs u = begL cs by omega), Bool.and_false]
  · rw [decide_eq_false e]
    rfl
theorem MbQ_app {cs : List Int} {k x : Int} (h : MbQ cs k x) (hl : len0 cs < 10) : MbQ (cs ++ [k]) k (orZ x (shlZ 1 (len0 cs))) := by
  have l0 := len0_nn cs
  obtain ⟨h1, h2⟩ := orZ_b h.1.1 h.1.2 l0 hl
  refine ⟨h1, fun u hu => ?_⟩
  rw [h2 u hu, h.2 u hu, len0_app]
  by_cases e : u = len0 cs
  · rw [e, at0_last, decide_eq_true (show len0 cs < len0 cs + 1 by omega)]
    simp
  · rw [decide_eq_false e, Bool.or_false]
    by_cases e2 : u < len0 cs
    · rw [at0_old hu e2, decide_eq_true e2, decide_eq_true (show u < len0 cs + 1 by omega)]
    · rw [decide_eq_false e2, decide_eq_false (show ¬ u < len0 cs + 1 by omega)]
      rfl
theorem MbQ_oth {cs : List Int} {k k' x : Int} (h : MbQ cs k' x) (hk : k' ≠ k) : MbQ (cs ++ [k]) k' x := by
  refine ⟨h.1, fun u hu => ?_⟩
  rw [h.2 u hu, len0_app]
  by_cases e : u = len0 cs
  · rw [e, at0_last, decide_eq_false (show ¬ len0 cs < len0 cs by omega), decide_eq_false (fun q : k = k' => hk q.symm), Bool.and_false]
    rfl
  · by_cases e2 : u < len0 cs
    · rw [at0_old hu e2, decide_eq_true e2, decide_eq_true (show u < len0 cs + 1 by omega)]
    · rw [decide_eq_false e2, decide_eq_false (show ¬ u < len0 cs + 1 by omega)]
      rfl
def PfS (M : Int → Int → Bool) (N : Int) (S : MS) (cs : List Int) : Prop := S 56 0 = N ∧ N ≤ 10 ∧ (∀ u, 0 ≤ u → u < len0 cs → S 55 u = at0 cs u) ∧ (∀ k, 0 ≤ k → k < begL cs → MbQ cs k (S 53 k)) ∧ (∀ v, 0 ≤ v → v < N → (0 ≤ S 52 v ∧ S 52 v < 1024) ∧ ∀ u, 0 ≤ u → u < v → tb (S 52 v) u = M v u) ∧ Sm cs
theorem ok_iff {M : Int → Int → Bool} {N x k : Int} {S : MS} {cs : List Int} (h : PfS M N S cs) (hN : len0 cs < N) (hx : MbQ cs k x) : andZ x (xorZ (S 52 (len0 cs)) (-1)) = 0 ↔ okL M cs k := by
  have l0 := len0_nn cs
  obtain ⟨b1, b2⟩ := h.2.2.2.2.1 (len0 cs) l0 hN
  rw [andn_0 hx.1 b1]
  constructor
  · intro q i i0 i1 he
    have := q i i0 (by rw [hx.2 i i0, decide_eq_true i1, decide_eq_true he]; rfl)
    rw [b2 i i0 i1] at this
    exact this
  · intro q u hu ht
    rw [hx.2 u hu, Bool.and_eq_true, decide_eq_true_iff, decide_eq_true_iff] at ht
    rw [b2 u hu ht.1]
    exact q u hu ht.1 ht.2
theorem PfS_app {M : Int → Int → Bool} {N x k : Int} {S S2 S3 : MS} {cs : List Int} (h : PfS M N S cs) (hN : len0 cs < N) (hx : MbQ cs k x) (k0 : 0 ≤ k) (k1 : k ≤ begL cs) (k2 : k < 10) (e2 : S2 = upS S 55 (len0 cs) k) (e3 : S3 = upS S2 53 k (orZ x (shlZ 1 (len0 cs)))) : PfS M N S3 (cs ++ [k]) := by
  obtain ⟨a1, a2, a3, a4, a5, a6⟩ := h
  have e55 : S3 55 = updZ (S 55) (len0 cs) k := by rw [e3, upS_ne (by decide), e2, upS_k]
  have e53 : S3 53 = updZ (S 53) k (orZ x (shlZ 1 (len0 cs))) := by rw [e3, upS_k, e2, upS_ne (by decide)]
  have e56 : S3 56 = S 56 := by rw [e3, upS_ne (by decide), e2, upS_ne (by decide)]
  have e52 : S3 52 = S 52 := by rw [e3, upS_ne (by decide), e2, upS_ne (by decide)]
  refine ⟨by rw [e56]; exact a1, a2, fun u u0 u1 => ?_, fun k' q0 q1 => ?_, by rw [e52]; exact a5, Sm_app a6 k0 k2⟩
  · rw [len0_app] at u1
    rw [e55]
    unfold updZ
    by_cases e : u = len0 cs
    · rw [if_pos e, e, at0_last]
    · rw [if_neg e, at0_old u0 (by omega)]
      exact a3 u u0 (by omega)
  · rw [e53]
    unfold updZ
    by_cases e : k' = k
    · rw [if_pos e, e]
      exact MbQ_app hx (by omega)
    · rw [if_neg e]
      rw [begL_app _ _ k0] at q1
      refine MbQ_oth (a4 k' q0 ?_) e
      split at q1 <;> omega
def QPF (E : EV) (A : AD) (M : Int → Int → Bool) (N most : Int) (m : Nat) (cs : List Int) (S : MS) : Option Value → AH → Prop := qI (fun z h' => ∃ S', CR E A S' h' ∧ eqx [53, 55] S S' ∧ ((z = 1 ∧ ∃ r, dfs M most m cs = some r ∧ len0 r = N ∧ ∀ u, 0 ≤ u → u < N → S' 55 u = at0 r u) ∨ (z = 0 ∧ dfs M most m cs = none ∧ (∀ u, 0 ≤ u → u < len0 cs → S' 55 u = S 55 u) ∧ ∀ k, 0 ≤ k → k < begL cs → S' 53 k = S 53 k)))

set_option maxHeartbeats 4000000 in
set_option maxRecDepth 100000 in
theorem pf_zero {E : EV} {A : AD} {M : Int → Int → Bool} {N most : Int} {cs : List Int} {S : MS} {h : AH} (hC : CR E A S h) (hP : PfS M N S cs) (gm : 0 ≤ most ∧ most ≤ 10) (h0 : len0 cs = N) : CM E yX6_partFrom cX6_partFrom 6 (some .boolean) 1 0 0 [.ref (A 11 0), vI (len0 cs), vI (begL cs), vI (most)] h (QPF E A M N most 0 cs S) := by
  have hR := hC.2.2
  have hP0 := hP
  obtain ⟨p1, p2, p3, p4, p5, p6⟩ := hP0
  have ln0 := len0_nn cs
  have hbg := begL_b p6
  refine CM.of (by decide) (Nat.le_of_ble_eq_true rfl) (L := [(0, .ref (A 11 0)), (1, vI (len0 cs)), (2, vI (begL cs)), (3, vI (most))]) rfl ?_
  refine ev_iload_n 1 rfl dX6_partFrom_0 ?_
  refine ev_aload_n 0 rfl dX6_partFrom_1 ?_
  refine cgE_X6_40 (v := N) hC (by rw [p1]) dX6_partFrom_2 ?_
  refine ev_icmp_lt (tgt := 10) dX6_partFrom_5 (by first | assumption | exact hR _ _ | decide | (simp only [InR]; omega)) (by first | assumption | exact hR _ _ | decide | (simp only [InR]; omega)) (by decide) (fun c5 => ?_) (fun c5 => ?_)
  · exact absurd c5 (by omega)
  · refine ev_iconst dX6_partFrom_8 ?_
    refine ev_zreturn (by decide) dX6_partFrom_9 ?_
    exact ⟨_, rfl, S, hC, eqx.rf, Or.inl ⟨rfl, cs, rfl, h0, fun u u0 u1 => p3 u u0 (by omega)⟩⟩

set_option maxHeartbeats 4000000 in
set_option maxRecDepth 100000 in
theorem pf_succ {E : EV} {A : AD} {M : Int → Int → Bool} {N most : Int} {m : Nat} {cs : List Int} {S : MS} {h : AH} (hC : CR E A S h) (hP : PfS M N S cs) (gm : 0 ≤ most ∧ most ≤ 10) (h0 : len0 cs + ((m + 1 : Nat) : Int) = N) (ih : ∀ (cs : List Int) (S : MS) (h : AH), len0 cs + (m : Int) = N → CR E A S h → PfS M N S cs → CM E yX6_partFrom cX6_partFrom 6 (some .boolean) (m + 1) 0 0 [.ref (A 11 0), vI (len0 cs), vI (begL cs), vI most] h (QPF E A M N most m cs S)) : CM E yX6_partFrom cX6_partFrom 6 (some .boolean) (m + 2) 0 0 [.ref (A 11 0), vI (len0 cs), vI (begL cs), vI (most)] h (QPF E A M N most (m + 1) cs S) := by
  have hR := hC.2.2
  have hP0 := hP
  obtain ⟨p1, p2, p3, p4, p5, p6⟩ := hP0
  have ln0 := len0_nn cs
  have hbg := begL_b p6
  refine CM.of (by decide) (Nat.le_of_ble_eq_true rfl) (L := [(0, .ref (A 11 0)), (1, vI (len0 cs)), (2, vI (begL cs)), (3, vI (most))]) rfl ?_
  refine ev_iload_n 1 rfl dX6_partFrom_0 ?_
  refine ev_aload_n 0 rfl dX6_partFrom_1 ?_
  refine cgE_X6_40 (v := N) hC (by rw [p1]) dX6_partFrom_2 ?_
  refine ev_icmp_lt (tgt := 10) dX6_partFrom_5 (by first | assumption | exact hR _ _ | decide | (simp only [InR]; omega)) (by first | assumption | exact hR _ _ | decide | (simp only [InR]; omega)) (by decide) (fun c5 => ?_) (fun c5 => ?_)
  · refine ev_iconst dX6_partFrom_10 ?_
    refine ev_istore (L' := [(4, vI (0)), (0, .ref (A 11 0)), (1, vI (len0 cs)), (2, vI (begL cs)), (3, vI (most))]) dX6_partFrom_11 (by decide) rfl ?_
    refine up_ind (P := fun k : Int => ∀ (S1 : MS) (h2 : AH), 0 ≤ k → CR E A S1 h2 → eqx [53, 55] S S1 → PfS M N S1 cs → (∀ q, 0 ≤ q → q < begL cs → S1 53 q = S 53 q) → tryS (stp M most m cs) (min (begL cs + 1) most - 0).toNat 0 = tryS (stp M most m cs) (min (begL cs + 1) most - k).toNat k → Ev E RX6 cX6_partFrom 6 (some .boolean) "partFrom" (QPF E A M N most (m + 1) cs S) (m + 2) 0 0 13 [(4, vI (k)), (0, .ref (A 11 0)), (1, vI (len0 cs)), (2, vI (begL cs)), (3, vI (most))] [] h2) (N := begL cs + 1) ?_ 0 (by omega)  S h (by omega) hC eqx.rf (hP) (fun q _ _ => rfl) (rfl)
    intro k ihk hkN S1 h2 pk hM3 hx4 hpf h53 htr
    have hRS1 := hM3.2.2
    refine ev_iload 0 rfl dX6_partFrom_13 ?_
    refine ev_iload_n 3 rfl dX6_partFrom_15 ?_
    refine ev_icmp_gt (tgt := 115) dX6_partFrom_16 (by first | assumption | exact hR _ _ | exact hRS1 _ _ | decide | (simp only [InR]; omega)) (by first | assumption | exact hR _ _ | exact hRS1 _ _ | decide | (simp only [InR]; omega)) (by decide) (fun c16 => ?_) (fun c16 => ?_)
    · refine ev_iconst dX6_partFrom_115 ?_
      refine ev_zreturn (by decide) dX6_partFrom_116 ?_
      exact ⟨_, rfl, S1, hM3, (eqx.tr (l := [53, 55]) (eqx.rf (l := [53, 55]) (S := S)) hx4 (by decide) (by decide)), Or.inr ⟨rfl, by rw [dfs_s, htr, show (min (begL cs + 1) most - k).toNat = 0 by omega]; rfl, fun u u0 u1 => by rw [hpf.2.2.1 u u0 u1, p3 u u0 u1], h53⟩⟩
    · refine ev_iload 0 rfl dX6_partFrom_19 ?_
      refine ev_iload_n 4 rfl dX6_partFrom_21 ?_
      refine ev_icmp_ge (tgt := 115) dX6_partFrom_22 (by first | assumption | exact hR _ _ | exact hRS1 _ _ | decide | (simp only [InR]; omega)) (by first | assumption | exact hR _ _ | exact hRS1 _ _ | decide | (simp only [InR]; omega)) (by decide) (fun c22 => ?_) (fun c22 => ?_)
      · refine ev_iconst dX6_partFrom_115 ?_
        refine ev_zreturn (by decide) dX6_partFrom_116 ?_
        exact ⟨_, rfl, S1, hM3, (eqx.tr (l := [53, 55]) (eqx.rf (l := [53, 55]) (S := S)) hx4 (by decide) (by decide)), Or.inr ⟨rfl, by rw [dfs_s, htr, show (min (begL cs + 1) most - k).toNat = 0 by omega]; rfl, fun u u0 u1 => by rw [hpf.2.2.1 u u0 u1, p3 u u0 u1], h53⟩⟩
      · refine ev_iload 0 rfl dX6_partFrom_25 ?_
        refine ev_iload_n 3 rfl dX6_partFrom_27 ?_
        refine ev_icmp_ge (tgt := 41) dX6_partFrom_28 (by first | assumption | exact hR _ _ | exact hRS1 _ _ | decide | (simp only [InR]; omega)) (by first | assumption | exact hR _ _ | exact hRS1 _ _ | decide | (simp only [InR]; omega)) (by decide) (fun c28 => ?_) (fun c28 => ?_)
        · refine ev_iconst dX6_partFrom_41 ?_
          have hx : MbQ cs k 0 := by rw [show k = begL cs by omega]; exact MbQ_new
          have okx := ok_iff hpf (by omega) hx
          rw [hx4 52 (by decide)] at okx
          refine ev_istore (L' := [(5, vI (0)), (4, vI (k)), (0, .ref (A 11 0)), (1, vI (len0 cs)), (2, vI (begL cs)), (3, vI (most))]) dX6_partFrom_42 (by decide) rfl ?_
          refine ev_iload 0 rfl dX6_partFrom_44 ?_
          refine ev_aload_n 2 rfl dX6_partFrom_46 ?_
          refine cg_X6_27 hM3 dX6_partFrom_47 ?_
          refine ev_iload_n 3 rfl dX6_partFrom_50 ?_
          refine c_ldE (k := 15) (s := 52) (v := S 52 (len0 cs)) hM3 (by decide) rfl (by rw [hx4 52 (by decide)]) dX6_partFrom_51 (by omega) (by show _ < ((10 : Nat) : Int); omega) ?_
          refine ev_iconst dX6_partFrom_52 ?_
          refine ev_ixor dX6_partFrom_53 ?_
          refine ev_iand dX6_partFrom_54 ?_
          have oz : InR (andZ 0 (xorZ (S 52 (len0 cs)) (-1))) := iI_in _
          refine ev_if_ne (tgt := 109) dX6_partFrom_55 (by first | assumption | exact hR _ _ | exact hRS1 _ _ | decide | (simp only [InR]; omega)) (by decide) (fun c55 => ?_) (fun c55 => ?_)
          · refine ev_iinc (L' := [(4, vI (k + 1)), (5, vI (0)), (0, .ref (A 11 0)), (1, vI (len0 cs)), (2, vI (begL cs)), (3, vI (most))]) 1 rfl dX6_partFrom_109 (by decide) rfl ?_
            refine ev_goto (tgt := 13) dX6_partFrom_112 (by decide) ?_
            refine ev_pick (L' := [(4, vI (k + 1)), (0, .ref (A 11 0)), (1, vI (len0 cs)), (2, vI (begL cs)), (3, vI (most))]) [0, 2, 3, 4, 5] rfl ?_
            exact ihk (k + 1) (by omega) (by omega) S1 h2 (by omega) hM3 hx4 (hpf) (h53) (by rw [htr, try_hit (by omega), stp_n (fun q => c55 (okx.mpr q))])
          · have hok := okx.mp (by omega)
            refine ev_aload_n 2 rfl dX6_partFrom_58 ?_
            refine cg_X6_36 hM3 dX6_partFrom_59 ?_
            refine ev_iload_n 3 rfl dX6_partFrom_62 ?_
            refine ev_iload 1 rfl dX6_partFrom_63 ?_
            refine c_st (k := 18) (s := 55) hM3 (by decide) rfl (by decide) dX6_partFrom_65 (by omega) (by show _ < ((10 : Nat) : Int); omega) (by first | assumption | exact hR _ _ | exact hRS1 _ _ | decide | (simp only [InR]; omega)) (fun S5 h6 eS7 hC8 => ?_)
            have hRS5 := hC8.2.2
            refine ev_aload_n 2 rfl dX6_partFrom_66 ?_
            refine cg_X6_30 hC8 dX6_partFrom_67 ?_
            refine ev_iload 1 rfl dX6_partFrom_70 ?_
            refine ev_iload 0 rfl dX6_partFrom_72 ?_
            refine ev_iconst dX6_partFrom_74 ?_
            refine ev_iload_n 3 rfl dX6_partFrom_75 ?_
            refine ev_ishl dX6_partFrom_76 ?_
            refine ev_ior dX6_partFrom_77 ?_
            have oz2 : InR (orZ 0 (shlZ 1 (len0 cs))) := iI_in _
            refine c_st (k := 16) (s := 53) hC8 (by decide) rfl (by decide) dX6_partFrom_78 (by omega) (by show _ < ((10 : Nat) : Int); omega) (by first | assumption | exact hR _ _ | exact hRS1 _ _ | exact hRS5 _ _ | decide | (simp only [InR]; omega)) (fun S9 h10 eS11 hC12 => ?_)
            have hRS9 := hC12.2.2
            refine ev_aload_n 2 rfl dX6_partFrom_79 ?_
            refine ev_iload_n 3 rfl dX6_partFrom_80 ?_
            refine ev_iconst dX6_partFrom_81 ?_
            refine ev_iadd dX6_partFrom_82 ?_
            refine ev_iload_n 4 rfl dX6_partFrom_83 ?_
            refine ev_iload 1 rfl dX6_partFrom_84 ?_
            refine ev_iconst dX6_partFrom_86 ?_
            refine ev_iadd dX6_partFrom_87 ?_
            refine c_X6_87 (j_max E (a := begL cs) (b := k + 1) (by first | assumption | exact hR _ _ | exact hRS1 _ _ | exact hRS5 _ _ | exact hRS9 _ _ | decide | (simp only [InR]; omega)) (by first | assumption | exact hR _ _ | exact hRS1 _ _ | exact hRS5 _ _ | exact hRS9 _ _ | decide | (simp only [InR]; omega))) rfl rfl (Nat.le_of_ble_eq_true rfl) (by omega) dX6_partFrom_88 (kP ?_)
            refine ev_iload_n 5 rfl dX6_partFrom_91 ?_
            have hpa := PfS_app hpf (by omega) hx (by omega) (by omega) (by omega) eS7 eS11
            have hk := ih (cs ++ [k]) S9 h10 (by rw [len0_app]; omega) hC12 hpa
            have hbe : begL (cs ++ [k]) = max (begL cs) (k + 1) := by rw [begL_app _ _ (by omega)]; split <;> omega
            rw [len0_app, hbe] at hk
            refine c_X6_54 hk hC12.k11 rfl rfl (Nat.le_of_ble_eq_true rfl) (by omega) dX6_partFrom_92 (kI (fun z13 h14 hqz13 => ?_))
            obtain ⟨S15, hC16, ex17, ⟨rfl, r, r1, r2, r3⟩ | ⟨rfl, hno, r1, r2⟩⟩ := hqz13
            · have hRS15 := hC16.2.2
              refine ev_if_eq (tgt := 100) dX6_partFrom_95 (by decide) (by decide) (fun c => absurd c (by decide)) (fun _ => ?_)
              refine ev_iconst dX6_partFrom_98 ?_
              refine ev_zreturn (by decide) dX6_partFrom_99 ?_
              exact ⟨_, rfl, S15, hC16, (eqx.tr (l := [53, 55]) (show eqx [53, 55] S S9 from by rw [eS11]; exact (show eqx [53, 55] S S5 from by rw [eS7]; exact (eqx.tr (l := [53, 55]) (eqx.rf (l := [53, 55]) (S := S)) hx4 (by decide) (by decide)).up (by decide)).up (by decide)) ex17 (by decide) (by decide)), Or.inl ⟨rfl, r, by rw [dfs_s, htr, try_hit (by omega), stp_y hok, r1], r2, r3⟩⟩
            · have hRS15 := hC16.2.2
              refine ev_if_eq (tgt := 100) dX6_partFrom_95 (by decide) (by decide) (fun _ => ?_) (fun c => absurd c (by decide))
              refine ev_aload_n 2 rfl dX6_partFrom_100 ?_
              refine cg_X6_30 hC16 dX6_partFrom_101 ?_
              refine ev_iload 1 rfl dX6_partFrom_104 ?_
              refine ev_iload 0 rfl dX6_partFrom_106 ?_
              refine c_st (k := 16) (s := 53) hC16 (by decide) rfl (by decide) dX6_partFrom_108 (by omega) (by show _ < ((10 : Nat) : Int); omega) (by decide) (fun S18 h19 eS20 hC21 => ?_)
              have hRS18 := hC21.2.2
              have q53 : ∀ q, 0 ≤ q → q < begL cs → S18 53 q = S1 53 q := fun q q0 q1 => by
                rw [eS20]
                by_cases e : q = k
                · rw [e, upS_at]; omega
                · rw [upS_nz e, r2 q q0 (by rw [begL_app _ _ (by omega)]; split <;> omega), eS11, upS_nz e, eS7, upS_ne (by decide)]
              have q55 : ∀ u, 0 ≤ u → u < len0 cs → S18 55 u = S1 55 u := fun u u0 u1 => by rw [eS20, upS_ne (by decide), r1 u u0 (by rw [len0_app]; omega), eS11, upS_ne (by decide), eS7, upS_nz (by omega)]
              have h535 : ∀ q, 0 ≤ q → q < begL cs → S18 53 q = S 53 q := fun q q0 q1 => (q53 q q0 q1).trans (h53 q q0 q1)
              have hpf5 : PfS M N S18 cs := by
                have e56 : S18 56 = S1 56 := by rw [eS20, upS_ne (by decide), ex17 56 (by decide), eS11, upS_ne (by decide), eS7, upS_ne (by decide)]
                have e52 : S18 52 = S1 52 := by rw [eS20, upS_ne (by decide), ex17 52 (by decide), eS11, upS_ne (by decide), eS7, upS_ne (by decide)]
                exact ⟨by rw [e56]; exact hpf.1, hpf.2.1, fun u u0 u1 => (q55 u u0 u1).trans (hpf.2.2.1 u u0 u1), fun q q0 q1 => by rw [q53 q q0 q1]; exact hpf.2.2.2.1 q q0 q1, by rw [e52]; exact hpf.2.2.2.2.1, hpf.2.2.2.2.2⟩
              refine ev_iinc (L' := [(4, vI (k + 1)), (5, vI (0)), (0, .ref (A 11 0)), (1, vI (len0 cs)), (2, vI (begL cs)), (3, vI (most))]) 1 rfl dX6_partFrom_109 (by decide) rfl ?_
              refine ev_goto (tgt := 13) dX6_partFrom_112 (by decide) ?_
              refine ev_pick (L' := [(4, vI (k + 1)), (0, .ref (A 11 0)), (1, vI (len0 cs)), (2, vI (begL cs)), (3, vI (most))]) [0, 2, 3, 4, 5] rfl ?_
              exact ihk (k + 1) (by omega) (by omega) S18 h19 (by omega) hC21 (by rw [eS20]; exact eqx.up (l := [53, 55]) (eqx.tr (l := [53, 55]) (by rw [eS11]; exact eqx.up (l := [53, 55]) (by rw [eS7]; exact eqx.up (l := [53, 55]) hx4 (by decide)) (by decide)) ex17 (by decide) (by decide)) (by decide)) (hpf5) (h535) (by rw [htr, try_hit (by omega), stp_y hok, hno])
        · refine ev_aload_n 1 rfl dX6_partFrom_31 ?_
          refine cg_X6_30 hM3 dX6_partFrom_32 ?_
          refine ev_iload 0 rfl dX6_partFrom_35 ?_
          refine c_ld (k := 16) (s := 53) hM3 (by decide) rfl dX6_partFrom_37 (by omega) (by show _ < ((10 : Nat) : Int); omega) ?_
          refine ev_goto (tgt := 42) dX6_partFrom_38 (by decide) ?_
          have hx : MbQ cs k (S1 53 k) := hpf.2.2.2.1 k (by omega) (by omega)
          have okx := ok_iff hpf (by omega) hx
          rw [hx4 52 (by decide)] at okx
          refine ev_istore (L' := [(5, vI (S1 53 k)), (4, vI (k)), (0, .ref (A 11 0)), (1, vI (len0 cs)), (2, vI (begL cs)), (3, vI (most))]) dX6_partFrom_42 (by decide) rfl ?_
          refine ev_iload 0 rfl dX6_partFrom_44 ?_
          refine ev_aload_n 2 rfl dX6_partFrom_46 ?_
          refine cg_X6_27 hM3 dX6_partFrom_47 ?_
          refine ev_iload_n 3 rfl dX6_partFrom_50 ?_
          refine c_ldE (k := 15) (s := 52) (v := S 52 (len0 cs)) hM3 (by decide) rfl (by rw [hx4 52 (by decide)]) dX6_partFrom_51 (by omega) (by show _ < ((10 : Nat) : Int); omega) ?_
          refine ev_iconst dX6_partFrom_52 ?_
          refine ev_ixor dX6_partFrom_53 ?_
          refine ev_iand dX6_partFrom_54 ?_
          have oz : InR (andZ (S1 53 k) (xorZ (S 52 (len0 cs)) (-1))) := iI_in _
          refine ev_if_ne (tgt := 109) dX6_partFrom_55 (by first | assumption | exact hR _ _ | exact hRS1 _ _ | decide | (simp only [InR]; omega)) (by decide) (fun c55 => ?_) (fun c55 => ?_)
          · refine ev_iinc (L' := [(4, vI (k + 1)), (5, vI (S1 53 k)), (0, .ref (A 11 0)), (1, vI (len0 cs)), (2, vI (begL cs)), (3, vI (most))]) 1 rfl dX6_partFrom_109 (by decide) rfl ?_
            refine ev_goto (tgt := 13) dX6_partFrom_112 (by decide) ?_
            refine ev_pick (L' := [(4, vI (k + 1)), (0, .ref (A 11 0)), (1, vI (len0 cs)), (2, vI (begL cs)), (3, vI (most))]) [0, 2, 3, 4, 5] rfl ?_
            exact ihk (k + 1) (by omega) (by omega) S1 h2 (by omega) hM3 hx4 (hpf) (h53) (by rw [htr, try_hit (by omega), stp_n (fun q => c55 (okx.mpr q))])
          · have hok := okx.mp (by omega)
            refine ev_aload_n 2 rfl dX6_partFrom_58 ?_
            refine cg_X6_36 hM3 dX6_partFrom_59 ?_
            refine ev_iload_n 3 rfl dX6_partFrom_62 ?_
            refine ev_iload 1 rfl dX6_partFrom_63 ?_
            refine c_st (k := 18) (s := 55) hM3 (by decide) rfl (by decide) dX6_partFrom_65 (by omega) (by show _ < ((10 : Nat) : Int); omega) (by first | assumption | exact hR _ _ | exact hRS1 _ _ | decide | (simp only [InR]; omega)) (fun S22 h23 eS24 hC25 => ?_)
            have hRS22 := hC25.2.2
            refine ev_aload_n 2 rfl dX6_partFrom_66 ?_
            refine cg_X6_30 hC25 dX6_partFrom_67 ?_
            refine ev_iload 1 rfl dX6_partFrom_70 ?_
            refine ev_iload 0 rfl dX6_partFrom_72 ?_
            refine ev_iconst dX6_partFrom_74 ?_
            refine ev_iload_n 3 rfl dX6_partFrom_75 ?_
            refine ev_ishl dX6_partFrom_76 ?_
            refine ev_ior dX6_partFrom_77 ?_
            have oz2 : InR (orZ (S1 53 k) (shlZ 1 (len0 cs))) := iI_in _
            refine c_st (k := 16) (s := 53) hC25 (by decide) rfl (by decide) dX6_partFrom_78 (by omega) (by show _ < ((10 : Nat) : Int); omega) (by first | assumption | exact hR _ _ | exact hRS1 _ _ | exact hRS22 _ _ | decide | (simp only [InR]; omega)) (fun S26 h27 eS28 hC29 => ?_)
            have hRS26 := hC29.2.2
            refine ev_aload_n 2 rfl dX6_partFrom_79 ?_
            refine ev_iload_n 3 rfl dX6_partFrom_80 ?_
            refine ev_iconst dX6_partFrom_81 ?_
            refine ev_iadd dX6_partFrom_82 ?_
            refine ev_iload_n 4 rfl dX6_partFrom_83 ?_
            refine ev_iload 1 rfl dX6_partFrom_84 ?_
            refine ev_iconst dX6_partFrom_86 ?_
            refine ev_iadd dX6_partFrom_87 ?_
            refine c_X6_87 (j_max E (a := begL cs) (b := k + 1) (by first | assumption | exact hR _ _ | exact hRS1 _ _ | exact hRS22 _ _ | exact hRS26 _ _ | decide | (simp only [InR]; omega)) (by first | assumption | exact hR _ _ | exact hRS1 _ _ | exact hRS22 _ _ | exact hRS26 _ _ | decide | (simp only [InR]; omega))) rfl rfl (Nat.le_of_ble_eq_true rfl) (by omega) dX6_partFrom_88 (kP ?_)
            refine ev_iload_n 5 rfl dX6_partFrom_91 ?_
            have hpa := PfS_app hpf (by omega) hx (by omega) (by omega) (by omega) eS24 eS28
            have hk := ih (cs ++ [k]) S26 h27 (by rw [len0_app]; omega) hC29 hpa
            have hbe : begL (cs ++ [k]) = max (begL cs) (k + 1) := by rw [begL_app _ _ (by omega)]; split <;> omega
            rw [len0_app, hbe] at hk
            refine c_X6_54 hk hC29.k11 rfl rfl (Nat.le_of_ble_eq_true rfl) (by omega) dX6_partFrom_92 (kI (fun z30 h31 hqz30 => ?_))
            obtain ⟨S32, hC33, ex34, ⟨rfl, r, r1, r2, r3⟩ | ⟨rfl, hno, r1, r2⟩⟩ := hqz30
            · have hRS32 := hC33.2.2
              refine ev_if_eq (tgt := 100) dX6_partFrom_95 (by decide) (by decide) (fun c => absurd c (by decide)) (fun _ => ?_)
              refine ev_iconst dX6_partFrom_98 ?_
              refine ev_zreturn (by decide) dX6_partFrom_99 ?_
              exact ⟨_, rfl, S32, hC33, (eqx.tr (l := [53, 55]) (show eqx [53, 55] S S26 from by rw [eS28]; exact (show eqx [53, 55] S S22 from by rw [eS24]; exact (eqx.tr (l := [53, 55]) (eqx.rf (l := [53, 55]) (S := S)) hx4 (by decide) (by decide)).up (by decide)).up (by decide)) ex34 (by decide) (by decide)), Or.inl ⟨rfl, r, by rw [dfs_s, htr, try_hit (by omega), stp_y hok, r1], r2, r3⟩⟩
            · have hRS32 := hC33.2.2
              refine ev_if_eq (tgt := 100) dX6_partFrom_95 (by decide) (by decide) (fun _ => ?_) (fun c => absurd c (by decide))
              refine ev_aload_n 2 rfl dX6_partFrom_100 ?_
              refine cg_X6_30 hC33 dX6_partFrom_101 ?_
              refine ev_iload 1 rfl dX6_partFrom_104 ?_
              refine ev_iload 0 rfl dX6_partFrom_106 ?_
              refine c_st (k := 16) (s := 53) hC33 (by decide) rfl (by decide) dX6_partFrom_108 (by omega) (by show _ < ((10 : Nat) : Int); omega) (by first | assumption | exact hR _ _ | exact hRS1 _ _ | exact hRS22 _ _ | exact hRS26 _ _ | exact hRS32 _ _ | decide | (simp only [InR]; omega)) (fun S35 h36 eS37 hC38 => ?_)
              have hRS35 := hC38.2.2
              have q53 : ∀ q, 0 ≤ q → q < begL cs → S35 53 q = S1 53 q := fun q q0 q1 => by
                rw [eS37]
                by_cases e : q = k
                · rw [e, upS_at]
                · rw [upS_nz e, r2 q q0 (by rw [begL_app _ _ (by omega)]; split <;> omega), eS28, upS_nz e, eS24, upS_ne (by decide)]
              have q55 : ∀ u, 0 ≤ u → u < len0 cs → S35 55 u = S1 55 u := fun u u0 u1 => by rw [eS37, upS_ne (by decide), r1 u u0 (by rw [len0_app]; omega), eS28, upS_ne (by decide), eS24, upS_nz (by omega)]
              have h535 : ∀ q, 0 ≤ q → q < begL cs → S35 53 q = S 53 q := fun q q0 q1 => (q53 q q0 q1).trans (h53 q q0 q1)
              have hpf5 : PfS M N S35 cs := by
                have e56 : S35 56 = S1 56 := by rw [eS37, upS_ne (by decide), ex34 56 (by decide), eS28, upS_ne (by decide), eS24, upS_ne (by decide)]
                have e52 : S35 52 = S1 52 := by rw [eS37, upS_ne (by decide), ex34 52 (by decide), eS28, upS_ne (by decide), eS24, upS_ne (by decide)]
                exact ⟨by rw [e56]; exact hpf.1, hpf.2.1, fun u u0 u1 => (q55 u u0 u1).trans (hpf.2.2.1 u u0 u1), fun q q0 q1 => by rw [q53 q q0 q1]; exact hpf.2.2.2.1 q q0 q1, by rw [e52]; exact hpf.2.2.2.2.1, hpf.2.2.2.2.2⟩
              refine ev_iinc (L' := [(4, vI (k + 1)), (5, vI (S1 53 k)), (0, .ref (A 11 0)), (1, vI (len0 cs)), (2, vI (begL cs)), (3, vI (most))]) 1 rfl dX6_partFrom_109 (by decide) rfl ?_
              refine ev_goto (tgt := 13) dX6_partFrom_112 (by decide) ?_
              refine ev_pick (L' := [(4, vI (k + 1)), (0, .ref (A 11 0)), (1, vI (len0 cs)), (2, vI (begL cs)), (3, vI (most))]) [0, 2, 3, 4, 5] rfl ?_
              exact ihk (k + 1) (by omega) (by omega) S35 h36 (by omega) hC38 (by rw [eS37]; exact eqx.up (l := [53, 55]) (eqx.tr (l := [53, 55]) (by rw [eS28]; exact eqx.up (l := [53, 55]) (by rw [eS24]; exact eqx.up (l := [53, 55]) hx4 (by decide)) (by decide)) ex34 (by decide) (by decide)) (by decide)) (hpf5) (h535) (by rw [htr, try_hit (by omega), stp_y hok, hno])
  · exact absurd (show len0 cs < N by omega) c5

theorem k_partFrom {E : EV} {A : AD} {M : Int → Int → Bool} {N most : Int} (gm : 0 ≤ most ∧ most ≤ 10) : ∀ (m : Nat) (cs : List Int) (S : MS) (h : AH), len0 cs + (m : Int) = N → CR E A S h → PfS M N S cs → CM E yX6_partFrom cX6_partFrom 6 (some .boolean) (m + 1) 0 0 [.ref (A 11 0), vI (len0 cs), vI (begL cs), vI most] h (QPF E A M N most m cs S) := by
  intro m
  induction m with
  | zero =>
    intro cs S h h0 hC hP
    exact pf_zero hC hP gm (by omega)
  | succ m ih =>
    intro cs S h h0 hC hP
    exact pf_succ hC hP gm h0 ih
