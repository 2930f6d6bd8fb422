set_option maxHeartbeats 4000000 in
set_option maxRecDepth 100000 in
theorem m_canFollow {E : EV} {h : AH} {o : Nat} {ad : Nat → Nat} {S : MS} {a b : Int} (hM : MR E o ad S h) (ga : 0 ≤ a ∧ a < 10) (gb : 0 ≤ b ∧ b < 10) (ba : ((-10000 ≤ S 26 a ∧ S 26 a ≤ 10000) ∧ (-1600000 ≤ S 27 a ∧ S 27 a ≤ 1600000) ∧ -1600000 ≤ S 28 a ∧ S 28 a ≤ 1600000)) (bb : ((-10000 ≤ S 26 b ∧ S 26 b ≤ 10000) ∧ (-1600000 ≤ S 27 b ∧ S 27 b ≤ 1600000) ∧ -1600000 ≤ S 28 b ∧ S 28 b ≤ 1600000)) (gv : 1 ≤ S 31 0 ∧ S 31 0 ≤ 60) : CM E yX10_canFollow cX10_canFollow 9 (some .boolean) 0 0 0 [.ref (o), vI (a), vI (b)] h (qB (folQ (S 31 0) (S 25) (S 26) (S 27) (S 28) a b) h) := by
  have hR := hM.2.2.2.2
  have y1 := mul_b (a := S 27 b - S 27 a) (b := S 27 b - S 27 a) (A := 3200000) (B := 3200000) (by omega) (by omega) (by decide)
  have y2 := mul_b (a := S 28 b - S 28 a) (b := S 28 b - S 28 a) (A := 3200000) (B := 3200000) (by omega) (by omega) (by decide)
  have y3 := mul_b (a := S 31 0) (b := S 26 b - S 26 a) (A := 60) (B := 20000) (by omega) (by omega) (by decide)
  have y4 := mul_b (a := S 31 0 * (S 26 b - S 26 a)) (b := S 31 0 * (S 26 b - S 26 a)) (A := 1200000) (B := 1200000) (by omega) (by omega) (by decide)
  refine CM.of (by decide) (Nat.le_of_ble_eq_true rfl) (L := [(0, .ref (o)), (1, vI (a)), (2, vI (b))]) rfl ?_
  refine ev_iload_n 1 rfl dX10_canFollow_0 ?_
  refine ev_iload_n 2 rfl dX10_canFollow_1 ?_
  refine ev_icmp_eq (tgt := 40) dX10_canFollow_2 (by first | assumption | exact hR _ _ | decide | (simp only [InR]; omega)) (by first | assumption | exact hR _ _ | decide | (simp only [InR]; omega)) (by decide) (fun c2 => ?_) (fun c2 => ?_)
  · refine ev_iconst dX10_canFollow_40 ?_
    refine ev_zreturn (by decide) dX10_canFollow_41 ?_
    exact ⟨rfl, Or.inr ⟨rfl, fun q => by subst c2; unfold folQ at q; omega⟩⟩
  · refine ev_aload_n 0 rfl dX10_canFollow_5 ?_
    refine mg_68 hM dX10_canFollow_6 ?_
    refine ev_iload_n 1 rfl dX10_canFollow_9 ?_
    refine m_ld (k := 25) hM (by decide) dX10_canFollow_10 (by omega) (by show _ < ((10 : Nat) : Int); omega) ?_
    refine ev_iconst dX10_canFollow_11 ?_
    refine ev_icmp_lt (tgt := 40) dX10_canFollow_12 (by first | assumption | exact hR _ _ | decide | (simp only [InR]; omega)) (by decide) (by decide) (fun c12 => ?_) (fun c12 => ?_)
    · refine ev_iconst dX10_canFollow_40 ?_
      refine ev_zreturn (by decide) dX10_canFollow_41 ?_
      exact ⟨rfl, Or.inr ⟨rfl, fun q => by unfold folQ at q; omega⟩⟩
    · refine ev_aload_n 0 rfl dX10_canFollow_15 ?_
      refine mg_68 hM dX10_canFollow_16 ?_
      refine ev_iload_n 2 rfl dX10_canFollow_19 ?_
      refine m_ld (k := 25) hM (by decide) dX10_canFollow_20 (by omega) (by show _ < ((10 : Nat) : Int); omega) ?_
      refine ev_iconst dX10_canFollow_21 ?_
      refine ev_icmp_lt (tgt := 40) dX10_canFollow_22 (by first | assumption | exact hR _ _ | decide | (simp only [InR]; omega)) (by decide) (by decide) (fun c22 => ?_) (fun c22 => ?_)
      · refine ev_iconst dX10_canFollow_40 ?_
        refine ev_zreturn (by decide) dX10_canFollow_41 ?_
        exact ⟨rfl, Or.inr ⟨rfl, fun q => by unfold folQ at q; omega⟩⟩
      · refine ev_aload_n 0 rfl dX10_canFollow_25 ?_
        refine mg_71 hM dX10_canFollow_26 ?_
        refine ev_iload_n 2 rfl dX10_canFollow_29 ?_
        refine m_ld (k := 26) hM (by decide) dX10_canFollow_30 (by omega) (by show _ < ((10 : Nat) : Int); omega) ?_
        refine ev_aload_n 0 rfl dX10_canFollow_31 ?_
        refine mg_71 hM dX10_canFollow_32 ?_
        refine ev_iload_n 1 rfl dX10_canFollow_35 ?_
        refine m_ld (k := 26) hM (by decide) dX10_canFollow_36 (by omega) (by show _ < ((10 : Nat) : Int); omega) ?_
        refine ev_icmp_gt (tgt := 42) dX10_canFollow_37 (by first | assumption | exact hR _ _ | decide | (simp only [InR]; omega)) (by first | assumption | exact hR _ _ | decide | (simp only [InR]; omega)) (by decide) (fun c37 => ?_) (fun c37 => ?_)
        · refine ev_aload_n 0 rfl dX10_canFollow_42 ?_
          refine mg_74 hM dX10_canFollow_43 ?_
          refine ev_iload_n 2 rfl dX10_canFollow_46 ?_
          refine m_ld (k := 27) hM (by decide) dX10_canFollow_47 (by omega) (by show _ < ((10 : Nat) : Int); omega) ?_
          refine ev_aload_n 0 rfl dX10_canFollow_48 ?_
          refine mg_74 hM dX10_canFollow_49 ?_
          refine ev_iload_n 1 rfl dX10_canFollow_52 ?_
          refine m_ld (k := 27) hM (by decide) dX10_canFollow_53 (by omega) (by show _ < ((10 : Nat) : Int); omega) ?_
          refine ev_isub dX10_canFollow_54 ?_
          refine ev_i2l dX10_canFollow_55 (by first | assumption | exact hR _ _ | decide | (simp only [InR]; omega)) ?_
          refine ev_lstore_n (L' := [(3, vL ((S 27 b) - (S 27 a))), (0, .ref (o)), (1, vI (a)), (2, vI (b))]) dX10_canFollow_56 (by decide) rfl ?_
          refine ev_aload_n 1 rfl dX10_canFollow_57 ?_
          refine mg_77 hM dX10_canFollow_58 ?_
          refine ev_iload_n 3 rfl dX10_canFollow_61 ?_
          refine m_ld (k := 28) hM (by decide) dX10_canFollow_62 (by omega) (by show _ < ((10 : Nat) : Int); omega) ?_
          refine ev_aload_n 1 rfl dX10_canFollow_63 ?_
          refine mg_77 hM dX10_canFollow_64 ?_
          refine ev_iload_n 2 rfl dX10_canFollow_67 ?_
          refine m_ld (k := 28) hM (by decide) dX10_canFollow_68 (by omega) (by show _ < ((10 : Nat) : Int); omega) ?_
          refine ev_isub dX10_canFollow_69 ?_
          refine ev_i2l dX10_canFollow_70 (by first | assumption | exact hR _ _ | decide | (simp only [InR]; omega)) ?_
          refine ev_lstore (L' := [(5, vL ((S 28 b) - (S 28 a))), (3, vL ((S 27 b) - (S 27 a))), (0, .ref (o)), (1, vI (a)), (2, vI (b))]) dX10_canFollow_71 (by decide) rfl ?_
          refine ev_aload_n 2 rfl dX10_canFollow_73 ?_
          refine mg_86 hM dX10_canFollow_74 ?_
          refine ev_i2l dX10_canFollow_77 (by first | assumption | exact hR _ _ | decide | (simp only [InR]; omega)) ?_
          refine ev_aload_n 2 rfl dX10_canFollow_78 ?_
          refine mg_71 hM dX10_canFollow_79 ?_
          refine ev_iload_n 4 rfl dX10_canFollow_82 ?_
          refine m_ld (k := 26) hM (by decide) dX10_canFollow_83 (by omega) (by show _ < ((10 : Nat) : Int); omega) ?_
          refine ev_aload_n 2 rfl dX10_canFollow_84 ?_
          refine mg_71 hM dX10_canFollow_85 ?_
          refine ev_iload_n 3 rfl dX10_canFollow_88 ?_
          refine m_ld (k := 26) hM (by decide) dX10_canFollow_89 (by omega) (by show _ < ((10 : Nat) : Int); omega) ?_
          refine ev_isub dX10_canFollow_90 ?_
          refine ev_i2l dX10_canFollow_91 (by first | assumption | exact hR _ _ | decide | (simp only [InR]; omega)) ?_
          refine ev_lmul dX10_canFollow_92 ?_
          refine ev_lstore (L' := [(7, vL ((S 31 0) * ((S 26 b) - (S 26 a)))), (5, vL ((S 28 b) - (S 28 a))), (3, vL ((S 27 b) - (S 27 a))), (0, .ref (o)), (1, vI (a)), (2, vI (b))]) dX10_canFollow_93 (by decide) rfl ?_
          refine ev_lload_n 2 rfl dX10_canFollow_95 ?_
          refine ev_lload_n 2 rfl dX10_canFollow_96 ?_
          refine ev_lmul dX10_canFollow_97 ?_
          refine ev_lload 1 rfl dX10_canFollow_98 ?_
          refine ev_lload 1 rfl dX10_canFollow_100 ?_
          refine ev_lmul dX10_canFollow_102 ?_
          refine ev_ladd dX10_canFollow_103 ?_
          refine ev_lload 0 rfl dX10_canFollow_104 ?_
          refine ev_lload 0 rfl dX10_canFollow_106 ?_
          refine ev_lmul dX10_canFollow_108 ?_
          refine ev_lcmp_gt (tgt := 117) dX10_canFollow_109 dX10_canFollow_110 (by first | assumption | exact hR _ _ | exact (hR _ _).l | decide | (simp only [InL]; omega)) (by first | assumption | exact hR _ _ | exact (hR _ _).l | decide | (simp only [InL]; omega)) (by decide) (fun c109 => ?_) (fun c109 => ?_)
          · refine ev_iconst dX10_canFollow_117 ?_
            refine ev_zreturn (by decide) dX10_canFollow_118 ?_
            exact ⟨rfl, Or.inr ⟨rfl, fun q => by unfold folQ at q; omega⟩⟩
          · refine ev_iconst dX10_canFollow_113 ?_
            refine ev_goto (tgt := 118) dX10_canFollow_114 (by decide) ?_
            refine ev_zreturn (by decide) dX10_canFollow_118 ?_
            exact ⟨rfl, Or.inl ⟨rfl, by unfold folQ; omega⟩⟩
        · refine ev_iconst dX10_canFollow_40 ?_
          refine ev_zreturn (by decide) dX10_canFollow_41 ?_
          exact ⟨rfl, Or.inr ⟨rfl, fun q => by unfold folQ at q; omega⟩⟩

set_option maxHeartbeats 4000000 in
set_option maxRecDepth 100000 in
theorem m_findWays {E : EV} {h : AH} {o : Nat} {ad : Nat → Nat} {S : MS} {F : Int → Int → Bool} {c : Int} (hM : MR E o ad S h) (gc : S 21 0 = c) (gc1 : 0 ≤ c ∧ c ≤ 10) (hbd : ∀ k : Int, 0 ≤ k → k < c → ((-10000 ≤ S 26 k ∧ S 26 k ≤ 10000) ∧ (-1600000 ≤ S 27 k ∧ S 27 k ≤ 1600000) ∧ -1600000 ≤ S 28 k ∧ S 28 k ≤ 1600000)) (gv : 1 ≤ S 31 0 ∧ S 31 0 ≤ 60) (hF : ∀ a b : Int, 0 ≤ a → a < c → 0 ≤ b → b < c → (F a b = true ↔ folQ (S 31 0) (S 25) (S 26) (S 27) (S 28) a b)) : CM E yX10_findWays cX10_findWays 7 (some .int) 1 0 0 [.ref (o)] h (qI (fun z h' => ∃ S', MR E o ad S' h' ∧ eqx [32, 33] S S' ∧ z = sumI (plc (S 25)) c - mL F c c.toNat 0 ∧ ∀ k : Int, 0 ≤ k → k < c → S' 33 k = nxA F c k)) := by
  have hR := hM.2.2.2.2
  have hp := p2_b gc1.2
  refine CM.of (by decide) (Nat.le_of_ble_eq_true rfl) (L := [(0, .ref (o))]) rfl ?_
  refine ev_iconst dX10_findWays_0 ?_
  refine ev_aload_n 0 rfl dX10_findWays_1 ?_
  refine mgE_254 (v := c) hM (by rw [gc]) dX10_findWays_2 ?_
  refine ev_ishl dX10_findWays_5 ?_
  refine ev_ren (b := p2 c) (shlZ_1 (by omega) (by omega)) ?_
  refine ev_istore_n (L' := [(1, vI (p2 c)), (0, .ref (o))]) dX10_findWays_6 (by decide) rfl ?_
  refine ev_iconst dX10_findWays_7 ?_
  refine ev_istore_n (L' := [(2, vI (0)), (1, vI (p2 c)), (0, .ref (o))]) dX10_findWays_8 (by decide) rfl ?_
  refine up_ind (P := fun t : Int => ∀ (S1 : MS) (h2 : AH), 0 ≤ t → MR E o ad S1 h2 → eqx [32] S S1 → (∀ u : Int, 0 ≤ u → u < t → S1 32 (1024 * c + u) = 0) → Ev E RX10 cX10_findWays 7 (some .int) "findWays" (qI (fun z h' => ∃ S', MR E o ad S' h' ∧ eqx [32, 33] S S' ∧ z = sumI (plc (S 25)) c - mL F c c.toNat 0 ∧ ∀ k : Int, 0 ≤ k → k < c → S' 33 k = nxA F c k)) 1 0 0 9 [(2, vI (t)), (1, vI (p2 c)), (0, .ref (o))] [] h2) (N := p2 c) ?_ 0 (by omega)  S h (by omega) hM eqx.rf (fun u u0 u1 => absurd u0 (by omega))
  intro t iht htN S1 h2 pt hM3 hx4 h1
  have hRS1 := hM3.2.2.2.2
  refine ev_iload_n 0 rfl dX10_findWays_9 ?_
  refine ev_iload_n 1 rfl dX10_findWays_10 ?_
  refine ev_icmp_ge (tgt := 36) dX10_findWays_11 (by first | assumption | exact hR _ _ | exact hRS1 _ _ | decide | (simp only [InR]; omega)) (by first | assumption | exact hR _ _ | exact hRS1 _ _ | decide | (simp only [InR]; omega)) (by decide) (fun c11 => ?_) (fun c11 => ?_)
  · refine ev_aload_n 2 rfl dX10_findWays_36 ?_
    refine mgE_254 (v := c) hM3 (by rw [hx4 21 (by decide), gc]) dX10_findWays_37 ?_
    refine ev_iconst dX10_findWays_40 ?_
    refine ev_isub dX10_findWays_41 ?_
    refine ev_istore_n (L' := [(2, vI (c - 1)), (1, vI (p2 c)), (0, .ref (o))]) dX10_findWays_42 (by decide) rfl ?_
    refine dn_ind (P := fun k : Int => ∀ (S5 : MS) (h6 : AH), -1 ≤ k → MR E o ad S5 h6 → eqx [32] S1 S5 → k < c → (∀ v u : Int, k < v → v ≤ c → 0 ≤ u → u < p2 c → S5 32 (1024 * v + u) = mL F c (c - v).toNat u) → Ev E RX10 cX10_findWays 7 (some .int) "findWays" (qI (fun z h' => ∃ S', MR E o ad S' h' ∧ eqx [32, 33] S S' ∧ z = sumI (plc (S 25)) c - mL F c c.toNat 0 ∧ ∀ k : Int, 0 ≤ k → k < c → S' 33 k = nxA F c k)) 1 0 0 43 [(2, vI (k)), (1, vI (p2 c)), (0, .ref (o))] [] h6) (N := -1) ?_ (c - 1) (by omega)  S1 h2 (by omega) hM3 eqx.rf (by omega) (fun v u v0 v1 u0 u1 => by rw [show v = c by omega, show (c - c).toNat = 0 by omega]; exact h1 u u0 (by omega))
    intro k ihk hkN S5 h6 pk hM7 hx8 hkc h2
    have hRS5 := hM7.2.2.2.2
    refine ev_iload_n 0 rfl dX10_findWays_43 ?_
    refine ev_if_lt (tgt := 176) dX10_findWays_44 (by first | assumption | exact hR _ _ | exact hRS1 _ _ | exact hRS5 _ _ | decide | (simp only [InR]; omega)) (by decide) (fun c44 => ?_) (fun c44 => ?_)
    · have h2e : ∀ v u : Int, 0 ≤ v → v ≤ c → 0 ≤ u → u < p2 c → S5 32 (1024 * v + u) = mL F c (c - v).toNat u := fun v u v0 v1 u0 u1 => h2 v u (by omega) v1 u0 u1
      refine ev_iconst dX10_findWays_176 ?_
      refine ev_istore_n (L' := [(2, vI (0)), (1, vI (p2 c)), (0, .ref (o))]) dX10_findWays_177 (by decide) rfl ?_
      refine ev_iconst dX10_findWays_178 ?_
      refine ev_istore_n (L' := [(3, vI (0)), (2, vI (0)), (1, vI (p2 c)), (0, .ref (o))]) dX10_findWays_179 (by decide) rfl ?_
      refine ev_iconst dX10_findWays_180 ?_
      refine ev_istore (L' := [(4, vI (0)), (3, vI (0)), (2, vI (0)), (1, vI (p2 c)), (0, .ref (o))]) dX10_findWays_181 (by decide) rfl ?_
      refine up_ind (P := fun g : Int => ∀ (tk : Int) (pl : Int) (S9 : MS) (h10 : AH), 0 ≤ g → MR E o ad S9 h10 → eqx [33] S5 S9 → tk = tkZ F c g → pl = sumI (plc (S 25)) g → (0 ≤ pl ∧ pl ≤ g) → (∀ u : Int, 0 ≤ u → u < g → S9 33 u = nxA F c u) → (0 ≤ tk ∧ tk < p2 c) → Ev E RX10 cX10_findWays 7 (some .int) "findWays" (qI (fun z h' => ∃ S', MR E o ad S' h' ∧ eqx [32, 33] S S' ∧ z = sumI (plc (S 25)) c - mL F c c.toNat 0 ∧ ∀ k : Int, 0 ≤ k → k < c → S' 33 k = nxA F c k)) 1 0 0 183 [(4, vI (g)), (3, vI (pl)), (2, vI (tk)), (1, vI (p2 c)), (0, .ref (o))] [] h10) (N := c) ?_ 0 (by omega) 0 0 S5 h6 (by omega) hM7 eqx.rf (rfl) (rfl) (by omega) (fun u u0 u1 => absurd u0 (by omega)) (by omega)
      intro g ihg hgN tk pl S9 h10 pg hM11 hx12 htk hpl hplb hnx htb
      have hRS9 := hM11.2.2.2.2
      refine ev_iload 0 rfl dX10_findWays_183 ?_
      refine ev_aload_n 4 rfl dX10_findWays_185 ?_
      refine mgE_254 (v := c) hM11 (by rw [hx12 21 (by decide), hx8 21 (by decide), hx4 21 (by decide), gc]) dX10_findWays_186 ?_
      refine ev_icmp_ge (tgt := 369) dX10_findWays_189 (by first | assumption | exact hR _ _ | exact hRS1 _ _ | exact hRS5 _ _ | exact hRS9 _ _ | decide | (simp only [InR]; omega)) (by first | assumption | exact hR _ _ | exact hRS1 _ _ | exact hRS5 _ _ | exact hRS9 _ _ | decide | (simp only [InR]; omega)) (by decide) (fun c189 => ?_) (fun c189 => ?_)
      · refine ev_iload_n 1 rfl dX10_findWays_369 ?_
        refine ev_aload_n 4 rfl dX10_findWays_370 ?_
        refine mg_89 hM11 dX10_findWays_371 ?_
        refine ev_iconst dX10_findWays_374 ?_
        refine m_ldE (k := 32) (v := S5 32 0) hM11 (by decide) (by rw [hx12 32 (by decide)]) dX10_findWays_375 (by omega) (by show _ < ((11264 : Nat) : Int); omega) ?_
        refine ev_ren (b := mL F c c.toNat 0) (by have q := h2e 0 0 (by omega) (by omega) (by omega) (by omega); rw [Int.sub_zero] at q; exact q) ?_
        refine ev_isub dX10_findWays_376 ?_
        refine ev_ireturn dX10_findWays_377 ?_
        exact ⟨_, rfl, S9, hM11, (eqx.tr (l := [32, 33]) (eqx.tr (l := [32, 33]) (eqx.tr (l := [32, 33]) (eqx.rf (l := [32, 33]) (S := S)) hx4 (by decide) (by decide)) hx8 (by decide) (by decide)) hx12 (by decide) (by decide)), by rw [hpl, show g = c by omega], by rw [show g = c by omega] at hnx; exact hnx⟩
      · refine ev_aload_n 4 rfl dX10_findWays_192 ?_
        refine mg_92 hM11 dX10_findWays_193 ?_
        refine ev_iload 0 rfl dX10_findWays_196 ?_
        refine ev_bipush dX10_findWays_198 (by decide) ?_
        refine m_st (k := 33) hM11 (by decide) dX10_findWays_200 (by omega) (by show _ < ((10 : Nat) : Int); omega) (by decide) (fun S13 h14 eS15 hM16 => ?_)
        have hRS13 := hM16.2.2.2.2
        refine ev_iload_n 1 rfl dX10_findWays_201 ?_
        refine ev_aload_n 4 rfl dX10_findWays_202 ?_
        refine mg_68 hM16 dX10_findWays_203 ?_
        refine ev_iload 0 rfl dX10_findWays_206 ?_
        refine m_ldE (k := 25) (v := S 25 g) hM16 (by decide) (by rw [eS15, upS_ne (by decide), hx12 25 (by decide), hx8 25 (by decide), hx4 25 (by decide)]) dX10_findWays_208 (by omega) (by show _ < ((10 : Nat) : Int); omega) ?_
        refine ev_iconst dX10_findWays_209 ?_
        refine ev_icmp_le (tgt := 217) dX10_findWays_210 (by first | assumption | exact hR _ _ | exact hRS1 _ _ | exact hRS5 _ _ | exact hRS9 _ _ | exact hRS13 _ _ | decide | (simp only [InR]; omega)) (by decide) (by decide) (fun c210 => ?_) (fun c210 => ?_)
        · refine ev_iconst dX10_findWays_217 ?_
          refine ev_iadd dX10_findWays_218 ?_
          refine ev_istore_n (L' := [(3, vI (pl + 0)), (4, vI (g)), (2, vI (tk)), (1, vI (p2 c)), (0, .ref (o))]) dX10_findWays_219 (by decide) rfl ?_
          refine ev_iconst dX10_findWays_220 ?_
          refine ev_istore (L' := [(5, vI (0)), (3, vI (pl + 0)), (4, vI (g)), (2, vI (tk)), (1, vI (p2 c)), (0, .ref (o))]) dX10_findWays_221 (by decide) rfl ?_
          refine up_ind (P := fun b : Int => ∀ (S17 : MS) (h18 : AH), 0 ≤ b → MR E o ad S17 h18 → eqx [33] S13 S17 → ((S17 33 g = -4 ∧ nbZ F c g tk = scanI (nbB F c g tk) b c) ∨ (0 ≤ S17 33 g ∧ S17 33 g < c ∧ nbZ F c g tk = S17 33 g)) → (∀ u : Int, 0 ≤ u → u < g → S17 33 u = nxA F c u) → Ev E RX10 cX10_findWays 7 (some .int) "findWays" (qI (fun z h' => ∃ S', MR E o ad S' h' ∧ eqx [32, 33] S S' ∧ z = sumI (plc (S 25)) c - mL F c c.toNat 0 ∧ ∀ k : Int, 0 ≤ k → k < c → S' 33 k = nxA F c k)) 1 0 0 223 [(5, vI (b)), (3, vI (pl + 0)), (4, vI (g)), (2, vI (tk)), (1, vI (p2 c)), (0, .ref (o))] [] h18) (N := c) ?_ 0 (by omega)  S13 h14 (by omega) hM16 eqx.rf (Or.inl ⟨by rw [eS15]; exact upS_at, rfl⟩) (fun u u0 u1 => by rw [eS15, upS_nz (by omega)]; exact hnx u u0 u1)
          intro b ihb hbN S17 h18 pb hM19 hx20 hfd hno
          have hRS17 := hM19.2.2.2.2
          refine ev_iload 0 rfl dX10_findWays_223 ?_
          refine ev_aload_n 5 rfl dX10_findWays_225 ?_
          refine mgE_254 (v := c) hM19 (by rw [hx20 21 (by decide), eS15, upS_ne (by decide), hx12 21 (by decide), hx8 21 (by decide), hx4 21 (by decide), gc]) dX10_findWays_226 ?_
          refine ev_icmp_ge (tgt := 337) dX10_findWays_229 (by first | assumption | exact hR _ _ | exact hRS1 _ _ | exact hRS5 _ _ | exact hRS9 _ _ | exact hRS13 _ _ | exact hRS17 _ _ | decide | (simp only [InR]; omega)) (by first | assumption | exact hR _ _ | exact hRS1 _ _ | exact hRS5 _ _ | exact hRS9 _ _ | exact hRS13 _ _ | exact hRS17 _ _ | decide | (simp only [InR]; omega)) (by decide) (fun c229 => ?_) (fun c229 => ?_)
          · have hnz : (S17 33 g = -4 ∧ nbZ F c g tk = -1) ∨ (0 ≤ S17 33 g ∧ S17 33 g < c ∧ nbZ F c g tk = S17 33 g) := hfd.elim (fun q => Or.inl ⟨q.1, by rw [q.2]; exact scanI_end _ (by omega)⟩) Or.inr
            refine ev_iload_n 3 rfl dX10_findWays_337 ?_
            refine ev_aload_n 5 rfl dX10_findWays_338 ?_
            refine mg_92 hM19 dX10_findWays_339 ?_
            refine ev_iload 2 rfl dX10_findWays_342 ?_
            refine m_ld (k := 33) hM19 (by decide) dX10_findWays_344 (by omega) (by show _ < ((10 : Nat) : Int); omega) ?_
            refine ev_if_ge (tgt := 352) dX10_findWays_345 (by first | assumption | exact hR _ _ | exact hRS1 _ _ | exact hRS5 _ _ | exact hRS9 _ _ | exact hRS13 _ _ | exact hRS17 _ _ | decide | (simp only [InR]; omega)) (by decide) (fun c345 => ?_) (fun c345 => ?_)
            · refine ev_iconst dX10_findWays_352 ?_
              refine ev_aload_n 5 rfl dX10_findWays_353 ?_
              refine mg_92 hM19 dX10_findWays_354 ?_
              refine ev_iload 2 rfl dX10_findWays_357 ?_
              refine m_ld (k := 33) hM19 (by decide) dX10_findWays_359 (by omega) (by show _ < ((10 : Nat) : Int); omega) ?_
              refine ev_ishl dX10_findWays_360 ?_
              refine ev_ior dX10_findWays_361 ?_
              refine ev_istore_n (L' := [(2, vI (orZ tk (shlZ 1 (S17 33 g)))), (5, vI (b)), (3, vI (pl + 0)), (4, vI (g)), (1, vI (p2 c)), (0, .ref (o))]) dX10_findWays_362 (by decide) rfl ?_
              refine ev_iinc (L' := [(4, vI (g + 1)), (2, vI (orZ tk (shlZ 1 (S17 33 g)))), (5, vI (b)), (3, vI (pl + 0)), (1, vI (p2 c)), (0, .ref (o))]) 3 rfl dX10_findWays_363 (by decide) rfl ?_
              refine ev_goto (tgt := 183) dX10_findWays_366 (by decide) ?_
              refine ev_pick (L' := [(4, vI (g + 1)), (3, vI (pl + 0)), (2, vI (orZ tk (shlZ 1 (S17 33 g)))), (1, vI (p2 c)), (0, .ref (o))]) [0, 3, 1, 4, 5] rfl ?_
              exact ihg (g + 1) (by omega) (by omega) (orZ tk (shlZ 1 (S17 33 g))) (pl + 0) S17 h18 (by omega) hM19 (eqx.tr (l := [33]) (by rw [eS15]; exact eqx.up (l := [33]) hx12 (by decide)) hx20 (by decide) (by decide)) (by rw [tkZ_s (by omega), ← htk, if_neg (by omega), show nbZ F c g tk = S17 33 g by omega]) (by rw [sumI_s _ (by omega), ← hpl]; unfold plc; rw [if_neg (by omega)]) (by omega) (fun u u0 u1 => (Int.lt_or_eq_of_le (show u ≤ g by omega)).elim (fun q => hno u u0 q) (fun q => by subst q; unfold nxA; rw [← htk, if_neg (by omega)]; omega)) (orZ_p (by omega) (by omega) (by omega) (by omega) (by omega))
            · refine ev_iconst dX10_findWays_348 ?_
              refine ev_goto (tgt := 361) dX10_findWays_349 (by decide) ?_
              refine ev_ior dX10_findWays_361 ?_
              refine ev_istore_n (L' := [(2, vI (orZ tk 0)), (5, vI (b)), (3, vI (pl + 0)), (4, vI (g)), (1, vI (p2 c)), (0, .ref (o))]) dX10_findWays_362 (by decide) rfl ?_
              refine ev_iinc (L' := [(4, vI (g + 1)), (2, vI (orZ tk 0)), (5, vI (b)), (3, vI (pl + 0)), (1, vI (p2 c)), (0, .ref (o))]) 3 rfl dX10_findWays_363 (by decide) rfl ?_
              refine ev_goto (tgt := 183) dX10_findWays_366 (by decide) ?_
              refine ev_pick (L' := [(4, vI (g + 1)), (3, vI (pl + 0)), (2, vI (orZ tk 0)), (1, vI (p2 c)), (0, .ref (o))]) [0, 3, 1, 4, 5] rfl ?_
              exact ihg (g + 1) (by omega) (by omega) (orZ tk 0) (pl + 0) S17 h18 (by omega) hM19 (eqx.tr (l := [33]) (by rw [eS15]; exact eqx.up (l := [33]) hx12 (by decide)) hx20 (by decide) (by decide)) (by rw [tkZ_s (by omega), ← htk, if_pos (by omega), orZ_0 (by omega) (by omega)]) (by rw [sumI_s _ (by omega), ← hpl]; unfold plc; rw [if_neg (by omega)]) (by omega) (fun u u0 u1 => (Int.lt_or_eq_of_le (show u ≤ g by omega)).elim (fun q => hno u u0 q) (fun q => by subst q; unfold nxA; rw [← htk, if_pos (by omega)]; omega)) (by rw [orZ_0 (by omega) (by omega)]; omega)
          · refine ev_aload_n 5 rfl dX10_findWays_232 ?_
            refine mg_92 hM19 dX10_findWays_233 ?_
            refine ev_iload 2 rfl dX10_findWays_236 ?_
            refine m_ld (k := 33) hM19 (by decide) dX10_findWays_238 (by omega) (by show _ < ((10 : Nat) : Int); omega) ?_
            refine ev_if_ge (tgt := 337) dX10_findWays_239 (by first | assumption | exact hR _ _ | exact hRS1 _ _ | exact hRS5 _ _ | exact hRS9 _ _ | exact hRS13 _ _ | exact hRS17 _ _ | decide | (simp only [InR]; omega)) (by decide) (fun c239 => ?_) (fun c239 => ?_)
            · have hnz : (S17 33 g = -4 ∧ nbZ F c g tk = -1) ∨ (0 ≤ S17 33 g ∧ S17 33 g < c ∧ nbZ F c g tk = S17 33 g) := Or.inr (hfd.resolve_left (fun q => by omega))
              refine ev_iload_n 3 rfl dX10_findWays_337 ?_
              refine ev_aload_n 5 rfl dX10_findWays_338 ?_
              refine mg_92 hM19 dX10_findWays_339 ?_
              refine ev_iload 2 rfl dX10_findWays_342 ?_
              refine m_ld (k := 33) hM19 (by decide) dX10_findWays_344 (by omega) (by show _ < ((10 : Nat) : Int); omega) ?_
              refine ev_if_ge (tgt := 352) dX10_findWays_345 (by first | assumption | exact hR _ _ | exact hRS1 _ _ | exact hRS5 _ _ | exact hRS9 _ _ | exact hRS13 _ _ | exact hRS17 _ _ | decide | (simp only [InR]; omega)) (by decide) (fun c345 => ?_) (fun c345 => ?_)
              · refine ev_iconst dX10_findWays_352 ?_
                refine ev_aload_n 5 rfl dX10_findWays_353 ?_
                refine mg_92 hM19 dX10_findWays_354 ?_
                refine ev_iload 2 rfl dX10_findWays_357 ?_
                refine m_ld (k := 33) hM19 (by decide) dX10_findWays_359 (by omega) (by show _ < ((10 : Nat) : Int); omega) ?_
                refine ev_ishl dX10_findWays_360 ?_
                refine ev_ior dX10_findWays_361 ?_
                refine ev_istore_n (L' := [(2, vI (orZ tk (shlZ 1 (S17 33 g)))), (5, vI (b)), (3, vI (pl + 0)), (4, vI (g)), (1, vI (p2 c)), (0, .ref (o))]) dX10_findWays_362 (by decide) rfl ?_
                refine ev_iinc (L' := [(4, vI (g + 1)), (2, vI (orZ tk (shlZ 1 (S17 33 g)))), (5, vI (b)), (3, vI (pl + 0)), (1, vI (p2 c)), (0, .ref (o))]) 3 rfl dX10_findWays_363 (by decide) rfl ?_
                refine ev_goto (tgt := 183) dX10_findWays_366 (by decide) ?_
                refine ev_pick (L' := [(4, vI (g + 1)), (3, vI (pl + 0)), (2, vI (orZ tk (shlZ 1 (S17 33 g)))), (1, vI (p2 c)), (0, .ref (o))]) [0, 3, 1, 4, 5] rfl ?_
                exact ihg (g + 1) (by omega) (by omega) (orZ tk (shlZ 1 (S17 33 g))) (pl + 0) S17 h18 (by omega) hM19 (eqx.tr (l := [33]) (by rw [eS15]; exact eqx.up (l := [33]) hx12 (by decide)) hx20 (by decide) (by decide)) (by rw [tkZ_s (by omega), ← htk, if_neg (by omega), show nbZ F c g tk = S17 33 g by omega]) (by rw [sumI_s _ (by omega), ← hpl]; unfold plc; rw [if_neg (by omega)]) (by omega) (fun u u0 u1 => (Int.lt_or_eq_of_le (show u ≤ g by omega)).elim (fun q => hno u u0 q) (fun q => by subst q; unfold nxA; rw [← htk, if_neg (by omega)]; omega)) (orZ_p (by omega) (by omega) (by omega) (by omega) (by omega))
              · refine ev_iconst dX10_findWays_348 ?_
                refine ev_goto (tgt := 361) dX10_findWays_349 (by decide) ?_
                refine ev_ior dX10_findWays_361 ?_
                refine ev_istore_n (L' := [(2, vI (orZ tk 0)), (5, vI (b)), (3, vI (pl + 0)), (4, vI (g)), (1, vI (p2 c)), (0, .ref (o))]) dX10_findWays_362 (by decide) rfl ?_
                refine ev_iinc (L' := [(4, vI (g + 1)), (2, vI (orZ tk 0)), (5, vI (b)), (3, vI (pl + 0)), (1, vI (p2 c)), (0, .ref (o))]) 3 rfl dX10_findWays_363 (by decide) rfl ?_
                refine ev_goto (tgt := 183) dX10_findWays_366 (by decide) ?_
                refine ev_pick (L' := [(4, vI (g + 1)), (3, vI (pl + 0)), (2, vI (orZ tk 0)), (1, vI (p2 c)), (0, .ref (o))]) [0, 3, 1, 4, 5] rfl ?_
                exact ihg (g + 1) (by omega) (by omega) (orZ tk 0) (pl + 0) S17 h18 (by omega) hM19 (eqx.tr (l := [33]) (by rw [eS15]; exact eqx.up (l := [33]) hx12 (by decide)) hx20 (by decide) (by decide)) (by rw [tkZ_s (by omega), ← htk, if_pos (by omega), orZ_0 (by omega) (by omega)]) (by rw [sumI_s _ (by omega), ← hpl]; unfold plc; rw [if_neg (by omega)]) (by omega) (fun u u0 u1 => (Int.lt_or_eq_of_le (show u ≤ g by omega)).elim (fun q => hno u u0 q) (fun q => by subst q; unfold nxA; rw [← htk, if_pos (by omega)]; omega)) (by rw [orZ_0 (by omega) (by omega)]; omega)
            · have hf1 := hfd.resolve_right (fun q => by omega)
              refine ev_iload_n 3 rfl dX10_findWays_242 ?_
              refine ev_iload 0 rfl dX10_findWays_243 ?_
              refine ev_ishr dX10_findWays_245 ?_
              refine ev_iconst dX10_findWays_246 ?_
              cases hbt : tb tk b
              · refine ev_iand dX10_findWays_247 ?_
                refine ev_ren (b := 0) (by rw [bit_1 (by omega) (by omega) (by omega) (by omega), hbt]; rfl) ?_
                refine ev_if_ne (tgt := 266) dX10_findWays_248 (by decide) (by decide) (fun c => absurd c (by decide)) (fun _ => ?_)
                refine ev_aload_n 5 rfl dX10_findWays_251 ?_
                refine ev_iload 2 rfl dX10_findWays_252 ?_
                refine ev_iload 0 rfl dX10_findWays_254 ?_
                have e31_S17 : S17 31 = S 31 := by rw [hx20 31 (by decide), eS15, upS_ne (by decide), hx12 31 (by decide), hx8 31 (by decide), hx4 31 (by decide)]
                have e25_S17 : S17 25 = S 25 := by rw [hx20 25 (by decide), eS15, upS_ne (by decide), hx12 25 (by decide), hx8 25 (by decide), hx4 25 (by decide)]
                have e26_S17 : S17 26 = S 26 := by rw [hx20 26 (by decide), eS15, upS_ne (by decide), hx12 26 (by decide), hx8 26 (by decide), hx4 26 (by decide)]
                have e27_S17 : S17 27 = S 27 := by rw [hx20 27 (by decide), eS15, upS_ne (by decide), hx12 27 (by decide), hx8 27 (by decide), hx4 27 (by decide)]
                have e28_S17 : S17 28 = S 28 := by rw [hx20 28 (by decide), eS15, upS_ne (by decide), hx12 28 (by decide), hx8 28 (by decide), hx4 28 (by decide)]
                refine c_X10_266 (m_canFollow (a := g) (b := b) hM19 (by omega) (by omega) (by rw [e26_S17, e27_S17, e28_S17]; exact hbd g (by omega) (by omega)) (by rw [e26_S17, e27_S17, e28_S17]; exact hbd b (by omega) (by omega)) (by rw [e31_S17]; exact gv)) hM19.1 rfl rfl (Nat.le_of_ble_eq_true rfl) (by decide) dX10_findWays_256 (kB (fun b256 => ?_) (fun b256 => ?_))
                · rw [e31_S17, e25_S17, e26_S17, e27_S17, e28_S17] at b256
                  have hfy : F g b = true := (hF g b (by omega) (by omega) (by omega) (by omega)).mpr b256
                  refine ev_if_eq (tgt := 266) dX10_findWays_259 (by decide) (by decide) (fun c => absurd c (by decide)) (fun _ => ?_)
                  refine ev_iconst dX10_findWays_262 ?_
                  refine ev_goto (tgt := 267) dX10_findWays_263 (by decide) ?_
                  refine ev_istore (L' := [(6, vI (1)), (5, vI (b)), (3, vI (pl + 0)), (4, vI (g)), (2, vI (tk)), (1, vI (p2 c)), (0, .ref (o))]) dX10_findWays_267 (by decide) rfl ?_
                  refine ev_aload_n 6 rfl dX10_findWays_269 ?_
                  refine mg_92 hM19 dX10_findWays_270 ?_
                  refine ev_iload 3 rfl dX10_findWays_273 ?_
                  refine ev_iload 0 rfl dX10_findWays_275 ?_
                  refine ev_if_eq (tgt := 323) dX10_findWays_277 (by decide) (by decide) (fun c => absurd c (by decide)) (fun _ => ?_)
                  refine ev_iconst dX10_findWays_280 ?_
                  refine ev_aload_n 6 rfl dX10_findWays_281 ?_
                  refine mg_89 hM19 dX10_findWays_282 ?_
                  refine ev_sipush dX10_findWays_285 (by decide) ?_
                  refine ev_iload 3 rfl dX10_findWays_288 ?_
                  refine ev_iconst dX10_findWays_290 ?_
                  refine ev_iadd dX10_findWays_291 ?_
                  refine ev_imul dX10_findWays_292 ?_
                  refine ev_iload_n 4 rfl dX10_findWays_293 ?_
                  refine ev_iconst dX10_findWays_294 ?_
                  refine ev_iload 1 rfl dX10_findWays_295 ?_
                  refine ev_ishl dX10_findWays_297 ?_
                  have op := orZ_p (t := tk) (b := b) (c := c) (by omega) (by omega) (by omega) (by omega) (by omega)
                  refine ev_ior dX10_findWays_298 ?_
                  refine ev_iadd dX10_findWays_299 ?_
                  refine m_ldE (k := 32) (v := S5 32 ((1024 * (g + 1)) + (orZ tk (shlZ 1 b)))) hM19 (by decide) (by rw [hx20 32 (by decide), eS15, upS_ne (by decide), hx12 32 (by decide)]) dX10_findWays_300 (by omega) (by show _ < ((11264 : Nat) : Int); omega) ?_
                  refine ev_ren (b := mL F c (c - 1 - g).toNat (orZ tk (shlZ 1 b))) (by rw [show c - 1 - g = c - (g + 1) by omega]; exact h2e (g + 1) (orZ tk (shlZ 1 b)) (by omega) (by omega) (by omega) (by omega)) ?_
                  refine ev_iadd dX10_findWays_301 ?_
                  have mb2 := mL_b (F := F) (c := c) (c - 1 - g).toNat (orZ tk (shlZ 1 b))
                  have mb3 := mL_b (F := F) (c := c) (c - g).toNat tk
                  refine ev_aload_n 6 rfl dX10_findWays_302 ?_
                  refine mg_89 hM19 dX10_findWays_303 ?_
                  refine ev_sipush dX10_findWays_306 (by decide) ?_
                  refine ev_iload 3 rfl dX10_findWays_309 ?_
                  refine ev_imul dX10_findWays_311 ?_
                  refine ev_iload_n 4 rfl dX10_findWays_312 ?_
                  refine ev_iadd dX10_findWays_313 ?_
                  refine m_ldE (k := 32) (v := S5 32 ((1024 * g) + tk)) hM19 (by decide) (by rw [hx20 32 (by decide), eS15, upS_ne (by decide), hx12 32 (by decide)]) dX10_findWays_314 (by omega) (by show _ < ((11264 : Nat) : Int); omega) ?_
                  refine ev_ren (b := mL F c (c - g).toNat tk) (h2e g tk (by omega) (by omega) (by omega) (by omega)) ?_
                  refine ev_icmp_ne (tgt := 323) dX10_findWays_315 (by first | assumption | exact hR _ _ | exact hRS1 _ _ | exact hRS5 _ _ | exact hRS9 _ _ | exact hRS13 _ _ | exact hRS17 _ _ | decide | (simp only [InR]; omega)) (by first | assumption | exact hR _ _ | exact hRS1 _ _ | exact hRS5 _ _ | exact hRS9 _ _ | exact hRS13 _ _ | exact hRS17 _ _ | decide | (simp only [InR]; omega)) (by decide) (fun c315 => ?_) (fun c315 => ?_)
                  · refine ev_aload_n 6 rfl dX10_findWays_323 ?_
                    refine mg_92 hM19 dX10_findWays_324 ?_
                    refine ev_iload 3 rfl dX10_findWays_327 ?_
                    refine m_ld (k := 33) hM19 (by decide) dX10_findWays_329 (by omega) (by show _ < ((10 : Nat) : Int); omega) ?_
                    refine m_st (k := 33) hM19 (by decide) dX10_findWays_330 (by omega) (by show _ < ((10 : Nat) : Int); omega) (by first | assumption | exact hR _ _ | exact hRS1 _ _ | exact hRS5 _ _ | exact hRS9 _ _ | exact hRS13 _ _ | exact hRS17 _ _ | decide | (simp only [InR]; omega)) (fun S21 h22 eS23 hM24 => ?_)
                    have hRS21 := hM24.2.2.2.2
                    refine ev_iinc (L' := [(5, vI (b + 1)), (6, vI (1)), (3, vI (pl + 0)), (4, vI (g)), (2, vI (tk)), (1, vI (p2 c)), (0, .ref (o))]) 1 rfl dX10_findWays_331 (by decide) rfl ?_
                    refine ev_goto (tgt := 223) dX10_findWays_334 (by decide) ?_
                    refine ev_pick (L' := [(5, vI (b + 1)), (3, vI (pl + 0)), (4, vI (g)), (2, vI (tk)), (1, vI (p2 c)), (0, .ref (o))]) [0, 2, 3, 4, 5, 6] rfl ?_
                    exact ihb (b + 1) (by omega) (by omega) S21 h22 (by omega) hM24 (by rw [eS23]; exact eqx.up (l := [33]) hx20 (by decide)) (Or.inl ⟨by rw [eS23, upS_at]; exact hf1.1, by rw [hf1.2, scanI_s _ (by omega), if_neg (by unfold nbB; rw [hbt, hfy, decide_eq_false (by omega)]; decide)]⟩) (fun u u0 u1 => by rw [eS23, upS_nz (by omega)]; exact hno u u0 u1)
                  · refine ev_iload 1 rfl dX10_findWays_318 ?_
                    refine ev_goto (tgt := 330) dX10_findWays_320 (by decide) ?_
                    refine m_st (k := 33) hM19 (by decide) dX10_findWays_330 (by omega) (by show _ < ((10 : Nat) : Int); omega) (by first | assumption | exact hR _ _ | exact hRS1 _ _ | exact hRS5 _ _ | exact hRS9 _ _ | exact hRS13 _ _ | exact hRS17 _ _ | decide | (simp only [InR]; omega)) (fun S25 h26 eS27 hM28 => ?_)
                    have hRS25 := hM28.2.2.2.2
                    refine ev_iinc (L' := [(5, vI (b + 1)), (6, vI (1)), (3, vI (pl + 0)), (4, vI (g)), (2, vI (tk)), (1, vI (p2 c)), (0, .ref (o))]) 1 rfl dX10_findWays_331 (by decide) rfl ?_
                    refine ev_goto (tgt := 223) dX10_findWays_334 (by decide) ?_
                    refine ev_pick (L' := [(5, vI (b + 1)), (3, vI (pl + 0)), (4, vI (g)), (2, vI (tk)), (1, vI (p2 c)), (0, .ref (o))]) [0, 2, 3, 4, 5, 6] rfl ?_
                    exact ihb (b + 1) (by omega) (by omega) S25 h26 (by omega) hM28 (by rw [eS27]; exact eqx.up (l := [33]) hx20 (by decide)) (Or.inr ⟨by rw [eS27, upS_at]; omega, by rw [eS27, upS_at]; omega, by rw [eS27, upS_at, hf1.2, scanI_s _ (by omega), if_pos (by unfold nbB; rw [hbt, hfy, decide_eq_true (by omega)]; rfl)]⟩) (fun u u0 u1 => by rw [eS27, upS_nz (by omega)]; exact hno u u0 u1)
                · rw [e31_S17, e25_S17, e26_S17, e27_S17, e28_S17] at b256
                  have hfy : F g b = false := (Bool.eq_false_or_eq_true _).elim (fun q => absurd ((hF g b (by omega) (by omega) (by omega) (by omega)).mp q) b256) id
                  refine ev_if_eq (tgt := 266) dX10_findWays_259 (by decide) (by decide) (fun _ => ?_) (fun c => absurd c (by decide))
                  refine ev_iconst dX10_findWays_266 ?_
                  refine ev_istore (L' := [(6, vI (0)), (5, vI (b)), (3, vI (pl + 0)), (4, vI (g)), (2, vI (tk)), (1, vI (p2 c)), (0, .ref (o))]) dX10_findWays_267 (by decide) rfl ?_
                  refine ev_aload_n 6 rfl dX10_findWays_269 ?_
                  refine mg_92 hM19 dX10_findWays_270 ?_
                  refine ev_iload 3 rfl dX10_findWays_273 ?_
                  refine ev_iload 0 rfl dX10_findWays_275 ?_
                  refine ev_if_eq (tgt := 323) dX10_findWays_277 (by decide) (by decide) (fun _ => ?_) (fun c => absurd c (by decide))
                  refine ev_aload_n 6 rfl dX10_findWays_323 ?_
                  refine mg_92 hM19 dX10_findWays_324 ?_
                  refine ev_iload 3 rfl dX10_findWays_327 ?_
                  refine m_ld (k := 33) hM19 (by decide) dX10_findWays_329 (by omega) (by show _ < ((10 : Nat) : Int); omega) ?_
                  refine m_st (k := 33) hM19 (by decide) dX10_findWays_330 (by omega) (by show _ < ((10 : Nat) : Int); omega) (by first | assumption | exact hR _ _ | exact hRS1 _ _ | exact hRS5 _ _ | exact hRS9 _ _ | exact hRS13 _ _ | exact hRS17 _ _ | decide | (simp only [InR]; omega)) (fun S29 h30 eS31 hM32 => ?_)
                  have hRS29 := hM32.2.2.2.2
                  refine ev_iinc (L' := [(5, vI (b + 1)), (6, vI (0)), (3, vI (pl + 0)), (4, vI (g)), (2, vI (tk)), (1, vI (p2 c)), (0, .ref (o))]) 1 rfl dX10_findWays_331 (by decide) rfl ?_
                  refine ev_goto (tgt := 223) dX10_findWays_334 (by decide) ?_
                  refine ev_pick (L' := [(5, vI (b + 1)), (3, vI (pl + 0)), (4, vI (g)), (2, vI (tk)), (1, vI (p2 c)), (0, .ref (o))]) [0, 2, 3, 4, 5, 6] rfl ?_
                  exact ihb (b + 1) (by omega) (by omega) S29 h30 (by omega) hM32 (by rw [eS31]; exact eqx.up (l := [33]) hx20 (by decide)) (Or.inl ⟨by rw [eS31, upS_at]; exact hf1.1, by rw [hf1.2, scanI_s _ (by omega), if_neg (by unfold nbB; rw [hbt, hfy]; simp)]⟩) (fun u u0 u1 => by rw [eS31, upS_nz (by omega)]; exact hno u u0 u1)
              · refine ev_iand dX10_findWays_247 ?_
                refine ev_ren (b := 1) (by rw [bit_1 (by omega) (by omega) (by omega) (by omega), hbt]; rfl) ?_
                refine ev_if_ne (tgt := 266) dX10_findWays_248 (by decide) (by decide) (fun _ => ?_) (fun c => absurd c (by decide))
                refine ev_iconst dX10_findWays_266 ?_
                refine ev_istore (L' := [(6, vI (0)), (5, vI (b)), (3, vI (pl + 0)), (4, vI (g)), (2, vI (tk)), (1, vI (p2 c)), (0, .ref (o))]) dX10_findWays_267 (by decide) rfl ?_
                refine ev_aload_n 6 rfl dX10_findWays_269 ?_
                refine mg_92 hM19 dX10_findWays_270 ?_
                refine ev_iload 3 rfl dX10_findWays_273 ?_
                refine ev_iload 0 rfl dX10_findWays_275 ?_
                refine ev_if_eq (tgt := 323) dX10_findWays_277 (by decide) (by decide) (fun _ => ?_) (fun c => absurd c (by decide))
                refine ev_aload_n 6 rfl dX10_findWays_323 ?_
                refine mg_92 hM19 dX10_findWays_324 ?_
                refine ev_iload 3 rfl dX10_findWays_327 ?_
                refine m_ld (k := 33) hM19 (by decide) dX10_findWays_329 (by omega) (by show _ < ((10 : Nat) : Int); omega) ?_
                refine m_st (k := 33) hM19 (by decide) dX10_findWays_330 (by omega) (by show _ < ((10 : Nat) : Int); omega) (by first | assumption | exact hR _ _ | exact hRS1 _ _ | exact hRS5 _ _ | exact hRS9 _ _ | exact hRS13 _ _ | exact hRS17 _ _ | decide | (simp only [InR]; omega)) (fun S33 h34 eS35 hM36 => ?_)
                have hRS33 := hM36.2.2.2.2
                refine ev_iinc (L' := [(5, vI (b + 1)), (6, vI (0)), (3, vI (pl + 0)), (4, vI (g)), (2, vI (tk)), (1, vI (p2 c)), (0, .ref (o))]) 1 rfl dX10_findWays_331 (by decide) rfl ?_
                refine ev_goto (tgt := 223) dX10_findWays_334 (by decide) ?_
                refine ev_pick (L' := [(5, vI (b + 1)), (3, vI (pl + 0)), (4, vI (g)), (2, vI (tk)), (1, vI (p2 c)), (0, .ref (o))]) [0, 2, 3, 4, 5, 6] rfl ?_
                exact ihb (b + 1) (by omega) (by omega) S33 h34 (by omega) hM36 (by rw [eS35]; exact eqx.up (l := [33]) hx20 (by decide)) (Or.inl ⟨by rw [eS35, upS_at]; exact hf1.1, by rw [hf1.2, scanI_s _ (by omega), if_neg (by unfold nbB; rw [hbt]; simp)]⟩) (fun u u0 u1 => by rw [eS35, upS_nz (by omega)]; exact hno u u0 u1)
        · refine ev_iconst dX10_findWays_213 ?_
          refine ev_goto (tgt := 218) dX10_findWays_214 (by decide) ?_
          refine ev_iadd dX10_findWays_218 ?_
          refine ev_istore_n (L' := [(3, vI (pl + 1)), (4, vI (g)), (2, vI (tk)), (1, vI (p2 c)), (0, .ref (o))]) dX10_findWays_219 (by decide) rfl ?_
          refine ev_iconst dX10_findWays_220 ?_
          refine ev_istore (L' := [(5, vI (0)), (3, vI (pl + 1)), (4, vI (g)), (2, vI (tk)), (1, vI (p2 c)), (0, .ref (o))]) dX10_findWays_221 (by decide) rfl ?_
          refine up_ind (P := fun b : Int => ∀ (S37 : MS) (h38 : AH), 0 ≤ b → MR E o ad S37 h38 → eqx [33] S13 S37 → ((S37 33 g = -4 ∧ nbZ F c g tk = scanI (nbB F c g tk) b c) ∨ (0 ≤ S37 33 g ∧ S37 33 g < c ∧ nbZ F c g tk = S37 33 g)) → (∀ u : Int, 0 ≤ u → u < g → S37 33 u = nxA F c u) → Ev E RX10 cX10_findWays 7 (some .int) "findWays" (qI (fun z h' => ∃ S', MR E o ad S' h' ∧ eqx [32, 33] S S' ∧ z = sumI (plc (S 25)) c - mL F c c.toNat 0 ∧ ∀ k : Int, 0 ≤ k → k < c → S' 33 k = nxA F c k)) 1 0 0 223 [(5, vI (b)), (3, vI (pl + 1)), (4, vI (g)), (2, vI (tk)), (1, vI (p2 c)), (0, .ref (o))] [] h38) (N := c) ?_ 0 (by omega)  S13 h14 (by omega) hM16 eqx.rf (Or.inl ⟨by rw [eS15]; exact upS_at, rfl⟩) (fun u u0 u1 => by rw [eS15, upS_nz (by omega)]; exact hnx u u0 u1)
          intro b ihb hbN S37 h38 pb hM39 hx40 hfd hno
          have hRS37 := hM39.2.2.2.2
          refine ev_iload 0 rfl dX10_findWays_223 ?_
          refine ev_aload_n 5 rfl dX10_findWays_225 ?_
          refine mgE_254 (v := c) hM39 (by rw [hx40 21 (by decide), eS15, upS_ne (by decide), hx12 21 (by decide), hx8 21 (by decide), hx4 21 (by decide), gc]) dX10_findWays_226 ?_
          refine ev_icmp_ge (tgt := 337) dX10_findWays_229 (by first | assumption | exact hR _ _ | exact hRS1 _ _ | exact hRS5 _ _ | exact hRS9 _ _ | exact hRS13 _ _ | exact hRS37 _ _ | decide | (simp only [InR]; omega)) (by first | assumption | exact hR _ _ | exact hRS1 _ _ | exact hRS5 _ _ | exact hRS9 _ _ | exact hRS13 _ _ | exact hRS37 _ _ | decide | (simp only [InR]; omega)) (by decide) (fun c229 => ?_) (fun c229 => ?_)
          · have hnz : (S37 33 g = -4 ∧ nbZ F c g tk = -1) ∨ (0 ≤ S37 33 g ∧ S37 33 g < c ∧ nbZ F c g tk = S37 33 g) := hfd.elim (fun q => Or.inl ⟨q.1, by rw [q.2]; exact scanI_end _ (by omega)⟩) Or.inr
            refine ev_iload_n 3 rfl dX10_findWays_337 ?_
            refine ev_aload_n 5 rfl dX10_findWays_338 ?_
            refine mg_92 hM39 dX10_findWays_339 ?_
            refine ev_iload 2 rfl dX10_findWays_342 ?_
            refine m_ld (k := 33) hM39 (by decide) dX10_findWays_344 (by omega) (by show _ < ((10 : Nat) : Int); omega) ?_
            refine ev_if_ge (tgt := 352) dX10_findWays_345 (by first | assumption | exact hR _ _ | exact hRS1 _ _ | exact hRS5 _ _ | exact hRS9 _ _ | exact hRS13 _ _ | exact hRS37 _ _ | decide | (simp only [InR]; omega)) (by decide) (fun c345 => ?_) (fun c345 => ?_)
            · refine ev_iconst dX10_findWays_352 ?_
              refine ev_aload_n 5 rfl dX10_findWays_353 ?_
              refine mg_92 hM39 dX10_findWays_354 ?_
              refine ev_iload 2 rfl dX10_findWays_357 ?_
              refine m_ld (k := 33) hM39 (by decide) dX10_findWays_359 (by omega) (by show _ < ((10 : Nat) : Int); omega) ?_
              refine ev_ishl dX10_findWays_360 ?_
              refine ev_ior dX10_findWays_361 ?_
              refine ev_istore_n (L' := [(2, vI (orZ tk (shlZ 1 (S37 33 g)))), (5, vI (b)), (3, vI (pl + 1)), (4, vI (g)), (1, vI (p2 c)), (0, .ref (o))]) dX10_findWays_362 (by decide) rfl ?_
              refine ev_iinc (L' := [(4, vI (g + 1)), (2, vI (orZ tk (shlZ 1 (S37 33 g)))), (5, vI (b)), (3, vI (pl + 1)), (1, vI (p2 c)), (0, .ref (o))]) 3 rfl dX10_findWays_363 (by decide) rfl ?_
              refine ev_goto (tgt := 183) dX10_findWays_366 (by decide) ?_
              refine ev_pick (L' := [(4, vI (g + 1)), (3, vI (pl + 1)), (2, vI (orZ tk (shlZ 1 (S37 33 g)))), (1, vI (p2 c)), (0, .ref (o))]) [0, 3, 1, 4, 5] rfl ?_
              exact ihg (g + 1) (by omega) (by omega) (orZ tk (shlZ 1 (S37 33 g))) (pl + 1) S37 h38 (by omega) hM39 (eqx.tr (l := [33]) (by rw [eS15]; exact eqx.up (l := [33]) hx12 (by decide)) hx40 (by decide) (by decide)) (by rw [tkZ_s (by omega), ← htk, if_neg (by omega), show nbZ F c g tk = S37 33 g by omega]) (by rw [sumI_s _ (by omega), ← hpl]; unfold plc; rw [if_pos (by omega)]) (by omega) (fun u u0 u1 => (Int.lt_or_eq_of_le (show u ≤ g by omega)).elim (fun q => hno u u0 q) (fun q => by subst q; unfold nxA; rw [← htk, if_neg (by omega)]; omega)) (orZ_p (by omega) (by omega) (by omega) (by omega) (by omega))
            · refine ev_iconst dX10_findWays_348 ?_
              refine ev_goto (tgt := 361) dX10_findWays_349 (by decide) ?_
              refine ev_ior dX10_findWays_361 ?_
              refine ev_istore_n (L' := [(2, vI (orZ tk 0)), (5, vI (b)), (3, vI (pl + 1)), (4, vI (g)), (1, vI (p2 c)), (0, .ref (o))]) dX10_findWays_362 (by decide) rfl ?_
              refine ev_iinc (L' := [(4, vI (g + 1)), (2, vI (orZ tk 0)), (5, vI (b)), (3, vI (pl + 1)), (1, vI (p2 c)), (0, .ref (o))]) 3 rfl dX10_findWays_363 (by decide) rfl ?_
              refine ev_goto (tgt := 183) dX10_findWays_366 (by decide) ?_
              refine ev_pick (L' := [(4, vI (g + 1)), (3, vI (pl + 1)), (2, vI (orZ tk 0)), (1, vI (p2 c)), (0, .ref (o))]) [0, 3, 1, 4, 5] rfl ?_
              exact ihg (g + 1) (by omega) (by omega) (orZ tk 0) (pl + 1) S37 h38 (by omega) hM39 (eqx.tr (l := [33]) (by rw [eS15]; exact eqx.up (l := [33]) hx12 (by decide)) hx40 (by decide) (by decide)) (by rw [tkZ_s (by omega), ← htk, if_pos (by omega), orZ_0 (by omega) (by omega)]) (by rw [sumI_s _ (by omega), ← hpl]; unfold plc; rw [if_pos (by omega)]) (by omega) (fun u u0 u1 => (Int.lt_or_eq_of_le (show u ≤ g by omega)).elim (fun q => hno u u0 q) (fun q => by subst q; unfold nxA; rw [← htk, if_pos (by omega)]; omega)) (by rw [orZ_0 (by omega) (by omega)]; omega)
          · refine ev_aload_n 5 rfl dX10_findWays_232 ?_
            refine mg_92 hM39 dX10_findWays_233 ?_
            refine ev_iload 2 rfl dX10_findWays_236 ?_
            refine m_ld (k := 33) hM39 (by decide) dX10_findWays_238 (by omega) (by show _ < ((10 : Nat) : Int); omega) ?_
            refine ev_if_ge (tgt := 337) dX10_findWays_239 (by first | assumption | exact hR _ _ | exact hRS1 _ _ | exact hRS5 _ _ | exact hRS9 _ _ | exact hRS13 _ _ | exact hRS37 _ _ | decide | (simp only [InR]; omega)) (by decide) (fun c239 => ?_) (fun c239 => ?_)
            · have hnz : (S37 33 g = -4 ∧ nbZ F c g tk = -1) ∨ (0 ≤ S37 33 g ∧ S37 33 g < c ∧ nbZ F c g tk = S37 33 g) := Or.inr (hfd.resolve_left (fun q => by omega))
              refine ev_iload_n 3 rfl dX10_findWays_337 ?_
              refine ev_aload_n 5 rfl dX10_findWays_338 ?_
              refine mg_92 hM39 dX10_findWays_339 ?_
              refine ev_iload 2 rfl dX10_findWays_342 ?_
              refine m_ld (k := 33) hM39 (by decide) dX10_findWays_344 (by omega) (by show _ < ((10 : Nat) : Int); omega) ?_
              refine ev_if_ge (tgt := 352) dX10_findWays_345 (by first | assumption | exact hR _ _ | exact hRS1 _ _ | exact hRS5 _ _ | exact hRS9 _ _ | exact hRS13 _ _ | exact hRS37 _ _ | decide | (simp only [InR]; omega)) (by decide) (fun c345 => ?_) (fun c345 => ?_)
              · refine ev_iconst dX10_findWays_352 ?_
                refine ev_aload_n 5 rfl dX10_findWays_353 ?_
                refine mg_92 hM39 dX10_findWays_354 ?_
                refine ev_iload 2 rfl dX10_findWays_357 ?_
                refine m_ld (k := 33) hM39 (by decide) dX10_findWays_359 (by omega) (by show _ < ((10 : Nat) : Int); omega) ?_
                refine ev_ishl dX10_findWays_360 ?_
                refine ev_ior dX10_findWays_361 ?_
                refine ev_istore_n (L' := [(2, vI (orZ tk (shlZ 1 (S37 33 g)))), (5, vI (b)), (3, vI (pl + 1)), (4, vI (g)), (1, vI (p2 c)), (0, .ref (o))]) dX10_findWays_362 (by decide) rfl ?_
                refine ev_iinc (L' := [(4, vI (g + 1)), (2, vI (orZ tk (shlZ 1 (S37 33 g)))), (5, vI (b)), (3, vI (pl + 1)), (1, vI (p2 c)), (0, .ref (o))]) 3 rfl dX10_findWays_363 (by decide) rfl ?_
                refine ev_goto (tgt := 183) dX10_findWays_366 (by decide) ?_
                refine ev_pick (L' := [(4, vI (g + 1)), (3, vI (pl + 1)), (2, vI (orZ tk (shlZ 1 (S37 33 g)))), (1, vI (p2 c)), (0, .ref (o))]) [0, 3, 1, 4, 5] rfl ?_
                exact ihg (g + 1) (by omega) (by omega) (orZ tk (shlZ 1 (S37 33 g))) (pl + 1) S37 h38 (by omega) hM39 (eqx.tr (l := [33]) (by rw [eS15]; exact eqx.up (l := [33]) hx12 (by decide)) hx40 (by decide) (by decide)) (by rw [tkZ_s (by omega), ← htk, if_neg (by omega), show nbZ F c g tk = S37 33 g by omega]) (by rw [sumI_s _ (by omega), ← hpl]; unfold plc; rw [if_pos (by omega)]) (by omega) (fun u u0 u1 => (Int.lt_or_eq_of_le (show u ≤ g by omega)).elim (fun q => hno u u0 q) (fun q => by subst q; unfold nxA; rw [← htk, if_neg (by omega)]; omega)) (orZ_p (by omega) (by omega) (by omega) (by omega) (by omega))
              · refine ev_iconst dX10_findWays_348 ?_
                refine ev_goto (tgt := 361) dX10_findWays_349 (by decide) ?_
                refine ev_ior dX10_findWays_361 ?_
                refine ev_istore_n (L' := [(2, vI (orZ tk 0)), (5, vI (b)), (3, vI (pl + 1)), (4, vI (g)), (1, vI (p2 c)), (0, .ref (o))]) dX10_findWays_362 (by decide) rfl ?_
                refine ev_iinc (L' := [(4, vI (g + 1)), (2, vI (orZ tk 0)), (5, vI (b)), (3, vI (pl + 1)), (1, vI (p2 c)), (0, .ref (o))]) 3 rfl dX10_findWays_363 (by decide) rfl ?_
                refine ev_goto (tgt := 183) dX10_findWays_366 (by decide) ?_
                refine ev_pick (L' := [(4, vI (g + 1)), (3, vI (pl + 1)), (2, vI (orZ tk 0)), (1, vI (p2 c)), (0, .ref (o))]) [0, 3, 1, 4, 5] rfl ?_
                exact ihg (g + 1) (by omega) (by omega) (orZ tk 0) (pl + 1) S37 h38 (by omega) hM39 (eqx.tr (l := [33]) (by rw [eS15]; exact eqx.up (l := [33]) hx12 (by decide)) hx40 (by decide) (by decide)) (by rw [tkZ_s (by omega), ← htk, if_pos (by omega), orZ_0 (by omega) (by omega)]) (by rw [sumI_s _ (by omega), ← hpl]; unfold plc; rw [if_pos (by omega)]) (by omega) (fun u u0 u1 => (Int.lt_or_eq_of_le (show u ≤ g by omega)).elim (fun q => hno u u0 q) (fun q => by subst q; unfold nxA; rw [← htk, if_pos (by omega)]; omega)) (by rw [orZ_0 (by omega) (by omega)]; omega)
            · have hf1 := hfd.resolve_right (fun q => by omega)
              refine ev_iload_n 3 rfl dX10_findWays_242 ?_
              refine ev_iload 0 rfl dX10_findWays_243 ?_
              refine ev_ishr dX10_findWays_245 ?_
              refine ev_iconst dX10_findWays_246 ?_
              cases hbt : tb tk b
              · refine ev_iand dX10_findWays_247 ?_
                refine ev_ren (b := 0) (by rw [bit_1 (by omega) (by omega) (by omega) (by omega), hbt]; rfl) ?_
                refine ev_if_ne (tgt := 266) dX10_findWays_248 (by decide) (by decide) (fun c => absurd c (by decide)) (fun _ => ?_)
                refine ev_aload_n 5 rfl dX10_findWays_251 ?_
                refine ev_iload 2 rfl dX10_findWays_252 ?_
                refine ev_iload 0 rfl dX10_findWays_254 ?_
                have e31_S37 : S37 31 = S 31 := by rw [hx40 31 (by decide), eS15, upS_ne (by decide), hx12 31 (by decide), hx8 31 (by decide), hx4 31 (by decide)]
                have e25_S37 : S37 25 = S 25 := by rw [hx40 25 (by decide), eS15, upS_ne (by decide), hx12 25 (by decide), hx8 25 (by decide), hx4 25 (by decide)]
                have e26_S37 : S37 26 = S 26 := by rw [hx40 26 (by decide), eS15, upS_ne (by decide), hx12 26 (by decide), hx8 26 (by decide), hx4 26 (by decide)]
                have e27_S37 : S37 27 = S 27 := by rw [hx40 27 (by decide), eS15, upS_ne (by decide), hx12 27 (by decide), hx8 27 (by decide), hx4 27 (by decide)]
                have e28_S37 : S37 28 = S 28 := by rw [hx40 28 (by decide), eS15, upS_ne (by decide), hx12 28 (by decide), hx8 28 (by decide), hx4 28 (by decide)]
                refine c_X10_266 (m_canFollow (a := g) (b := b) hM39 (by omega) (by omega) (by rw [e26_S37, e27_S37, e28_S37]; exact hbd g (by omega) (by omega)) (by rw [e26_S37, e27_S37, e28_S37]; exact hbd b (by omega) (by omega)) (by rw [e31_S37]; exact gv)) hM39.1 rfl rfl (Nat.le_of_ble_eq_true rfl) (by decide) dX10_findWays_256 (kB (fun b256 => ?_) (fun b256 => ?_))
                · rw [e31_S37, e25_S37, e26_S37, e27_S37, e28_S37] at b256
                  have hfy : F g b = true := (hF g b (by omega) (by omega) (by omega) (by omega)).mpr b256
                  refine ev_if_eq (tgt := 266) dX10_findWays_259 (by decide) (by decide) (fun c => absurd c (by decide)) (fun _ => ?_)
                  refine ev_iconst dX10_findWays_262 ?_
                  refine ev_goto (tgt := 267) dX10_findWays_263 (by decide) ?_
                  refine ev_istore (L' := [(6, vI (1)), (5, vI (b)), (3, vI (pl + 1)), (4, vI (g)), (2, vI (tk)), (1, vI (p2 c)), (0, .ref (o))]) dX10_findWays_267 (by decide) rfl ?_
                  refine ev_aload_n 6 rfl dX10_findWays_269 ?_
                  refine mg_92 hM39 dX10_findWays_270 ?_
                  refine ev_iload 3 rfl dX10_findWays_273 ?_
                  refine ev_iload 0 rfl dX10_findWays_275 ?_
                  refine ev_if_eq (tgt := 323) dX10_findWays_277 (by decide) (by decide) (fun c => absurd c (by decide)) (fun _ => ?_)
                  refine ev_iconst dX10_findWays_280 ?_
                  refine ev_aload_n 6 rfl dX10_findWays_281 ?_
                  refine mg_89 hM39 dX10_findWays_282 ?_
                  refine ev_sipush dX10_findWays_285 (by decide) ?_
                  refine ev_iload 3 rfl dX10_findWays_288 ?_
                  refine ev_iconst dX10_findWays_290 ?_
                  refine ev_iadd dX10_findWays_291 ?_
                  refine ev_imul dX10_findWays_292 ?_
                  refine ev_iload_n 4 rfl dX10_findWays_293 ?_
                  refine ev_iconst dX10_findWays_294 ?_
                  refine ev_iload 1 rfl dX10_findWays_295 ?_
                  refine ev_ishl dX10_findWays_297 ?_
                  have op := orZ_p (t := tk) (b := b) (c := c) (by omega) (by omega) (by omega) (by omega) (by omega)
                  refine ev_ior dX10_findWays_298 ?_
                  refine ev_iadd dX10_findWays_299 ?_
                  refine m_ldE (k := 32) (v := S5 32 ((1024 * (g + 1)) + (orZ tk (shlZ 1 b)))) hM39 (by decide) (by rw [hx40 32 (by decide), eS15, upS_ne (by decide), hx12 32 (by decide)]) dX10_findWays_300 (by omega) (by show _ < ((11264 : Nat) : Int); omega) ?_
                  refine ev_ren (b := mL F c (c - 1 - g).toNat (orZ tk (shlZ 1 b))) (by rw [show c - 1 - g = c - (g + 1) by omega]; exact h2e (g + 1) (orZ tk (shlZ 1 b)) (by omega) (by omega) (by omega) (by omega)) ?_
                  refine ev_iadd dX10_findWays_301 ?_
                  have mb2 := mL_b (F := F) (c := c) (c - 1 - g).toNat (orZ tk (shlZ 1 b))
                  have mb3 := mL_b (F := F) (c := c) (c - g).toNat tk
                  refine ev_aload_n 6 rfl dX10_findWays_302 ?_
                  refine mg_89 hM39 dX10_findWays_303 ?_
                  refine ev_sipush dX10_findWays_306 (by decide) ?_
                  refine ev_iload 3 rfl dX10_findWays_309 ?_
                  refine ev_imul dX10_findWays_311 ?_
                  refine ev_iload_n 4 rfl dX10_findWays_312 ?_
                  refine ev_iadd dX10_findWays_313 ?_
                  refine m_ldE (k := 32) (v := S5 32 ((1024 * g) + tk)) hM39 (by decide) (by rw [hx40 32 (by decide), eS15, upS_ne (by decide), hx12 32 (by decide)]) dX10_findWays_314 (by omega) (by show _ < ((11264 : Nat) : Int); omega) ?_
                  refine ev_ren (b := mL F c (c - g).toNat tk) (h2e g tk (by omega) (by omega) (by omega) (by omega)) ?_
                  refine ev_icmp_ne (tgt := 323) dX10_findWays_315 (by first | assumption | exact hR _ _ | exact hRS1 _ _ | exact hRS5 _ _ | exact hRS9 _ _ | exact hRS13 _ _ | exact hRS37 _ _ | decide | (simp only [InR]; omega)) (by first | assumption | exact hR _ _ | exact hRS1 _ _ | exact hRS5 _ _ | exact hRS9 _ _ | exact hRS13 _ _ | exact hRS37 _ _ | decide | (simp only [InR]; omega)) (by decide) (fun c315 => ?_) (fun c315 => ?_)
                  · refine ev_aload_n 6 rfl dX10_findWays_323 ?_
                    refine mg_92 hM39 dX10_findWays_324 ?_
                    refine ev_iload 3 rfl dX10_findWays_327 ?_
                    refine m_ld (k := 33) hM39 (by decide) dX10_findWays_329 (by omega) (by show _ < ((10 : Nat) : Int); omega) ?_
                    refine m_st (k := 33) hM39 (by decide) dX10_findWays_330 (by omega) (by show _ < ((10 : Nat) : Int); omega) (by first | assumption | exact hR _ _ | exact hRS1 _ _ | exact hRS5 _ _ | exact hRS9 _ _ | exact hRS13 _ _ | exact hRS37 _ _ | decide | (simp only [InR]; omega)) (fun S41 h42 eS43 hM44 => ?_)
                    have hRS41 := hM44.2.2.2.2
                    refine ev_iinc (L' := [(5, vI (b + 1)), (6, vI (1)), (3, vI (pl + 1)), (4, vI (g)), (2, vI (tk)), (1, vI (p2 c)), (0, .ref (o))]) 1 rfl dX10_findWays_331 (by decide) rfl ?_
                    refine ev_goto (tgt := 223) dX10_findWays_334 (by decide) ?_
                    refine ev_pick (L' := [(5, vI (b + 1)), (3, vI (pl + 1)), (4, vI (g)), (2, vI (tk)), (1, vI (p2 c)), (0, .ref (o))]) [0, 2, 3, 4, 5, 6] rfl ?_
                    exact ihb (b + 1) (by omega) (by omega) S41 h42 (by omega) hM44 (by rw [eS43]; exact eqx.up (l := [33]) hx40 (by decide)) (Or.inl ⟨by rw [eS43, upS_at]; exact hf1.1, by rw [hf1.2, scanI_s _ (by omega), if_neg (by unfold nbB; rw [hbt, hfy, decide_eq_false (by omega)]; decide)]⟩) (fun u u0 u1 => by rw [eS43, upS_nz (by omega)]; exact hno u u0 u1)
                  · refine ev_iload 1 rfl dX10_findWays_318 ?_
                    refine ev_goto (tgt := 330) dX10_findWays_320 (by decide) ?_
                    refine m_st (k := 33) hM39 (by decide) dX10_findWays_330 (by omega) (by show _ < ((10 : Nat) : Int); omega) (by first | assumption | exact hR _ _ | exact hRS1 _ _ | exact hRS5 _ _ | exact hRS9 _ _ | exact hRS13 _ _ | exact hRS37 _ _ | decide | (simp only [InR]; omega)) (fun S45 h46 eS47 hM48 => ?_)
                    have hRS45 := hM48.2.2.2.2
                    refine ev_iinc (L' := [(5, vI (b + 1)), (6, vI (1)), (3, vI (pl + 1)), (4, vI (g)), (2, vI (tk)), (1, vI (p2 c)), (0, .ref (o))]) 1 rfl dX10_findWays_331 (by decide) rfl ?_
                    refine ev_goto (tgt := 223) dX10_findWays_334 (by decide) ?_
                    refine ev_pick (L' := [(5, vI (b + 1)), (3, vI (pl + 1)), (4, vI (g)), (2, vI (tk)), (1, vI (p2 c)), (0, .ref (o))]) [0, 2, 3, 4, 5, 6] rfl ?_
                    exact ihb (b + 1) (by omega) (by omega) S45 h46 (by omega) hM48 (by rw [eS47]; exact eqx.up (l := [33]) hx40 (by decide)) (Or.inr ⟨by rw [eS47, upS_at]; omega, by rw [eS47, upS_at]; omega, by rw [eS47, upS_at, hf1.2, scanI_s _ (by omega), if_pos (by unfold nbB; rw [hbt, hfy, decide_eq_true (by omega)]; rfl)]⟩) (fun u u0 u1 => by rw [eS47, upS_nz (by omega)]; exact hno u u0 u1)
                · rw [e31_S37, e25_S37, e26_S37, e27_S37, e28_S37] at b256
                  have hfy : F g b = false := (Bool.eq_false_or_eq_true _).elim (fun q => absurd ((hF g b (by omega) (by omega) (by omega) (by omega)).mp q) b256) id
                  refine ev_if_eq (tgt := 266) dX10_findWays_259 (by decide) (by decide) (fun _ => ?_) (fun c => absurd c (by decide))
                  refine ev_iconst dX10_findWays_266 ?_
                  refine ev_istore (L' := [(6, vI (0)), (5, vI (b)), (3, vI (pl + 1)), (4, vI (g)), (2, vI (tk)), (1, vI (p2 c)), (0, .ref (o))]) dX10_findWays_267 (by decide) rfl ?_
                  refine ev_aload_n 6 rfl dX10_findWays_269 ?_
                  refine mg_92 hM39 dX10_findWays_270 ?_
                  refine ev_iload 3 rfl dX10_findWays_273 ?_
                  refine ev_iload 0 rfl dX10_findWays_275 ?_
                  refine ev_if_eq (tgt := 323) dX10_findWays_277 (by decide) (by decide) (fun _ => ?_) (fun c => absurd c (by decide))
                  refine ev_aload_n 6 rfl dX10_findWays_323 ?_
                  refine mg_92 hM39 dX10_findWays_324 ?_
                  refine ev_iload 3 rfl dX10_findWays_327 ?_
                  refine m_ld (k := 33) hM39 (by decide) dX10_findWays_329 (by omega) (by show _ < ((10 : Nat) : Int); omega) ?_
                  refine m_st (k := 33) hM39 (by decide) dX10_findWays_330 (by omega) (by show _ < ((10 : Nat) : Int); omega) (by first | assumption | exact hR _ _ | exact hRS1 _ _ | exact hRS5 _ _ | exact hRS9 _ _ | exact hRS13 _ _ | exact hRS37 _ _ | decide | (simp only [InR]; omega)) (fun S49 h50 eS51 hM52 => ?_)
                  have hRS49 := hM52.2.2.2.2
                  refine ev_iinc (L' := [(5, vI (b + 1)), (6, vI (0)), (3, vI (pl + 1)), (4, vI (g)), (2, vI (tk)), (1, vI (p2 c)), (0, .ref (o))]) 1 rfl dX10_findWays_331 (by decide) rfl ?_
                  refine ev_goto (tgt := 223) dX10_findWays_334 (by decide) ?_
                  refine ev_pick (L' := [(5, vI (b + 1)), (3, vI (pl + 1)), (4, vI (g)), (2, vI (tk)), (1, vI (p2 c)), (0, .ref (o))]) [0, 2, 3, 4, 5, 6] rfl ?_
                  exact ihb (b + 1) (by omega) (by omega) S49 h50 (by omega) hM52 (by rw [eS51]; exact eqx.up (l := [33]) hx40 (by decide)) (Or.inl ⟨by rw [eS51, upS_at]; exact hf1.1, by rw [hf1.2, scanI_s _ (by omega), if_neg (by unfold nbB; rw [hbt, hfy]; simp)]⟩) (fun u u0 u1 => by rw [eS51, upS_nz (by omega)]; exact hno u u0 u1)
              · refine ev_iand dX10_findWays_247 ?_
                refine ev_ren (b := 1) (by rw [bit_1 (by omega) (by omega) (by omega) (by omega), hbt]; rfl) ?_
                refine ev_if_ne (tgt := 266) dX10_findWays_248 (by decide) (by decide) (fun _ => ?_) (fun c => absurd c (by decide))
                refine ev_iconst dX10_findWays_266 ?_
                refine ev_istore (L' := [(6, vI (0)), (5, vI (b)), (3, vI (pl + 1)), (4, vI (g)), (2, vI (tk)), (1, vI (p2 c)), (0, .ref (o))]) dX10_findWays_267 (by decide) rfl ?_
                refine ev_aload_n 6 rfl dX10_findWays_269 ?_
                refine mg_92 hM39 dX10_findWays_270 ?_
                refine ev_iload 3 rfl dX10_findWays_273 ?_
                refine ev_iload 0 rfl dX10_findWays_275 ?_
                refine ev_if_eq (tgt := 323) dX10_findWays_277 (by decide) (by decide) (fun _ => ?_) (fun c => absurd c (by decide))
                refine ev_aload_n 6 rfl dX10_findWays_323 ?_
                refine mg_92 hM39 dX10_findWays_324 ?_
                refine ev_iload 3 rfl dX10_findWays_327 ?_
                refine m_ld (k := 33) hM39 (by decide) dX10_findWays_329 (by omega) (by show _ < ((10 : Nat) : Int); omega) ?_
                refine m_st (k := 33) hM39 (by decide) dX10_findWays_330 (by omega) (by show _ < ((10 : Nat) : Int); omega) (by first | assumption | exact hR _ _ | exact hRS1 _ _ | exact hRS5 _ _ | exact hRS9 _ _ | exact hRS13 _ _ | exact hRS37 _ _ | decide | (simp only [InR]; omega)) (fun S53 h54 eS55 hM56 => ?_)
                have hRS53 := hM56.2.2.2.2
                refine ev_iinc (L' := [(5, vI (b + 1)), (6, vI (0)), (3, vI (pl + 1)), (4, vI (g)), (2, vI (tk)), (1, vI (p2 c)), (0, .ref (o))]) 1 rfl dX10_findWays_331 (by decide) rfl ?_
                refine ev_goto (tgt := 223) dX10_findWays_334 (by decide) ?_
                refine ev_pick (L' := [(5, vI (b + 1)), (3, vI (pl + 1)), (4, vI (g)), (2, vI (tk)), (1, vI (p2 c)), (0, .ref (o))]) [0, 2, 3, 4, 5, 6] rfl ?_
                exact ihb (b + 1) (by omega) (by omega) S53 h54 (by omega) hM56 (by rw [eS55]; exact eqx.up (l := [33]) hx40 (by decide)) (Or.inl ⟨by rw [eS55, upS_at]; exact hf1.1, by rw [hf1.2, scanI_s _ (by omega), if_neg (by unfold nbB; rw [hbt]; simp)]⟩) (fun u u0 u1 => by rw [eS55, upS_nz (by omega)]; exact hno u u0 u1)
    · refine ev_iconst dX10_findWays_47 ?_
      refine ev_istore_n (L' := [(3, vI (0)), (2, vI (k)), (1, vI (p2 c)), (0, .ref (o))]) dX10_findWays_48 (by decide) rfl ?_
      refine up_ind (P := fun t : Int => ∀ (S57 : MS) (h58 : AH), 0 ≤ t → MR E o ad S57 h58 → eqx [32] S5 S57 → (∀ v u : Int, k < v → v ≤ c → 0 ≤ u → u < p2 c → S57 32 (1024 * v + u) = mL F c (c - v).toNat u) → (∀ u : Int, 0 ≤ u → u < t → S57 32 (1024 * k + u) = mL F c (c - k).toNat u) → Ev E RX10 cX10_findWays 7 (some .int) "findWays" (qI (fun z h' => ∃ S', MR E o ad S' h' ∧ eqx [32, 33] S S' ∧ z = sumI (plc (S 25)) c - mL F c c.toNat 0 ∧ ∀ k : Int, 0 ≤ k → k < c → S' 33 k = nxA F c k)) 1 0 0 49 [(3, vI (t)), (2, vI (k)), (1, vI (p2 c)), (0, .ref (o))] [] h58) (N := p2 c) ?_ 0 (by omega)  S5 h6 (by omega) hM7 eqx.rf (h2) (fun u u0 u1 => absurd u0 (by omega))
      intro t iht htN S57 h58 pt hM59 hx60 h3 h4
      have hRS57 := hM59.2.2.2.2
      refine ev_iload_n 0 rfl dX10_findWays_49 ?_
      refine ev_iload_n 2 rfl dX10_findWays_50 ?_
      refine ev_icmp_ge (tgt := 170) dX10_findWays_51 (by first | assumption | exact hR _ _ | exact hRS1 _ _ | exact hRS5 _ _ | exact hRS57 _ _ | decide | (simp only [InR]; omega)) (by first | assumption | exact hR _ _ | exact hRS1 _ _ | exact hRS5 _ _ | exact hRS57 _ _ | decide | (simp only [InR]; omega)) (by decide) (fun c51 => ?_) (fun c51 => ?_)
      · refine ev_iinc (L' := [(2, vI (k + (-1))), (3, vI (t)), (1, vI (p2 c)), (0, .ref (o))]) 1 rfl dX10_findWays_170 (by decide) rfl ?_
        refine ev_goto (tgt := 43) dX10_findWays_173 (by decide) ?_
        refine ev_pick (L' := [(2, vI (k + (-1))), (1, vI (p2 c)), (0, .ref (o))]) [0, 2, 3] rfl ?_
        exact ihk (k + (-1)) (by omega) (by omega) S57 h58 (by omega) hM59 (eqx.tr (l := [32]) hx8 hx60 (by decide) (by decide)) (by omega) (fun v u v0 v1 u0 u1 => (Int.lt_or_eq_of_le (show k ≤ v by omega)).elim (fun q => h3 v u q v1 u0 u1) (fun q => by subst q; exact h4 u u0 (by omega)))
      · refine ev_aload_n 3 rfl dX10_findWays_54 ?_
        refine mg_89 hM59 dX10_findWays_55 ?_
        refine ev_sipush dX10_findWays_58 (by decide) ?_
        refine ev_iload_n 1 rfl dX10_findWays_61 ?_
        refine ev_iconst dX10_findWays_62 ?_
        refine ev_iadd dX10_findWays_63 ?_
        refine ev_imul dX10_findWays_64 ?_
        refine ev_iload_n 0 rfl dX10_findWays_65 ?_
        refine ev_iadd dX10_findWays_66 ?_
        refine m_ld (k := 32) hM59 (by decide) dX10_findWays_67 (by omega) (by show _ < ((11264 : Nat) : Int); omega) ?_
        refine ev_ren (b := mL F c (c - 1 - k).toNat t) (by rw [show c - 1 - k = c - (k + 1) by omega]; exact h3 (k + 1) t (by omega) (by omega) (by omega) (by omega)) ?_
        refine ev_istore (L' := [(4, vI (mL F c (c - 1 - k).toNat t)), (3, vI (t)), (2, vI (k)), (1, vI (p2 c)), (0, .ref (o))]) dX10_findWays_68 (by decide) rfl ?_
        have mb := mL_b (F := F) (c := c) (c - 1 - k).toNat t
        refine ev_iconst dX10_findWays_70 ?_
        refine ev_istore (L' := [(5, vI (0)), (4, vI (mL F c (c - 1 - k).toNat t)), (3, vI (t)), (2, vI (k)), (1, vI (p2 c)), (0, .ref (o))]) dX10_findWays_71 (by decide) rfl ?_
        refine up_ind (P := fun b : Int => ∀ (x : Int), 0 ≤ b → x = fbest (fun b => !tb t b && F k b) (fun b => 1 + mL F c (c - 1 - k).toNat (orZ t (shlZ 1 b))) (mL F c (c - 1 - k).toNat t) b.toNat → (0 ≤ x ∧ x ≤ 11) → Ev E RX10 cX10_findWays 7 (some .int) "findWays" (qI (fun z h' => ∃ S', MR E o ad S' h' ∧ eqx [32, 33] S S' ∧ z = sumI (plc (S 25)) c - mL F c c.toNat 0 ∧ ∀ k : Int, 0 ≤ k → k < c → S' 33 k = nxA F c k)) 1 0 0 73 [(5, vI (b)), (4, vI (x)), (3, vI (t)), (2, vI (k)), (1, vI (p2 c)), (0, .ref (o))] [] h58) (N := c) ?_ 0 (by omega) (mL F c (c - 1 - k).toNat t) (by omega) (rfl) (by omega)
        intro b ihb hbN x pb hb hxb
        refine ev_iload 0 rfl dX10_findWays_73 ?_
        refine ev_aload_n 5 rfl dX10_findWays_75 ?_
        refine mgE_254 (v := c) hM59 (by rw [hx60 21 (by decide), hx8 21 (by decide), hx4 21 (by decide), gc]) dX10_findWays_76 ?_
        refine ev_icmp_ge (tgt := 150) dX10_findWays_79 (by first | assumption | exact hR _ _ | exact hRS1 _ _ | exact hRS5 _ _ | exact hRS57 _ _ | decide | (simp only [InR]; omega)) (by first | assumption | exact hR _ _ | exact hRS1 _ _ | exact hRS5 _ _ | exact hRS57 _ _ | decide | (simp only [InR]; omega)) (by decide) (fun c79 => ?_) (fun c79 => ?_)
        · refine ev_aload_n 5 rfl dX10_findWays_150 ?_
          refine mg_89 hM59 dX10_findWays_151 ?_
          refine ev_sipush dX10_findWays_154 (by decide) ?_
          refine ev_iload_n 3 rfl dX10_findWays_157 ?_
          refine ev_imul dX10_findWays_158 ?_
          refine ev_iload_n 2 rfl dX10_findWays_159 ?_
          refine ev_iadd dX10_findWays_160 ?_
          refine ev_iload 1 rfl dX10_findWays_161 ?_
          refine m_st (k := 32) hM59 (by decide) dX10_findWays_163 (by omega) (by show _ < ((11264 : Nat) : Int); omega) (by first | assumption | exact hR _ _ | exact hRS1 _ _ | exact hRS5 _ _ | exact hRS57 _ _ | decide | (simp only [InR]; omega)) (fun S61 h62 eS63 hM64 => ?_)
          have hRS61 := hM64.2.2.2.2
          refine ev_iinc (L' := [(3, vI (t + 1)), (5, vI (b)), (4, vI (x)), (2, vI (k)), (1, vI (p2 c)), (0, .ref (o))]) 2 rfl dX10_findWays_164 (by decide) rfl ?_
          refine ev_goto (tgt := 49) dX10_findWays_167 (by decide) ?_
          refine ev_pick (L' := [(3, vI (t + 1)), (2, vI (k)), (1, vI (p2 c)), (0, .ref (o))]) [0, 3, 4, 5] rfl ?_
          exact iht (t + 1) (by omega) (by omega) S61 h62 (by omega) hM64 (by rw [eS63]; exact eqx.up (l := [32]) hx60 (by decide)) (fun v u v0 v1 u0 u1 => by rw [eS63, upS_nz (by omega)]; exact h3 v u v0 v1 u0 u1) (fun u u0 u1 => by rw [eS63]; by_cases hu : u = t; (rw [hu, upS_at, hb, mL_s (by omega), show b = c by omega]); (rw [upS_nz (by omega)]; exact h4 u u0 (by omega)))
        · refine ev_iload_n 2 rfl dX10_findWays_82 ?_
          refine ev_iload 0 rfl dX10_findWays_83 ?_
          refine ev_ishr dX10_findWays_85 ?_
          refine ev_iconst dX10_findWays_86 ?_
          cases hbt : tb t b
          · refine ev_iand dX10_findWays_87 ?_
            refine ev_ren (b := 0) (by rw [bit_1 (by omega) (by omega) (by omega) (by omega), hbt]; rfl) ?_
            refine ev_if_ne (tgt := 125) dX10_findWays_88 (by decide) (by decide) (fun c => absurd c (by decide)) (fun _ => ?_)
            refine ev_aload_n 5 rfl dX10_findWays_91 ?_
            refine ev_iload_n 3 rfl dX10_findWays_92 ?_
            refine ev_iload 0 rfl dX10_findWays_93 ?_
            have e31_S57 : S57 31 = S 31 := by rw [hx60 31 (by decide), hx8 31 (by decide), hx4 31 (by decide)]
            have e25_S57 : S57 25 = S 25 := by rw [hx60 25 (by decide), hx8 25 (by decide), hx4 25 (by decide)]
            have e26_S57 : S57 26 = S 26 := by rw [hx60 26 (by decide), hx8 26 (by decide), hx4 26 (by decide)]
            have e27_S57 : S57 27 = S 27 := by rw [hx60 27 (by decide), hx8 27 (by decide), hx4 27 (by decide)]
            have e28_S57 : S57 28 = S 28 := by rw [hx60 28 (by decide), hx8 28 (by decide), hx4 28 (by decide)]
            refine c_X10_266 (m_canFollow (a := k) (b := b) hM59 (by omega) (by omega) (by rw [e26_S57, e27_S57, e28_S57]; exact hbd k (by omega) (by omega)) (by rw [e26_S57, e27_S57, e28_S57]; exact hbd b (by omega) (by omega)) (by rw [e31_S57]; exact gv)) hM59.1 rfl rfl (Nat.le_of_ble_eq_true rfl) (by decide) dX10_findWays_95 (kB (fun b95 => ?_) (fun b95 => ?_))
            · rw [e31_S57, e25_S57, e26_S57, e27_S57, e28_S57] at b95
              have hfy : F k b = true := (hF k b (by omega) (by omega) (by omega) (by omega)).mpr b95
              refine ev_if_eq (tgt := 125) dX10_findWays_98 (by decide) (by decide) (fun c => absurd c (by decide)) (fun _ => ?_)
              refine ev_iconst dX10_findWays_101 ?_
              refine ev_aload_n 5 rfl dX10_findWays_102 ?_
              refine mg_89 hM59 dX10_findWays_103 ?_
              refine ev_sipush dX10_findWays_106 (by decide) ?_
              refine ev_iload_n 3 rfl dX10_findWays_109 ?_
              refine ev_iconst dX10_findWays_110 ?_
              refine ev_iadd dX10_findWays_111 ?_
              refine ev_imul dX10_findWays_112 ?_
              refine ev_iload_n 2 rfl dX10_findWays_113 ?_
              refine ev_iconst dX10_findWays_114 ?_
              refine ev_iload 0 rfl dX10_findWays_115 ?_
              refine ev_ishl dX10_findWays_117 ?_
              have op := orZ_p (t := t) (b := b) (c := c) (by omega) (by omega) (by omega) (by omega) (by omega)
              refine ev_ior dX10_findWays_118 ?_
              refine ev_iadd dX10_findWays_119 ?_
              refine m_ld (k := 32) hM59 (by decide) dX10_findWays_120 (by omega) (by show _ < ((11264 : Nat) : Int); omega) ?_
              refine ev_ren (b := mL F c (c - 1 - k).toNat (orZ t (shlZ 1 b))) (by rw [show c - 1 - k = c - (k + 1) by omega]; exact h3 (k + 1) (orZ t (shlZ 1 b)) (by omega) (by omega) (by omega) (by omega)) ?_
              refine ev_iadd dX10_findWays_121 ?_
              have mb2 := mL_b (F := F) (c := c) (c - 1 - k).toNat (orZ t (shlZ 1 b))
              refine ev_goto (tgt := 126) dX10_findWays_122 (by decide) ?_
              refine ev_istore (L' := [(6, vI (1 + (mL F c (c - 1 - k).toNat (orZ t (shlZ 1 b))))), (5, vI (b)), (4, vI (x)), (3, vI (t)), (2, vI (k)), (1, vI (p2 c)), (0, .ref (o))]) dX10_findWays_126 (by decide) rfl ?_
              refine ev_iload 0 rfl dX10_findWays_128 ?_
              refine ev_iload 2 rfl dX10_findWays_130 ?_
              refine ev_icmp_le (tgt := 140) dX10_findWays_132 (by first | assumption | exact hR _ _ | exact hRS1 _ _ | exact hRS5 _ _ | exact hRS57 _ _ | decide | (simp only [InR]; omega)) (by first | assumption | exact hR _ _ | exact hRS1 _ _ | exact hRS5 _ _ | exact hRS57 _ _ | decide | (simp only [InR]; omega)) (by decide) (fun c132 => ?_) (fun c132 => ?_)
              · refine ev_iload 2 rfl dX10_findWays_140 ?_
                refine ev_istore (L' := [(4, vI (x)), (6, vI (1 + (mL F c (c - 1 - k).toNat (orZ t (shlZ 1 b))))), (5, vI (b)), (3, vI (t)), (2, vI (k)), (1, vI (p2 c)), (0, .ref (o))]) dX10_findWays_142 (by decide) rfl ?_
                refine ev_iinc (L' := [(5, vI (b + 1)), (4, vI (x)), (6, vI (1 + (mL F c (c - 1 - k).toNat (orZ t (shlZ 1 b))))), (3, vI (t)), (2, vI (k)), (1, vI (p2 c)), (0, .ref (o))]) 2 rfl dX10_findWays_144 (by decide) rfl ?_
                refine ev_goto (tgt := 73) dX10_findWays_147 (by decide) ?_
                refine ev_pick (L' := [(5, vI (b + 1)), (4, vI (x)), (3, vI (t)), (2, vI (k)), (1, vI (p2 c)), (0, .ref (o))]) [0, 1, 3, 4, 5, 6] rfl ?_
                exact ihb (b + 1) (by omega) (by omega) x (by omega) (by rw [fbest_s (by omega), ← hb, if_neg (fun q => absurd q.2 (by (try dsimp only); omega))]) (by omega)
              · refine ev_iload 0 rfl dX10_findWays_135 ?_
                refine ev_goto (tgt := 142) dX10_findWays_137 (by decide) ?_
                refine ev_istore (L' := [(4, vI (1 + (mL F c (c - 1 - k).toNat (orZ t (shlZ 1 b))))), (6, vI (1 + (mL F c (c - 1 - k).toNat (orZ t (shlZ 1 b))))), (5, vI (b)), (3, vI (t)), (2, vI (k)), (1, vI (p2 c)), (0, .ref (o))]) dX10_findWays_142 (by decide) rfl ?_
                refine ev_iinc (L' := [(5, vI (b + 1)), (4, vI (1 + (mL F c (c - 1 - k).toNat (orZ t (shlZ 1 b))))), (6, vI (1 + (mL F c (c - 1 - k).toNat (orZ t (shlZ 1 b))))), (3, vI (t)), (2, vI (k)), (1, vI (p2 c)), (0, .ref (o))]) 2 rfl dX10_findWays_144 (by decide) rfl ?_
                refine ev_goto (tgt := 73) dX10_findWays_147 (by decide) ?_
                refine ev_pick (L' := [(5, vI (b + 1)), (4, vI (1 + (mL F c (c - 1 - k).toNat (orZ t (shlZ 1 b))))), (3, vI (t)), (2, vI (k)), (1, vI (p2 c)), (0, .ref (o))]) [0, 1, 3, 4, 5, 6] rfl ?_
                exact ihb (b + 1) (by omega) (by omega) (1 + (mL F c (c - 1 - k).toNat (orZ t (shlZ 1 b)))) (by omega) (by rw [fbest_s (by omega), ← hb, if_pos ⟨by (try dsimp only); rw [hbt, hfy]; rfl, by (try dsimp only); omega⟩]) (by omega)
            · rw [e31_S57, e25_S57, e26_S57, e27_S57, e28_S57] at b95
              have hfy : F k b = false := (Bool.eq_false_or_eq_true _).elim (fun q => absurd ((hF k b (by omega) (by omega) (by omega) (by omega)).mp q) b95) id
              refine ev_if_eq (tgt := 125) dX10_findWays_98 (by decide) (by decide) (fun _ => ?_) (fun c => absurd c (by decide))
              refine ev_iconst dX10_findWays_125 ?_
              refine ev_istore (L' := [(6, vI (0)), (5, vI (b)), (4, vI (x)), (3, vI (t)), (2, vI (k)), (1, vI (p2 c)), (0, .ref (o))]) dX10_findWays_126 (by decide) rfl ?_
              refine ev_iload 0 rfl dX10_findWays_128 ?_
              refine ev_iload 2 rfl dX10_findWays_130 ?_
              refine ev_icmp_le (tgt := 140) dX10_findWays_132 (by decide) (by first | assumption | exact hR _ _ | exact hRS1 _ _ | exact hRS5 _ _ | exact hRS57 _ _ | decide | (simp only [InR]; omega)) (by decide) (fun c132 => ?_) (fun c132 => ?_)
              · refine ev_iload 2 rfl dX10_findWays_140 ?_
                refine ev_istore (L' := [(4, vI (x)), (6, vI (0)), (5, vI (b)), (3, vI (t)), (2, vI (k)), (1, vI (p2 c)), (0, .ref (o))]) dX10_findWays_142 (by decide) rfl ?_
                refine ev_iinc (L' := [(5, vI (b + 1)), (4, vI (x)), (6, vI (0)), (3, vI (t)), (2, vI (k)), (1, vI (p2 c)), (0, .ref (o))]) 2 rfl dX10_findWays_144 (by decide) rfl ?_
                refine ev_goto (tgt := 73) dX10_findWays_147 (by decide) ?_
                refine ev_pick (L' := [(5, vI (b + 1)), (4, vI (x)), (3, vI (t)), (2, vI (k)), (1, vI (p2 c)), (0, .ref (o))]) [0, 1, 3, 4, 5, 6] rfl ?_
                exact ihb (b + 1) (by omega) (by omega) x (by omega) (by rw [fbest_s (by omega), ← hb, if_neg (fun q => absurd q.1 (by (try dsimp only); rw [hbt, hfy]; decide))]) (by omega)
              · exact absurd (show (0 : Int) ≤ x by omega) c132
          · refine ev_iand dX10_findWays_87 ?_
            refine ev_ren (b := 1) (by rw [bit_1 (by omega) (by omega) (by omega) (by omega), hbt]; rfl) ?_
            refine ev_if_ne (tgt := 125) dX10_findWays_88 (by decide) (by decide) (fun _ => ?_) (fun c => absurd c (by decide))
            refine ev_iconst dX10_findWays_125 ?_
            refine ev_istore (L' := [(6, vI (0)), (5, vI (b)), (4, vI (x)), (3, vI (t)), (2, vI (k)), (1, vI (p2 c)), (0, .ref (o))]) dX10_findWays_126 (by decide) rfl ?_
            refine ev_iload 0 rfl dX10_findWays_128 ?_
            refine ev_iload 2 rfl dX10_findWays_130 ?_
            refine ev_icmp_le (tgt := 140) dX10_findWays_132 (by decide) (by first | assumption | exact hR _ _ | exact hRS1 _ _ | exact hRS5 _ _ | exact hRS57 _ _ | decide | (simp only [InR]; omega)) (by decide) (fun c132 => ?_) (fun c132 => ?_)
            · refine ev_iload 2 rfl dX10_findWays_140 ?_
              refine ev_istore (L' := [(4, vI (x)), (6, vI (0)), (5, vI (b)), (3, vI (t)), (2, vI (k)), (1, vI (p2 c)), (0, .ref (o))]) dX10_findWays_142 (by decide) rfl ?_
              refine ev_iinc (L' := [(5, vI (b + 1)), (4, vI (x)), (6, vI (0)), (3, vI (t)), (2, vI (k)), (1, vI (p2 c)), (0, .ref (o))]) 2 rfl dX10_findWays_144 (by decide) rfl ?_
              refine ev_goto (tgt := 73) dX10_findWays_147 (by decide) ?_
              refine ev_pick (L' := [(5, vI (b + 1)), (4, vI (x)), (3, vI (t)), (2, vI (k)), (1, vI (p2 c)), (0, .ref (o))]) [0, 1, 3, 4, 5, 6] rfl ?_
              exact ihb (b + 1) (by omega) (by omega) x (by omega) (by rw [fbest_s (by omega), ← hb, if_neg (fun q => absurd q.1 (by (try dsimp only); rw [hbt]; simp))]) (by omega)
            · exact absurd (show (0 : Int) ≤ x by omega) c132
  · refine ev_aload_n 2 rfl dX10_findWays_14 ?_
    refine mg_89 hM3 dX10_findWays_15 ?_
    refine ev_sipush dX10_findWays_18 (by decide) ?_
    refine ev_aload_n 2 rfl dX10_findWays_21 ?_
    refine mgE_254 (v := c) hM3 (by rw [hx4 21 (by decide), gc]) dX10_findWays_22 ?_
    refine ev_imul dX10_findWays_25 ?_
    refine ev_iload_n 0 rfl dX10_findWays_26 ?_
    refine ev_iadd dX10_findWays_27 ?_
    refine ev_iconst dX10_findWays_28 ?_
    refine m_st (k := 32) hM3 (by decide) dX10_findWays_29 (by omega) (by show _ < ((11264 : Nat) : Int); omega) (by decide) (fun S65 h66 eS67 hM68 => ?_)
    have hRS65 := hM68.2.2.2.2
    refine ev_iinc (L' := [(2, vI (t + 1)), (1, vI (p2 c)), (0, .ref (o))]) 0 rfl dX10_findWays_30 (by decide) rfl ?_
    refine ev_goto (tgt := 9) dX10_findWays_33 (by decide) ?_
    exact iht (t + 1) (by omega) (by omega) S65 h66 (by omega) hM68 (by rw [eS67]; exact eqx.up (l := [32]) hx4 (by decide)) (fun u u0 u1 => by rw [eS67]; by_cases hu : u = t; (rw [hu]; exact upS_at); (rw [upS_nz (by omega)]; exact h1 u u0 (by omega)))
