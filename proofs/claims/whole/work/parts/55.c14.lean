set_option maxHeartbeats 4000000 in
set_option maxRecDepth 100000 in
theorem k_sqFar (E : EV) {h : AH} {a b : Int} (ga : -1000000000 ≤ a ∧ a ≤ 1000000000) (gb : -1000000000 ≤ b ∧ b ≤ 1000000000) : CM E yX2_squareOfFar cX2_squareOfFar 2 (some .long) 0 0 0 [vI (a), vI (b)] h (qPL (a * a + b * b) h) := by
  have y1 := mul_b (a := a) (b := a) (A := 1000000000) (B := 1000000000) ga ga (by decide)
  have y2 := mul_b (a := b) (b := b) (A := 1000000000) (B := 1000000000) gb gb (by decide)
  refine CM.of (by decide) (Nat.le_of_ble_eq_true rfl) (L := [(0, vI (a)), (1, vI (b))]) rfl ?_
  refine ev_iload_n 0 rfl dX2_squareOfFar_0 ?_
  refine ev_i2l dX2_squareOfFar_1 (by first | assumption | exact hR _ _ | decide | (simp only [InR]; omega)) ?_
  refine ev_iload_n 0 rfl dX2_squareOfFar_2 ?_
  refine ev_i2l dX2_squareOfFar_3 (by first | assumption | exact hR _ _ | decide | (simp only [InR]; omega)) ?_
  refine ev_lmul dX2_squareOfFar_4 ?_
  refine ev_iload_n 1 rfl dX2_squareOfFar_5 ?_
  refine ev_i2l dX2_squareOfFar_6 (by first | assumption | exact hR _ _ | decide | (simp only [InR]; omega)) ?_
  refine ev_iload_n 1 rfl dX2_squareOfFar_7 ?_
  refine ev_i2l dX2_squareOfFar_8 (by first | assumption | exact hR _ _ | decide | (simp only [InR]; omega)) ?_
  refine ev_lmul dX2_squareOfFar_9 ?_
  refine ev_ladd dX2_squareOfFar_10 ?_
  refine ev_lreturn dX2_squareOfFar_11 ?_
  exact ⟨rfl, rfl⟩

def folC (S : MS) (v a b : Int) : Prop := 0 < S 67 a ∧ 0 < S 67 b ∧ S 59 a < S 59 b ∧ (S 60 b - S 60 a) * (S 60 b - S 60 a) + (S 61 b - S 61 a) * (S 61 b - S 61 a) ≤ (v * (S 59 b - S 59 a)) * (v * (S 59 b - S 59 a))
set_option maxHeartbeats 4000000 in
set_option maxRecDepth 100000 in
theorem k_canBe {E : EV} {h : AH} {A : AD} {S : MS} {a b v : Int} (hC : CR E A S h) (ga : 0 ≤ a ∧ a < 10) (gb : 0 ≤ b ∧ b < 10) (ba : ((-10000 ≤ S 59 a ∧ S 59 a ≤ 10000) ∧ (-1600000 ≤ S 60 a ∧ S 60 a ≤ 1600000) ∧ -1600000 ≤ S 61 a ∧ S 61 a ≤ 1600000)) (bb : ((-10000 ≤ S 59 b ∧ S 59 b ≤ 10000) ∧ (-1600000 ≤ S 60 b ∧ S 60 b ≤ 1600000) ∧ -1600000 ≤ S 61 b ∧ S 61 b ≤ 1600000)) (gv : 1 ≤ v ∧ v ≤ 60) : CM E yX2_canBeFollowedBy cX2_canBeFollowedBy 5 (some .boolean) 1 0 0 [.ref (A 19 a), .ref (A 19 b), vI (v)] h (qB (folC S v a b) h) := by
  have hR := hC.2.2
  have y1 := mul_b (a := S 60 b - S 60 a) (b := S 60 b - S 60 a) (A := 3200000) (B := 3200000) (by omega) (by omega) (by decide)
  have y2 := mul_b (a := S 61 b - S 61 a) (b := S 61 b - S 61 a) (A := 3200000) (B := 3200000) (by omega) (by omega) (by decide)
  have y3 := mul_b (a := v) (b := S 59 b - S 59 a) (A := 60) (B := 20000) (by omega) (by omega) (by decide)
  have y4 := mul_b (a := v * (S 59 b - S 59 a)) (b := v * (S 59 b - S 59 a)) (A := 1200000) (B := 1200000) (by omega) (by omega) (by decide)
  refine CM.of (by decide) (Nat.le_of_ble_eq_true rfl) (L := [(0, .ref (A 19 a)), (1, .ref (A 19 b)), (2, vI (v))]) rfl ?_
  refine ev_aload_n 0 rfl dX2_canBeFollowedBy_0 ?_
  refine c_X2_65 (k_hasPlace (k := a) hC (by omega)) (hC.k19 (by omega)) rfl rfl (Nat.le_of_ble_eq_true rfl) (by decide) dX2_canBeFollowedBy_1 (kB (fun b1 => ?_) (fun b1 => ?_))
  · refine ev_if_eq (tgt := 25) dX2_canBeFollowedBy_4 (by decide) (by decide) (fun c => absurd c (by decide)) (fun _ => ?_)
    refine ev_aload_n 1 rfl dX2_canBeFollowedBy_7 ?_
    refine c_X2_65 (k_hasPlace (k := b) hC (by omega)) (hC.k19 (by omega)) rfl rfl (Nat.le_of_ble_eq_true rfl) (by decide) dX2_canBeFollowedBy_8 (kB (fun b8 => ?_) (fun b8 => ?_))
    · refine ev_if_eq (tgt := 25) dX2_canBeFollowedBy_11 (by decide) (by decide) (fun c => absurd c (by decide)) (fun _ => ?_)
      refine ev_aload_n 1 rfl dX2_canBeFollowedBy_14 ?_
      refine cg_X2_62 hC (by omega) dX2_canBeFollowedBy_15 ?_
      refine ev_aload_n 0 rfl dX2_canBeFollowedBy_18 ?_
      refine cg_X2_62 hC (by omega) dX2_canBeFollowedBy_19 ?_
      refine ev_icmp_gt (tgt := 27) dX2_canBeFollowedBy_22 (by first | assumption | exact hR _ _ | decide | (simp only [InR]; omega)) (by first | assumption | exact hR _ _ | decide | (simp only [InR]; omega)) (by decide) (fun c22 => ?_) (fun c22 => ?_)
      · refine ev_iload_n 2 rfl dX2_canBeFollowedBy_27 ?_
        refine ev_i2l dX2_canBeFollowedBy_28 (by first | assumption | exact hR _ _ | decide | (simp only [InR]; omega)) ?_
        refine ev_aload_n 1 rfl dX2_canBeFollowedBy_29 ?_
        refine cg_X2_62 hC (by omega) dX2_canBeFollowedBy_30 ?_
        refine ev_aload_n 0 rfl dX2_canBeFollowedBy_33 ?_
        refine cg_X2_62 hC (by omega) dX2_canBeFollowedBy_34 ?_
        refine ev_isub dX2_canBeFollowedBy_37 ?_
        refine ev_i2l dX2_canBeFollowedBy_38 (by first | assumption | exact hR _ _ | decide | (simp only [InR]; omega)) ?_
        refine ev_lmul dX2_canBeFollowedBy_39 ?_
        refine ev_lstore_n (L' := [(3, vL (v * ((S 59 b) - (S 59 a)))), (0, .ref (A 19 a)), (1, .ref (A 19 b)), (2, vI (v))]) dX2_canBeFollowedBy_40 (by decide) rfl ?_
        refine ev_aload_n 2 rfl dX2_canBeFollowedBy_41 ?_
        refine cg_X2_18 hC (by omega) dX2_canBeFollowedBy_42 ?_
        refine ev_aload_n 1 rfl dX2_canBeFollowedBy_45 ?_
        refine cg_X2_18 hC (by omega) dX2_canBeFollowedBy_46 ?_
        refine ev_isub dX2_canBeFollowedBy_49 ?_
        refine ev_aload_n 2 rfl dX2_canBeFollowedBy_50 ?_
        refine cg_X2_21 hC (by omega) dX2_canBeFollowedBy_51 ?_
        refine ev_aload_n 1 rfl dX2_canBeFollowedBy_54 ?_
        refine cg_X2_21 hC (by omega) dX2_canBeFollowedBy_55 ?_
        refine ev_isub dX2_canBeFollowedBy_58 ?_
        refine c_X2_69 (k_sqFar E (a := (S 60 b) - (S 60 a)) (b := (S 61 b) - (S 61 a)) (by omega) (by omega)) rfl rfl (Nat.le_of_ble_eq_true rfl) (by decide) dX2_canBeFollowedBy_59 (kPL ?_)
        refine ev_lload_n 0 rfl dX2_canBeFollowedBy_62 ?_
        refine ev_lload_n 0 rfl dX2_canBeFollowedBy_63 ?_
        refine ev_lmul dX2_canBeFollowedBy_64 ?_
        refine ev_lcmp_gt (tgt := 73) dX2_canBeFollowedBy_65 dX2_canBeFollowedBy_66 (by first | assumption | exact hR _ _ | exact (hR _ _).l | decide | (simp only [InL]; omega)) (by first | assumption | exact hR _ _ | exact (hR _ _).l | decide | (simp only [InL]; omega)) (by decide) (fun c65 => ?_) (fun c65 => ?_)
        · refine ev_iconst dX2_canBeFollowedBy_73 ?_
          refine ev_zreturn (by decide) dX2_canBeFollowedBy_74 ?_
          exact ⟨rfl, Or.inr ⟨rfl, fun q => by unfold folC at q; omega⟩⟩
        · refine ev_iconst dX2_canBeFollowedBy_69 ?_
          refine ev_goto (tgt := 74) dX2_canBeFollowedBy_70 (by decide) ?_
          refine ev_zreturn (by decide) dX2_canBeFollowedBy_74 ?_
          exact ⟨rfl, Or.inl ⟨rfl, by unfold folC; omega⟩⟩
      · refine ev_iconst dX2_canBeFollowedBy_25 ?_
        refine ev_zreturn (by decide) dX2_canBeFollowedBy_26 ?_
        exact ⟨rfl, Or.inr ⟨rfl, fun q => by unfold folC at q; omega⟩⟩
    · refine ev_if_eq (tgt := 25) dX2_canBeFollowedBy_11 (by decide) (by decide) (fun _ => ?_) (fun c => absurd c (by decide))
      refine ev_iconst dX2_canBeFollowedBy_25 ?_
      refine ev_zreturn (by decide) dX2_canBeFollowedBy_26 ?_
      exact ⟨rfl, Or.inr ⟨rfl, fun q => by unfold folC at q; omega⟩⟩
  · refine ev_if_eq (tgt := 25) dX2_canBeFollowedBy_4 (by decide) (by decide) (fun _ => ?_) (fun c => absurd c (by decide))
    refine ev_iconst dX2_canBeFollowedBy_25 ?_
    refine ev_zreturn (by decide) dX2_canBeFollowedBy_26 ?_
    exact ⟨rfl, Or.inr ⟨rfl, fun q => by unfold folC at q; omega⟩⟩

/-- the bits of whom each can be followed by -/
def FoP (F : Int → Int → Bool) (a b x : Int) : Prop := (0 ≤ x ∧ x < 1024) ∧ ∀ u, 0 ≤ u → tb x u = (decide (u < b) && F a u)
theorem Fo_0 {F : Int → Int → Bool} {a : Int} : FoP F a 0 0 := ⟨by decide, fun u hu => by rw [tb_0, decide_eq_false (show ¬ u < 0 by omega)]; rfl⟩
theorem Fo_y {F : Int → Int → Bool} {a b x : Int} (h : FoP F a b x) (b0 : 0 ≤ b) (b1 : b < 10) (hF : F a b = true) : FoP F a (b + 1) (orZ x (shlZ 1 b)) := by
  obtain ⟨h1, h2⟩ := orZ_b h.1.1 h.1.2 b0 b1
  refine ⟨h1, fun u hu => ?_⟩
  rw [h2 u hu, h.2 u hu]
  by_cases e : u = b
  · subst e
    rw [decide_eq_true (show u < u + 1 by omega), hF]
    simp
  · rw [decide_eq_false e, Bool.or_false]
    by_cases e2 : u < b
    · rw [decide_eq_true e2, decide_eq_true (show u < b + 1 by omega)]
    · rw [decide_eq_false e2, decide_eq_false (show ¬ u < b + 1 by omega)]
theorem Fo_n {F : Int → Int → Bool} {a b x : Int} (h : FoP F a b x) (hF : F a b = false) : FoP F a (b + 1) x := by
  refine ⟨h.1, fun u hu => ?_⟩
  rw [h.2 u hu]
  by_cases e : u = b
  · subst e
    rw [hF]
    simp
  · by_cases e2 : u < b
    · rw [decide_eq_true e2, decide_eq_true (show u < b + 1 by omega)]
    · rw [decide_eq_false e2, decide_eq_false (show ¬ u < b + 1 by omega)]

set_option maxHeartbeats 4000000 in
set_option maxRecDepth 100000 in
theorem k_findFollowers {E : EV} {h : AH} {A : AD} {S : MS} {F : Int → Int → Bool} {me : Int → Int} {c v : Int} (hC : CR E A S h) (gc : S 57 0 = c) (gc1 : 0 ≤ c ∧ c ≤ 10) (hbd : ∀ k : Int, 0 ≤ k → k < c → ((-10000 ≤ S 59 k ∧ S 59 k ≤ 10000) ∧ (-1600000 ≤ S 60 k ∧ S 60 k ≤ 1600000) ∧ -1600000 ≤ S 61 k ∧ S 61 k ≤ 1600000)) (gv : 1 ≤ v ∧ v ≤ 60) (hF : ∀ a b : Int, 0 ≤ a → a < c → 0 ≤ b → b < c → (F a b = true ↔ folC S v a b)) (hpm : ∀ k : Int, 0 ≤ k → k < c → (0 < S 67 k ↔ 1 < me k)) : CM E yX6_findFollowers cX6_findFollowers 5 (some .int) 2 0 0 [.ref (A 11 0), vI (v)] h (qI (fun z h' => z = sumI (plc me) c ∧ ∃ S', CR E A S' h' ∧ eqx [54] S S' ∧ ∀ u : Int, 0 ≤ u → u < c → FoP F u c (S' 54 u))) := by
  have hR := hC.2.2
  refine CM.of (by decide) (Nat.le_of_ble_eq_true rfl) (L := [(0, .ref (A 11 0)), (1, vI (v))]) rfl ?_
  refine ev_iconst dX6_findFollowers_0 ?_
  refine ev_istore_n (L' := [(2, vI (0)), (0, .ref (A 11 0)), (1, vI (v))]) dX6_findFollowers_1 (by decide) rfl ?_
  refine ev_iconst dX6_findFollowers_2 ?_
  refine ev_istore_n (L' := [(3, vI (0)), (2, vI (0)), (0, .ref (A 11 0)), (1, vI (v))]) dX6_findFollowers_3 (by decide) rfl ?_
  refine up_ind (P := fun a : Int => ∀ (pl : Int) (S1 : MS) (h2 : AH), 0 ≤ a → CR E A S1 h2 → eqx [54] S S1 → pl = sumI (plc me) a → (0 ≤ pl ∧ pl ≤ a) → (∀ u : Int, 0 ≤ u → u < a → FoP F u c (S1 54 u)) → Ev E RX6 cX6_findFollowers 5 (some .int) "findFollowers" (qI (fun z h' => z = sumI (plc me) c ∧ ∃ S', CR E A S' h' ∧ eqx [54] S S' ∧ ∀ u : Int, 0 ≤ u → u < c → FoP F u c (S' 54 u))) 2 0 0 4 [(3, vI (a)), (2, vI (pl)), (0, .ref (A 11 0)), (1, vI (v))] [] h2) (N := c) ?_ 0 (by omega) 0 S h (by omega) hC eqx.rf (rfl) (by omega) (fun u u0 u1 => absurd u0 (by omega))
  intro a iha haN pl S1 h2 pa hM3 hx4 hpl hplb hfo
  have hRS1 := hM3.2.2
  refine ev_iload_n 0 rfl dX6_findFollowers_4 ?_
  refine ev_aload_n 2 rfl dX6_findFollowers_5 ?_
  refine cgE_X6_51 (v := c) hM3 (by rw [hx4 57 (by decide), gc]) dX6_findFollowers_6 ?_
  refine ev_icmp_ge (tgt := 96) dX6_findFollowers_9 (by first | assumption | exact hR _ _ | exact hRS1 _ _ | decide | (simp only [InR]; omega)) (by first | assumption | exact hR _ _ | exact hRS1 _ _ | decide | (simp only [InR]; omega)) (by decide) (fun c9 => ?_) (fun c9 => ?_)
  · refine ev_iload_n 1 rfl dX6_findFollowers_96 ?_
    refine ev_ireturn dX6_findFollowers_97 ?_
    exact ⟨_, rfl, by rw [hpl, show a = c by omega], S1, hM3, (eqx.tr (l := [54]) (eqx.rf (l := [54]) (S := S)) hx4 (by decide) (by decide)), by rw [show a = c by omega] at hfo; exact hfo⟩
  · refine ev_iload_n 1 rfl dX6_findFollowers_12 ?_
    refine ev_aload_n 2 rfl dX6_findFollowers_13 ?_
    refine cg_X6_11 hM3 dX6_findFollowers_14 ?_
    refine ev_iload_n 0 rfl dX6_findFollowers_17 ?_
    refine c_aa12 hM3 dX6_findFollowers_18 (by omega) (by omega) ?_
    refine c_X6_109 (k_hasPlace (k := a) hM3 (by omega)) (hM3.k19 (by omega)) rfl rfl (Nat.le_of_ble_eq_true rfl) (by decide) dX6_findFollowers_19 (kB (fun b19 => ?_) (fun b19 => ?_))
    · rw [hx4 67 (by decide)] at b19
      have pm := hpm a (by omega) (by omega)
      refine ev_if_eq (tgt := 29) dX6_findFollowers_22 (by decide) (by decide) (fun c => absurd c (by decide)) (fun _ => ?_)
      refine ev_iconst dX6_findFollowers_25 ?_
      refine ev_goto (tgt := 30) dX6_findFollowers_26 (by decide) ?_
      refine ev_iadd dX6_findFollowers_30 ?_
      refine ev_istore_n (L' := [(2, vI (pl + 1)), (3, vI (a)), (0, .ref (A 11 0)), (1, vI (v))]) dX6_findFollowers_31 (by decide) rfl ?_
      refine ev_aload_n 2 rfl dX6_findFollowers_32 ?_
      refine cg_X6_33 hM3 dX6_findFollowers_33 ?_
      refine ev_iload_n 1 rfl dX6_findFollowers_36 ?_
      refine ev_iconst dX6_findFollowers_37 ?_
      refine c_st (k := 17) (s := 54) hM3 (by decide) rfl (by decide) dX6_findFollowers_38 (by omega) (by show _ < ((10 : Nat) : Int); omega) (by decide) (fun S5 h6 eS7 hC8 => ?_)
      have hRS5 := hC8.2.2
      refine ev_iconst dX6_findFollowers_39 ?_
      refine ev_istore (L' := [(4, vI (0)), (2, vI (pl + 1)), (3, vI (a)), (0, .ref (A 11 0)), (1, vI (v))]) dX6_findFollowers_40 (by decide) rfl ?_
      refine up_ind (P := fun b : Int => ∀ (S9 : MS) (h10 : AH), 0 ≤ b → CR E A S9 h10 → eqx [54] S5 S9 → FoP F a b (S9 54 a) → (∀ u : Int, 0 ≤ u → u < a → FoP F u c (S9 54 u)) → Ev E RX6 cX6_findFollowers 5 (some .int) "findFollowers" (qI (fun z h' => z = sumI (plc me) c ∧ ∃ S', CR E A S' h' ∧ eqx [54] S S' ∧ ∀ u : Int, 0 ≤ u → u < c → FoP F u c (S' 54 u))) 2 0 0 42 [(4, vI (b)), (2, vI (pl + 1)), (3, vI (a)), (0, .ref (A 11 0)), (1, vI (v))] [] h10) (N := c) ?_ 0 (by omega)  S5 h6 (by omega) hC8 eqx.rf (by rw [eS7, upS_at]; exact Fo_0) (fun u u0 u1 => by rw [eS7, upS_nz (by omega)]; exact hfo u u0 u1)
      intro b ihb hbN S9 h10 pb hM11 hx12 hfb hfx
      have hRS9 := hM11.2.2
      refine ev_iload 0 rfl dX6_findFollowers_42 ?_
      refine ev_aload_n 3 rfl dX6_findFollowers_44 ?_
      refine cgE_X6_51 (v := c) hM11 (by rw [hx12 57 (by decide), eS7, upS_ne (by decide), hx4 57 (by decide), gc]) dX6_findFollowers_45 ?_
      refine ev_icmp_ge (tgt := 90) dX6_findFollowers_48 (by first | assumption | exact hR _ _ | exact hRS1 _ _ | exact hRS5 _ _ | exact hRS9 _ _ | decide | (simp only [InR]; omega)) (by first | assumption | exact hR _ _ | exact hRS1 _ _ | exact hRS5 _ _ | exact hRS9 _ _ | decide | (simp only [InR]; omega)) (by decide) (fun c48 => ?_) (fun c48 => ?_)
      · refine ev_iinc (L' := [(3, vI (a + 1)), (4, vI (b)), (2, vI (pl + 1)), (0, .ref (A 11 0)), (1, vI (v))]) 2 rfl dX6_findFollowers_90 (by decide) rfl ?_
        refine ev_goto (tgt := 4) dX6_findFollowers_93 (by decide) ?_
        refine ev_pick (L' := [(3, vI (a + 1)), (2, vI (pl + 1)), (0, .ref (A 11 0)), (1, vI (v))]) [0, 2, 3, 4] rfl ?_
        exact iha (a + 1) (by omega) (by omega) (pl + 1) S9 h10 (by omega) hM11 (eqx.tr (l := [54]) (by rw [eS7]; exact eqx.up (l := [54]) hx4 (by decide)) hx12 (by decide) (by decide)) (by rw [sumI_s _ (by omega), ← hpl]; unfold plc; rw [if_pos (by omega)]) (by omega) (fun u u0 u1 => (Int.lt_or_eq_of_le (show u ≤ a by omega)).elim (fun q => hfx u u0 q) (fun q => by subst q; rw [show c = b by omega]; exact hfb))
      · refine ev_aload_n 3 rfl dX6_findFollowers_51 ?_
        refine cg_X6_11 hM11 dX6_findFollowers_52 ?_
        refine ev_iload_n 2 rfl dX6_findFollowers_55 ?_
        refine c_aa12 hM11 dX6_findFollowers_56 (by omega) (by omega) ?_
        refine ev_aload_n 3 rfl dX6_findFollowers_57 ?_
        refine cg_X6_11 hM11 dX6_findFollowers_58 ?_
        refine ev_iload 0 rfl dX6_findFollowers_61 ?_
        refine c_aa12 hM11 dX6_findFollowers_63 (by omega) (by omega) ?_
        refine ev_iload_n 4 rfl dX6_findFollowers_64 ?_
        have e67_S9 : S9 67 = S 67 := by rw [hx12 67 (by decide), eS7, upS_ne (by decide), hx4 67 (by decide)]
        have e59_S9 : S9 59 = S 59 := by rw [hx12 59 (by decide), eS7, upS_ne (by decide), hx4 59 (by decide)]
        have e60_S9 : S9 60 = S 60 := by rw [hx12 60 (by decide), eS7, upS_ne (by decide), hx4 60 (by decide)]
        have e61_S9 : S9 61 = S 61 := by rw [hx12 61 (by decide), eS7, upS_ne (by decide), hx4 61 (by decide)]
        refine c_X6_113 (k_canBe (a := a) (b := b) (v := v) hM11 (by omega) (by omega) (by rw [e59_S9, e60_S9, e61_S9]; exact hbd a (by omega) (by omega)) (by rw [e59_S9, e60_S9, e61_S9]; exact hbd b (by omega) (by omega)) gv) (hM11.k19 (by omega)) rfl rfl (Nat.le_of_ble_eq_true rfl) (by decide) dX6_findFollowers_65 (kB (fun b65 => ?_) (fun b65 => ?_))
        · unfold folC at b65
          rw [e67_S9, e59_S9, e60_S9, e61_S9] at b65
          have hfy : F a b = true := (hF a b (by omega) (by omega) (by omega) (by omega)).mpr b65
          refine ev_if_eq (tgt := 84) dX6_findFollowers_68 (by decide) (by decide) (fun c => absurd c (by decide)) (fun _ => ?_)
          refine ev_aload_n 3 rfl dX6_findFollowers_71 ?_
          refine cg_X6_33 hM11 dX6_findFollowers_72 ?_
          refine ev_iload_n 2 rfl dX6_findFollowers_75 ?_
          refine ev_dup2 dX6_findFollowers_76 rfl rfl ?_
          refine c_ld (k := 17) (s := 54) hM11 (by decide) rfl dX6_findFollowers_77 (by omega) (by show _ < ((10 : Nat) : Int); omega) ?_
          refine ev_iconst dX6_findFollowers_78 ?_
          refine ev_iload 0 rfl dX6_findFollowers_79 ?_
          refine ev_ishl dX6_findFollowers_81 ?_
          refine ev_ior dX6_findFollowers_82 ?_
          have oz : InR (orZ (S9 54 a) (shlZ 1 b)) := iI_in _
          refine c_st (k := 17) (s := 54) hM11 (by decide) rfl (by decide) dX6_findFollowers_83 (by omega) (by show _ < ((10 : Nat) : Int); omega) (by first | assumption | exact hR _ _ | exact hRS1 _ _ | exact hRS5 _ _ | exact hRS9 _ _ | decide | (simp only [InR]; omega)) (fun S13 h14 eS15 hC16 => ?_)
          have hRS13 := hC16.2.2
          refine ev_iinc (L' := [(4, vI (b + 1)), (2, vI (pl + 1)), (3, vI (a)), (0, .ref (A 11 0)), (1, vI (v))]) 0 rfl dX6_findFollowers_84 (by decide) rfl ?_
          refine ev_goto (tgt := 42) dX6_findFollowers_87 (by decide) ?_
          exact ihb (b + 1) (by omega) (by omega) S13 h14 (by omega) hC16 (by rw [eS15]; exact eqx.up (l := [54]) hx12 (by decide)) (by rw [eS15, upS_at]; exact Fo_y hfb (by omega) (by omega) hfy) (fun u u0 u1 => by rw [eS15, upS_nz (by omega)]; exact hfx u u0 u1)
        · unfold folC at b65
          rw [e67_S9, e59_S9, e60_S9, e61_S9] at b65
          have hfy : F a b = false := (Bool.eq_false_or_eq_true _).elim (fun q => absurd ((hF a b (by omega) (by omega) (by omega) (by omega)).mp q) b65) id
          refine ev_if_eq (tgt := 84) dX6_findFollowers_68 (by decide) (by decide) (fun _ => ?_) (fun c => absurd c (by decide))
          refine ev_iinc (L' := [(4, vI (b + 1)), (2, vI (pl + 1)), (3, vI (a)), (0, .ref (A 11 0)), (1, vI (v))]) 0 rfl dX6_findFollowers_84 (by decide) rfl ?_
          refine ev_goto (tgt := 42) dX6_findFollowers_87 (by decide) ?_
          exact ihb (b + 1) (by omega) (by omega) S9 h10 (by omega) hM11 hx12 (Fo_n hfb hfy) (hfx)
    · rw [hx4 67 (by decide)] at b19
      have pm := hpm a (by omega) (by omega)
      refine ev_if_eq (tgt := 29) dX6_findFollowers_22 (by decide) (by decide) (fun _ => ?_) (fun c => absurd c (by decide))
      refine ev_iconst dX6_findFollowers_29 ?_
      refine ev_iadd dX6_findFollowers_30 ?_
      refine ev_istore_n (L' := [(2, vI (pl + 0)), (3, vI (a)), (0, .ref (A 11 0)), (1, vI (v))]) dX6_findFollowers_31 (by decide) rfl ?_
      refine ev_aload_n 2 rfl dX6_findFollowers_32 ?_
      refine cg_X6_33 hM3 dX6_findFollowers_33 ?_
      refine ev_iload_n 1 rfl dX6_findFollowers_36 ?_
      refine ev_iconst dX6_findFollowers_37 ?_
      refine c_st (k := 17) (s := 54) hM3 (by decide) rfl (by decide) dX6_findFollowers_38 (by omega) (by show _ < ((10 : Nat) : Int); omega) (by decide) (fun S17 h18 eS19 hC20 => ?_)
      have hRS17 := hC20.2.2
      refine ev_iconst dX6_findFollowers_39 ?_
      refine ev_istore (L' := [(4, vI (0)), (2, vI (pl + 0)), (3, vI (a)), (0, .ref (A 11 0)), (1, vI (v))]) dX6_findFollowers_40 (by decide) rfl ?_
      refine up_ind (P := fun b : Int => ∀ (S21 : MS) (h22 : AH), 0 ≤ b → CR E A S21 h22 → eqx [54] S17 S21 → FoP F a b (S21 54 a) → (∀ u : Int, 0 ≤ u → u < a → FoP F u c (S21 54 u)) → Ev E RX6 cX6_findFollowers 5 (some .int) "findFollowers" (qI (fun z h' => z = sumI (plc me) c ∧ ∃ S', CR E A S' h' ∧ eqx [54] S S' ∧ ∀ u : Int, 0 ≤ u → u < c → FoP F u c (S' 54 u))) 2 0 0 42 [(4, vI (b)), (2, vI (pl + 0)), (3, vI (a)), (0, .ref (A 11 0)), (1, vI (v))] [] h22) (N := c) ?_ 0 (by omega)  S17 h18 (by omega) hC20 eqx.rf (by rw [eS19, upS_at]; exact Fo_0) (fun u u0 u1 => by rw [eS19, upS_nz (by omega)]; exact hfo u u0 u1)
      intro b ihb hbN S21 h22 pb hM23 hx24 hfb hfx
      have hRS21 := hM23.2.2
      refine ev_iload 0 rfl dX6_findFollowers_42 ?_
      refine ev_aload_n 3 rfl dX6_findFollowers_44 ?_
      refine cgE_X6_51 (v := c) hM23 (by rw [hx24 57 (by decide), eS19, upS_ne (by decide), hx4 57 (by decide), gc]) dX6_findFollowers_45 ?_
      refine ev_icmp_ge (tgt := 90) dX6_findFollowers_48 (by first | assumption | exact hR _ _ | exact hRS1 _ _ | exact hRS17 _ _ | exact hRS21 _ _ | decide | (simp only [InR]; omega)) (by first | assumption | exact hR _ _ | exact hRS1 _ _ | exact hRS17 _ _ | exact hRS21 _ _ | decide | (simp only [InR]; omega)) (by decide) (fun c48 => ?_) (fun c48 => ?_)
      · refine ev_iinc (L' := [(3, vI (a + 1)), (4, vI (b)), (2, vI (pl + 0)), (0, .ref (A 11 0)), (1, vI (v))]) 2 rfl dX6_findFollowers_90 (by decide) rfl ?_
        refine ev_goto (tgt := 4) dX6_findFollowers_93 (by decide) ?_
        refine ev_pick (L' := [(3, vI (a + 1)), (2, vI (pl + 0)), (0, .ref (A 11 0)), (1, vI (v))]) [0, 2, 3, 4] rfl ?_
        exact iha (a + 1) (by omega) (by omega) (pl + 0) S21 h22 (by omega) hM23 (eqx.tr (l := [54]) (by rw [eS19]; exact eqx.up (l := [54]) hx4 (by decide)) hx24 (by decide) (by decide)) (by rw [sumI_s _ (by omega), ← hpl]; unfold plc; rw [if_neg (by omega)]) (by omega) (fun u u0 u1 => (Int.lt_or_eq_of_le (show u ≤ a by omega)).elim (fun q => hfx u u0 q) (fun q => by subst q; rw [show c = b by omega]; exact hfb))
      · refine ev_aload_n 3 rfl dX6_findFollowers_51 ?_
        refine cg_X6_11 hM23 dX6_findFollowers_52 ?_
        refine ev_iload_n 2 rfl dX6_findFollowers_55 ?_
        refine c_aa12 hM23 dX6_findFollowers_56 (by omega) (by omega) ?_
        refine ev_aload_n 3 rfl dX6_findFollowers_57 ?_
        refine cg_X6_11 hM23 dX6_findFollowers_58 ?_
        refine ev_iload 0 rfl dX6_findFollowers_61 ?_
        refine c_aa12 hM23 dX6_findFollowers_63 (by omega) (by omega) ?_
        refine ev_iload_n 4 rfl dX6_findFollowers_64 ?_
        have e67_S21 : S21 67 = S 67 := by rw [hx24 67 (by decide), eS19, upS_ne (by decide), hx4 67 (by decide)]
        have e59_S21 : S21 59 = S 59 := by rw [hx24 59 (by decide), eS19, upS_ne (by decide), hx4 59 (by decide)]
        have e60_S21 : S21 60 = S 60 := by rw [hx24 60 (by decide), eS19, upS_ne (by decide), hx4 60 (by decide)]
        have e61_S21 : S21 61 = S 61 := by rw [hx24 61 (by decide), eS19, upS_ne (by decide), hx4 61 (by decide)]
        refine c_X6_113 (k_canBe (a := a) (b := b) (v := v) hM23 (by omega) (by omega) (by rw [e59_S21, e60_S21, e61_S21]; exact hbd a (by omega) (by omega)) (by rw [e59_S21, e60_S21, e61_S21]; exact hbd b (by omega) (by omega)) gv) (hM23.k19 (by omega)) rfl rfl (Nat.le_of_ble_eq_true rfl) (by decide) dX6_findFollowers_65 (kB (fun b65 => ?_) (fun b65 => ?_))
        · unfold folC at b65
          rw [e67_S21, e59_S21, e60_S21, e61_S21] at b65
          have hfy : F a b = true := (hF a b (by omega) (by omega) (by omega) (by omega)).mpr b65
          refine ev_if_eq (tgt := 84) dX6_findFollowers_68 (by decide) (by decide) (fun c => absurd c (by decide)) (fun _ => ?_)
          refine ev_aload_n 3 rfl dX6_findFollowers_71 ?_
          refine cg_X6_33 hM23 dX6_findFollowers_72 ?_
          refine ev_iload_n 2 rfl dX6_findFollowers_75 ?_
          refine ev_dup2 dX6_findFollowers_76 rfl rfl ?_
          refine c_ld (k := 17) (s := 54) hM23 (by decide) rfl dX6_findFollowers_77 (by omega) (by show _ < ((10 : Nat) : Int); omega) ?_
          refine ev_iconst dX6_findFollowers_78 ?_
          refine ev_iload 0 rfl dX6_findFollowers_79 ?_
          refine ev_ishl dX6_findFollowers_81 ?_
          refine ev_ior dX6_findFollowers_82 ?_
          have oz : InR (orZ (S21 54 a) (shlZ 1 b)) := iI_in _
          refine c_st (k := 17) (s := 54) hM23 (by decide) rfl (by decide) dX6_findFollowers_83 (by omega) (by show _ < ((10 : Nat) : Int); omega) (by first | assumption | exact hR _ _ | exact hRS1 _ _ | exact hRS17 _ _ | exact hRS21 _ _ | decide | (simp only [InR]; omega)) (fun S25 h26 eS27 hC28 => ?_)
          have hRS25 := hC28.2.2
          refine ev_iinc (L' := [(4, vI (b + 1)), (2, vI (pl + 0)), (3, vI (a)), (0, .ref (A 11 0)), (1, vI (v))]) 0 rfl dX6_findFollowers_84 (by decide) rfl ?_
          refine ev_goto (tgt := 42) dX6_findFollowers_87 (by decide) ?_
          exact ihb (b + 1) (by omega) (by omega) S25 h26 (by omega) hC28 (by rw [eS27]; exact eqx.up (l := [54]) hx24 (by decide)) (by rw [eS27, upS_at]; exact Fo_y hfb (by omega) (by omega) hfy) (fun u u0 u1 => by rw [eS27, upS_nz (by omega)]; exact hfx u u0 u1)
        · unfold folC at b65
          rw [e67_S21, e59_S21, e60_S21, e61_S21] at b65
          have hfy : F a b = false := (Bool.eq_false_or_eq_true _).elim (fun q => absurd ((hF a b (by omega) (by omega) (by omega) (by omega)).mp q) b65) id
          refine ev_if_eq (tgt := 84) dX6_findFollowers_68 (by decide) (by decide) (fun _ => ?_) (fun c => absurd c (by decide))
          refine ev_iinc (L' := [(4, vI (b + 1)), (2, vI (pl + 0)), (3, vI (a)), (0, .ref (A 11 0)), (1, vI (v))]) 0 rfl dX6_findFollowers_84 (by decide) rfl ?_
          refine ev_goto (tgt := 42) dX6_findFollowers_87 (by decide) ?_
          exact ihb (b + 1) (by omega) (by omega) S21 h22 (by omega) hM23 hx24 (Fo_n hfb hfy) (hfx)

set_option maxHeartbeats 4000000 in
set_option maxRecDepth 100000 in
theorem ml_zero {E : EV} {h : AH} {A : AD} {S : MS} {F : Int → Int → Bool} {c k t : Int} (hC : CR E A S h) (gc : S 57 0 = c) (gc1 : 0 ≤ c ∧ c ≤ 10) (hfo : ∀ u : Int, 0 ≤ u → u < c → FoP F u c (S 54 u)) (gt : 0 ≤ t ∧ t < p2 c) (gk : 0 ≤ k) (hk : c ≤ k) (gk2 : k ≤ 20) : CM E yX6_mostLinks cX6_mostLinks 5 (some .int) 1 0 0 [.ref (A 11 0), vI (k), vI (t)] h (qP 0 h) := by
  have hR := hC.2.2
  have hp := p2_b gc1.2
  refine CM.of (by decide) (Nat.le_of_ble_eq_true rfl) (L := [(0, .ref (A 11 0)), (1, vI (k)), (2, vI (t))]) rfl ?_
  refine ev_iload_n 1 rfl dX6_mostLinks_0 ?_
  refine ev_aload_n 0 rfl dX6_mostLinks_1 ?_
  refine cgE_X6_51 (v := c) hC (by rw [gc]) dX6_mostLinks_2 ?_
  refine ev_icmp_lt (tgt := 10) dX6_mostLinks_5 (by first | assumption | exact hR _ _ | decide | (simp only [InR]; omega)) (by first | assumption | exact hR _ _ | decide | (simp only [InR]; omega)) (by decide) (fun c5 => ?_) (fun c5 => ?_)
  · exact absurd c5 (by omega)
  · refine ev_iconst dX6_mostLinks_8 ?_
    refine ev_ireturn dX6_mostLinks_9 ?_
    exact ⟨rfl, rfl⟩

set_option maxHeartbeats 4000000 in
set_option maxRecDepth 100000 in
theorem ml_succ {E : EV} {h : AH} {A : AD} {S : MS} {F : Int → Int → Bool} {c k t : Int} {m : Nat} (hC : CR E A S h) (gc : S 57 0 = c) (gc1 : 0 ≤ c ∧ c ≤ 10) (hfo : ∀ u : Int, 0 ≤ u → u < c → FoP F u c (S 54 u)) (gt : 0 ≤ t ∧ t < p2 c) (gk : 0 ≤ k) (hk : c - k = ((m + 1 : Nat) : Int)) (ih : ∀ t : Int, 0 ≤ t → t < p2 c → CM E yX6_mostLinks cX6_mostLinks 5 (some .int) (m + 1) 0 0 [.ref (A 11 0), vI (k + 1), vI t] h (qP (mL F c (c - 1 - k).toNat t) h)) : CM E yX6_mostLinks cX6_mostLinks 5 (some .int) (m + 2) 0 0 [.ref (A 11 0), vI (k), vI (t)] h (qP (mL F c (c - k).toNat t) h) := by
  have hR := hC.2.2
  have hp := p2_b gc1.2
  refine CM.of (by decide) (Nat.le_of_ble_eq_true rfl) (L := [(0, .ref (A 11 0)), (1, vI (k)), (2, vI (t))]) rfl ?_
  refine ev_iload_n 1 rfl dX6_mostLinks_0 ?_
  refine ev_aload_n 0 rfl dX6_mostLinks_1 ?_
  refine cgE_X6_51 (v := c) hC (by rw [gc]) dX6_mostLinks_2 ?_
  refine ev_icmp_lt (tgt := 10) dX6_mostLinks_5 (by first | assumption | exact hR _ _ | decide | (simp only [InR]; omega)) (by first | assumption | exact hR _ _ | decide | (simp only [InR]; omega)) (by decide) (fun c5 => ?_) (fun c5 => ?_)
  · refine ev_aload_n 0 rfl dX6_mostLinks_10 ?_
    refine ev_iload_n 1 rfl dX6_mostLinks_11 ?_
    refine ev_iconst dX6_mostLinks_12 ?_
    refine ev_iadd dX6_mostLinks_13 ?_
    refine ev_iload_n 2 rfl dX6_mostLinks_14 ?_
    have mb15 := mL_b (F := F) (c := c) (c - 1 - k).toNat (t)
    refine c_X6_66 (ih (t) (by omega) (by omega)) hC.k11 rfl rfl (Nat.le_of_ble_eq_true rfl) (by omega) dX6_mostLinks_15 (kP ?_)
    refine ev_istore_n (L' := [(3, vI (mL F c (c - 1 - k).toNat t)), (0, .ref (A 11 0)), (1, vI (k)), (2, vI (t))]) dX6_mostLinks_18 (by decide) rfl ?_
    refine ev_iconst dX6_mostLinks_19 ?_
    refine ev_istore (L' := [(4, vI (0)), (3, vI (mL F c (c - 1 - k).toNat t)), (0, .ref (A 11 0)), (1, vI (k)), (2, vI (t))]) dX6_mostLinks_20 (by decide) rfl ?_
    refine up_ind (P := fun b : Int => ∀ (x : Int), 0 ≤ b → x = fbest (fun b => !tb t b && F k b) (fun b => 1 + mL F c (c - 1 - k).toNat (orZ t (shlZ 1 b))) (mL F c (c - 1 - k).toNat t) b.toNat → (0 ≤ x ∧ x ≤ 11) → Ev E RX6 cX6_mostLinks 5 (some .int) "mostLinks" (qP (mL F c (c - k).toNat t) h) (m + 2) 0 0 22 [(4, vI (b)), (3, vI (x)), (0, .ref (A 11 0)), (1, vI (k)), (2, vI (t))] [] h) (N := c) ?_ 0 (by omega) (mL F c (c - 1 - k).toNat t) (by omega) (rfl) (by omega)
    intro b ihb hbN x pb hb hxb
    refine ev_iload 0 rfl dX6_mostLinks_22 ?_
    refine ev_aload_n 2 rfl dX6_mostLinks_24 ?_
    refine cgE_X6_51 (v := c) hC (by rw [gc]) dX6_mostLinks_25 ?_
    refine ev_icmp_ge (tgt := 75) dX6_mostLinks_28 (by first | assumption | exact hR _ _ | decide | (simp only [InR]; omega)) (by first | assumption | exact hR _ _ | decide | (simp only [InR]; omega)) (by decide) (fun c28 => ?_) (fun c28 => ?_)
    · refine ev_iload_n 1 rfl dX6_mostLinks_75 ?_
      refine ev_ireturn dX6_mostLinks_76 ?_
      exact ⟨rfl, congrArg (fun z => some (vI z)) (by rw [hb, mL_s (by omega), show b = c by omega])⟩
    · refine ev_aload_n 2 rfl dX6_mostLinks_31 ?_
      refine cg_X6_33 hC dX6_mostLinks_32 ?_
      refine ev_iload_n 3 rfl dX6_mostLinks_35 ?_
      refine c_ld (k := 17) (s := 54) hC (by decide) rfl dX6_mostLinks_36 (by omega) (by show _ < ((10 : Nat) : Int); omega) ?_
      refine ev_iload_n 4 rfl dX6_mostLinks_37 ?_
      refine ev_iconst dX6_mostLinks_38 ?_
      refine ev_ixor dX6_mostLinks_39 ?_
      refine ev_iand dX6_mostLinks_40 ?_
      refine ev_iconst dX6_mostLinks_41 ?_
      refine ev_iload 0 rfl dX6_mostLinks_42 ?_
      refine ev_ishl dX6_mostLinks_44 ?_
      refine ev_iand dX6_mostLinks_45 ?_
      have oz : InR (andZ (andZ (S 54 k) (xorZ t (-1))) (shlZ 1 b)) := iI_in _
      have hfk := hfo k (by omega) (by omega)
      have bf := bit_free hfk.1 (show 0 ≤ t ∧ t < 1024 by omega) (show 0 ≤ b ∧ b < 10 by omega)
      rw [hfk.2 b (by omega), decide_eq_true (show b < c by omega), Bool.true_and] at bf
      refine ev_if_eq (tgt := 69) dX6_mostLinks_46 (by first | assumption | exact hR _ _ | decide | (simp only [InR]; omega)) (by decide) (fun c46 => ?_) (fun c46 => ?_)
      · refine ev_iinc (L' := [(4, vI (b + 1)), (3, vI (x)), (0, .ref (A 11 0)), (1, vI (k)), (2, vI (t))]) 0 rfl dX6_mostLinks_69 (by decide) rfl ?_
        refine ev_goto (tgt := 22) dX6_mostLinks_72 (by decide) ?_
        exact ihb (b + 1) (by omega) (by omega) x (by omega) (by rw [fbest_s (by omega), ← hb, if_neg (fun z => bf.mp c46 (by have z1 := z.1; rw [Bool.and_eq_true, Bool.not_eq_true'] at z1; exact ⟨z1.2, z1.1⟩))]) (by omega)
      · refine ev_iload_n 1 rfl dX6_mostLinks_49 ?_
        refine ev_iconst dX6_mostLinks_50 ?_
        refine ev_aload_n 2 rfl dX6_mostLinks_51 ?_
        refine ev_iload_n 3 rfl dX6_mostLinks_52 ?_
        refine ev_iconst dX6_mostLinks_53 ?_
        refine ev_iadd dX6_mostLinks_54 ?_
        refine ev_iload_n 4 rfl dX6_mostLinks_55 ?_
        refine ev_iconst dX6_mostLinks_56 ?_
        refine ev_iload 0 rfl dX6_mostLinks_57 ?_
        refine ev_ishl dX6_mostLinks_59 ?_
        refine ev_ior dX6_mostLinks_60 ?_
        have op := orZ_p (t := t) (b := b) (c := c) (by omega) (by omega) (by omega) (by omega) (by omega)
        have mb61 := mL_b (F := F) (c := c) (c - 1 - k).toNat (orZ t (shlZ 1 b))
        refine c_X6_66 (ih (orZ t (shlZ 1 b)) (by omega) (by omega)) hC.k11 rfl rfl (Nat.le_of_ble_eq_true rfl) (by omega) dX6_mostLinks_61 (kP ?_)
        refine ev_iadd dX6_mostLinks_64 ?_
        refine c_X6_87 (j_max E (a := x) (b := 1 + (mL F c (c - 1 - k).toNat (orZ t (shlZ 1 b)))) (by first | assumption | exact hR _ _ | decide | (simp only [InR]; omega)) (by first | assumption | exact hR _ _ | decide | (simp only [InR]; omega))) rfl rfl (Nat.le_of_ble_eq_true rfl) (by omega) dX6_mostLinks_65 (kP ?_)
        refine ev_istore_n (L' := [(3, vI (max x (1 + (mL F c (c - 1 - k).toNat (orZ t (shlZ 1 b)))))), (4, vI (b)), (0, .ref (A 11 0)), (1, vI (k)), (2, vI (t))]) dX6_mostLinks_68 (by decide) rfl ?_
        refine ev_iinc (L' := [(4, vI (b + 1)), (3, vI (max x (1 + (mL F c (c - 1 - k).toNat (orZ t (shlZ 1 b)))))), (0, .ref (A 11 0)), (1, vI (k)), (2, vI (t))]) 1 rfl dX6_mostLinks_69 (by decide) rfl ?_
        refine ev_goto (tgt := 22) dX6_mostLinks_72 (by decide) ?_
        exact ihb (b + 1) (by omega) (by omega) (max x (1 + (mL F c (c - 1 - k).toNat (orZ t (shlZ 1 b))))) (by omega) (by rw [fbest_s (by omega), ← hb]; have q := Classical.not_not.mp (fun z => c46 (bf.mpr z)); by_cases hlt : x < 1 + mL F c (c - 1 - k).toNat (orZ t (shlZ 1 b)); (rw [if_pos ⟨by rw [q.1, q.2]; rfl, hlt⟩]; omega); (rw [if_neg (fun z => hlt z.2)]; omega)) (by omega)
  · exact absurd (show k < c by omega) c5

theorem k_mostLinks {E : EV} {h : AH} {A : AD} {S : MS} {F : Int → Int → Bool} {c : Int} (hC : CR E A S h) (gc : S 57 0 = c) (gc1 : 0 ≤ c ∧ c ≤ 10) (hfo : ∀ u : Int, 0 ≤ u → u < c → FoP F u c (S 54 u)) : ∀ (m : Nat) (k t : Int), 0 ≤ k → c - k = (m : Int) → 0 ≤ t → t < p2 c → CM E yX6_mostLinks cX6_mostLinks 5 (some .int) (m + 1) 0 0 [.ref (A 11 0), vI k, vI t] h (qP (mL F c (c - k).toNat t) h) := by
  intro m
  induction m with
  | zero =>
    intro k t k0 hk t0 t1
    rw [show (c - k).toNat = 0 by omega]
    exact ml_zero hC gc gc1 hfo ⟨t0, t1⟩ k0 (by omega) (by omega)
  | succ m ih =>
    intro k t k0 hk t0 t1
    refine ml_succ hC gc gc1 hfo ⟨t0, t1⟩ k0 hk (fun t2 a0 a1 => ?_)
    have h2 := ih (k + 1) t2 (by omega) (by omega) a0 a1
    rw [show c - (k + 1) = c - 1 - k by omega] at h2
    exact h2
