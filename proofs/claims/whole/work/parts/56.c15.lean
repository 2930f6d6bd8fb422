def nbD (F : Int → Int → Bool) (c k t due : Int) : Int → Bool := fun b => !tb t b && F k b && decide (1 + mL F c (c - 1 - k).toNat (orZ t (shlZ 1 b)) = due)
theorem nbD_e {F : Int → Int → Bool} {c k t : Int} : nbD F c k t (mL F c (c - k).toNat t) = nbB F c k t := rfl
/-- where nothing follows, nothing is lost by it -/
theorem mL_none {F : Int → Int → Bool} {c k t : Int} (hc : 0 ≤ c) (hk : k < c) (h : nbZ F c k t < 0) : mL F c (c - k).toNat t = mL F c (c - 1 - k).toNat t := by
  have h2 := mL_s (F := F) (t := t) hk
  rcases fbest_or (p := fun b => !tb t b && F k b) (g := fun b => 1 + mL F c (c - 1 - k).toNat (orZ t (shlZ 1 b))) (e := mL F c (c - 1 - k).toNat t) c.toNat with q | ⟨b, b0, b1, b2, b3⟩
  · rw [h2, q]
  · rw [b3] at h2
    have hb : nbB F c k t b = true := by
      unfold nbB
      rw [b2, decide_eq_true h2.symm]
      rfl
    have hs := (scanI_ne (p := nbB F c k t) (N := c) hb (by omega) 0 b0).resolve_right (by omega)
    rcases scanI_b (nbB F c k t) 0 hc with w | w
    · exact absurd w hs
    · have e : nbZ F c k t = scanI (nbB F c k t) 0 c := rfl
      omega

set_option maxHeartbeats 4000000 in
set_option maxRecDepth 100000 in
theorem k_firstFollower {E : EV} {h : AH} {A : AD} {S : MS} {F : Int → Int → Bool} {c k t due : Int} (hC : CR E A S h) (gc : S 57 0 = c) (gc1 : 0 ≤ c ∧ c ≤ 10) (hfo : ∀ u : Int, 0 ≤ u → u < c → FoP F u c (S 54 u)) (gt : 0 ≤ t ∧ t < p2 c) (gk : 0 ≤ k ∧ k < c) (gd : InR due) : CM E yX6_firstFollower cX6_firstFollower 6 (some .int) 12 0 0 [.ref (A 11 0), vI (k), vI (t), vI (due)] h (qP (if scanI (nbD F c k t due) 0 c < 0 then -4 else scanI (nbD F c k t due) 0 c) h) := by
  have hR := hC.2.2
  have hp := p2_b gc1.2
  refine CM.of (by decide) (Nat.le_of_ble_eq_true rfl) (L := [(0, .ref (A 11 0)), (1, vI (k)), (2, vI (t)), (3, vI (due))]) rfl ?_
  refine ev_iconst dX6_firstFollower_0 ?_
  refine ev_istore (L' := [(4, vI (0)), (0, .ref (A 11 0)), (1, vI (k)), (2, vI (t)), (3, vI (due))]) dX6_firstFollower_1 (by decide) rfl ?_
  refine up_ind (P := fun b : Int => 0 ≤ b → scanI (nbD F c k t due) 0 c = scanI (nbD F c k t due) b c → Ev E RX6 cX6_firstFollower 6 (some .int) "firstFollower" (qP (if scanI (nbD F c k t due) 0 c < 0 then -4 else scanI (nbD F c k t due) 0 c) h) 12 0 0 3 [(4, vI (b)), (0, .ref (A 11 0)), (1, vI (k)), (2, vI (t)), (3, vI (due))] [] h) (N := c) ?_ 0 (by omega)  (by omega) (rfl)
  intro b ihb hbN pb hsc
  refine ev_iload 0 rfl dX6_firstFollower_3 ?_
  refine ev_aload_n 1 rfl dX6_firstFollower_5 ?_
  refine cgE_X6_51 (v := c) hC (by rw [gc]) dX6_firstFollower_6 ?_
  refine ev_icmp_ge (tgt := 70) dX6_firstFollower_9 (by first | assumption | exact hR _ _ | decide | (simp only [InR]; omega)) (by first | assumption | exact hR _ _ | decide | (simp only [InR]; omega)) (by decide) (fun c9 => ?_) (fun c9 => ?_)
  · refine ev_bipush dX6_firstFollower_70 (by decide) ?_
    refine ev_ireturn dX6_firstFollower_72 ?_
    exact ⟨rfl, congrArg (fun z => some (vI z)) (by rw [hsc, scanI_end _ (by omega)]; rfl)⟩
  · refine ev_aload_n 1 rfl dX6_firstFollower_12 ?_
    refine cg_X6_33 hC dX6_firstFollower_13 ?_
    refine ev_iload_n 2 rfl dX6_firstFollower_16 ?_
    refine c_ld (k := 17) (s := 54) hC (by decide) rfl dX6_firstFollower_17 (by omega) (by show _ < ((10 : Nat) : Int); omega) ?_
    refine ev_iload_n 3 rfl dX6_firstFollower_18 ?_
    refine ev_iconst dX6_firstFollower_19 ?_
    refine ev_ixor dX6_firstFollower_20 ?_
    refine ev_iand dX6_firstFollower_21 ?_
    refine ev_iconst dX6_firstFollower_22 ?_
    refine ev_iload 0 rfl dX6_firstFollower_23 ?_
    refine ev_ishl dX6_firstFollower_25 ?_
    refine ev_iand dX6_firstFollower_26 ?_
    have oz : InR (andZ (andZ (S 54 k) (xorZ t (-1))) (shlZ 1 b)) := iI_in _
    have hfk := hfo k (by omega) (by omega)
    have bf := bit_free hfk.1 (show 0 ≤ t ∧ t < 1024 by omega) (show 0 ≤ b ∧ b < 10 by omega)
    rw [hfk.2 b (by omega), decide_eq_true (show b < c by omega), Bool.true_and] at bf
    refine ev_if_eq (tgt := 34) dX6_firstFollower_27 (by first | assumption | exact hR _ _ | decide | (simp only [InR]; omega)) (by decide) (fun c27 => ?_) (fun c27 => ?_)
    · refine ev_iconst dX6_firstFollower_34 ?_
      refine ev_istore (L' := [(5, vI (0)), (4, vI (b)), (0, .ref (A 11 0)), (1, vI (k)), (2, vI (t)), (3, vI (due))]) dX6_firstFollower_35 (by decide) rfl ?_
      refine ev_iload 0 rfl dX6_firstFollower_37 ?_
      refine ev_if_eq (tgt := 64) dX6_firstFollower_39 (by decide) (by decide) (fun _ => ?_) (fun c => absurd c (by decide))
      refine ev_iinc (L' := [(4, vI (b + 1)), (5, vI (0)), (0, .ref (A 11 0)), (1, vI (k)), (2, vI (t)), (3, vI (due))]) 1 rfl dX6_firstFollower_64 (by decide) rfl ?_
      refine ev_goto (tgt := 3) dX6_firstFollower_67 (by decide) ?_
      refine ev_pick (L' := [(4, vI (b + 1)), (0, .ref (A 11 0)), (1, vI (k)), (2, vI (t)), (3, vI (due))]) [0, 2, 3, 4, 5] rfl ?_
      exact ihb (b + 1) (by omega) (by omega) (by omega) (by rw [hsc, scanI_s _ (by omega), if_neg (fun z => bf.mp c27 (by unfold nbD at z; rw [Bool.and_eq_true, Bool.and_eq_true, Bool.not_eq_true'] at z; exact ⟨z.1.2, z.1.1⟩))])
    · have hfr := Classical.not_not.mp (fun z => c27 (bf.mpr z))
      refine ev_iconst dX6_firstFollower_30 ?_
      refine ev_goto (tgt := 35) dX6_firstFollower_31 (by decide) ?_
      refine ev_istore (L' := [(5, vI (1)), (4, vI (b)), (0, .ref (A 11 0)), (1, vI (k)), (2, vI (t)), (3, vI (due))]) dX6_firstFollower_35 (by decide) rfl ?_
      refine ev_iload 0 rfl dX6_firstFollower_37 ?_
      refine ev_if_eq (tgt := 64) dX6_firstFollower_39 (by decide) (by decide) (fun c => absurd c (by decide)) (fun _ => ?_)
      refine ev_iconst dX6_firstFollower_42 ?_
      refine ev_aload_n 2 rfl dX6_firstFollower_43 ?_
      refine ev_iload_n 3 rfl dX6_firstFollower_44 ?_
      refine ev_iconst dX6_firstFollower_45 ?_
      refine ev_iadd dX6_firstFollower_46 ?_
      refine ev_iload_n 4 rfl dX6_firstFollower_47 ?_
      refine ev_iconst dX6_firstFollower_48 ?_
      refine ev_iload 1 rfl dX6_firstFollower_49 ?_
      refine ev_ishl dX6_firstFollower_51 ?_
      refine ev_ior dX6_firstFollower_52 ?_
      have op := orZ_p (t := t) (b := b) (c := c) (by omega) (by omega) (by omega) (by omega) (by omega)
      have mb53 := mL_b (F := F) (c := c) (c - 1 - k).toNat (orZ t (shlZ 1 b))
      have hk1 := k_mostLinks hC gc gc1 hfo (c - (k + 1)).toNat (k + 1) (orZ t (shlZ 1 b)) (by omega) (by omega) (by omega) (by omega)
      rw [show c - (k + 1) = c - 1 - k by omega] at hk1
      refine c_X6_66 hk1 hC.k11 rfl rfl (Nat.le_of_ble_eq_true rfl) (by omega) dX6_firstFollower_53 (kP ?_)
      refine ev_iadd dX6_firstFollower_56 ?_
      refine ev_iload_n 5 rfl dX6_firstFollower_57 ?_
      refine ev_icmp_ne (tgt := 64) dX6_firstFollower_58 (by first | assumption | exact hR _ _ | decide | (simp only [InR]; omega)) (by first | assumption | exact hR _ _ | decide | (simp only [InR]; omega)) (by decide) (fun c58 => ?_) (fun c58 => ?_)
      · refine ev_iinc (L' := [(4, vI (b + 1)), (5, vI (1)), (0, .ref (A 11 0)), (1, vI (k)), (2, vI (t)), (3, vI (due))]) 1 rfl dX6_firstFollower_64 (by decide) rfl ?_
        refine ev_goto (tgt := 3) dX6_firstFollower_67 (by decide) ?_
        refine ev_pick (L' := [(4, vI (b + 1)), (0, .ref (A 11 0)), (1, vI (k)), (2, vI (t)), (3, vI (due))]) [0, 2, 3, 4, 5] rfl ?_
        exact ihb (b + 1) (by omega) (by omega) (by omega) (by rw [hsc, scanI_s _ (by omega), if_neg (by unfold nbD; rw [hfr.1, hfr.2, decide_eq_false (by omega)]; decide)])
      · refine ev_iload 1 rfl dX6_firstFollower_61 ?_
        refine ev_ireturn dX6_firstFollower_63 ?_
        have hsv : scanI (nbD F c k t due) 0 c = b := by rw [hsc, scanI_s _ (by omega), if_pos (by unfold nbD; rw [hfr.1, hfr.2, decide_eq_true (by omega)]; rfl)]
        exact ⟨rfl, congrArg (fun z => some (vI z)) (by rw [hsv, if_neg (by omega)])⟩

set_option maxHeartbeats 4000000 in
set_option maxRecDepth 100000 in
theorem k_joinWays {E : EV} {h : AH} {A : AD} {S : MS} {F : Int → Int → Bool} {me : Int → Int} {c v : Int} (hC : CR E A S h) (gc : S 57 0 = c) (gc1 : 0 ≤ c ∧ c ≤ 10) (hbd : ∀ k : Int, 0 ≤ k → k < c → ((-10000 ≤ S 59 k ∧ S 59 k ≤ 10000) ∧ (-1600000 ≤ S 60 k ∧ S 60 k ≤ 1600000) ∧ -1600000 ≤ S 61 k ∧ S 61 k ≤ 1600000)) (gv : 1 ≤ v ∧ v ≤ 60) (hF : ∀ a b : Int, 0 ≤ a → a < c → 0 ≤ b → b < c → (F a b = true ↔ folC S v a b)) (hpm : ∀ k : Int, 0 ≤ k → k < c → (0 < S 67 k ↔ 1 < me k)) : CM E yX6_joinWays cX6_joinWays 8 (some .int) 13 0 0 [.ref (A 11 0), vI (v)] h (qI (fun z h' => z = sumI (plc me) c - mL F c c.toNat 0 ∧ ∃ S', CR E A S' h' ∧ eqx [54, 64] S S' ∧ ∀ k : Int, 0 ≤ k → k < c → S' 64 k = nxA F c k)) := by
  have hR := hC.2.2
  have hp := p2_b gc1.2
  refine CM.of (by decide) (Nat.le_of_ble_eq_true rfl) (L := [(0, .ref (A 11 0)), (1, vI (v))]) rfl ?_
  refine ev_aload_n 0 rfl dX6_joinWays_0 ?_
  refine ev_iload_n 1 rfl dX6_joinWays_1 ?_
  refine c_X6_62 (k_findFollowers (F := F) (me := me) (c := c) (v := v) hC gc gc1 hbd gv hF hpm) hC.k11 rfl rfl (Nat.le_of_ble_eq_true rfl) (by decide) dX6_joinWays_2 (kI (fun z1 h2 hqz1 => ?_))
  obtain ⟨hpz, S3, hC4, ex5, hfo⟩ := hqz1
  have hRS3 := hC4.2.2
  have sb := sumI_b (f := plc me) (a := 0) (b := 1) gc1.1 (fun k _ _ => by unfold plc; split <;> omega)
  have gcS : S3 57 0 = c := by rw [ex5 57 (by decide)]; exact gc
  refine ev_ren (b := sumI (plc me) c) hpz ?_
  refine ev_istore_n (L' := [(2, vI (sumI (plc me) c)), (0, .ref (A 11 0)), (1, vI (v))]) dX6_joinWays_5 (by decide) rfl ?_
  refine ev_aload_n 1 rfl dX6_joinWays_6 ?_
  refine ev_iconst dX6_joinWays_7 ?_
  refine ev_iconst dX6_joinWays_8 ?_
  have mb0 := mL_b (F := F) (c := c) c.toNat 0
  have hm0 := k_mostLinks hC4 gcS gc1 hfo c.toNat 0 0 (by omega) (by omega) (by omega) (by omega)
  rw [Int.sub_zero] at hm0
  refine c_X6_66 hm0 hC4.k11 rfl rfl (Nat.le_of_ble_eq_true rfl) (by omega) dX6_joinWays_9 (kP ?_)
  refine ev_istore_n (L' := [(3, vI (mL F c c.toNat 0)), (2, vI (sumI (plc me) c)), (0, .ref (A 11 0)), (1, vI (v))]) dX6_joinWays_12 (by decide) rfl ?_
  refine ev_iload_n 0 rfl dX6_joinWays_13 ?_
  refine ev_istore (L' := [(4, vI (mL F c c.toNat 0)), (3, vI (mL F c c.toNat 0)), (2, vI (sumI (plc me) c)), (0, .ref (A 11 0)), (1, vI (v))]) dX6_joinWays_14 (by decide) rfl ?_
  refine ev_iconst dX6_joinWays_16 ?_
  refine ev_istore (L' := [(5, vI (0)), (4, vI (mL F c c.toNat 0)), (3, vI (mL F c c.toNat 0)), (2, vI (sumI (plc me) c)), (0, .ref (A 11 0)), (1, vI (v))]) dX6_joinWays_17 (by decide) rfl ?_
  refine ev_iconst dX6_joinWays_19 ?_
  refine ev_istore (L' := [(6, vI (0)), (5, vI (0)), (4, vI (mL F c c.toNat 0)), (3, vI (mL F c c.toNat 0)), (2, vI (sumI (plc me) c)), (0, .ref (A 11 0)), (1, vI (v))]) dX6_joinWays_20 (by decide) rfl ?_
  refine up_ind (P := fun k : Int => ∀ (tk : Int) (du : Int) (S6 : MS) (h7 : AH), 0 ≤ k → CR E A S6 h7 → eqx [64] S3 S6 → tk = tkZ F c k → du = mL F c (c - k).toNat tk → (∀ u : Int, 0 ≤ u → u < k → S6 64 u = nxA F c u) → ((0 ≤ tk ∧ tk < p2 c) ∧ 0 ≤ du ∧ du ≤ 10) → Ev E RX6 cX6_joinWays 8 (some .int) "joinWays" (qI (fun z h' => z = sumI (plc me) c - mL F c c.toNat 0 ∧ ∃ S', CR E A S' h' ∧ eqx [54, 64] S S' ∧ ∀ k : Int, 0 ≤ k → k < c → S' 64 k = nxA F c k)) 13 0 0 22 [(6, vI (k)), (5, vI (tk)), (4, vI (du)), (3, vI (mL F c c.toNat 0)), (2, vI (sumI (plc me) c)), (0, .ref (A 11 0)), (1, vI (v))] [] h7) (N := c) ?_ 0 (by omega) 0 (mL F c c.toNat 0) S3 h2 (by omega) hC4 eqx.rf (rfl) (by rw [Int.sub_zero]) (fun u u0 u1 => absurd u0 (by omega)) (by omega)
  intro k ihk hkN tk du S6 h7 pk hM8 hx9 htk hdu hnx htb
  have hRS6 := hM8.2.2
  refine ev_iload 0 rfl dX6_joinWays_22 ?_
  refine ev_aload_n 5 rfl dX6_joinWays_24 ?_
  refine cgE_X6_51 (v := c) hM8 (by rw [hx9 57 (by decide), ex5 57 (by decide), gc]) dX6_joinWays_25 ?_
  refine ev_icmp_ge (tgt := 80) dX6_joinWays_28 (by first | assumption | exact hR _ _ | exact hRS3 _ _ | exact hRS6 _ _ | decide | (simp only [InR]; omega)) (by first | assumption | exact hR _ _ | exact hRS3 _ _ | exact hRS6 _ _ | decide | (simp only [InR]; omega)) (by decide) (fun c28 => ?_) (fun c28 => ?_)
  · refine ev_iload_n 4 rfl dX6_joinWays_80 ?_
    refine ev_iload_n 3 rfl dX6_joinWays_81 ?_
    refine ev_isub dX6_joinWays_82 ?_
    refine ev_ireturn dX6_joinWays_83 ?_
    exact ⟨_, rfl, rfl, S6, hM8, (eqx.tr (l := [54, 64]) (eqx.tr (l := [54, 64]) (eqx.rf (l := [54, 64]) (S := S)) ex5 (by decide) (by decide)) hx9 (by decide) (by decide)), by rw [show k = c by omega] at hnx; exact hnx⟩
  · refine ev_aload_n 5 rfl dX6_joinWays_31 ?_
    refine ev_iload 0 rfl dX6_joinWays_32 ?_
    refine ev_iload 1 rfl dX6_joinWays_34 ?_
    refine ev_iload 2 rfl dX6_joinWays_36 ?_
    refine c_X6_70 (k_firstFollower (F := F) (c := c) (k := k) (t := tk) (due := du) hM8 (by rw [hx9 57 (by decide)]; exact gcS) gc1 (fun u u0 u1 => by rw [hx9 54 (by decide)]; exact hfo u u0 u1) (by omega) (by omega) (by simp only [InR]; omega)) hM8.k11 rfl rfl (Nat.le_of_ble_eq_true rfl) (by omega) dX6_joinWays_38 (kP ?_)
    have hnb : (if scanI (nbD F c k tk du) 0 c < 0 then -4 else scanI (nbD F c k tk du) 0 c) = nxA F c k := by unfold nxA nbZ; rw [← htk, hdu, nbD_e]
    have hnr := nxA_r (F := F) (k := k) gc1
    refine ev_ren (b := nxA F c k) hnb ?_
    refine ev_istore (L' := [(7, vI (nxA F c k)), (6, vI (k)), (5, vI (tk)), (4, vI (du)), (3, vI (mL F c c.toNat 0)), (2, vI (sumI (plc me) c)), (0, .ref (A 11 0)), (1, vI (v))]) dX6_joinWays_41 (by decide) rfl ?_
    refine ev_aload_n 6 rfl dX6_joinWays_43 ?_
    refine cg_X6_11 hM8 dX6_joinWays_44 ?_
    refine ev_iload 1 rfl dX6_joinWays_47 ?_
    refine c_aa12 hM8 dX6_joinWays_49 (by omega) (by omega) ?_
    refine ev_iload 0 rfl dX6_joinWays_50 ?_
    refine cp_X6_74 hM8 (by omega) (by first | assumption | exact hR _ _ | exact hRS3 _ _ | exact hRS6 _ _ | decide | (simp only [InR]; omega)) dX6_joinWays_52 (fun S10 h11 eS12 hC13 => ?_)
    have hRS10 := hC13.2.2
    refine ev_iload 0 rfl dX6_joinWays_55 ?_
    refine ev_bipush dX6_joinWays_57 (by decide) ?_
    have hcs : (nbZ F c k tk < 0 ∧ nxA F c k = -4) ∨ (0 ≤ nbZ F c k tk ∧ nbZ F c k tk < c ∧ nxA F c k = nbZ F c k tk ∧ 1 + mL F c (c - 1 - k).toNat (orZ tk (shlZ 1 (nbZ F c k tk))) = du) := by
      unfold nxA
      rw [← htk]
      rcases scanI_b (nbB F c k tk) 0 gc1.1 with q | ⟨q1, q2, q3⟩
      · have e : nbZ F c k tk = -1 := q
        exact Or.inl ⟨by omega, by rw [if_pos (by omega)]⟩
      · have e : nbB F c k tk (nbZ F c k tk) = true := q3
        have e1 : 0 ≤ nbZ F c k tk ∧ nbZ F c k tk < c := ⟨q1, q2⟩
        unfold nbB at e
        rw [Bool.and_eq_true, decide_eq_true_iff] at e
        exact Or.inr ⟨e1.1, e1.2, by rw [if_neg (by omega)], by rw [hdu]; exact e.2⟩
    refine ev_icmp_eq (tgt := 74) dX6_joinWays_59 (by first | assumption | exact hR _ _ | exact hRS3 _ _ | exact hRS6 _ _ | exact hRS10 _ _ | decide | (simp only [InR]; omega)) (by decide) (by decide) (fun c59 => ?_) (fun c59 => ?_)
    · have hnn : nbZ F c k tk < 0 := (hcs.resolve_right (fun q => by omega)).1
      refine ev_iinc (L' := [(6, vI (k + 1)), (7, vI (nxA F c k)), (5, vI (tk)), (4, vI (du)), (3, vI (mL F c c.toNat 0)), (2, vI (sumI (plc me) c)), (0, .ref (A 11 0)), (1, vI (v))]) 1 rfl dX6_joinWays_74 (by decide) rfl ?_
      refine ev_goto (tgt := 22) dX6_joinWays_77 (by decide) ?_
      refine ev_pick (L' := [(6, vI (k + 1)), (5, vI (tk)), (4, vI (du)), (3, vI (mL F c c.toNat 0)), (2, vI (sumI (plc me) c)), (0, .ref (A 11 0)), (1, vI (v))]) [0, 2, 3, 4, 5, 6, 7] rfl ?_
      exact ihk (k + 1) (by omega) (by omega) tk du S10 h11 (by omega) hC13 (by rw [eS12]; exact eqx.up (l := [64]) hx9 (by decide)) (by rw [tkZ_s (by omega), ← htk, if_pos hnn]) (by rw [hdu, mL_none gc1.1 (by omega) hnn, show c - (k + 1) = c - 1 - k by omega]) (fun u u0 u1 => by rw [eS12]; by_cases hu : u = k; (rw [hu, upS_at]); (rw [upS_nz hu]; exact hnx u u0 (by omega))) (by omega)
    · obtain ⟨hb0, hb1, hnn, hb3⟩ := hcs.resolve_left (fun q => by omega)
      rw [← hnn] at hb0 hb1 hb3
      have mb1 := mL_b (F := F) (c := c) (c - 1 - k).toNat (orZ tk (shlZ 1 (nxA F c k)))
      refine ev_iload 2 rfl dX6_joinWays_62 ?_
      refine ev_iconst dX6_joinWays_64 ?_
      refine ev_iload 0 rfl dX6_joinWays_65 ?_
      refine ev_ishl dX6_joinWays_67 ?_
      refine ev_ior dX6_joinWays_68 ?_
      refine ev_istore (L' := [(5, vI (orZ tk (shlZ 1 (nxA F c k)))), (7, vI (nxA F c k)), (6, vI (k)), (4, vI (du)), (3, vI (mL F c c.toNat 0)), (2, vI (sumI (plc me) c)), (0, .ref (A 11 0)), (1, vI (v))]) dX6_joinWays_69 (by decide) rfl ?_
      refine ev_iinc (L' := [(4, vI (du + (-1))), (5, vI (orZ tk (shlZ 1 (nxA F c k)))), (7, vI (nxA F c k)), (6, vI (k)), (3, vI (mL F c c.toNat 0)), (2, vI (sumI (plc me) c)), (0, .ref (A 11 0)), (1, vI (v))]) 3 rfl dX6_joinWays_71 (by decide) rfl ?_
      refine ev_iinc (L' := [(6, vI (k + 1)), (4, vI (du + (-1))), (5, vI (orZ tk (shlZ 1 (nxA F c k)))), (7, vI (nxA F c k)), (3, vI (mL F c c.toNat 0)), (2, vI (sumI (plc me) c)), (0, .ref (A 11 0)), (1, vI (v))]) 3 rfl dX6_joinWays_74 (by decide) rfl ?_
      refine ev_goto (tgt := 22) dX6_joinWays_77 (by decide) ?_
      refine ev_pick (L' := [(6, vI (k + 1)), (5, vI (orZ tk (shlZ 1 (nxA F c k)))), (4, vI (du + (-1))), (3, vI (mL F c c.toNat 0)), (2, vI (sumI (plc me) c)), (0, .ref (A 11 0)), (1, vI (v))]) [0, 2, 1, 4, 5, 6, 7] rfl ?_
      exact ihk (k + 1) (by omega) (by omega) (orZ tk (shlZ 1 (nxA F c k))) (du + (-1)) S10 h11 (by omega) hC13 (by rw [eS12]; exact eqx.up (l := [64]) hx9 (by decide)) (by rw [tkZ_s (by omega), ← htk, if_neg (by omega), ← hnn]) (by rw [show c - (k + 1) = c - 1 - k by omega]; omega) (fun u u0 u1 => by rw [eS12]; by_cases hu : u = k; (rw [hu, upS_at]); (rw [upS_nz hu]; exact hnx u u0 (by omega))) (⟨orZ_p (by omega) (by omega) (by omega) (by omega) (by omega), by omega, by omega⟩)

theorem FB_c {S S2 : MS} {n c a b : Int} {r : List Int} (hN : 0 ≤ len0 (nightL S n) ∧ len0 (nightL S n) ≤ 10) (hcu : cuZ S n = (c, r)) (ha : PC S (nightL S n) r (len0 (nightL S n)) S2 a) (hb : PC S (nightL S n) r (len0 (nightL S n)) S2 b) : FB S n a b = true ↔ folC S2 (S 31 0) a b := by
  refine Iff.trans FB_iff ?_
  obtain ⟨a1, a2, a3, a4, a5, a6, a7, a8⟩ := ha
  obtain ⟨b1, b2, b3, b4, b5, b6, b7, b8⟩ := hb
  have pa := pr_me (r := r) (k := a) hN
  have pb := pr_me (r := r) (k := b) hN
  unfold folQ folC meS tiS avS
  rw [hcu, a2, a3, a4, a7, b2, b3, b4, b7, pa, pb]
theorem PC_b {S S2 : MS} {n c k : Int} {r : List Int} (hI : Inv S) (hcu : cuZ S n = (c, r)) (hok : Okl S (nightL S n) r (len0 (nightL S n))) (h : PC S (nightL S n) r (len0 (nightL S n)) S2 k) : (S2 59 k = tiS S n k ∧ S2 60 k = avS S n 0 k ∧ S2 61 k = avS S n 1 k) ∧ ((-10000 ≤ S2 59 k ∧ S2 59 k ≤ 10000) ∧ (-1600000 ≤ S2 60 k ∧ S2 60 k ≤ 1600000) ∧ -1600000 ≤ S2 61 k ∧ S2 61 k ≤ 1600000) := by
  have hb := S2_b (k := k) hI hcu hok
  obtain ⟨a1, a2, a3, a4, a5, a6, a7, a8⟩ := h
  have e1 : S2 59 k = tiS S n k := by rw [a7]; unfold tiS; rw [hcu]
  have e2 : S2 60 k = avS S n 0 k := by rw [a3]; unfold avS; rw [hcu]
  have e3 : S2 61 k = avS S n 1 k := by rw [a4]; unfold avS; rw [hcu]
  rw [e1, e2, e3]
  exact ⟨⟨rfl, rfl, rfl⟩, hb⟩

set_option maxHeartbeats 4000000 in
set_option maxRecDepth 100000 in
theorem k_ways {E : EV} {h : AH} {A : AD} {S : MS} {n : Int} (hC : CR E A S h) (hI : Inv S) (hJ : ∀ j, S 68 j < S 7 0) (g1 : InR n) : CM E yX9_ways cX9_ways 2 (some .int) 15 0 0 [.ref (A 0 0), vI (n)] h (qI (fun z h' => z = sp_ways S n ∧ ∃ S', CR E A S' h' ∧ eqx [50, 51, 52, 53, 54, 55, 56, 57, 58, 59, 60, 61, 62, 63, 64, 65, 66, 67, 68] S S' ∧ ∀ j, S' 68 j < S 7 0)) := by
  have hR := hC.2.2
  have hJ := hI
  obtain ⟨i1, i2, i3, i4, i5, i6, iSt, iSi, iWa, iSh, iLa, iS0, iS1, iZe⟩ := hJ
  refine CM.of (by decide) (Nat.le_of_ble_eq_true rfl) (L := [(0, .ref (A 0 0)), (1, vI (n))]) rfl ?_
  refine ev_iload_n 1 rfl dX9_ways_0 ?_
  refine c_X9_178 (k_isNight E (n := n) (by first | assumption | exact hR _ _ | decide | (simp only [InR]; omega))) rfl rfl (Nat.le_of_ble_eq_true rfl) (by decide) dX9_ways_1 (kB (fun b1 => ?_) (fun b1 => ?_))
  · refine ev_if_ne (tgt := 9) dX9_ways_4 (by decide) (by decide) (fun _ => ?_) (fun c => absurd c (by decide))
    refine ev_aload_n 0 rfl dX9_ways_9 ?_
    refine ev_iload_n 1 rfl dX9_ways_10 ?_
    obtain ⟨nb1, nb2⟩ := night_b (S := S) (n := n) hI
    refine c_X9_181 (k_lookAt (n := n) hC hI hJ (by first | assumption | exact hR _ _ | decide | (simp only [InR]; omega))) hC.k0 rfl rfl (Nat.le_of_ble_eq_true rfl) (by decide) dX9_ways_11 (kI (fun z1 h2 hqz1 => ?_))
    obtain ⟨S3, hC4, ex5, h68, ⟨hful, rfl⟩ | ⟨hful, r, hfw, hsk, hfc⟩⟩ := hqz1
    · have hRS3 := hC4.2.2
      have hxS3 : eqx scc S S3 := (eqx.rf (l := scc) (S := S)).tr ex5 (by decide) (by decide)
      have hIS3 := Inv.xc hI hxS3
      refine ev_bipush dX9_ways_14 (by decide) ?_
      refine ev_icmp_ne (tgt := 22) dX9_ways_16 (by decide) (by decide) (by decide) (fun c16 => ?_) (fun c16 => ?_)
      · exact absurd rfl c16
      · refine ev_bipush dX9_ways_19 (by decide) ?_
        refine ev_ireturn dX9_ways_21 ?_
        refine ⟨_, rfl, ?_, S3, hC4, (eqx.tr (l := [50, 51, 52, 53, 54, 55, 56, 57, 58, 59, 60, 61, 62, 63, 64, 65, 66, 67, 68]) (eqx.rf (l := [50, 51, 52, 53, 54, 55, 56, 57, 58, 59, 60, 61, 62, 63, 64, 65, 66, 67, 68]) (S := S)) ex5 (by decide) (by decide)), h68⟩
        simp only [sp_ways]; rw [if_neg (by omega), if_pos (by omega)]
    · have hRS3 := hC4.2.2
      have hcu : cuZ S n = (z1, r) := fewZ_eq hfw
      have hc0 := hfw.1
      have hc1 := few_le nb1.1 hfw
      obtain ⟨fg1, fg2, fg3⟩ := few_ok nb1.1 hfw
      have hxS3 : eqx scc S S3 := (eqx.rf (l := scc) (S := S)).tr ex5 (by decide) (by decide)
      have hIS3 := Inv.xc hI hxS3
      refine ev_bipush dX9_ways_14 (by decide) ?_
      refine ev_icmp_ne (tgt := 22) dX9_ways_16 (by first | assumption | exact hR _ _ | exact hRS3 _ _ | decide | (simp only [InR]; omega)) (by decide) (by decide) (fun c16 => ?_) (fun c16 => ?_)
      · refine ev_aload_n 0 rfl dX9_ways_22 ?_
        refine cg_X9_56 hC4 dX9_ways_23 ?_
        refine ev_aload_n 0 rfl dX9_ways_26 ?_
        refine cgE_X9_64 (v := S 31 0) hC4 (by rw [ex5 31 (by decide)]) dX9_ways_27 ?_
        have hok := okl_of hI hful hfw
        have hN10 : 0 ≤ len0 (nightL S n) ∧ len0 (nightL S n) ≤ 10 := ⟨nb1.1, hful⟩
        refine c_X9_201 (k_joinWays (F := FB S n) (me := meS S n) (c := z1) (v := S 31 0) hC4 hfc.1 (by omega) (fun k k0 k1 => (PC_b hI hcu hok (hfc.2.2 k k0 k1)).2) i6 (fun a b a0 a1 b0 b1 => FB_c hN10 hcu (hfc.2.2 a a0 a1) (hfc.2.2 b b0 b1)) (fun k k0 k1 => by rw [(hfc.2.2 k k0 k1).2.1]; unfold meS; rw [hcu, pr_me hN10]; exact Iff.rfl)) hC4.k11 rfl rfl (Nat.le_of_ble_eq_true rfl) (by decide) dX9_ways_30 (kI (fun z6 h7 hqz6 => ?_))
        obtain ⟨hzs, S8, hC9, ex10, hnx⟩ := hqz6
        have hRS8 := hC9.2.2
        have hxS8 : eqx scc S S8 := (hxS3).tr ex10 (by decide) (by decide)
        have hIS8 := Inv.xc hI hxS8
        refine ev_ireturn dX9_ways_33 ?_
        refine ⟨_, rfl, ?_, S8, hC9, (eqx.tr (l := [50, 51, 52, 53, 54, 55, 56, 57, 58, 59, 60, 61, 62, 63, 64, 65, 66, 67, 68]) (eqx.tr (l := [50, 51, 52, 53, 54, 55, 56, 57, 58, 59, 60, 61, 62, 63, 64, 65, 66, 67, 68]) (eqx.rf (l := [50, 51, 52, 53, 54, 55, 56, 57, 58, 59, 60, 61, 62, 63, 64, 65, 66, 67, 68]) (S := S)) ex5 (by decide) (by decide)) ex10 (by decide) (by decide)), (by rw [ex10 68 (by decide)]; exact h68)⟩
        simp only [sp_ways]; rw [if_neg (by omega), if_neg (by omega), hcu]; exact hzs
      · exact absurd hc0 (by omega)
  · refine ev_if_ne (tgt := 9) dX9_ways_4 (by decide) (by decide) (fun c => absurd c (by decide)) (fun _ => ?_)
    refine ev_iconst dX9_ways_7 ?_
    refine ev_ireturn dX9_ways_8 ?_
    refine ⟨_, rfl, ?_, S, hC, (eqx.rf (l := [50, 51, 52, 53, 54, 55, 56, 57, 58, 59, 60, 61, 62, 63, 64, 65, 66, 67, 68]) (S := S)), hJ⟩
    simp only [sp_ways]; rw [if_pos (by omega)]

set_option maxHeartbeats 4000000 in
set_option maxRecDepth 100000 in
theorem k_next {E : EV} {h : AH} {A : AD} {S : MS} {n k : Int} (hC : CR E A S h) (hI : Inv S) (hJ : ∀ j, S 68 j < S 7 0) (g1 : InR n) (g2 : InR k) : CM E yX9_next cX9_next 4 (some .int) 15 0 0 [.ref (A 0 0), vI (n), vI (k)] h (qI (fun z h' => z = sp_next S n k ∧ ∃ S', CR E A S' h' ∧ eqx [50, 51, 52, 53, 54, 55, 56, 57, 58, 59, 60, 61, 62, 63, 64, 65, 66, 67, 68] S S' ∧ (∀ j, S' 68 j < S 7 0) ∧ (0 ≤ z → ((S' 59 k = tiS S n k ∧ S' 60 k = avS S n 0 k ∧ S' 61 k = avS S n 1 k) ∧ ((-10000 ≤ S' 59 k ∧ S' 59 k ≤ 10000) ∧ (-1600000 ≤ S' 60 k ∧ S' 60 k ≤ 1600000) ∧ -1600000 ≤ S' 61 k ∧ S' 61 k ≤ 1600000)) ∧ ((S' 59 z = tiS S n z ∧ S' 60 z = avS S n 0 z ∧ S' 61 z = avS S n 1 z) ∧ ((-10000 ≤ S' 59 z ∧ S' 59 z ≤ 10000) ∧ (-1600000 ≤ S' 60 z ∧ S' 60 z ≤ 1600000) ∧ -1600000 ≤ S' 61 z ∧ S' 61 z ≤ 1600000)) ∧ tiS S n k < tiS S n z ∧ (0 ≤ k ∧ k < 10) ∧ z < 10))) := by
  have hR := hC.2.2
  have hJ := hI
  obtain ⟨i1, i2, i3, i4, i5, i6, iSt, iSi, iWa, iSh, iLa, iS0, iS1, iZe⟩ := hJ
  refine CM.of (by decide) (Nat.le_of_ble_eq_true rfl) (L := [(0, .ref (A 0 0)), (1, vI (n)), (2, vI (k))]) rfl ?_
  refine ev_iload_n 1 rfl dX9_next_0 ?_
  refine c_X9_178 (k_isNight E (n := n) (by first | assumption | exact hR _ _ | decide | (simp only [InR]; omega))) rfl rfl (Nat.le_of_ble_eq_true rfl) (by decide) dX9_next_1 (kB (fun b1 => ?_) (fun b1 => ?_))
  · refine ev_if_eq (tgt := 11) dX9_next_4 (by decide) (by decide) (fun c => absurd c (by decide)) (fun _ => ?_)
    refine ev_iload_n 2 rfl dX9_next_7 ?_
    refine ev_if_ge (tgt := 13) dX9_next_8 (by first | assumption | exact hR _ _ | decide | (simp only [InR]; omega)) (by decide) (fun c8 => ?_) (fun c8 => ?_)
    · refine ev_aload_n 0 rfl dX9_next_13 ?_
      refine ev_iload_n 1 rfl dX9_next_14 ?_
      obtain ⟨nb1, nb2⟩ := night_b (S := S) (n := n) hI
      refine c_X9_181 (k_lookAt (n := n) hC hI hJ (by first | assumption | exact hR _ _ | decide | (simp only [InR]; omega))) hC.k0 rfl rfl (Nat.le_of_ble_eq_true rfl) (by decide) dX9_next_15 (kI (fun z1 h2 hqz1 => ?_))
      obtain ⟨S3, hC4, ex5, h68, ⟨hful, rfl⟩ | ⟨hful, r, hfw, hsk, hfc⟩⟩ := hqz1
      · have hRS3 := hC4.2.2
        have hxS3 : eqx scc S S3 := (eqx.rf (l := scc) (S := S)).tr ex5 (by decide) (by decide)
        have hIS3 := Inv.xc hI hxS3
        refine ev_istore_n (L' := [(3, vI (-3)), (0, .ref (A 0 0)), (1, vI (n)), (2, vI (k))]) dX9_next_18 (by decide) rfl ?_
        refine ev_iload_n 0 rfl dX9_next_19 ?_
        refine ev_bipush dX9_next_20 (by decide) ?_
        refine ev_icmp_ne (tgt := 28) dX9_next_22 (by decide) (by decide) (by decide) (fun c22 => ?_) (fun c22 => ?_)
        · exact absurd rfl c22
        · refine ev_bipush dX9_next_25 (by decide) ?_
          refine ev_ireturn dX9_next_27 ?_
          refine ⟨_, rfl, ?_, S3, hC4, (eqx.tr (l := [50, 51, 52, 53, 54, 55, 56, 57, 58, 59, 60, 61, 62, 63, 64, 65, 66, 67, 68]) (eqx.rf (l := [50, 51, 52, 53, 54, 55, 56, 57, 58, 59, 60, 61, 62, 63, 64, 65, 66, 67, 68]) (S := S)) ex5 (by decide) (by decide)), h68, fun q => absurd q (by omega)⟩
          simp only [sp_next]; rw [if_neg (by omega), if_pos (by omega)]
      · have hRS3 := hC4.2.2
        have hcu : cuZ S n = (z1, r) := fewZ_eq hfw
        have hc0 := hfw.1
        have hc1 := few_le nb1.1 hfw
        obtain ⟨fg1, fg2, fg3⟩ := few_ok nb1.1 hfw
        have hxS3 : eqx scc S S3 := (eqx.rf (l := scc) (S := S)).tr ex5 (by decide) (by decide)
        have hIS3 := Inv.xc hI hxS3
        refine ev_istore_n (L' := [(3, vI (z1)), (0, .ref (A 0 0)), (1, vI (n)), (2, vI (k))]) dX9_next_18 (by decide) rfl ?_
        refine ev_iload_n 0 rfl dX9_next_19 ?_
        refine ev_bipush dX9_next_20 (by decide) ?_
        refine ev_icmp_ne (tgt := 28) dX9_next_22 (by first | assumption | exact hR _ _ | exact hRS3 _ _ | decide | (simp only [InR]; omega)) (by decide) (by decide) (fun c22 => ?_) (fun c22 => ?_)
        · refine ev_iload_n 3 rfl dX9_next_28 ?_
          refine ev_iload_n 0 rfl dX9_next_29 ?_
          refine ev_icmp_lt (tgt := 35) dX9_next_30 (by first | assumption | exact hR _ _ | exact hRS3 _ _ | decide | (simp only [InR]; omega)) (by first | assumption | exact hR _ _ | exact hRS3 _ _ | decide | (simp only [InR]; omega)) (by decide) (fun c30 => ?_) (fun c30 => ?_)
          · refine ev_aload_n 1 rfl dX9_next_35 ?_
            refine cg_X9_56 hC4 dX9_next_36 ?_
            refine ev_aload_n 1 rfl dX9_next_39 ?_
            refine cgE_X9_64 (v := S 31 0) hC4 (by rw [ex5 31 (by decide)]) dX9_next_40 ?_
            have hok := okl_of hI hful hfw
            have hN10 : 0 ≤ len0 (nightL S n) ∧ len0 (nightL S n) ≤ 10 := ⟨nb1.1, hful⟩
            refine c_X9_201 (k_joinWays (F := FB S n) (me := meS S n) (c := z1) (v := S 31 0) hC4 hfc.1 (by omega) (fun k k0 k1 => (PC_b hI hcu hok (hfc.2.2 k k0 k1)).2) i6 (fun a b a0 a1 b0 b1 => FB_c hN10 hcu (hfc.2.2 a a0 a1) (hfc.2.2 b b0 b1)) (fun k k0 k1 => by rw [(hfc.2.2 k k0 k1).2.1]; unfold meS; rw [hcu, pr_me hN10]; exact Iff.rfl)) hC4.k11 rfl rfl (Nat.le_of_ble_eq_true rfl) (by decide) dX9_next_43 (kI (fun z6 h7 hqz6 => ?_))
            obtain ⟨hzs, S8, hC9, ex10, hnx⟩ := hqz6
            have hRS8 := hC9.2.2
            have hxS8 : eqx scc S S8 := (hxS3).tr ex10 (by decide) (by decide)
            have hIS8 := Inv.xc hI hxS8
            refine ev_pop dX9_next_46 rfl ?_
            refine ev_aload_n 1 rfl dX9_next_47 ?_
            refine cg_X9_56 hC9 dX9_next_48 ?_
            refine cg_X9_185 hC9 dX9_next_51 ?_
            refine ev_iload_n 3 rfl dX9_next_54 ?_
            refine c_aa12 hC9 dX9_next_55 (by omega) (by omega) ?_
            refine cg_X9_204 hC9 (by omega) dX9_next_56 ?_
            refine ev_ireturn dX9_next_59 ?_
            have hnk := hnx k (by omega) (by omega)
            have hpp : ∀ u : Int, 0 ≤ u → u < z1 → (S8 59 u = tiS S n u ∧ S8 60 u = avS S n 0 u ∧ S8 61 u = avS S n 1 u) ∧ _ := fun u u0 u1 => by have q := PC_b hI hcu hok (hfc.2.2 u u0 u1); rw [← ex10 59 (by decide), ← ex10 60 (by decide), ← ex10 61 (by decide)] at q; exact q
            refine ⟨_, rfl, ?_, S8, hC9, (eqx.tr (l := [50, 51, 52, 53, 54, 55, 56, 57, 58, 59, 60, 61, 62, 63, 64, 65, 66, 67, 68]) (eqx.tr (l := [50, 51, 52, 53, 54, 55, 56, 57, 58, 59, 60, 61, 62, 63, 64, 65, 66, 67, 68]) (eqx.rf (l := [50, 51, 52, 53, 54, 55, 56, 57, 58, 59, 60, 61, 62, 63, 64, 65, 66, 67, 68]) (S := S)) ex5 (by decide) (by decide)) ex10 (by decide) (by decide)), (by rw [ex10 68 (by decide)]; exact h68), fun q => ?_⟩
            · simp only [sp_next]; rw [if_neg (by omega), if_neg (by omega), hcu, if_neg (by omega)]; exact hnk
            · rw [hnk] at q ⊢
              have hfo := nxA_fol hc0 q
              exact ⟨hpp k (by omega) (by omega), hpp _ q hfo.1, (FB_iff.mp hfo.2).2.2.1, by omega, by omega⟩
          · refine ev_iconst dX9_next_33 ?_
            refine ev_ireturn dX9_next_34 ?_
            refine ⟨_, rfl, ?_, S3, hC4, (eqx.tr (l := [50, 51, 52, 53, 54, 55, 56, 57, 58, 59, 60, 61, 62, 63, 64, 65, 66, 67, 68]) (eqx.rf (l := [50, 51, 52, 53, 54, 55, 56, 57, 58, 59, 60, 61, 62, 63, 64, 65, 66, 67, 68]) (S := S)) ex5 (by decide) (by decide)), h68, fun q => absurd q (by omega)⟩
            simp only [sp_next]; rw [if_neg (by omega), if_neg (by omega), hcu, if_pos (by omega)]
        · exact absurd hc0 (by omega)
    · refine ev_iconst dX9_next_11 ?_
      refine ev_ireturn dX9_next_12 ?_
      refine ⟨_, rfl, ?_, S, hC, (eqx.rf (l := [50, 51, 52, 53, 54, 55, 56, 57, 58, 59, 60, 61, 62, 63, 64, 65, 66, 67, 68]) (S := S)), hJ, fun q => absurd q (by omega)⟩
      simp only [sp_next]; rw [if_pos (by omega)]
  · refine ev_if_eq (tgt := 11) dX9_next_4 (by decide) (by decide) (fun _ => ?_) (fun c => absurd c (by decide))
    refine ev_iconst dX9_next_11 ?_
    refine ev_ireturn dX9_next_12 ?_
    refine ⟨_, rfl, ?_, S, hC, (eqx.rf (l := [50, 51, 52, 53, 54, 55, 56, 57, 58, 59, 60, 61, 62, 63, 64, 65, 66, 67, 68]) (S := S)), hJ, fun q => absurd q (by omega)⟩
    simp only [sp_next]; rw [if_pos (by omega)]

set_option maxHeartbeats 4000000 in
set_option maxRecDepth 100000 in
theorem k_nearest {E : EV} {h : AH} {A : AD} {S : MS} {k b s : Int} (hC : CR E A S h) (hI : Inv S) (gk : 0 ≤ k ∧ k < 10) (gb : 0 ≤ b ∧ b < 10) (gs : 0 ≤ s ∧ s < S 2 0) (bk : ((-10000 ≤ S 59 k ∧ S 59 k ≤ 10000) ∧ (-1600000 ≤ S 60 k ∧ S 60 k ≤ 1600000) ∧ -1600000 ≤ S 61 k ∧ S 61 k ≤ 1600000)) (bb : ((-10000 ≤ S 59 b ∧ S 59 b ≤ 10000) ∧ (-1600000 ≤ S 60 b ∧ S 60 b ≤ 1600000) ∧ -1600000 ≤ S 61 b ∧ S 61 b ≤ 1600000)) (hlt : S 59 k < S 59 b) : CM E yX2_nearestMinute cX2_nearestMinute 12 (some .int) 1 0 0 [.ref (A 19 k), .ref (A 19 b), .ref (A 20 s)] h (qP (ovB (ovG (S 60 b) (S 61 b) (S 60 b - S 60 k) (S 61 b - S 61 k) (S 59 b - S 59 k) (S 3 s) (S 4 s)) 120) h) := by
  have hR := hC.2.2
  have hJ := hI
  obtain ⟨i1, i2, i3, i4, i5, i6, iSt, iSi, iWa, iSh, iLa, iS0, iS1, iZe⟩ := hJ
  have sst := iSt s gs.1 gs.2
  refine CM.of (by decide) (Nat.le_of_ble_eq_true rfl) (L := [(0, .ref (A 19 k)), (1, .ref (A 19 b)), (2, .ref (A 20 s))]) rfl ?_
  refine ev_aload_n 1 rfl dX2_nearestMinute_0 ?_
  refine cg_X2_62 hC (by omega) dX2_nearestMinute_1 ?_
  refine ev_aload_n 0 rfl dX2_nearestMinute_4 ?_
  refine cg_X2_62 hC (by omega) dX2_nearestMinute_5 ?_
  refine ev_isub dX2_nearestMinute_8 ?_
  refine ev_istore_n (L' := [(3, vI ((S 59 b) - (S 59 k))), (0, .ref (A 19 k)), (1, .ref (A 19 b)), (2, .ref (A 20 s))]) dX2_nearestMinute_9 (by decide) rfl ?_
  refine ev_iload_n 0 rfl dX2_nearestMinute_10 ?_
  refine ev_if_gt (tgt := 17) dX2_nearestMinute_11 (by first | assumption | exact hR _ _ | decide | (simp only [InR]; omega)) (by decide) (fun c11 => ?_) (fun c11 => ?_)
  · refine ev_iconst dX2_nearestMinute_17 ?_
    refine ev_istore (L' := [(4, vI (0)), (3, vI ((S 59 b) - (S 59 k))), (0, .ref (A 19 k)), (1, .ref (A 19 b)), (2, .ref (A 20 s))]) dX2_nearestMinute_18 (by decide) rfl ?_
    refine ev_aload_n 3 rfl dX2_nearestMinute_20 ?_
    refine cg_X2_18 hC (by omega) dX2_nearestMinute_21 ?_
    refine ev_aload_n 4 rfl dX2_nearestMinute_24 ?_
    refine cg_X2_73 hC (by omega) dX2_nearestMinute_25 ?_
    refine ev_isub dX2_nearestMinute_28 ?_
    refine ev_aload_n 3 rfl dX2_nearestMinute_29 ?_
    refine cg_X2_21 hC (by omega) dX2_nearestMinute_30 ?_
    refine ev_aload_n 4 rfl dX2_nearestMinute_33 ?_
    refine cg_X2_76 hC (by omega) dX2_nearestMinute_34 ?_
    refine ev_isub dX2_nearestMinute_37 ?_
    refine c_X2_69 (k_sqFar E (a := (S 60 b) - (S 3 s)) (b := (S 61 b) - (S 4 s)) (by omega) (by omega)) rfl rfl (Nat.le_of_ble_eq_true rfl) (by decide) dX2_nearestMinute_38 (kPL ?_)
    have g0 : ((S 60 b) - (S 3 s)) * ((S 60 b) - (S 3 s)) + ((S 61 b) - (S 4 s)) * ((S 61 b) - (S 4 s)) = (ovG (S 60 b) (S 61 b) (S 60 b - S 60 k) (S 61 b - S 61 k) (S 59 b - S 59 k) (S 3 s) (S 4 s)) 0 := by unfold ovG; rw [Int.zero_mul, Int.zero_mul, Int.zero_tdiv, Int.add_zero, Int.add_zero]
    have z1 := mul_b (a := S 60 b - S 3 s) (b := S 60 b - S 3 s) (A := 2000000) (B := 2000000) (by omega) (by omega) (by decide)
    have z2 := mul_b (a := S 61 b - S 4 s) (b := S 61 b - S 4 s) (A := 2000000) (B := 2000000) (by omega) (by omega) (by decide)
    refine ev_renL (b := (ovG (S 60 b) (S 61 b) (S 60 b - S 60 k) (S 61 b - S 61 k) (S 59 b - S 59 k) (S 3 s) (S 4 s)) 0) (g0) ?_
    refine ev_lstore (L' := [(5, vL ((ovG (S 60 b) (S 61 b) (S 60 b - S 60 k) (S 61 b - S 61 k) (S 59 b - S 59 k) (S 3 s) (S 4 s)) 0)), (4, vI (0)), (3, vI ((S 59 b) - (S 59 k))), (0, .ref (A 19 k)), (1, .ref (A 19 b)), (2, .ref (A 20 s))]) dX2_nearestMinute_41 (by decide) rfl ?_
    refine ev_iconst dX2_nearestMinute_43 ?_
    refine ev_istore (L' := [(7, vI (1)), (5, vL ((ovG (S 60 b) (S 61 b) (S 60 b - S 60 k) (S 61 b - S 61 k) (S 59 b - S 59 k) (S 3 s) (S 4 s)) 0)), (4, vI (0)), (3, vI ((S 59 b) - (S 59 k))), (0, .ref (A 19 k)), (1, .ref (A 19 b)), (2, .ref (A 20 s))]) dX2_nearestMinute_44 (by decide) rfl ?_
    refine up_ind (P := fun m : Int => ∀ (bst : Int) (lst : Int), 0 ≤ m → 1 ≤ m → bst = ovB (ovG (S 60 b) (S 61 b) (S 60 b - S 60 k) (S 61 b - S 61 k) (S 59 b - S 59 k) (S 3 s) (S 4 s)) (m - 1).toNat → lst = (ovG (S 60 b) (S 61 b) (S 60 b - S 60 k) (S 61 b - S 61 k) (S 59 b - S 59 k) (S 3 s) (S 4 s)) bst → (-400000000000000000 ≤ lst ∧ lst ≤ 400000000000000000) → Ev E RX2 cX2_nearestMinute 12 (some .int) "nearestMinute" (qP (ovB (ovG (S 60 b) (S 61 b) (S 60 b - S 60 k) (S 61 b - S 61 k) (S 59 b - S 59 k) (S 3 s) (S 4 s)) 120) h) 1 0 0 46 [(7, vI (m)), (5, vL (lst)), (4, vI (bst)), (3, vI ((S 59 b) - (S 59 k))), (0, .ref (A 19 k)), (1, .ref (A 19 b)), (2, .ref (A 20 s))] [] h) (N := 121) ?_ 1 (by omega) 0 ((ovG (S 60 b) (S 61 b) (S 60 b - S 60 k) (S 61 b - S 61 k) (S 59 b - S 59 k) (S 3 s) (S 4 s)) 0) (by omega) (by omega) (rfl) (rfl) (by omega)
    intro m ihm hmN bst lst pm hm1 hov hls hbb
    refine ev_iload 0 rfl dX2_nearestMinute_46 ?_
    refine ev_bipush dX2_nearestMinute_48 (by decide) ?_
    refine ev_icmp_gt (tgt := 136) dX2_nearestMinute_50 (by first | assumption | exact hR _ _ | decide | (simp only [InR]; omega)) (by decide) (by decide) (fun c50 => ?_) (fun c50 => ?_)
    · refine ev_iload 2 rfl dX2_nearestMinute_136 ?_
      refine ev_ireturn dX2_nearestMinute_138 ?_
      exact ⟨rfl, congrArg (fun z => some (vI z)) (by rw [hov, show (m - 1).toNat = 120 by omega])⟩
    · have qx := mul_b (a := m) (b := S 60 b - S 60 k) (A := 120) (B := 3200000) (by omega) (by omega) (by decide)
      have rx := tdiv_b (b := S 59 b - S 59 k) qx
      have qy := mul_b (a := m) (b := S 61 b - S 61 k) (A := 120) (B := 3200000) (by omega) (by omega) (by decide)
      have ry := tdiv_b (b := S 59 b - S 59 k) qy
      have tx := mul_b (a := S 60 b + (m * (S 60 b - S 60 k)).tdiv (S 59 b - S 59 k) - S 3 s) (b := S 60 b + (m * (S 60 b - S 60 k)).tdiv (S 59 b - S 59 k) - S 3 s) (A := 400000000) (B := 400000000) (by omega) (by omega) (by decide)
      have ty := mul_b (a := S 61 b + (m * (S 61 b - S 61 k)).tdiv (S 59 b - S 59 k) - S 4 s) (b := S 61 b + (m * (S 61 b - S 61 k)).tdiv (S 59 b - S 59 k) - S 4 s) (A := 400000000) (B := 400000000) (by omega) (by omega) (by decide)
      refine ev_aload_n 5 rfl dX2_nearestMinute_53 ?_
      refine cg_X2_18 hC (by omega) dX2_nearestMinute_54 ?_
      refine ev_iload 0 rfl dX2_nearestMinute_57 ?_
      refine ev_aload_n 5 rfl dX2_nearestMinute_59 ?_
      refine cg_X2_18 hC (by omega) dX2_nearestMinute_60 ?_
      refine ev_aload_n 4 rfl dX2_nearestMinute_63 ?_
      refine cg_X2_18 hC (by omega) dX2_nearestMinute_64 ?_
      refine ev_isub dX2_nearestMinute_67 ?_
      refine ev_imul dX2_nearestMinute_68 ?_
      refine ev_iload_n 3 rfl dX2_nearestMinute_69 ?_
      refine ev_idiv dX2_nearestMinute_70 (by first | assumption | exact hR _ _ | decide | (simp only [InR]; omega)) (by first | assumption | exact hR _ _ | decide | (simp only [InR]; omega)) (by omega) (by first | assumption | exact hR _ _ | decide | (simp only [InR]; omega)) ?_
      refine ev_iadd dX2_nearestMinute_71 ?_
      refine ev_istore (L' := [(8, vI ((S 60 b) + ((m * ((S 60 b) - (S 60 k))).tdiv ((S 59 b) - (S 59 k))))), (7, vI (m)), (5, vL (lst)), (4, vI (bst)), (3, vI ((S 59 b) - (S 59 k))), (0, .ref (A 19 k)), (1, .ref (A 19 b)), (2, .ref (A 20 s))]) dX2_nearestMinute_72 (by decide) rfl ?_
      refine ev_aload_n 6 rfl dX2_nearestMinute_74 ?_
      refine cg_X2_21 hC (by omega) dX2_nearestMinute_75 ?_
      refine ev_iload 1 rfl dX2_nearestMinute_78 ?_
      refine ev_aload_n 6 rfl dX2_nearestMinute_80 ?_
      refine cg_X2_21 hC (by omega) dX2_nearestMinute_81 ?_
      refine ev_aload_n 5 rfl dX2_nearestMinute_84 ?_
      refine cg_X2_21 hC (by omega) dX2_nearestMinute_85 ?_
      refine ev_isub dX2_nearestMinute_88 ?_
      refine ev_imul dX2_nearestMinute_89 ?_
      refine ev_iload_n 4 rfl dX2_nearestMinute_90 ?_
      refine ev_idiv dX2_nearestMinute_91 (by first | assumption | exact hR _ _ | decide | (simp only [InR]; omega)) (by first | assumption | exact hR _ _ | decide | (simp only [InR]; omega)) (by omega) (by first | assumption | exact hR _ _ | decide | (simp only [InR]; omega)) ?_
      refine ev_iadd dX2_nearestMinute_92 ?_
      refine ev_istore (L' := [(9, vI ((S 61 b) + ((m * ((S 61 b) - (S 61 k))).tdiv ((S 59 b) - (S 59 k))))), (8, vI ((S 60 b) + ((m * ((S 60 b) - (S 60 k))).tdiv ((S 59 b) - (S 59 k))))), (7, vI (m)), (5, vL (lst)), (4, vI (bst)), (3, vI ((S 59 b) - (S 59 k))), (0, .ref (A 19 k)), (1, .ref (A 19 b)), (2, .ref (A 20 s))]) dX2_nearestMinute_93 (by decide) rfl ?_
      refine ev_iload 1 rfl dX2_nearestMinute_95 ?_
      refine ev_aload_n 8 rfl dX2_nearestMinute_97 ?_
      refine cg_X2_73 hC (by omega) dX2_nearestMinute_98 ?_
      refine ev_isub dX2_nearestMinute_101 ?_
      refine ev_iload 0 rfl dX2_nearestMinute_102 ?_
      refine ev_aload_n 8 rfl dX2_nearestMinute_104 ?_
      refine cg_X2_76 hC (by omega) dX2_nearestMinute_105 ?_
      refine ev_isub dX2_nearestMinute_108 ?_
      refine c_X2_69 (k_sqFar E (a := ((S 60 b) + ((m * ((S 60 b) - (S 60 k))).tdiv ((S 59 b) - (S 59 k)))) - (S 3 s)) (b := ((S 61 b) + ((m * ((S 61 b) - (S 61 k))).tdiv ((S 59 b) - (S 59 k)))) - (S 4 s)) (by omega) (by omega)) rfl rfl (Nat.le_of_ble_eq_true rfl) (by decide) dX2_nearestMinute_109 (kPL ?_)
      have gm : (ovG (S 60 b) (S 61 b) (S 60 b - S 60 k) (S 61 b - S 61 k) (S 59 b - S 59 k) (S 3 s) (S 4 s)) m = (((S 60 b) + ((m * ((S 60 b) - (S 60 k))).tdiv ((S 59 b) - (S 59 k)))) - (S 3 s)) * (((S 60 b) + ((m * ((S 60 b) - (S 60 k))).tdiv ((S 59 b) - (S 59 k)))) - (S 3 s)) + (((S 61 b) + ((m * ((S 61 b) - (S 61 k))).tdiv ((S 59 b) - (S 59 k)))) - (S 4 s)) * (((S 61 b) + ((m * ((S 61 b) - (S 61 k))).tdiv ((S 59 b) - (S 59 k)))) - (S 4 s)) := rfl
      refine ev_renL (b := (ovG (S 60 b) (S 61 b) (S 60 b - S 60 k) (S 61 b - S 61 k) (S 59 b - S 59 k) (S 3 s) (S 4 s)) m) (rfl) ?_
      refine ev_lstore (L' := [(10, vL ((ovG (S 60 b) (S 61 b) (S 60 b - S 60 k) (S 61 b - S 61 k) (S 59 b - S 59 k) (S 3 s) (S 4 s)) m)), (9, vI ((S 61 b) + ((m * ((S 61 b) - (S 61 k))).tdiv ((S 59 b) - (S 59 k))))), (8, vI ((S 60 b) + ((m * ((S 60 b) - (S 60 k))).tdiv ((S 59 b) - (S 59 k))))), (7, vI (m)), (5, vL (lst)), (4, vI (bst)), (3, vI ((S 59 b) - (S 59 k))), (0, .ref (A 19 k)), (1, .ref (A 19 b)), (2, .ref (A 20 s))]) dX2_nearestMinute_112 (by decide) rfl ?_
      refine ev_lload 0 rfl dX2_nearestMinute_114 ?_
      refine ev_lload 4 rfl dX2_nearestMinute_116 ?_
      refine ev_lcmp_ge (tgt := 130) dX2_nearestMinute_118 dX2_nearestMinute_119 (by first | assumption | exact hR _ _ | exact (hR _ _).l | decide | (simp only [InL]; omega)) (by first | assumption | exact hR _ _ | exact (hR _ _).l | decide | (simp only [InL]; omega)) (by decide) (fun c118 => ?_) (fun c118 => ?_)
      · refine ev_iinc (L' := [(7, vI (m + 1)), (10, vL ((ovG (S 60 b) (S 61 b) (S 60 b - S 60 k) (S 61 b - S 61 k) (S 59 b - S 59 k) (S 3 s) (S 4 s)) m)), (9, vI ((S 61 b) + ((m * ((S 61 b) - (S 61 k))).tdiv ((S 59 b) - (S 59 k))))), (8, vI ((S 60 b) + ((m * ((S 60 b) - (S 60 k))).tdiv ((S 59 b) - (S 59 k))))), (5, vL (lst)), (4, vI (bst)), (3, vI ((S 59 b) - (S 59 k))), (0, .ref (A 19 k)), (1, .ref (A 19 b)), (2, .ref (A 20 s))]) 3 rfl dX2_nearestMinute_130 (by decide) rfl ?_
        refine ev_goto (tgt := 46) dX2_nearestMinute_133 (by decide) ?_
        refine ev_pick (L' := [(7, vI (m + 1)), (5, vL (lst)), (4, vI (bst)), (3, vI ((S 59 b) - (S 59 k))), (0, .ref (A 19 k)), (1, .ref (A 19 b)), (2, .ref (A 20 s))]) [0, 4, 5, 6, 7, 8, 9] rfl ?_
        exact ihm (m + 1) (by omega) (by omega) bst lst (by omega) (by omega) (by rw [show m + 1 - 1 = m by omega, ovB_s (by omega), ← hov, ← hls, if_neg (by omega)]) (hls) (by omega)
      · refine ev_lload 0 rfl dX2_nearestMinute_122 ?_
        refine ev_lstore (L' := [(5, vL ((ovG (S 60 b) (S 61 b) (S 60 b - S 60 k) (S 61 b - S 61 k) (S 59 b - S 59 k) (S 3 s) (S 4 s)) m)), (10, vL ((ovG (S 60 b) (S 61 b) (S 60 b - S 60 k) (S 61 b - S 61 k) (S 59 b - S 59 k) (S 3 s) (S 4 s)) m)), (9, vI ((S 61 b) + ((m * ((S 61 b) - (S 61 k))).tdiv ((S 59 b) - (S 59 k))))), (8, vI ((S 60 b) + ((m * ((S 60 b) - (S 60 k))).tdiv ((S 59 b) - (S 59 k))))), (7, vI (m)), (4, vI (bst)), (3, vI ((S 59 b) - (S 59 k))), (0, .ref (A 19 k)), (1, .ref (A 19 b)), (2, .ref (A 20 s))]) dX2_nearestMinute_124 (by decide) rfl ?_
        refine ev_iload 4 rfl dX2_nearestMinute_126 ?_
        refine ev_istore (L' := [(4, vI (m)), (5, vL ((ovG (S 60 b) (S 61 b) (S 60 b - S 60 k) (S 61 b - S 61 k) (S 59 b - S 59 k) (S 3 s) (S 4 s)) m)), (10, vL ((ovG (S 60 b) (S 61 b) (S 60 b - S 60 k) (S 61 b - S 61 k) (S 59 b - S 59 k) (S 3 s) (S 4 s)) m)), (9, vI ((S 61 b) + ((m * ((S 61 b) - (S 61 k))).tdiv ((S 59 b) - (S 59 k))))), (8, vI ((S 60 b) + ((m * ((S 60 b) - (S 60 k))).tdiv ((S 59 b) - (S 59 k))))), (7, vI (m)), (3, vI ((S 59 b) - (S 59 k))), (0, .ref (A 19 k)), (1, .ref (A 19 b)), (2, .ref (A 20 s))]) dX2_nearestMinute_128 (by decide) rfl ?_
        refine ev_iinc (L' := [(7, vI (m + 1)), (4, vI (m)), (5, vL ((ovG (S 60 b) (S 61 b) (S 60 b - S 60 k) (S 61 b - S 61 k) (S 59 b - S 59 k) (S 3 s) (S 4 s)) m)), (10, vL ((ovG (S 60 b) (S 61 b) (S 60 b - S 60 k) (S 61 b - S 61 k) (S 59 b - S 59 k) (S 3 s) (S 4 s)) m)), (9, vI ((S 61 b) + ((m * ((S 61 b) - (S 61 k))).tdiv ((S 59 b) - (S 59 k))))), (8, vI ((S 60 b) + ((m * ((S 60 b) - (S 60 k))).tdiv ((S 59 b) - (S 59 k))))), (3, vI ((S 59 b) - (S 59 k))), (0, .ref (A 19 k)), (1, .ref (A 19 b)), (2, .ref (A 20 s))]) 5 rfl dX2_nearestMinute_130 (by decide) rfl ?_
        refine ev_goto (tgt := 46) dX2_nearestMinute_133 (by decide) ?_
        refine ev_pick (L' := [(7, vI (m + 1)), (5, vL ((ovG (S 60 b) (S 61 b) (S 60 b - S 60 k) (S 61 b - S 61 k) (S 59 b - S 59 k) (S 3 s) (S 4 s)) m)), (4, vI (m)), (3, vI ((S 59 b) - (S 59 k))), (0, .ref (A 19 k)), (1, .ref (A 19 b)), (2, .ref (A 20 s))]) [0, 2, 1, 6, 7, 8, 9] rfl ?_
        exact ihm (m + 1) (by omega) (by omega) m ((ovG (S 60 b) (S 61 b) (S 60 b - S 60 k) (S 61 b - S 61 k) (S 59 b - S 59 k) (S 3 s) (S 4 s)) m) (by omega) (by omega) (by rw [show m + 1 - 1 = m by omega, ovB_s (by omega), ← hov, ← hls, if_pos (by omega)]) (rfl) (by omega)
  · refine ev_bipush dX2_nearestMinute_14 (by decide) ?_
    refine ev_ireturn dX2_nearestMinute_16 ?_
    exact absurd hlt (by omega)

set_option maxHeartbeats 4000000 in
set_option maxRecDepth 100000 in
theorem k_overhead {E : EV} {h : AH} {A : AD} {S : MS} {n k s : Int} (hC : CR E A S h) (hI : Inv S) (hJ : ∀ j, S 68 j < S 7 0) (g1 : InR n) (g2 : InR k) (g3 : InR s) : CM E yX9_overhead cX9_overhead 6 (some .int) 16 0 0 [.ref (A 0 0), vI (n), vI (k), vI (s)] h (qI (fun z h' => z = sp_overhead S n k s ∧ ∃ S', CR E A S' h' ∧ eqx [50, 51, 52, 53, 54, 55, 56, 57, 58, 59, 60, 61, 62, 63, 64, 65, 66, 67, 68] S S' ∧ ∀ j, S' 68 j < S 7 0)) := by
  have hR := hC.2.2
  have hJ := hI
  obtain ⟨i1, i2, i3, i4, i5, i6, iSt, iSi, iWa, iSh, iLa, iS0, iS1, iZe⟩ := hJ
  refine CM.of (by decide) (Nat.le_of_ble_eq_true rfl) (L := [(0, .ref (A 0 0)), (1, vI (n)), (2, vI (k)), (3, vI (s))]) rfl ?_
  refine ev_aload_n 0 rfl dX9_overhead_0 ?_
  refine ev_iload_n 3 rfl dX9_overhead_1 ?_
  refine c_X9_77 (k_stationAt (a := s) hC hI (by first | assumption | exact hR _ _ | decide | (simp only [InR]; omega))) hC.k0 rfl rfl (Nat.le_of_ble_eq_true rfl) (by decide) dX9_overhead_2 (kN (fun b2 => ?_) (fun b2 => ?_))
  · refine ev_astore (L' := [(4, .ref (A 20 s)), (0, .ref (A 0 0)), (1, vI (n)), (2, vI (k)), (3, vI (s))]) dX9_overhead_5 (by decide) rfl ?_
    refine ev_aload 0 rfl dX9_overhead_7 ?_
    refine ev_ifnonnull (tgt := 14) dX9_overhead_9 (by decide) ?_
    refine ev_aload_n 1 rfl dX9_overhead_14 ?_
    refine ev_iload_n 2 rfl dX9_overhead_15 ?_
    refine ev_iload_n 3 rfl dX9_overhead_16 ?_
    refine c_X9_207 (k_next (n := n) (k := k) hC hI hJ g1 g2) hC.k0 rfl rfl (Nat.le_of_ble_eq_true rfl) (by decide) dX9_overhead_17 (kI (fun z1 h2 hqz1 => ?_))
    obtain ⟨hz, S3, hC4, ex5, h68, hov0⟩ := hqz1
    have hRS3 := hC4.2.2
    have hzr := next_r (S := S) (n := n) (k := k) hI
    rw [← hz] at hzr
    have hxS3 : eqx scc S S3 := (eqx.rf (l := scc) (S := S)).tr ex5 (by decide) (by decide)
    have hIS3 := Inv.xc hI hxS3
    refine ev_istore (L' := [(5, vI (z1)), (4, .ref (A 20 s)), (0, .ref (A 0 0)), (1, vI (n)), (2, vI (k)), (3, vI (s))]) dX9_overhead_20 (by decide) rfl ?_
    refine ev_iload 0 rfl dX9_overhead_22 ?_
    refine ev_if_ge (tgt := 30) dX9_overhead_24 (by first | assumption | exact hR _ _ | exact hRS3 _ _ | decide | (simp only [InR]; omega)) (by decide) (fun c24 => ?_) (fun c24 => ?_)
    · obtain ⟨fk, fb, flt, gk, gz⟩ := hov0 (by omega)
      refine ev_aload_n 2 rfl dX9_overhead_30 ?_
      refine cg_X9_56 hC4 dX9_overhead_31 ?_
      refine cg_X9_185 hC4 dX9_overhead_34 ?_
      refine ev_iload_n 4 rfl dX9_overhead_37 ?_
      refine c_aa12 hC4 dX9_overhead_38 (by omega) (by omega) ?_
      refine ev_aload_n 2 rfl dX9_overhead_39 ?_
      refine cg_X9_56 hC4 dX9_overhead_40 ?_
      refine cg_X9_185 hC4 dX9_overhead_43 ?_
      refine ev_iload 0 rfl dX9_overhead_46 ?_
      refine c_aa12 hC4 dX9_overhead_48 (by omega) (by omega) ?_
      refine ev_aload 1 rfl dX9_overhead_49 ?_
      refine c_X9_211 (k_nearest (k := k) (b := z1) (s := s) hC4 hIS3 (by omega) (by omega) (by rw [ex5 2 (by decide)]; omega) fk.2 fb.2 (by rw [fk.1.1, fb.1.1]; exact flt)) (hC4.k19 (by omega)) rfl rfl (Nat.le_of_ble_eq_true rfl) (by decide) dX9_overhead_51 (kP ?_)
      refine ev_ireturn dX9_overhead_54 ?_
      refine ⟨_, rfl, ?_, S3, hC4, (eqx.tr (l := [50, 51, 52, 53, 54, 55, 56, 57, 58, 59, 60, 61, 62, 63, 64, 65, 66, 67, 68]) (eqx.rf (l := [50, 51, 52, 53, 54, 55, 56, 57, 58, 59, 60, 61, 62, 63, 64, 65, 66, 67, 68]) (S := S)) ex5 (by decide) (by decide)), h68⟩
      simp only [sp_overhead]; rw [if_neg (by omega), if_neg (by omega), ← hz, fk.1.1, fk.1.2.1, fk.1.2.2, fb.1.1, fb.1.2.1, fb.1.2.2, ex5 3 (by decide), ex5 4 (by decide)]
    · refine ev_iload 0 rfl dX9_overhead_27 ?_
      refine ev_ireturn dX9_overhead_29 ?_
      refine ⟨_, rfl, ?_, S3, hC4, (eqx.tr (l := [50, 51, 52, 53, 54, 55, 56, 57, 58, 59, 60, 61, 62, 63, 64, 65, 66, 67, 68]) (eqx.rf (l := [50, 51, 52, 53, 54, 55, 56, 57, 58, 59, 60, 61, 62, 63, 64, 65, 66, 67, 68]) (S := S)) ex5 (by decide) (by decide)), h68⟩
      simp only [sp_overhead]; rw [if_neg (by omega), if_pos (by omega)]; exact hz
  · refine ev_astoreN (L' := [(4, .null), (0, .ref (A 0 0)), (1, vI (n)), (2, vI (k)), (3, vI (s))]) dX9_overhead_5 (by decide) rfl ?_
    refine ev_aloadN 0 rfl dX9_overhead_7 ?_
    refine ev_ifnonnullN dX9_overhead_9 ?_
    refine ev_iconst dX9_overhead_12 ?_
    refine ev_ireturn dX9_overhead_13 ?_
    refine ⟨_, rfl, ?_, S, hC, (eqx.rf (l := [50, 51, 52, 53, 54, 55, 56, 57, 58, 59, 60, 61, 62, 63, 64, 65, 66, 67, 68]) (S := S)), hJ⟩
    simp only [sp_overhead]; rw [if_pos (by omega)]

