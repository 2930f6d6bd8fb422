theorem sumI_congr {f g : Int → Int} {n : Int} (h : ∀ k, 0 ≤ k → k < n → f k = g k) : sumI f n = sumI g n := by
  have key : ∀ m : Nat, (m : Int) ≤ n → sumI f m = sumI g m := by
    intro m
    induction m with
    | zero => intro _; rfl
    | succ m ih =>
      intro hm
      rw [show ((m + 1 : Nat) : Int) = (m : Int) + 1 by omega, sumI_s _ (by omega), sumI_s _ (by omega), ih (by omega), h m (by omega) (by omega)]
  by_cases q : 0 ≤ n
  · have := key n.toNat (by omega)
    rw [Int.toNat_of_nonneg q] at this
    exact this
  · unfold sumI
    rw [show n.toNat = 0 by omega]
    rfl
noncomputable def meS (S : MS) (n : Int) : Int → Int := fun k => meK (cuZ S n).2 k (len0 (nightL S n))
noncomputable def tiS (S : MS) (n : Int) : Int → Int := fun k => tiK S (nightL S n) (cuZ S n).2 k (len0 (nightL S n))
noncomputable def avS (S : MS) (n w : Int) : Int → Int := fun k => avK S (nightL S n) (cuZ S n).2 k w (len0 (nightL S n))
noncomputable def FB (S : MS) (n : Int) : Int → Int → Bool := fun a b => @decide (folQ (S 31 0) (meS S n) (tiS S n) (avS S n 0) (avS S n 1) a b) (Classical.propDecidable _)
theorem FB_iff {S : MS} {n a b : Int} : FB S n a b = true ↔ folQ (S 31 0) (meS S n) (tiS S n) (avS S n 0) (avS S n 1) a b := @decide_eq_true_iff _ (Classical.propDecidable _)
noncomputable def sp_ways (S : MS) (n : Int) : Int := if ¬ NI n then -1 else if 10 < len0 (nightL S n) then -3 else sumI (plc (meS S n)) (cuZ S n).1 - mL (FB S n) (cuZ S n).1 (cuZ S n).1.toNat 0
noncomputable def sp_next (S : MS) (n k : Int) : Int := if ¬ (NI n ∧ 0 ≤ k) then -1 else if 10 < len0 (nightL S n) then -3 else if (cuZ S n).1 ≤ k then -1 else nxA (FB S n) (cuZ S n).1 k
/-- what S' tells of set k -/
def PS2 (S S' : MS) (n k : Int) : Prop := S' 25 k = meS S n k ∧ S' 26 k = tiS S n k ∧ S' 27 k = avS S n 0 k ∧ S' 28 k = avS S n 1 k
theorem PL_2 {S S' : MS} {n c k : Int} {r : List Int} (hcu : cuZ S n = (c, r)) (h : PL S (nightL S n) r (len0 (nightL S n)) S' k) : PS2 S S' n k := by
  unfold PS2 meS tiS avS
  rw [hcu]
  exact ⟨h.1, h.2.1, h.2.2.1, h.2.2.2.1⟩
theorem FB_at {S S2 : MS} {n a b : Int} (h31 : S2 31 = S 31) (ha : PS2 S S2 n a) (hb : PS2 S S2 n b) : FB S n a b = true ↔ folQ (S2 31 0) (S2 25) (S2 26) (S2 27) (S2 28) a b := by
  refine Iff.trans FB_iff ?_
  obtain ⟨a1, a2, a3, a4⟩ := ha
  obtain ⟨b1, b2, b3, b4⟩ := hb
  unfold folQ
  rw [h31, a1, a2, a3, a4, b1, b2, b3, b4]
theorem okl_of {S : MS} {n c : Int} {r : List Int} (hI : Inv S) (hn : len0 (nightL S n) ≤ 10) (hfw : FewP (MM S (nightL S n)) (len0 (nightL S n)) c r) : Okl S (nightL S n) r (len0 (nightL S n)) := by
  obtain ⟨nb1, nb2⟩ := night_b (S := S) (n := n) hI
  obtain ⟨fg1, fg2, fg3⟩ := few_ok nb1.1 hfw
  exact ⟨⟨nb1.1, hn⟩, fun j j0 j1 => (nb2 j j0 j1).1, fun i j i0 ij j1 he => CrP_sw (MM_of (fg1.2.2 i j i0 ij (by omega) he)).1⟩
theorem S2_b {S : MS} {n c k : Int} {r : List Int} (hI : Inv S) (hcu : cuZ S n = (c, r)) (hok : Okl S (nightL S n) r (len0 (nightL S n))) : (-10000 ≤ tiS S n k ∧ tiS S n k ≤ 10000) ∧ (-1600000 ≤ avS S n 0 k ∧ avS S n 0 k ≤ 1600000) ∧ -1600000 ≤ avS S n 1 k ∧ avS S n 1 k ≤ 1600000 := by
  unfold tiS avS
  rw [hcu]
  exact ⟨tiK_b hI hok, avK_b hI hok, avK_b hI hok⟩
theorem ways_nn {S : MS} {n c : Int} (hc : 0 ≤ c) : 0 ≤ sumI (plc (meS S n)) c - mL (FB S n) c c.toNat 0 := by
  have h := mL_plc (F := FB S n) (me := meS S n) hc (fun a b _ _ _ _ q => (FB_iff.mp q).1) c.toNat 0 (by omega)
  have e : sumI (plc (meS S n)) (c - (c.toNat : Int)) = 0 := by rw [show c - (c.toNat : Int) = 0 by omega]; rfl
  omega
theorem ways_b {S : MS} {n c : Int} (hc : 0 ≤ c) : sumI (plc (meS S n)) c - mL (FB S n) c c.toNat 0 ≤ c := by
  have h1 := sumI_b (f := plc (meS S n)) (a := 0) (b := 1) hc (fun k _ _ => by unfold plc; split <;> omega)
  have h2 := mL_b (F := FB S n) (c := c) c.toNat 0
  omega
theorem nxA_fol {F : Int → Int → Bool} {c k : Int} (hc : 0 ≤ c) (h : 0 ≤ nxA F c k) : nxA F c k < c ∧ F k (nxA F c k) = true := by
  unfold nxA at h ⊢
  split at h
  · omega
  · next hn =>
    rw [if_neg hn]
    rcases scanI_b (nbB F c k (tkZ F c k)) 0 hc with q | q
    · have e : nbZ F c k (tkZ F c k) = -1 := q
      omega
    · have q2 : nbB F c k (tkZ F c k) (nbZ F c k (tkZ F c k)) = true := q.2.2
      refine ⟨q.2.1, ?_⟩
      unfold nbB at q2
      rw [Bool.and_eq_true, Bool.and_eq_true] at q2
      exact q2.1.2
/-- OVERHEAD: how far it is at m minutes, and when it is nearest -/
def ovG (x y dx dy bt sx sy : Int) : Int → Int := fun m => (x + (m * dx).tdiv bt - sx) * (x + (m * dx).tdiv bt - sx) + (y + (m * dy).tdiv bt - sy) * (y + (m * dy).tdiv bt - sy)
def ovB (f : Int → Int) : Nat → Int
  | 0 => 0
  | m + 1 => if f ((m : Int) + 1) < f (ovB f m) then (m : Int) + 1 else ovB f m
theorem ovB_s {f : Int → Int} {m : Int} (h : 0 < m) : ovB f m.toNat = if f m < f (ovB f (m - 1).toNat) then m else ovB f (m - 1).toNat := by
  rw [show m.toNat = (m - 1).toNat + 1 by omega, ovB, show ((m - 1).toNat : Int) + 1 = m by omega]
theorem sq_nn (x : Int) : 0 ≤ x * x := by
  rw [← Int.natAbs_mul_self]
  exact Int.natCast_nonneg _
noncomputable def sp_overhead (S : MS) (n k s : Int) : Int := if ¬ ST S s then -1 else if sp_next S n k < 0 then sp_next S n k else ovB (ovG (avS S n 0 (sp_next S n k)) (avS S n 1 (sp_next S n k)) (avS S n 0 (sp_next S n k) - avS S n 0 k) (avS S n 1 (sp_next S n k) - avS S n 1 k) (tiS S n (sp_next S n k) - tiS S n k) (S 3 s) (S 4 s)) 120

set_option maxHeartbeats 4000000 in
set_option maxRecDepth 100000 in
theorem m_ways {E : EV} {h : AH} {o : Nat} {ad : Nat → Nat} {S : MS} {n : Int} (hM : MR E o ad S h) (hI : Inv S) (g1 : InR n) : CM E yX10_ways cX10_ways 3 (some .int) 8 0 0 [.ref (o), vI (n)] h (qI (fun z h' => z = sp_ways S n ∧ ∃ S', MR E o ad S' h' ∧ eqx [17, 18, 19, 20, 21, 22, 23, 25, 26, 27, 28, 29, 30, 32, 33] S S')) := by
  have hR := hM.2.2.2.2
  have hJ := hI
  obtain ⟨i1, i2, i3, i4, i5, i6, iSt, iSi, iWa, iSh, iLa, iS0, iS1, iZe⟩ := hJ
  refine CM.of (by decide) (Nat.le_of_ble_eq_true rfl) (L := [(0, .ref (o)), (1, vI (n))]) rfl ?_
  refine ev_iload_n 1 rfl dX10_ways_0 ?_
  refine c_X10_170 (m_isNight E (by first | assumption | exact hR _ _ | decide | (simp only [InR]; omega))) rfl rfl (Nat.le_of_ble_eq_true rfl) (by decide) dX10_ways_1 (kB (fun b1 => ?_) (fun b1 => ?_))
  · refine ev_if_ne (tgt := 9) dX10_ways_4 (by decide) (by decide) (fun _ => ?_) (fun c => absurd c (by decide))
    refine ev_aload_n 0 rfl dX10_ways_9 ?_
    refine ev_iload_n 1 rfl dX10_ways_10 ?_
    obtain ⟨nb1, nb2⟩ := night_b (S := S) (n := n) hI
    refine c_X10_260 (m_findCurtains (n := n) hM hI (by first | assumption | exact hR _ _ | decide | (simp only [InR]; omega))) hM.1 rfl rfl (Nat.le_of_ble_eq_true rfl) (by decide) dX10_ways_11 (kI (fun z1 h2 hqz1 => ?_))
    obtain ⟨S3, hM4, ex5, ⟨hful, rfl⟩ | ⟨hful, r, hfw, hfc⟩⟩ := hqz1
    · have hRS3 := hM4.2.2.2.2
      have hxS3 : eqx scr S S3 := (eqx.rf (l := scr) (S := S)).tr ex5 (by decide) (by decide)
      have hIS3 := Inv.x hI hxS3
      refine ev_istore_n (L' := [(2, vI (-3)), (0, .ref (o)), (1, vI (n))]) dX10_ways_14 (by decide) rfl ?_
      refine ev_iload_n 0 rfl dX10_ways_15 ?_
      refine ev_if_ge (tgt := 23) dX10_ways_16 (by decide) (by decide) (fun c => absurd c (by decide)) (fun _ => ?_)
      refine ev_iload_n 0 rfl dX10_ways_19 ?_
      refine ev_goto (tgt := 27) dX10_ways_20 (by decide) ?_
      refine ev_ireturn dX10_ways_27 ?_
      refine ⟨_, rfl, ?_, S3, hM4, (eqx.tr (l := [17, 18, 19, 20, 21, 22, 23, 25, 26, 27, 28, 29, 30, 32, 33]) (eqx.rf (l := [17, 18, 19, 20, 21, 22, 23, 25, 26, 27, 28, 29, 30, 32, 33]) (S := S)) ex5 (by decide) (by decide))⟩
      simp only [sp_ways]; rw [if_neg (by omega), if_pos (by omega)]
    · have hRS3 := hM4.2.2.2.2
      have hcu : cuZ S n = (z1, r) := fewZ_eq hfw
      have hc0 := hfw.1
      have hc1 := few_le nb1.1 hfw
      obtain ⟨fg1, fg2, fg3⟩ := few_ok nb1.1 hfw
      have hxS3 : eqx scr S S3 := (eqx.rf (l := scr) (S := S)).tr ex5 (by decide) (by decide)
      have hIS3 := Inv.x hI hxS3
      refine ev_istore_n (L' := [(2, vI (z1)), (0, .ref (o)), (1, vI (n))]) dX10_ways_14 (by decide) rfl ?_
      refine ev_iload_n 0 rfl dX10_ways_15 ?_
      refine ev_if_ge (tgt := 23) dX10_ways_16 (by first | assumption | exact hR _ _ | exact hRS3 _ _ | decide | (simp only [InR]; omega)) (by decide) (fun c16 => ?_) (fun c16 => ?_)
      · refine ev_aload_n 1 rfl dX10_ways_23 ?_
        have hok := okl_of hI hful hfw
        have e31 : S3 31 = S 31 := ex5 31 (by decide)
        have hp2 : ∀ k : Int, 0 ≤ k → k < z1 → PS2 S S3 n k := fun k k0 k1 => PL_2 hcu (hfc.2.2.2 k k0 k1)
        refine c_X10_269 (m_findWays (F := FB S n) (c := z1) hM4 hfc.2.1 (by omega) (fun k k0 k1 => by rw [(hp2 k k0 k1).2.1, (hp2 k k0 k1).2.2.1, (hp2 k k0 k1).2.2.2]; exact S2_b hI hcu hok) (by rw [e31]; exact i6) (fun a b a0 a1 b0 b1 => FB_at e31 (hp2 a a0 a1) (hp2 b b0 b1))) hM4.1 rfl rfl (Nat.le_of_ble_eq_true rfl) (by decide) dX10_ways_24 (kI (fun z6 h7 hqz6 => ?_))
        obtain ⟨S8, hM9, ex10, hzz6, hnx⟩ := hqz6
        have hRS8 := hM9.2.2.2.2
        have hzs : z6 = sumI (plc (meS S n)) z1 - mL (FB S n) z1 z1.toNat 0 := by rw [hzz6, sumI_congr (g := plc (meS S n)) (fun k k0 k1 => by unfold plc; rw [(hp2 k k0 k1).1])]
        have hwn := ways_nn (S := S) (n := n) hc0
        have hwb := ways_b (S := S) (n := n) hc0
        rw [← hzs] at hwn hwb
        have hxS8 : eqx scr S S8 := (hxS3).tr ex10 (by decide) (by decide)
        have hIS8 := Inv.x hI hxS8
        refine ev_ireturn dX10_ways_27 ?_
        refine ⟨_, rfl, ?_, S8, hM9, (eqx.tr (l := [17, 18, 19, 20, 21, 22, 23, 25, 26, 27, 28, 29, 30, 32, 33]) (eqx.tr (l := [17, 18, 19, 20, 21, 22, 23, 25, 26, 27, 28, 29, 30, 32, 33]) (eqx.rf (l := [17, 18, 19, 20, 21, 22, 23, 25, 26, 27, 28, 29, 30, 32, 33]) (S := S)) ex5 (by decide) (by decide)) ex10 (by decide) (by decide))⟩
        simp only [sp_ways]; rw [if_neg (by omega), if_neg (by omega), hcu]; exact hzs
      · exact absurd hc0 c16
  · refine ev_if_ne (tgt := 9) dX10_ways_4 (by decide) (by decide) (fun c => absurd c (by decide)) (fun _ => ?_)
    refine ev_iconst dX10_ways_7 ?_
    refine ev_ireturn dX10_ways_8 ?_
    refine ⟨_, rfl, ?_, S, hM, (eqx.rf (l := [17, 18, 19, 20, 21, 22, 23, 25, 26, 27, 28, 29, 30, 32, 33]) (S := S))⟩
    simp only [sp_ways]; rw [if_pos (by omega)]

set_option maxHeartbeats 4000000 in
set_option maxRecDepth 100000 in
theorem m_nextOf {E : EV} {h : AH} {o : Nat} {ad : Nat → Nat} {S : MS} {n k : Int} (hM : MR E o ad S h) (hI : Inv S) (g1 : InR n) (g2 : InR k) : CM E yX10_nextOf cX10_nextOf 5 (some .int) 8 0 0 [.ref (o), vI (n), vI (k)] h (qI (fun z h' => z = sp_next S n k ∧ ∃ S', MR E o ad S' h' ∧ eqx [17, 18, 19, 20, 21, 22, 23, 25, 26, 27, 28, 29, 30, 32, 33] S S' ∧ (0 ≤ z → PS2 S S' n k ∧ PS2 S S' n z ∧ tiS S n k < tiS S n z ∧ ((-10000 ≤ tiS S n k ∧ tiS S n k ≤ 10000) ∧ (-1600000 ≤ avS S n 0 k ∧ avS S n 0 k ≤ 1600000) ∧ -1600000 ≤ avS S n 1 k ∧ avS S n 1 k ≤ 1600000) ∧ ((-10000 ≤ tiS S n z ∧ tiS S n z ≤ 10000) ∧ (-1600000 ≤ avS S n 0 z ∧ avS S n 0 z ≤ 1600000) ∧ -1600000 ≤ avS S n 1 z ∧ avS S n 1 z ≤ 1600000) ∧ (0 ≤ k ∧ k < 10) ∧ z < 10))) := by
  have hR := hM.2.2.2.2
  have hJ := hI
  obtain ⟨i1, i2, i3, i4, i5, i6, iSt, iSi, iWa, iSh, iLa, iS0, iS1, iZe⟩ := hJ
  refine CM.of (by decide) (Nat.le_of_ble_eq_true rfl) (L := [(0, .ref (o)), (1, vI (n)), (2, vI (k))]) rfl ?_
  refine ev_iload_n 1 rfl dX10_nextOf_0 ?_
  refine c_X10_170 (m_isNight E (by first | assumption | exact hR _ _ | decide | (simp only [InR]; omega))) rfl rfl (Nat.le_of_ble_eq_true rfl) (by decide) dX10_nextOf_1 (kB (fun b1 => ?_) (fun b1 => ?_))
  · refine ev_if_eq (tgt := 11) dX10_nextOf_4 (by decide) (by decide) (fun c => absurd c (by decide)) (fun _ => ?_)
    refine ev_iload_n 2 rfl dX10_nextOf_7 ?_
    refine ev_if_ge (tgt := 13) dX10_nextOf_8 (by first | assumption | exact hR _ _ | decide | (simp only [InR]; omega)) (by decide) (fun c8 => ?_) (fun c8 => ?_)
    · refine ev_aload_n 0 rfl dX10_nextOf_13 ?_
      refine ev_iload_n 1 rfl dX10_nextOf_14 ?_
      obtain ⟨nb1, nb2⟩ := night_b (S := S) (n := n) hI
      refine c_X10_260 (m_findCurtains (n := n) hM hI (by first | assumption | exact hR _ _ | decide | (simp only [InR]; omega))) hM.1 rfl rfl (Nat.le_of_ble_eq_true rfl) (by decide) dX10_nextOf_15 (kI (fun z1 h2 hqz1 => ?_))
      obtain ⟨S3, hM4, ex5, ⟨hful, rfl⟩ | ⟨hful, r, hfw, hfc⟩⟩ := hqz1
      · have hRS3 := hM4.2.2.2.2
        have hxS3 : eqx scr S S3 := (eqx.rf (l := scr) (S := S)).tr ex5 (by decide) (by decide)
        have hIS3 := Inv.x hI hxS3
        refine ev_istore_n (L' := [(3, vI (-3)), (0, .ref (o)), (1, vI (n)), (2, vI (k))]) dX10_nextOf_18 (by decide) rfl ?_
        refine ev_iload_n 0 rfl dX10_nextOf_19 ?_
        refine ev_if_ge (tgt := 25) dX10_nextOf_20 (by decide) (by decide) (fun c => absurd c (by decide)) (fun _ => ?_)
        refine ev_iload_n 0 rfl dX10_nextOf_23 ?_
        refine ev_ireturn dX10_nextOf_24 ?_
        refine ⟨_, rfl, ?_, S3, hM4, (eqx.tr (l := [17, 18, 19, 20, 21, 22, 23, 25, 26, 27, 28, 29, 30, 32, 33]) (eqx.rf (l := [17, 18, 19, 20, 21, 22, 23, 25, 26, 27, 28, 29, 30, 32, 33]) (S := S)) ex5 (by decide) (by decide)), fun q => absurd q (by omega)⟩
        simp only [sp_next]; rw [if_neg (by omega), if_pos (by omega)]
      · have hRS3 := hM4.2.2.2.2
        have hcu : cuZ S n = (z1, r) := fewZ_eq hfw
        have hc0 := hfw.1
        have hc1 := few_le nb1.1 hfw
        obtain ⟨fg1, fg2, fg3⟩ := few_ok nb1.1 hfw
        have hxS3 : eqx scr S S3 := (eqx.rf (l := scr) (S := S)).tr ex5 (by decide) (by decide)
        have hIS3 := Inv.x hI hxS3
        refine ev_istore_n (L' := [(3, vI (z1)), (0, .ref (o)), (1, vI (n)), (2, vI (k))]) dX10_nextOf_18 (by decide) rfl ?_
        refine ev_iload_n 0 rfl dX10_nextOf_19 ?_
        refine ev_if_ge (tgt := 25) dX10_nextOf_20 (by first | assumption | exact hR _ _ | exact hRS3 _ _ | decide | (simp only [InR]; omega)) (by decide) (fun c20 => ?_) (fun c20 => ?_)
        · refine ev_iload_n 3 rfl dX10_nextOf_25 ?_
          refine ev_iload_n 0 rfl dX10_nextOf_26 ?_
          refine ev_icmp_lt (tgt := 32) dX10_nextOf_27 (by first | assumption | exact hR _ _ | exact hRS3 _ _ | decide | (simp only [InR]; omega)) (by first | assumption | exact hR _ _ | exact hRS3 _ _ | decide | (simp only [InR]; omega)) (by decide) (fun c27 => ?_) (fun c27 => ?_)
          · refine ev_aload_n 1 rfl dX10_nextOf_32 ?_
            have hok := okl_of hI hful hfw
            have e31 : S3 31 = S 31 := ex5 31 (by decide)
            have hp2 : ∀ k : Int, 0 ≤ k → k < z1 → PS2 S S3 n k := fun k k0 k1 => PL_2 hcu (hfc.2.2.2 k k0 k1)
            refine c_X10_269 (m_findWays (F := FB S n) (c := z1) hM4 hfc.2.1 (by omega) (fun k k0 k1 => by rw [(hp2 k k0 k1).2.1, (hp2 k k0 k1).2.2.1, (hp2 k k0 k1).2.2.2]; exact S2_b hI hcu hok) (by rw [e31]; exact i6) (fun a b a0 a1 b0 b1 => FB_at e31 (hp2 a a0 a1) (hp2 b b0 b1))) hM4.1 rfl rfl (Nat.le_of_ble_eq_true rfl) (by decide) dX10_nextOf_33 (kI (fun z6 h7 hqz6 => ?_))
            obtain ⟨S8, hM9, ex10, hzz6, hnx⟩ := hqz6
            have hRS8 := hM9.2.2.2.2
            have hzs : z6 = sumI (plc (meS S n)) z1 - mL (FB S n) z1 z1.toNat 0 := by rw [hzz6, sumI_congr (g := plc (meS S n)) (fun k k0 k1 => by unfold plc; rw [(hp2 k k0 k1).1])]
            have hwn := ways_nn (S := S) (n := n) hc0
            have hwb := ways_b (S := S) (n := n) hc0
            rw [← hzs] at hwn hwb
            have hxS8 : eqx scr S S8 := (hxS3).tr ex10 (by decide) (by decide)
            have hIS8 := Inv.x hI hxS8
            refine ev_istore (L' := [(4, vI (z6)), (3, vI (z1)), (0, .ref (o)), (1, vI (n)), (2, vI (k))]) dX10_nextOf_36 (by decide) rfl ?_
            refine ev_iload 0 rfl dX10_nextOf_38 ?_
            refine ev_if_ge (tgt := 48) dX10_nextOf_40 (by first | assumption | exact hR _ _ | exact hRS3 _ _ | exact hRS8 _ _ | decide | (simp only [InR]; omega)) (by decide) (fun c40 => ?_) (fun c40 => ?_)
            · refine ev_aload_n 2 rfl dX10_nextOf_48 ?_
              refine mg_92 hM9 dX10_nextOf_49 ?_
              refine ev_iload_n 4 rfl dX10_nextOf_52 ?_
              refine m_ld (k := 33) hM9 (by decide) dX10_nextOf_53 (by omega) (by show _ < ((10 : Nat) : Int); omega) ?_
              refine ev_ireturn dX10_nextOf_54 ?_
              have hnk := hnx k (by omega) (by omega)
              have hpp : ∀ k : Int, 0 ≤ k → k < z1 → PS2 S S8 n k := fun k => fun k0 k1 => (by have q := hp2 _ k0 k1; unfold PS2 at q ⊢; rw [ex10 25 (by decide), ex10 26 (by decide), ex10 27 (by decide), ex10 28 (by decide)]; exact q)
              refine ⟨_, rfl, ?_, S8, hM9, (eqx.tr (l := [17, 18, 19, 20, 21, 22, 23, 25, 26, 27, 28, 29, 30, 32, 33]) (eqx.tr (l := [17, 18, 19, 20, 21, 22, 23, 25, 26, 27, 28, 29, 30, 32, 33]) (eqx.rf (l := [17, 18, 19, 20, 21, 22, 23, 25, 26, 27, 28, 29, 30, 32, 33]) (S := S)) ex5 (by decide) (by decide)) ex10 (by decide) (by decide)), fun q => ?_⟩
              · simp only [sp_next]; rw [if_neg (by omega), if_neg (by omega), hcu, if_neg (by omega)]; exact hnk
              · rw [hnk] at q ⊢
                have hfo := nxA_fol hc0 q
                exact ⟨hpp k (by omega) (by omega), hpp _ q hfo.1, (FB_iff.mp hfo.2).2.2.1, S2_b hI hcu hok, S2_b hI hcu hok, by omega, by omega⟩
            · exact absurd hwn c40
          · refine ev_iconst dX10_nextOf_30 ?_
            refine ev_ireturn dX10_nextOf_31 ?_
            refine ⟨_, rfl, ?_, S3, hM4, (eqx.tr (l := [17, 18, 19, 20, 21, 22, 23, 25, 26, 27, 28, 29, 30, 32, 33]) (eqx.rf (l := [17, 18, 19, 20, 21, 22, 23, 25, 26, 27, 28, 29, 30, 32, 33]) (S := S)) ex5 (by decide) (by decide)), fun q => absurd q (by omega)⟩
            simp only [sp_next]; rw [if_neg (by omega), if_neg (by omega), hcu, if_pos (by omega)]
        · exact absurd hc0 c20
    · refine ev_iconst dX10_nextOf_11 ?_
      refine ev_ireturn dX10_nextOf_12 ?_
      refine ⟨_, rfl, ?_, S, hM, (eqx.rf (l := [17, 18, 19, 20, 21, 22, 23, 25, 26, 27, 28, 29, 30, 32, 33]) (S := S)), fun q => absurd q (by omega)⟩
      simp only [sp_next]; rw [if_pos (by omega)]
  · refine ev_if_eq (tgt := 11) dX10_nextOf_4 (by decide) (by decide) (fun _ => ?_) (fun c => absurd c (by decide))
    refine ev_iconst dX10_nextOf_11 ?_
    refine ev_ireturn dX10_nextOf_12 ?_
    refine ⟨_, rfl, ?_, S, hM, (eqx.rf (l := [17, 18, 19, 20, 21, 22, 23, 25, 26, 27, 28, 29, 30, 32, 33]) (S := S)), fun q => absurd q (by omega)⟩
    simp only [sp_next]; rw [if_pos (by omega)]

set_option maxHeartbeats 4000000 in
set_option maxRecDepth 100000 in
theorem m_next {E : EV} {h : AH} {o : Nat} {ad : Nat → Nat} {S : MS} {n k : Int} (hM : MR E o ad S h) (hI : Inv S) (g1 : InR n) (g2 : InR k) : CM E yX10_next cX10_next 3 (some .int) 9 0 0 [.ref (o), vI (n), vI (k)] h (qI (fun z h' => z = sp_next S n k ∧ ∃ S', MR E o ad S' h' ∧ eqx [17, 18, 19, 20, 21, 22, 23, 25, 26, 27, 28, 29, 30, 32, 33] S S')) := by
  have hR := hM.2.2.2.2
  have hJ := hI
  obtain ⟨i1, i2, i3, i4, i5, i6, iSt, iSi, iWa, iSh, iLa, iS0, iS1, iZe⟩ := hJ
  refine CM.of (by decide) (Nat.le_of_ble_eq_true rfl) (L := [(0, .ref (o)), (1, vI (n)), (2, vI (k))]) rfl ?_
  refine ev_aload_n 0 rfl dX10_next_0 ?_
  refine ev_iload_n 1 rfl dX10_next_1 ?_
  refine ev_iload_n 2 rfl dX10_next_2 ?_
  refine c_X10_273 (m_nextOf (n := n) (k := k) hM hI g1 g2) hM.1 rfl rfl (Nat.le_of_ble_eq_true rfl) (by decide) dX10_next_3 (kI (fun z1 h2 hqz1 => ?_))
  obtain ⟨hz, S3, hM4, ex5, hov0⟩ := hqz1
  skip
  have hRS3 := hM4.2.2.2.2
  have hxS3 : eqx scr S S3 := (eqx.rf (l := scr) (S := S)).tr ex5 (by decide) (by decide)
  have hIS3 := Inv.x hI hxS3
  refine ev_ireturn dX10_next_6 ?_
  exact ⟨_, rfl, hz, S3, hM4, (eqx.tr (l := [17, 18, 19, 20, 21, 22, 23, 25, 26, 27, 28, 29, 30, 32, 33]) (eqx.rf (l := [17, 18, 19, 20, 21, 22, 23, 25, 26, 27, 28, 29, 30, 32, 33]) (S := S)) ex5 (by decide) (by decide))⟩

theorem nxA_r {F : Int → Int → Bool} {c k : Int} (hc : 0 ≤ c ∧ c ≤ 10) : -4 ≤ nxA F c k ∧ nxA F c k < 10 := by
  by_cases q : 0 ≤ nxA F c k
  · have := nxA_fol hc.1 q
    omega
  · unfold nxA at q ⊢
    split
    · omega
    · next h => rw [if_neg h] at q; omega
theorem cu_b {S : MS} {n : Int} (hI : Inv S) (hn : len0 (nightL S n) ≤ 10) : 0 ≤ (cuZ S n).1 ∧ (cuZ S n).1 ≤ 10 := by
  obtain ⟨nb1, nb2⟩ := night_b (S := S) (n := n) hI
  unfold cuZ fewZ
  split
  · next h =>
    have h1 := few_le nb1.1 h.choose_spec
    have h2 := h.choose_spec.1
    omega
  · exact ⟨by decide, by decide⟩
theorem next_r {S : MS} {n k : Int} (hI : Inv S) : -4 ≤ sp_next S n k ∧ sp_next S n k < 10 := by
  unfold sp_next
  split
  · omega
  · split
    · omega
    · next h =>
      split
      · omega
      · exact nxA_r (cu_b hI (by omega))

set_option maxHeartbeats 4000000 in
set_option maxRecDepth 100000 in
theorem m_overhead {E : EV} {h : AH} {o : Nat} {ad : Nat → Nat} {S : MS} {n k s : Int} (hM : MR E o ad S h) (hI : Inv S) (g1 : InR n) (g2 : InR k) (g3 : InR s) : CM E yX10_overhead cX10_overhead 16 (some .int) 9 0 0 [.ref (o), vI (n), vI (k), vI (s)] h (qI (fun z h' => z = sp_overhead S n k s ∧ ∃ S', MR E o ad S' h' ∧ eqx [17, 18, 19, 20, 21, 22, 23, 25, 26, 27, 28, 29, 30, 32, 33] S S')) := by
  have hR := hM.2.2.2.2
  have hJ := hI
  obtain ⟨i1, i2, i3, i4, i5, i6, iSt, iSi, iWa, iSh, iLa, iS0, iS1, iZe⟩ := hJ
  refine CM.of (by decide) (Nat.le_of_ble_eq_true rfl) (L := [(0, .ref (o)), (1, vI (n)), (2, vI (k)), (3, vI (s))]) rfl ?_
  refine ev_aload_n 0 rfl dX10_overhead_0 ?_
  refine ev_iload_n 3 rfl dX10_overhead_1 ?_
  refine c_X10_160 (m_isStation hM hI (by first | assumption | exact hR _ _ | decide | (simp only [InR]; omega))) hM.1 rfl rfl (Nat.le_of_ble_eq_true rfl) (by decide) dX10_overhead_2 (kB (fun b2 => ?_) (fun b2 => ?_))
  · refine ev_if_ne (tgt := 10) dX10_overhead_5 (by decide) (by decide) (fun _ => ?_) (fun c => absurd c (by decide))
    refine ev_aload_n 0 rfl dX10_overhead_10 ?_
    refine ev_iload_n 1 rfl dX10_overhead_11 ?_
    refine ev_iload_n 2 rfl dX10_overhead_12 ?_
    refine c_X10_273 (m_nextOf (n := n) (k := k) hM hI g1 g2) hM.1 rfl rfl (Nat.le_of_ble_eq_true rfl) (by decide) dX10_overhead_13 (kI (fun z1 h2 hqz1 => ?_))
    obtain ⟨hz, S3, hM4, ex5, hov0⟩ := hqz1
    skip
    have hRS3 := hM4.2.2.2.2
    have hxS3 : eqx scr S S3 := (eqx.rf (l := scr) (S := S)).tr ex5 (by decide) (by decide)
    have hIS3 := Inv.x hI hxS3
    have hzr := next_r (S := S) (n := n) (k := k) hI
    rw [← hz] at hzr
    refine ev_istore (L' := [(4, vI (z1)), (0, .ref (o)), (1, vI (n)), (2, vI (k)), (3, vI (s))]) dX10_overhead_16 (by decide) rfl ?_
    refine ev_iload 0 rfl dX10_overhead_18 ?_
    refine ev_if_ge (tgt := 26) dX10_overhead_20 (by first | assumption | exact hR _ _ | exact hRS3 _ _ | decide | (simp only [InR]; omega)) (by decide) (fun c20 => ?_) (fun c20 => ?_)
    · obtain ⟨⟨k1, k2, k3, k4⟩, ⟨v1, v2, v3, v4⟩, hlt, kb, zb, gk, gz⟩ := hov0 (by omega)
      rw [← k2, ← v2] at hlt
      rw [← k2, ← k3, ← k4] at kb
      rw [← v2, ← v3, ← v4] at zb
      have sst := iSt s (by omega) (by omega)
      refine ev_aload_n 1 rfl dX10_overhead_26 ?_
      refine mg_71 hM4 dX10_overhead_27 ?_
      refine ev_iload 0 rfl dX10_overhead_30 ?_
      refine m_ld (k := 26) hM4 (by decide) dX10_overhead_32 (by omega) (by show _ < ((10 : Nat) : Int); omega) ?_
      refine ev_aload_n 1 rfl dX10_overhead_33 ?_
      refine mg_71 hM4 dX10_overhead_34 ?_
      refine ev_iload_n 3 rfl dX10_overhead_37 ?_
      refine m_ld (k := 26) hM4 (by decide) dX10_overhead_38 (by omega) (by show _ < ((10 : Nat) : Int); omega) ?_
      refine ev_isub dX10_overhead_39 ?_
      refine ev_istore (L' := [(5, vI ((S3 26 z1) - (S3 26 k))), (4, vI (z1)), (0, .ref (o)), (1, vI (n)), (2, vI (k)), (3, vI (s))]) dX10_overhead_40 (by decide) rfl ?_
      refine ev_iconst dX10_overhead_42 ?_
      refine ev_istore (L' := [(6, vI (0)), (5, vI ((S3 26 z1) - (S3 26 k))), (4, vI (z1)), (0, .ref (o)), (1, vI (n)), (2, vI (k)), (3, vI (s))]) dX10_overhead_43 (by decide) rfl ?_
      refine ev_ldc2 (z := -1) dX10_overhead_45 k_X10_276 (by decide) ?_
      refine ev_lstore (L' := [(7, vL (-1)), (6, vI (0)), (5, vI ((S3 26 z1) - (S3 26 k))), (4, vI (z1)), (0, .ref (o)), (1, vI (n)), (2, vI (k)), (3, vI (s))]) dX10_overhead_48 (by decide) rfl ?_
      refine ev_iconst dX10_overhead_50 ?_
      refine ev_istore (L' := [(9, vI (0)), (7, vL (-1)), (6, vI (0)), (5, vI ((S3 26 z1) - (S3 26 k))), (4, vI (z1)), (0, .ref (o)), (1, vI (n)), (2, vI (k)), (3, vI (s))]) dX10_overhead_51 (by decide) rfl ?_
      refine up_ind (P := fun m : Int => ∀ (bst : Int) (lst : Int), 0 ≤ m → (m = 0 ∨ 0 ≤ lst) → ((m = 0 ∧ lst = -1 ∧ bst = 0) ∨ (0 < m ∧ bst = ovB (ovG (S3 27 z1) (S3 28 z1) (S3 27 z1 - S3 27 k) (S3 28 z1 - S3 28 k) (S3 26 z1 - S3 26 k) (S 3 s) (S 4 s)) (m - 1).toNat ∧ lst = (ovG (S3 27 z1) (S3 28 z1) (S3 27 z1 - S3 27 k) (S3 28 z1 - S3 28 k) (S3 26 z1 - S3 26 k) (S 3 s) (S 4 s)) bst)) → ((0 ≤ bst ∧ bst ≤ 120) ∧ -1 ≤ lst ∧ lst ≤ 400000000000000000) → Ev E RX10 cX10_overhead 16 (some .int) "overhead" (qI (fun z h' => z = sp_overhead S n k s ∧ ∃ S', MR E o ad S' h' ∧ eqx [17, 18, 19, 20, 21, 22, 23, 25, 26, 27, 28, 29, 30, 32, 33] S S')) 9 0 0 53 [(9, vI (m)), (7, vL (lst)), (6, vI (bst)), (5, vI ((S3 26 z1) - (S3 26 k))), (4, vI (z1)), (0, .ref (o)), (1, vI (n)), (2, vI (k)), (3, vI (s))] [] h2) (N := 121) ?_ 0 (by omega) 0 (-1) (by omega) (Or.inl rfl) (Or.inl ⟨rfl, rfl, rfl⟩) (by omega)
      intro m ihm hmN bst lst pm hl0 hov hbb
      refine ev_iload 0 rfl dX10_overhead_53 ?_
      refine ev_bipush dX10_overhead_55 (by decide) ?_
      refine ev_icmp_gt (tgt := 178) dX10_overhead_57 (by first | assumption | exact hR _ _ | exact hRS3 _ _ | decide | (simp only [InR]; omega)) (by decide) (by decide) (fun c57 => ?_) (fun c57 => ?_)
      · refine ev_iload 2 rfl dX10_overhead_178 ?_
        refine ev_ireturn dX10_overhead_180 ?_
        refine ⟨_, rfl, ?_, S3, hM4, (eqx.tr (l := [17, 18, 19, 20, 21, 22, 23, 25, 26, 27, 28, 29, 30, 32, 33]) (eqx.rf (l := [17, 18, 19, 20, 21, 22, 23, 25, 26, 27, 28, 29, 30, 32, 33]) (S := S)) ex5 (by decide) (by decide))⟩
        simp only [sp_overhead]; rw [if_neg (by omega), if_neg (by omega), ← hz, ← k2, ← k3, ← k4, ← v2, ← v3, ← v4]; have hv := hov.resolve_left (fun q => by omega); rw [hv.2.1, show m = 121 by omega]; rfl
      · have qx := mul_b (a := m) (b := S3 27 z1 - S3 27 k) (A := 120) (B := 3200000) (by omega) (by omega) (by decide)
        have rx := tdiv_b (b := S3 26 z1 - S3 26 k) qx
        have qy := mul_b (a := m) (b := S3 28 z1 - S3 28 k) (A := 120) (B := 3200000) (by omega) (by omega) (by decide)
        have ry := tdiv_b (b := S3 26 z1 - S3 26 k) qy
        have tx := mul_b (a := S3 27 z1 + (m * (S3 27 z1 - S3 27 k)).tdiv (S3 26 z1 - S3 26 k) - S 3 s) (b := S3 27 z1 + (m * (S3 27 z1 - S3 27 k)).tdiv (S3 26 z1 - S3 26 k) - S 3 s) (A := 400000000) (B := 400000000) (by omega) (by omega) (by decide)
        have ux := sq_nn (S3 27 z1 + (m * (S3 27 z1 - S3 27 k)).tdiv (S3 26 z1 - S3 26 k) - S 3 s)
        have ty := mul_b (a := S3 28 z1 + (m * (S3 28 z1 - S3 28 k)).tdiv (S3 26 z1 - S3 26 k) - S 4 s) (b := S3 28 z1 + (m * (S3 28 z1 - S3 28 k)).tdiv (S3 26 z1 - S3 26 k) - S 4 s) (A := 400000000) (B := 400000000) (by omega) (by omega) (by decide)
        have uy := sq_nn (S3 28 z1 + (m * (S3 28 z1 - S3 28 k)).tdiv (S3 26 z1 - S3 26 k) - S 4 s)
        refine ev_aload_n 5 rfl dX10_overhead_60 ?_
        refine mg_74 hM4 dX10_overhead_61 ?_
        refine ev_iload 4 rfl dX10_overhead_64 ?_
        refine m_ld (k := 27) hM4 (by decide) dX10_overhead_66 (by omega) (by show _ < ((10 : Nat) : Int); omega) ?_
        refine ev_iload 0 rfl dX10_overhead_67 ?_
        refine ev_aload_n 5 rfl dX10_overhead_69 ?_
        refine mg_74 hM4 dX10_overhead_70 ?_
        refine ev_iload 4 rfl dX10_overhead_73 ?_
        refine m_ld (k := 27) hM4 (by decide) dX10_overhead_75 (by omega) (by show _ < ((10 : Nat) : Int); omega) ?_
        refine ev_aload_n 5 rfl dX10_overhead_76 ?_
        refine mg_74 hM4 dX10_overhead_77 ?_
        refine ev_iload_n 7 rfl dX10_overhead_80 ?_
        refine m_ld (k := 27) hM4 (by decide) dX10_overhead_81 (by omega) (by show _ < ((10 : Nat) : Int); omega) ?_
        refine ev_isub dX10_overhead_82 ?_
        refine ev_imul dX10_overhead_83 ?_
        refine ev_iload 3 rfl dX10_overhead_84 ?_
        refine ev_idiv dX10_overhead_86 (by first | assumption | exact hR _ _ | exact hRS3 _ _ | decide | (simp only [InR]; omega)) (by first | assumption | exact hR _ _ | exact hRS3 _ _ | decide | (simp only [InR]; omega)) (by omega) (by first | assumption | exact hR _ _ | exact hRS3 _ _ | decide | (simp only [InR]; omega)) ?_
        refine ev_iadd dX10_overhead_87 ?_
        refine ev_aload_n 5 rfl dX10_overhead_88 ?_
        refine mg_16 hM4 dX10_overhead_89 ?_
        refine ev_iload_n 8 rfl dX10_overhead_92 ?_
        refine m_ldE (k := 3) (v := S 3 s) hM4 (by decide) (by rw [ex5 3 (by decide)]) dX10_overhead_93 (by omega) (by show _ < ((8 : Nat) : Int); omega) ?_
        refine ev_isub dX10_overhead_94 ?_
        refine ev_i2l dX10_overhead_95 (by first | assumption | exact hR _ _ | exact hRS3 _ _ | decide | (simp only [InR]; omega)) ?_
        refine ev_lstore (L' := [(10, vL (((S3 27 z1) + ((m * ((S3 27 z1) - (S3 27 k))).tdiv ((S3 26 z1) - (S3 26 k)))) - (S 3 s))), (9, vI (m)), (7, vL (lst)), (6, vI (bst)), (5, vI ((S3 26 z1) - (S3 26 k))), (4, vI (z1)), (0, .ref (o)), (1, vI (n)), (2, vI (k)), (3, vI (s))]) dX10_overhead_96 (by decide) rfl ?_
        refine ev_aload_n 6 rfl dX10_overhead_98 ?_
        refine mg_77 hM4 dX10_overhead_99 ?_
        refine ev_iload 5 rfl dX10_overhead_102 ?_
        refine m_ld (k := 28) hM4 (by decide) dX10_overhead_104 (by omega) (by show _ < ((10 : Nat) : Int); omega) ?_
        refine ev_iload 1 rfl dX10_overhead_105 ?_
        refine ev_aload_n 6 rfl dX10_overhead_107 ?_
        refine mg_77 hM4 dX10_overhead_108 ?_
        refine ev_iload 5 rfl dX10_overhead_111 ?_
        refine m_ld (k := 28) hM4 (by decide) dX10_overhead_113 (by omega) (by show _ < ((10 : Nat) : Int); omega) ?_
        refine ev_aload_n 6 rfl dX10_overhead_114 ?_
        refine mg_77 hM4 dX10_overhead_115 ?_
        refine ev_iload_n 8 rfl dX10_overhead_118 ?_
        refine m_ld (k := 28) hM4 (by decide) dX10_overhead_119 (by omega) (by show _ < ((10 : Nat) : Int); omega) ?_
        refine ev_isub dX10_overhead_120 ?_
        refine ev_imul dX10_overhead_121 ?_
        refine ev_iload 4 rfl dX10_overhead_122 ?_
        refine ev_idiv dX10_overhead_124 (by first | assumption | exact hR _ _ | exact hRS3 _ _ | decide | (simp only [InR]; omega)) (by first | assumption | exact hR _ _ | exact hRS3 _ _ | decide | (simp only [InR]; omega)) (by omega) (by first | assumption | exact hR _ _ | exact hRS3 _ _ | decide | (simp only [InR]; omega)) ?_
        refine ev_iadd dX10_overhead_125 ?_
        refine ev_aload_n 6 rfl dX10_overhead_126 ?_
        refine mg_19 hM4 dX10_overhead_127 ?_
        refine ev_iload_n 9 rfl dX10_overhead_130 ?_
        refine m_ldE (k := 4) (v := S 4 s) hM4 (by decide) (by rw [ex5 4 (by decide)]) dX10_overhead_131 (by omega) (by show _ < ((8 : Nat) : Int); omega) ?_
        refine ev_isub dX10_overhead_132 ?_
        refine ev_i2l dX10_overhead_133 (by first | assumption | exact hR _ _ | exact hRS3 _ _ | decide | (simp only [InR]; omega)) ?_
        refine ev_lstore (L' := [(12, vL (((S3 28 z1) + ((m * ((S3 28 z1) - (S3 28 k))).tdiv ((S3 26 z1) - (S3 26 k)))) - (S 4 s))), (10, vL (((S3 27 z1) + ((m * ((S3 27 z1) - (S3 27 k))).tdiv ((S3 26 z1) - (S3 26 k)))) - (S 3 s))), (9, vI (m)), (7, vL (lst)), (6, vI (bst)), (5, vI ((S3 26 z1) - (S3 26 k))), (4, vI (z1)), (0, .ref (o)), (1, vI (n)), (2, vI (k)), (3, vI (s))]) dX10_overhead_134 (by decide) rfl ?_
        refine ev_lload 1 rfl dX10_overhead_136 ?_
        refine ev_lload 1 rfl dX10_overhead_138 ?_
        refine ev_lmul dX10_overhead_140 ?_
        refine ev_lload 0 rfl dX10_overhead_141 ?_
        refine ev_lload 0 rfl dX10_overhead_143 ?_
        refine ev_lmul dX10_overhead_145 ?_
        refine ev_ladd dX10_overhead_146 ?_
        have gm : (ovG (S3 27 z1) (S3 28 z1) (S3 27 z1 - S3 27 k) (S3 28 z1 - S3 28 k) (S3 26 z1 - S3 26 k) (S 3 s) (S 4 s)) m = ((((S3 27 z1) + ((m * ((S3 27 z1) - (S3 27 k))).tdiv ((S3 26 z1) - (S3 26 k)))) - (S 3 s)) * (((S3 27 z1) + ((m * ((S3 27 z1) - (S3 27 k))).tdiv ((S3 26 z1) - (S3 26 k)))) - (S 3 s))) + ((((S3 28 z1) + ((m * ((S3 28 z1) - (S3 28 k))).tdiv ((S3 26 z1) - (S3 26 k)))) - (S 4 s)) * (((S3 28 z1) + ((m * ((S3 28 z1) - (S3 28 k))).tdiv ((S3 26 z1) - (S3 26 k)))) - (S 4 s))) := rfl
        refine ev_renL (b := (ovG (S3 27 z1) (S3 28 z1) (S3 27 z1 - S3 27 k) (S3 28 z1 - S3 28 k) (S3 26 z1 - S3 26 k) (S 3 s) (S 4 s)) m) (rfl) ?_
        refine ev_lstore (L' := [(14, vL ((ovG (S3 27 z1) (S3 28 z1) (S3 27 z1 - S3 27 k) (S3 28 z1 - S3 28 k) (S3 26 z1 - S3 26 k) (S 3 s) (S 4 s)) m)), (12, vL (((S3 28 z1) + ((m * ((S3 28 z1) - (S3 28 k))).tdiv ((S3 26 z1) - (S3 26 k)))) - (S 4 s))), (10, vL (((S3 27 z1) + ((m * ((S3 27 z1) - (S3 27 k))).tdiv ((S3 26 z1) - (S3 26 k)))) - (S 3 s))), (9, vI (m)), (7, vL (lst)), (6, vI (bst)), (5, vI ((S3 26 z1) - (S3 26 k))), (4, vI (z1)), (0, .ref (o)), (1, vI (n)), (2, vI (k)), (3, vI (s))]) dX10_overhead_147 (by decide) rfl ?_
        refine ev_lload 4 rfl dX10_overhead_149 ?_
        refine ev_lconst (z := 0) dX10_overhead_151 (by decide) ?_
        refine ev_lcmp_lt (tgt := 164) dX10_overhead_152 dX10_overhead_153 (by first | assumption | exact hR _ _ | exact hRS3 _ _ | exact (hR _ _).l | exact (hRS3 _ _).l | decide | (simp only [InL]; omega)) (by decide) (by decide) (fun c152 => ?_) (fun c152 => ?_)
        · refine ev_lload 0 rfl dX10_overhead_164 ?_
          refine ev_lstore (L' := [(7, vL ((ovG (S3 27 z1) (S3 28 z1) (S3 27 z1 - S3 27 k) (S3 28 z1 - S3 28 k) (S3 26 z1 - S3 26 k) (S 3 s) (S 4 s)) m)), (14, vL ((ovG (S3 27 z1) (S3 28 z1) (S3 27 z1 - S3 27 k) (S3 28 z1 - S3 28 k) (S3 26 z1 - S3 26 k) (S 3 s) (S 4 s)) m)), (12, vL (((S3 28 z1) + ((m * ((S3 28 z1) - (S3 28 k))).tdiv ((S3 26 z1) - (S3 26 k)))) - (S 4 s))), (10, vL (((S3 27 z1) + ((m * ((S3 27 z1) - (S3 27 k))).tdiv ((S3 26 z1) - (S3 26 k)))) - (S 3 s))), (9, vI (m)), (6, vI (bst)), (5, vI ((S3 26 z1) - (S3 26 k))), (4, vI (z1)), (0, .ref (o)), (1, vI (n)), (2, vI (k)), (3, vI (s))]) dX10_overhead_166 (by decide) rfl ?_
          refine ev_iload 4 rfl dX10_overhead_168 ?_
          refine ev_istore (L' := [(6, vI (m)), (7, vL ((ovG (S3 27 z1) (S3 28 z1) (S3 27 z1 - S3 27 k) (S3 28 z1 - S3 28 k) (S3 26 z1 - S3 26 k) (S 3 s) (S 4 s)) m)), (14, vL ((ovG (S3 27 z1) (S3 28 z1) (S3 27 z1 - S3 27 k) (S3 28 z1 - S3 28 k) (S3 26 z1 - S3 26 k) (S 3 s) (S 4 s)) m)), (12, vL (((S3 28 z1) + ((m * ((S3 28 z1) - (S3 28 k))).tdiv ((S3 26 z1) - (S3 26 k)))) - (S 4 s))), (10, vL (((S3 27 z1) + ((m * ((S3 27 z1) - (S3 27 k))).tdiv ((S3 26 z1) - (S3 26 k)))) - (S 3 s))), (9, vI (m)), (5, vI ((S3 26 z1) - (S3 26 k))), (4, vI (z1)), (0, .ref (o)), (1, vI (n)), (2, vI (k)), (3, vI (s))]) dX10_overhead_170 (by decide) rfl ?_
          refine ev_iinc (L' := [(9, vI (m + 1)), (6, vI (m)), (7, vL ((ovG (S3 27 z1) (S3 28 z1) (S3 27 z1 - S3 27 k) (S3 28 z1 - S3 28 k) (S3 26 z1 - S3 26 k) (S 3 s) (S 4 s)) m)), (14, vL ((ovG (S3 27 z1) (S3 28 z1) (S3 27 z1 - S3 27 k) (S3 28 z1 - S3 28 k) (S3 26 z1 - S3 26 k) (S 3 s) (S 4 s)) m)), (12, vL (((S3 28 z1) + ((m * ((S3 28 z1) - (S3 28 k))).tdiv ((S3 26 z1) - (S3 26 k)))) - (S 4 s))), (10, vL (((S3 27 z1) + ((m * ((S3 27 z1) - (S3 27 k))).tdiv ((S3 26 z1) - (S3 26 k)))) - (S 3 s))), (5, vI ((S3 26 z1) - (S3 26 k))), (4, vI (z1)), (0, .ref (o)), (1, vI (n)), (2, vI (k)), (3, vI (s))]) 5 rfl dX10_overhead_172 (by decide) rfl ?_
          refine ev_goto (tgt := 53) dX10_overhead_175 (by decide) ?_
          refine ev_pick (L' := [(9, vI (m + 1)), (7, vL ((ovG (S3 27 z1) (S3 28 z1) (S3 27 z1 - S3 27 k) (S3 28 z1 - S3 28 k) (S3 26 z1 - S3 26 k) (S 3 s) (S 4 s)) m)), (6, vI (m)), (5, vI ((S3 26 z1) - (S3 26 k))), (4, vI (z1)), (0, .ref (o)), (1, vI (n)), (2, vI (k)), (3, vI (s))]) [0, 2, 1, 6, 7, 8, 9, 10, 11] rfl ?_
          exact ihm (m + 1) (by omega) (by omega) m ((ovG (S3 27 z1) (S3 28 z1) (S3 27 z1 - S3 27 k) (S3 28 z1 - S3 28 k) (S3 26 z1 - S3 26 k) (S 3 s) (S 4 s)) m) (by omega) (Or.inr (by omega)) (Or.inr ⟨by omega, by rw [show m = 0 by omega]; rfl, rfl⟩) (by omega)
        · have hv := hov.resolve_left (fun q => by omega)
          refine ev_lload 0 rfl dX10_overhead_156 ?_
          refine ev_lload 4 rfl dX10_overhead_158 ?_
          refine ev_lcmp_ge (tgt := 172) dX10_overhead_160 dX10_overhead_161 (by first | assumption | exact hR _ _ | exact hRS3 _ _ | exact (hR _ _).l | exact (hRS3 _ _).l | decide | (simp only [InL]; omega)) (by first | assumption | exact hR _ _ | exact hRS3 _ _ | exact (hR _ _).l | exact (hRS3 _ _).l | decide | (simp only [InL]; omega)) (by decide) (fun c160 => ?_) (fun c160 => ?_)
          · refine ev_iinc (L' := [(9, vI (m + 1)), (14, vL ((ovG (S3 27 z1) (S3 28 z1) (S3 27 z1 - S3 27 k) (S3 28 z1 - S3 28 k) (S3 26 z1 - S3 26 k) (S 3 s) (S 4 s)) m)), (12, vL (((S3 28 z1) + ((m * ((S3 28 z1) - (S3 28 k))).tdiv ((S3 26 z1) - (S3 26 k)))) - (S 4 s))), (10, vL (((S3 27 z1) + ((m * ((S3 27 z1) - (S3 27 k))).tdiv ((S3 26 z1) - (S3 26 k)))) - (S 3 s))), (7, vL (lst)), (6, vI (bst)), (5, vI ((S3 26 z1) - (S3 26 k))), (4, vI (z1)), (0, .ref (o)), (1, vI (n)), (2, vI (k)), (3, vI (s))]) 3 rfl dX10_overhead_172 (by decide) rfl ?_
            refine ev_goto (tgt := 53) dX10_overhead_175 (by decide) ?_
            refine ev_pick (L' := [(9, vI (m + 1)), (7, vL (lst)), (6, vI (bst)), (5, vI ((S3 26 z1) - (S3 26 k))), (4, vI (z1)), (0, .ref (o)), (1, vI (n)), (2, vI (k)), (3, vI (s))]) [0, 4, 5, 6, 7, 8, 9, 10, 11] rfl ?_
            exact ihm (m + 1) (by omega) (by omega) bst lst (by omega) (Or.inr (by omega)) (Or.inr ⟨by omega, by rw [show m + 1 - 1 = m by omega, ovB_s hv.1, ← hv.2.1, ← hv.2.2, if_neg (by omega)], hv.2.2⟩) (by omega)
          · refine ev_lload 0 rfl dX10_overhead_164 ?_
            refine ev_lstore (L' := [(7, vL ((ovG (S3 27 z1) (S3 28 z1) (S3 27 z1 - S3 27 k) (S3 28 z1 - S3 28 k) (S3 26 z1 - S3 26 k) (S 3 s) (S 4 s)) m)), (14, vL ((ovG (S3 27 z1) (S3 28 z1) (S3 27 z1 - S3 27 k) (S3 28 z1 - S3 28 k) (S3 26 z1 - S3 26 k) (S 3 s) (S 4 s)) m)), (12, vL (((S3 28 z1) + ((m * ((S3 28 z1) - (S3 28 k))).tdiv ((S3 26 z1) - (S3 26 k)))) - (S 4 s))), (10, vL (((S3 27 z1) + ((m * ((S3 27 z1) - (S3 27 k))).tdiv ((S3 26 z1) - (S3 26 k)))) - (S 3 s))), (9, vI (m)), (6, vI (bst)), (5, vI ((S3 26 z1) - (S3 26 k))), (4, vI (z1)), (0, .ref (o)), (1, vI (n)), (2, vI (k)), (3, vI (s))]) dX10_overhead_166 (by decide) rfl ?_
            refine ev_iload 4 rfl dX10_overhead_168 ?_
            refine ev_istore (L' := [(6, vI (m)), (7, vL ((ovG (S3 27 z1) (S3 28 z1) (S3 27 z1 - S3 27 k) (S3 28 z1 - S3 28 k) (S3 26 z1 - S3 26 k) (S 3 s) (S 4 s)) m)), (14, vL ((ovG (S3 27 z1) (S3 28 z1) (S3 27 z1 - S3 27 k) (S3 28 z1 - S3 28 k) (S3 26 z1 - S3 26 k) (S 3 s) (S 4 s)) m)), (12, vL (((S3 28 z1) + ((m * ((S3 28 z1) - (S3 28 k))).tdiv ((S3 26 z1) - (S3 26 k)))) - (S 4 s))), (10, vL (((S3 27 z1) + ((m * ((S3 27 z1) - (S3 27 k))).tdiv ((S3 26 z1) - (S3 26 k)))) - (S 3 s))), (9, vI (m)), (5, vI ((S3 26 z1) - (S3 26 k))), (4, vI (z1)), (0, .ref (o)), (1, vI (n)), (2, vI (k)), (3, vI (s))]) dX10_overhead_170 (by decide) rfl ?_
            refine ev_iinc (L' := [(9, vI (m + 1)), (6, vI (m)), (7, vL ((ovG (S3 27 z1) (S3 28 z1) (S3 27 z1 - S3 27 k) (S3 28 z1 - S3 28 k) (S3 26 z1 - S3 26 k) (S 3 s) (S 4 s)) m)), (14, vL ((ovG (S3 27 z1) (S3 28 z1) (S3 27 z1 - S3 27 k) (S3 28 z1 - S3 28 k) (S3 26 z1 - S3 26 k) (S 3 s) (S 4 s)) m)), (12, vL (((S3 28 z1) + ((m * ((S3 28 z1) - (S3 28 k))).tdiv ((S3 26 z1) - (S3 26 k)))) - (S 4 s))), (10, vL (((S3 27 z1) + ((m * ((S3 27 z1) - (S3 27 k))).tdiv ((S3 26 z1) - (S3 26 k)))) - (S 3 s))), (5, vI ((S3 26 z1) - (S3 26 k))), (4, vI (z1)), (0, .ref (o)), (1, vI (n)), (2, vI (k)), (3, vI (s))]) 5 rfl dX10_overhead_172 (by decide) rfl ?_
            refine ev_goto (tgt := 53) dX10_overhead_175 (by decide) ?_
            refine ev_pick (L' := [(9, vI (m + 1)), (7, vL ((ovG (S3 27 z1) (S3 28 z1) (S3 27 z1 - S3 27 k) (S3 28 z1 - S3 28 k) (S3 26 z1 - S3 26 k) (S 3 s) (S 4 s)) m)), (6, vI (m)), (5, vI ((S3 26 z1) - (S3 26 k))), (4, vI (z1)), (0, .ref (o)), (1, vI (n)), (2, vI (k)), (3, vI (s))]) [0, 2, 1, 6, 7, 8, 9, 10, 11] rfl ?_
            exact ihm (m + 1) (by omega) (by omega) m ((ovG (S3 27 z1) (S3 28 z1) (S3 27 z1 - S3 27 k) (S3 28 z1 - S3 28 k) (S3 26 z1 - S3 26 k) (S 3 s) (S 4 s)) m) (by omega) (Or.inr (by omega)) (Or.inr ⟨by omega, by rw [show m + 1 - 1 = m by omega, ovB_s hv.1, ← hv.2.1, ← hv.2.2, if_pos (by omega)], rfl⟩) (by omega)
    · refine ev_iload 0 rfl dX10_overhead_23 ?_
      refine ev_ireturn dX10_overhead_25 ?_
      refine ⟨_, rfl, ?_, S3, hM4, (eqx.tr (l := [17, 18, 19, 20, 21, 22, 23, 25, 26, 27, 28, 29, 30, 32, 33]) (eqx.rf (l := [17, 18, 19, 20, 21, 22, 23, 25, 26, 27, 28, 29, 30, 32, 33]) (S := S)) ex5 (by decide) (by decide))⟩
      simp only [sp_overhead]; rw [if_neg (by omega), if_pos (by omega)]; exact hz
  · refine ev_if_ne (tgt := 10) dX10_overhead_5 (by decide) (by decide) (fun c => absurd c (by decide)) (fun _ => ?_)
    refine ev_iconst dX10_overhead_8 ?_
    refine ev_ireturn dX10_overhead_9 ?_
    refine ⟨_, rfl, ?_, S, hM, (eqx.rf (l := [17, 18, 19, 20, 21, 22, 23, 25, 26, 27, 28, 29, 30, 32, 33]) (S := S))⟩
    simp only [sp_overhead]; rw [if_pos (by omega)]
