/-! rows of sheets: given away, made -/
theorem rfa_rf {A : AD} {S : MS} {k : Nat} {i : Int} : rfa A A S k i := by
  unfold rfa
  split <;> first | trivial | (intros; rfl) | rfl
theorem CR.drop {E : EV} {A : AD} {S : MS} {h : AH} {s : Int} (hC : CR E A S h) : CR E A (upS S 43 s (-1)) (ah_up h (A 8 0) (arR E 4 4 (updR (fun j => if 0 ≤ S 43 j then some (A 23 j) else none) s none))) := by
  refine hC.up (dom_0 (by decide)) (fun k i hd => ?_) (fun k i hd hne => ?_) ?_ (upS_in hC.2.2 (by decide))
  · unfold dom at hd ⊢
    split at hd
    · exact hd
    · exact hd
    · exact hd
    · exact hd
    · refine ⟨hd.1, ?_⟩
      have h2 := hd.2
      by_cases e : i = s
      · rw [e, upS_at] at h2
        omega
      · rw [upS_nz e] at h2
        exact h2
    · refine ⟨hd.1, ?_⟩
      have h2 := hd.2
      by_cases e : i = s
      · rw [e, upS_at] at h2
        omega
      · rw [upS_nz e] at h2
        exact h2
    · exact hd
  · refine cel_cg k ?_ rfa_rf
    have hk25 := dom_lt hd
    unfold sla
    by_cases k19 : k < 19
    · rw [if_pos k19]
      intro s hs
      have hall : ∀ j, j < 19 → (j = 8 ∨ ∀ s ∈ slo j, s ∉ [43]) := by decide
      have k8 : k ≠ 8 := fun e => hne ⟨e, dom_0i k19 hd⟩
      have hn := (hall k k19).resolve_left k8 s hs
      exact upS_ne (fun e => hn (by rw [e]; decide))
    · rw [if_neg k19]
      by_cases k24 : k = 24
      · rw [if_pos k24]
        exact ⟨by rw [upS_ne (by decide)], fun z _ _ => by rw [upS_ne (by decide)]⟩
      · rw [if_neg k24]
        intro s2 hs
        by_cases e : s2 = 43
        · subst e
          have hall : ∀ j, j < 25 → (j < 19 ∨ j = 23 ∨ 43 ∉ slo j) := by decide
          have k23 : k = 23 := by
            rcases hall k hk25 with q | q | q
            · omega
            · exact q
            · exact absurd hs q
          subst k23
          have h2 : 0 ≤ upS S 43 s (-1) 43 i := hd.2
          by_cases e2 : i = s
          · rw [e2, upS_at] at h2
            omega
          · exact upS_nz e2
        · rw [upS_ne e]
  · have hf : (fun j => if 0 ≤ upS S 43 s (-1) 43 j then some (A 23 j) else none) = updR (fun j => if 0 ≤ S 43 j then some (A 23 j) else none) s none := by
      funext j
      unfold updR
      by_cases e : j = s
      · rw [if_pos e, e, upS_at, if_neg (by decide)]
      · rw [if_neg e, upS_nz e]
    show arR E 4 4 (fun j => if 0 ≤ upS S 43 s (-1) 43 j then some (A 23 j) else none) = _
    rw [hf]
def shS (S : MS) (s l n : Int) : MS := fun k z => if k = 43 then (if z = s then l else S 43 z) else if k = 44 then (if z = s then n else S 44 z) else if k = 45 then (if 36 * s ≤ z ∧ z < 36 * s + 36 then 0 else S 45 z) else S k z
theorem shS_ne {S : MS} {s l n : Int} {k : Nat} (h : k ∉ [43, 44, 45]) : shS S s l n k = S k := by
  have h2 : ∀ x ∈ [43, 44, 45], k ≠ x := fun x hx e => h (e ▸ hx)
  funext z
  unfold shS
  rw [if_neg (h2 43 (by decide)), if_neg (h2 44 (by decide)), if_neg (h2 45 (by decide))]
theorem shS_in {S : MS} {s l n : Int} (hR : ∀ k z, InR (S k z)) (hl : InR l) (hn : InR n) : ∀ k z, InR (shS S s l n k z) := by
  intro k z
  unfold shS
  repeat' split
  all_goals first | assumption | exact hR _ _ | decide
theorem CR.addRow {E : EV} {A : AD} {S : MS} {h : AH} {q q2 : Nat} {s l n : Int} (hC : CR E A S h) (hs : 0 ≤ s ∧ s < 4) (hl : 0 ≤ l ∧ l ≤ 2) (hn : 0 ≤ n ∧ n ≤ 36) (ho : ∀ k i, dom S k i → A k i ≠ q) (ho2 : ∀ k i, dom S k i → A k i ≠ q2) (hqq : q ≠ q2) (hq : h q = some (ob 5 [vI l, .ref q2])) (hq2 : h q2 = some (arI E n.toNat (fun _ => 0))) : CR E (upA (upA A 23 s q) 24 s q2) (shS S s l n) (ah_up h (A 8 0) (arR E 4 4 (updR (fun j => if 0 ≤ S 43 j then some (A 23 j) else none) s (some q)))) := by
  have q8 : q ≠ A 8 0 := fun e => ho 8 0 (dom_0 (by decide)) e.symm
  have q82 : q2 ≠ A 8 0 := fun e => ho2 8 0 (dom_0 (by decide)) e.symm
  have e23 : upA (upA A 23 s q) 24 s q2 23 s = q := by rw [upA_k (by decide), upA_at]
  have e24 : upA (upA A 23 s q) 24 s q2 24 s = q2 := upA_at
  have hdm : ∀ k i, dom (shS S s l n) k i → ¬ ((k = 23 ∨ k = 24) ∧ i = s) → dom S k i := by
    intro k i hd hn
    unfold dom at hd ⊢
    split at hd
    · exact hd
    · exact hd
    · exact hd
    · exact hd
    · refine ⟨hd.1, ?_⟩
      have h2 := hd.2
      have e : i ≠ s := fun e => hn ⟨Or.inl rfl, e⟩
      unfold shS at h2
      rw [if_pos rfl, if_neg e] at h2
      exact h2
    · refine ⟨hd.1, ?_⟩
      have h2 := hd.2
      have e : i ≠ s := fun e => hn ⟨Or.inr rfl, e⟩
      unfold shS at h2
      rw [if_pos rfl, if_neg e] at h2
      exact h2
    · exact hd
  have hup : ∀ k i, ¬ ((k = 23 ∨ k = 24) ∧ i = s) → upA (upA A 23 s q) 24 s q2 k i = A k i := by
    intro k i hn
    unfold upA
    rw [if_neg (fun z => hn ⟨Or.inr z.1, z.2⟩), if_neg (fun z => hn ⟨Or.inl z.1, z.2⟩)]
  refine hC.gen (N := fun k i => (k = 23 ∨ k = 24) ∧ i = s) (fun k i hd hn => ⟨hup k i hn, hdm k i hd hn⟩) (fun k i hd hn k2 i2 h2 => ?_) (fun k i k2 i2 _ _ h1 h2 he => ?_) (fun k i hd => ?_) (shS_in hC.2.2 (by simp only [InR]; omega) (by simp only [InR]; omega))
  · obtain ⟨hk, rfl⟩ := hn
    rcases hk with rfl | rfl
    · rw [e23]
      exact ho k2 i2 h2
    · rw [e24]
      exact ho2 k2 i2 h2
  · obtain ⟨hk, rfl⟩ := h1
    obtain ⟨hk2, rfl⟩ := h2
    rcases hk with rfl | rfl <;> rcases hk2 with rfl | rfl
    · exact ⟨rfl, rfl⟩
    · rw [e23, e24] at he
      exact absurd he hqq
    · rw [e23, e24] at he
      exact absurd he.symm hqq
    · exact ⟨rfl, rfl⟩
  · by_cases hn1 : (k = 23 ∨ k = 24) ∧ i = s
    · obtain ⟨hk, rfl⟩ := hn1
      rcases hk with rfl | rfl
      · rw [e23, ah_ne q8, hq]
        refine congrArg some ?_
        show _ = ob 5 [vI (shS S i l n 43 i), .ref (upA (upA A 23 i q) 24 i q2 24 i)]
        rw [e24]
        unfold shS
        rw [if_pos rfl, if_pos rfl]
      · rw [e24, ah_ne q82, hq2]
        refine congrArg some ?_
        have hf : (fun z => if 0 ≤ z ∧ z < 36 then shS S i l n 45 (36 * i + z) else 0) = (fun _ => (0 : Int)) := by
          funext z
          by_cases q : 0 ≤ z ∧ z < 36
          · rw [if_pos q]
            unfold shS
            rw [if_neg (by decide), if_neg (by decide), if_pos rfl, if_pos (by omega)]
          · rw [if_neg q]
        have hn44 : shS S i l n 44 i = n := by
          unfold shS
          rw [if_neg (by decide), if_pos rfl, if_pos rfl]
        show _ = arI E (shS S i l n 44 i).toNat (fun z => if 0 ≤ z ∧ z < 36 then shS S i l n 45 (36 * i + z) else 0)
        rw [hf, hn44]
    · have hd0 := hdm k i hd hn1
      rw [hup k i hn1]
      by_cases k8 : k = 8
      · subst k8
        have := dom_0i (by decide) hd0
        subst this
        rw [ah_at]
        refine congrArg some ?_
        have hf : updR (fun j => if 0 ≤ S 43 j then some (A 23 j) else none) s (some q) = (fun j => if 0 ≤ shS S s l n 43 j then some (upA (upA A 23 s q) 24 s q2 23 j) else none) := by
          funext j
          unfold updR
          by_cases e : j = s
          · rw [if_pos e, e, e23]
            have : shS S s l n 43 s = l := by unfold shS; rw [if_pos rfl, if_pos rfl]
            rw [this, if_pos hl.1]
          · rw [if_neg e, hup 23 j (fun z => e z.2)]
            have : shS S s l n 43 j = S 43 j := by unfold shS; rw [if_pos rfl, if_neg e]
            rw [this]
        rw [hf]
        rfl
      · rw [ah_ne (fun e => k8 (hC.2.1 _ _ _ _ hd0 (dom_0 (by decide)) e).1), hC.1 k i hd0]
        refine congrArg some (cel_cg k ?_ ?_).symm
        · have hk25 := dom_lt hd0
          unfold sla
          by_cases k19 : k < 19
          · rw [if_pos k19]
            intro s2 hs2
            have hall : ∀ j, j < 19 → (j = 8 ∨ ∀ s ∈ slo j, s ∉ [43, 44, 45]) := by decide
            exact shS_ne ((hall k k19).resolve_left k8 s2 hs2)
          · rw [if_neg k19]
            by_cases k24 : k = 24
            · rw [if_pos k24]
              have hi : i ≠ s := fun e => hn1 ⟨Or.inr k24, e⟩
              subst k24
              have hd2 : (0 ≤ i ∧ i < 4) ∧ 0 ≤ S 43 i := hd0
              refine ⟨?_, fun z z0 z1 => ?_⟩
              · unfold shS
                rw [if_neg (by decide), if_pos rfl, if_neg hi]
              · unfold shS
                rw [if_neg (by decide), if_neg (by decide), if_pos rfl, if_neg (by omega)]
            · rw [if_neg k24]
              intro s2 hs2
              by_cases k23 : k = 23
              · have hi : i ≠ s := fun e => hn1 ⟨Or.inl k23, e⟩
                subst k23
                have hs3 : s2 ∈ [43] := hs2
                rw [List.mem_singleton.mp hs3]
                unfold shS
                rw [if_pos rfl, if_neg hi]
              · have hall : ∀ j, j < 25 → (j < 19 ∨ j = 23 ∨ j = 24 ∨ ∀ s ∈ slo j, s ∉ [43, 44, 45]) := by decide
                have hne := (((hall k hk25).resolve_left k19).resolve_left k23).resolve_left k24 s2 hs2
                rw [shS_ne hne]
        · unfold rfa
          split
          · exact fun k hk => hup k 0 (fun z => by omega)
          · exact fun j _ => hup 20 j (fun z => by omega)
          · exact fun j _ => hup 21 j (fun z => by omega)
          · exact fun j _ => hup 22 j (fun z => by omega)
          · exact absurd rfl k8
          · exact fun k hk => hup k 0 (fun z => by omega)
          · exact fun k hk => hup k 0 (fun z => by omega)
          · exact fun j => hup 19 j (fun z => by omega)
          · exact fun j => hup 21 _ (fun z => by omega)
          · exact hup 20 _ (fun z => by omega)
          · exact hup 20 _ (fun z => by omega)
          · exact hup 24 i (fun z => hn1 ⟨Or.inl rfl, z.2⟩)
          · trivial
set_option maxHeartbeats 4000000 in
set_option maxRecDepth 100000 in
theorem k_init7 {E : EV} {h : AH} {q : Nat} {n x y : Int} (hq : h q = some (ob 7 [vI 0, vI 0, vI 0, vI 0, vI 0])) : CM E yX7_init cX7_init 4 none 1 0 0 [.ref (q), vI (n), vI (x), vI (y)] h (qV (fun h' => h' = ah_up h q (ob 7 [vI (n), vI (x), vI (y), vI 0, vI 0]))) := by
  refine CM.of (by decide) (Nat.le_of_ble_eq_true rfl) (L := [(0, .ref (q)), (1, vI (n)), (2, vI (x)), (3, vI (y))]) rfl ?_
  refine ev_aload_n 0 rfl dX7_init_0 ?_
  refine oi_X7 dX7_init_1 (by decide) (Nat.le_of_ble_eq_true rfl) ?_
  refine ev_aload_n 0 rfl dX7_init_4 ?_
  refine ev_iload_n 1 rfl dX7_init_5 ?_
  refine p_X7_7_7 rfl dX7_init_6 hq (Nat.le_of_ble_eq_true rfl) ?_
  refine ev_aload_n 0 rfl dX7_init_9 ?_
  refine ev_iload_n 2 rfl dX7_init_10 ?_
  refine p_X7_13_7 rfl dX7_init_11 ah_at (Nat.le_of_ble_eq_true rfl) ?_
  refine ev_aload_n 0 rfl dX7_init_14 ?_
  refine ev_iload_n 3 rfl dX7_init_15 ?_
  refine p_X7_16_7 rfl dX7_init_16 ah_at (Nat.le_of_ble_eq_true rfl) ?_
  refine ev_return dX7_init_19 ?_
  exact ⟨rfl, by rw [ah_uu, ah_uu]; rfl⟩

set_option maxHeartbeats 4000000 in
set_option maxRecDepth 100000 in
theorem k_init8 {E : EV} {h : AH} {q a : Nat} {n c k : Int} (hq : h q = some (ob 8 [.null, vI 0, vI 0, vI 0])) : CM E yX8_init cX8_init 5 none 1 0 0 [.ref (q), .ref (a), vI (n), vI (c), vI (k)] h (qV (fun h' => h' = ah_up h q (ob 8 [.ref (a), vI (n), vI (c), vI (k)]))) := by
  refine CM.of (by decide) (Nat.le_of_ble_eq_true rfl) (L := [(0, .ref (q)), (1, .ref (a)), (2, vI (n)), (3, vI (c)), (4, vI (k))]) rfl ?_
  refine ev_aload_n 0 rfl dX8_init_0 ?_
  refine oi_X8 dX8_init_1 (by decide) (Nat.le_of_ble_eq_true rfl) ?_
  refine ev_aload_n 0 rfl dX8_init_4 ?_
  refine ev_aload_n 1 rfl dX8_init_5 ?_
  refine p_X8_7_8 rfl dX8_init_6 hq (Nat.le_of_ble_eq_true rfl) ?_
  refine ev_aload_n 0 rfl dX8_init_9 ?_
  refine ev_iload_n 2 rfl dX8_init_10 ?_
  refine p_X8_13_8 rfl dX8_init_11 ah_at (Nat.le_of_ble_eq_true rfl) ?_
  refine ev_aload_n 0 rfl dX8_init_14 ?_
  refine ev_iload_n 3 rfl dX8_init_15 ?_
  refine p_X8_17_8 rfl dX8_init_16 ah_at (Nat.le_of_ble_eq_true rfl) ?_
  refine ev_aload_n 0 rfl dX8_init_19 ?_
  refine ev_iload 4 rfl dX8_init_20 ?_
  refine p_X8_20_8 rfl dX8_init_22 ah_at (Nat.le_of_ble_eq_true rfl) ?_
  refine ev_return dX8_init_25 ?_
  exact ⟨rfl, by rw [ah_uu, ah_uu, ah_uu]; rfl⟩

set_option maxHeartbeats 4000000 in
set_option maxRecDepth 100000 in
theorem k_init3_3 {E : EV} {h : AH} {q a : Nat} {a2 a3 a4 a5 : Int} (hq : h q = some (ob 3 [.null, vI 0, vI 0, vI 0, vI 0])) : CM E yX3_init cX3_init 6 none 1 0 0 [.ref (q), .ref (a), vI (a2), vI (a3), vI (a4), vI (a5)] h (qV (fun h' => h' = ah_up h q (ob 3 [.ref (a), vI (a2), vI (a3), vI (a4), vI (a5)]))) := by
  refine CM.of (by decide) (Nat.le_of_ble_eq_true rfl) (L := [(0, .ref (q)), (1, .ref (a)), (2, vI (a2)), (3, vI (a3)), (4, vI (a4)), (5, vI (a5))]) rfl ?_
  refine ev_aload_n 0 rfl dX3_init_0 ?_
  refine oi_X3 dX3_init_1 (by decide) (Nat.le_of_ble_eq_true rfl) ?_
  refine ev_aload_n 0 rfl dX3_init_4 ?_
  refine ev_aload_n 1 rfl dX3_init_5 ?_
  refine p_X3_7_3 rfl dX3_init_6 hq (Nat.le_of_ble_eq_true rfl) ?_
  refine ev_aload_n 0 rfl dX3_init_9 ?_
  refine ev_iload_n 2 rfl dX3_init_10 ?_
  refine p_X3_13_3 rfl dX3_init_11 ah_at (Nat.le_of_ble_eq_true rfl) ?_
  refine ev_aload_n 0 rfl dX3_init_14 ?_
  refine ev_iload_n 3 rfl dX3_init_15 ?_
  refine p_X3_17_3 rfl dX3_init_16 ah_at (Nat.le_of_ble_eq_true rfl) ?_
  refine ev_aload_n 0 rfl dX3_init_19 ?_
  refine ev_iload 4 rfl dX3_init_20 ?_
  refine p_X3_20_3 rfl dX3_init_22 ah_at (Nat.le_of_ble_eq_true rfl) ?_
  refine ev_aload_n 0 rfl dX3_init_25 ?_
  refine ev_iload 5 rfl dX3_init_26 ?_
  refine p_X3_23_3 rfl dX3_init_28 ah_at (Nat.le_of_ble_eq_true rfl) ?_
  refine ev_return dX3_init_31 ?_
  exact ⟨rfl, by rw [ah_uu, ah_uu, ah_uu, ah_uu]; rfl⟩

set_option maxHeartbeats 4000000 in
set_option maxRecDepth 100000 in
theorem k_init3_0 {E : EV} {h : AH} {q a : Nat} {a2 a3 a4 a5 : Int} (hq : h q = some (ob 0 [.null, vI 0, vI 0, vI 0, vI 0, vI 0, vI 0, vI 0])) : CM E yX3_init cX3_init 6 none 1 0 0 [.ref (q), .ref (a), vI (a2), vI (a3), vI (a4), vI (a5)] h (qV (fun h' => h' = ah_up h q (ob 0 [.ref (a), vI (a2), vI (a3), vI (a4), vI (a5), vI 0, vI 0, vI 0]))) := by
  refine CM.of (by decide) (Nat.le_of_ble_eq_true rfl) (L := [(0, .ref (q)), (1, .ref (a)), (2, vI (a2)), (3, vI (a3)), (4, vI (a4)), (5, vI (a5))]) rfl ?_
  refine ev_aload_n 0 rfl dX3_init_0 ?_
  refine oi_X3 dX3_init_1 (by decide) (Nat.le_of_ble_eq_true rfl) ?_
  refine ev_aload_n 0 rfl dX3_init_4 ?_
  refine ev_aload_n 1 rfl dX3_init_5 ?_
  refine p_X3_7_0 rfl dX3_init_6 hq (Nat.le_of_ble_eq_true rfl) ?_
  refine ev_aload_n 0 rfl dX3_init_9 ?_
  refine ev_iload_n 2 rfl dX3_init_10 ?_
  refine p_X3_13_0 rfl dX3_init_11 ah_at (Nat.le_of_ble_eq_true rfl) ?_
  refine ev_aload_n 0 rfl dX3_init_14 ?_
  refine ev_iload_n 3 rfl dX3_init_15 ?_
  refine p_X3_17_0 rfl dX3_init_16 ah_at (Nat.le_of_ble_eq_true rfl) ?_
  refine ev_aload_n 0 rfl dX3_init_19 ?_
  refine ev_iload 4 rfl dX3_init_20 ?_
  refine p_X3_20_0 rfl dX3_init_22 ah_at (Nat.le_of_ble_eq_true rfl) ?_
  refine ev_aload_n 0 rfl dX3_init_25 ?_
  refine ev_iload 5 rfl dX3_init_26 ?_
  refine p_X3_23_0 rfl dX3_init_28 ah_at (Nat.le_of_ble_eq_true rfl) ?_
  refine ev_return dX3_init_31 ?_
  exact ⟨rfl, by rw [ah_uu, ah_uu, ah_uu, ah_uu]; rfl⟩

set_option maxHeartbeats 4000000 in
set_option maxRecDepth 100000 in
theorem k_init3_4 {E : EV} {h : AH} {q a : Nat} {a2 a3 a4 a5 : Int} (hq : h q = some (ob 4 [vI 0, vI 0, vI 0, .null, vI 0, vI 0, vI 0, vI 0, vI 0])) : CM E yX3_init cX3_init 6 none 1 0 0 [.ref (q), .ref (a), vI (a2), vI (a3), vI (a4), vI (a5)] h (qV (fun h' => h' = ah_up h q (ob 4 [vI 0, vI 0, vI 0, .ref (a), vI (a2), vI (a3), vI (a4), vI (a5), vI 0]))) := by
  refine CM.of (by decide) (Nat.le_of_ble_eq_true rfl) (L := [(0, .ref (q)), (1, .ref (a)), (2, vI (a2)), (3, vI (a3)), (4, vI (a4)), (5, vI (a5))]) rfl ?_
  refine ev_aload_n 0 rfl dX3_init_0 ?_
  refine oi_X3 dX3_init_1 (by decide) (Nat.le_of_ble_eq_true rfl) ?_
  refine ev_aload_n 0 rfl dX3_init_4 ?_
  refine ev_aload_n 1 rfl dX3_init_5 ?_
  refine p_X3_7_4 rfl dX3_init_6 hq (Nat.le_of_ble_eq_true rfl) ?_
  refine ev_aload_n 0 rfl dX3_init_9 ?_
  refine ev_iload_n 2 rfl dX3_init_10 ?_
  refine p_X3_13_4 rfl dX3_init_11 ah_at (Nat.le_of_ble_eq_true rfl) ?_
  refine ev_aload_n 0 rfl dX3_init_14 ?_
  refine ev_iload_n 3 rfl dX3_init_15 ?_
  refine p_X3_17_4 rfl dX3_init_16 ah_at (Nat.le_of_ble_eq_true rfl) ?_
  refine ev_aload_n 0 rfl dX3_init_19 ?_
  refine ev_iload 4 rfl dX3_init_20 ?_
  refine p_X3_20_4 rfl dX3_init_22 ah_at (Nat.le_of_ble_eq_true rfl) ?_
  refine ev_aload_n 0 rfl dX3_init_25 ?_
  refine ev_iload 5 rfl dX3_init_26 ?_
  refine p_X3_23_4 rfl dX3_init_28 ah_at (Nat.le_of_ble_eq_true rfl) ?_
  refine ev_return dX3_init_31 ?_
  exact ⟨rfl, by rw [ah_uu, ah_uu, ah_uu, ah_uu]; rfl⟩

set_option maxHeartbeats 4000000 in
set_option maxRecDepth 100000 in
theorem k_init0_0 {E : EV} {h : AH} {q a : Nat} {a2 a3 a4 a5 c : Int} (g4 : 0 ≤ a4 ∧ a4 ≤ 359) (hq : h q = some (ob 0 [.null, vI 0, vI 0, vI 0, vI 0, vI 0, vI 0, vI 0])) : CM E yX0_init cX0_init 7 none 3 0 0 [.ref (q), .ref (a), vI (a2), vI (a3), vI (a4), vI (a5), vI (c)] h (qV (fun h' => h' = ah_up h q (ob 0 [.ref (a), vI (a2), vI (a3), vI (a4), vI (a5), vI (c), vI (sinZ a4), vI (cosZ a4)]))) := by
  refine CM.of (by decide) (Nat.le_of_ble_eq_true rfl) (L := [(0, .ref (q)), (1, .ref (a)), (2, vI (a2)), (3, vI (a3)), (4, vI (a4)), (5, vI (a5)), (6, vI (c))]) rfl ?_
  refine ev_aload_n 0 rfl dX0_init_0 ?_
  refine ev_aload_n 1 rfl dX0_init_1 ?_
  refine ev_iload_n 2 rfl dX0_init_2 ?_
  refine ev_iload_n 3 rfl dX0_init_3 ?_
  refine ev_iload 4 rfl dX0_init_4 ?_
  refine ev_iload 5 rfl dX0_init_6 ?_
  refine c_X0_1 (k_init3_0 hq) rfl rfl (Nat.le_of_ble_eq_true rfl) (by decide) dX0_init_8 (kV (fun h1 e1 => ?_))
  subst e1
  refine ev_aload_n 0 rfl dX0_init_11 ?_
  refine ev_iload 6 rfl dX0_init_12 ?_
  refine p_X0_7_0 rfl dX0_init_14 ah_at (Nat.le_of_ble_eq_true rfl) ?_
  refine ev_aload_n 0 rfl dX0_init_17 ?_
  refine ev_iload 4 rfl dX0_init_18 ?_
  refine c_X0_13 (k_sineB E (d := a4) g4) rfl rfl (Nat.le_of_ble_eq_true rfl) (by decide) dX0_init_20 (kP ?_)
  refine p_X0_19_0 rfl dX0_init_23 ah_at (Nat.le_of_ble_eq_true rfl) ?_
  refine ev_aload_n 0 rfl dX0_init_26 ?_
  refine ev_iload 4 rfl dX0_init_27 ?_
  refine c_X0_22 (k_cosine E (d := a4) g4) rfl rfl (Nat.le_of_ble_eq_true rfl) (by decide) dX0_init_29 (kP ?_)
  refine p_X0_25_0 rfl dX0_init_32 ah_at (Nat.le_of_ble_eq_true rfl) ?_
  refine ev_return dX0_init_35 ?_
  exact ⟨rfl, by rw [ah_uu, ah_uu, ah_uu]; rfl⟩

set_option maxHeartbeats 4000000 in
set_option maxRecDepth 100000 in
theorem k_init0_4 {E : EV} {h : AH} {q a : Nat} {a2 a3 a4 a5 c : Int} (g4 : 0 ≤ a4 ∧ a4 ≤ 359) (hq : h q = some (ob 4 [vI 0, vI 0, vI 0, .null, vI 0, vI 0, vI 0, vI 0, vI 0])) : CM E yX0_init cX0_init 7 none 3 0 0 [.ref (q), .ref (a), vI (a2), vI (a3), vI (a4), vI (a5), vI (c)] h (qV (fun h' => h' = ah_up h q (ob 4 [vI (c), vI (sinZ a4), vI (cosZ a4), .ref (a), vI (a2), vI (a3), vI (a4), vI (a5), vI 0]))) := by
  refine CM.of (by decide) (Nat.le_of_ble_eq_true rfl) (L := [(0, .ref (q)), (1, .ref (a)), (2, vI (a2)), (3, vI (a3)), (4, vI (a4)), (5, vI (a5)), (6, vI (c))]) rfl ?_
  refine ev_aload_n 0 rfl dX0_init_0 ?_
  refine ev_aload_n 1 rfl dX0_init_1 ?_
  refine ev_iload_n 2 rfl dX0_init_2 ?_
  refine ev_iload_n 3 rfl dX0_init_3 ?_
  refine ev_iload 4 rfl dX0_init_4 ?_
  refine ev_iload 5 rfl dX0_init_6 ?_
  refine c_X0_1 (k_init3_4 hq) rfl rfl (Nat.le_of_ble_eq_true rfl) (by decide) dX0_init_8 (kV (fun h1 e1 => ?_))
  subst e1
  refine ev_aload_n 0 rfl dX0_init_11 ?_
  refine ev_iload 6 rfl dX0_init_12 ?_
  refine p_X0_7_4 rfl dX0_init_14 ah_at (Nat.le_of_ble_eq_true rfl) ?_
  refine ev_aload_n 0 rfl dX0_init_17 ?_
  refine ev_iload 4 rfl dX0_init_18 ?_
  refine c_X0_13 (k_sineB E (d := a4) g4) rfl rfl (Nat.le_of_ble_eq_true rfl) (by decide) dX0_init_20 (kP ?_)
  refine p_X0_19_4 rfl dX0_init_23 ah_at (Nat.le_of_ble_eq_true rfl) ?_
  refine ev_aload_n 0 rfl dX0_init_26 ?_
  refine ev_iload 4 rfl dX0_init_27 ?_
  refine c_X0_22 (k_cosine E (d := a4) g4) rfl rfl (Nat.le_of_ble_eq_true rfl) (by decide) dX0_init_29 (kP ?_)
  refine p_X0_25_4 rfl dX0_init_32 ah_at (Nat.le_of_ble_eq_true rfl) ?_
  refine ev_return dX0_init_35 ?_
  exact ⟨rfl, by rw [ah_uu, ah_uu, ah_uu]; rfl⟩

set_option maxHeartbeats 4000000 in
set_option maxRecDepth 100000 in
theorem k_init4 {E : EV} {h : AH} {q a : Nat} {a2 a3 a4 a5 c l : Int} (g4 : 0 ≤ a4 ∧ a4 ≤ 359) (hq : h q = some (ob 4 [vI 0, vI 0, vI 0, .null, vI 0, vI 0, vI 0, vI 0, vI 0])) : CM E yX4_init cX4_init 8 none 4 0 0 [.ref (q), .ref (a), vI (a2), vI (a3), vI (a4), vI (a5), vI (c), vI (l)] h (qV (fun h' => h' = ah_up h q (ob 4 [vI (c), vI (sinZ a4), vI (cosZ a4), .ref (a), vI (a2), vI (a3), vI (a4), vI (a5), vI (l)]))) := by
  refine CM.of (by decide) (Nat.le_of_ble_eq_true rfl) (L := [(0, .ref (q)), (1, .ref (a)), (2, vI (a2)), (3, vI (a3)), (4, vI (a4)), (5, vI (a5)), (6, vI (c)), (7, vI (l))]) rfl ?_
  refine ev_aload_n 0 rfl dX4_init_0 ?_
  refine ev_aload_n 1 rfl dX4_init_1 ?_
  refine ev_iload_n 2 rfl dX4_init_2 ?_
  refine ev_iload_n 3 rfl dX4_init_3 ?_
  refine ev_iload 4 rfl dX4_init_4 ?_
  refine ev_iload 5 rfl dX4_init_6 ?_
  refine ev_iload 6 rfl dX4_init_8 ?_
  refine c_X4_1 (k_init0_4 g4 hq) rfl rfl (Nat.le_of_ble_eq_true rfl) (by decide) dX4_init_10 (kV (fun h1 e1 => ?_))
  subst e1
  refine ev_aload_n 0 rfl dX4_init_13 ?_
  refine ev_iload 7 rfl dX4_init_14 ?_
  refine p_X4_7_4 rfl dX4_init_16 ah_at (Nat.le_of_ble_eq_true rfl) ?_
  refine ev_return dX4_init_19 ?_
  exact ⟨rfl, by rw [ah_uu]; rfl⟩

theorem ev_wid {E : EV} {own : String} {cc : ByteArray} {nL : Nat} {ret : Option FieldType} {mn : String} {Q : Option Value → AH → Prop} {d kc ks kc' ks' pc : Nat} {L : List (Nat × Value)} {st : List Value} {h : AH} (h1 : kc ≤ kc') (h2 : ks ≤ ks') (k : Ev E own cc nL ret mn Q d kc ks pc L st h) : Ev E own cc nL ret mn Q d kc' ks' pc L st h := by
  intro p l e s m args below meth c H locs cells slots mc ms A ls hC
  obtain ⟨hx, hb, hr, hml, hown, hnm, hlk, hts, hK, hG, hA, hH, hS, hl, hc1, hc2⟩ := hC
  exact k p l e s m args below meth c H locs cells slots mc ms A ls ⟨hx, hb, hr, hml, hown, hnm, hlk, hts, hK, hG, hA, hH, hS, hl, by omega, by omega⟩

set_option maxHeartbeats 4000000 in
set_option maxRecDepth 100000 in
theorem k_init5 {E : EV} {h : AH} {q : Nat} {l n : Int} (hn : 0 ≤ n ∧ n ≤ 36) (hq : h q = some (ob 5 [vI 0, .null])) : CM E yX5_init cX5_init 3 none 1 1 36 [.ref q, vI l, vI n] h (qV (fun h' => ∃ q2, h q2 = none ∧ q2 ≠ q ∧ h' q = some (ob 5 [vI l, .ref q2]) ∧ h' q2 = some (arI E n.toNat (fun _ => 0)) ∧ ∀ x, x ≠ q → x ≠ q2 → h' x = h x)) := by
  refine CM.of (by decide) (Nat.le_of_ble_eq_true rfl) (L := [(0, .ref q), (1, vI l), (2, vI n)]) rfl ?_
  refine ev_aload_n 0 rfl dX5_init_0 ?_
  refine oi_X5 dX5_init_1 (by decide) (Nat.le_of_ble_eq_true rfl) ?_
  refine ev_aload_n 0 rfl dX5_init_4 ?_
  refine ev_iload_n 1 rfl dX5_init_5 ?_
  refine p_X5_7_5 rfl dX5_init_6 hq (Nat.le_of_ble_eq_true rfl) ?_
  refine ev_aload_n 0 rfl dX5_init_9 ?_
  refine ev_iload_n 2 rfl dX5_init_10 ?_
  refine ev_ren (b := (n.toNat : Int)) (by omega) ?_
  refine ev_wid (kc := 0 + 1) (ks := 0 + n.toNat) (by omega) (by omega) ?_
  refine ev_newI aI_ok (by omega) dX5_init_11 (fun q2 e2 => ?_)
  have hne : q2 ≠ q := fun e => by
    subst e
    rw [ah_at] at e2
    cases e2
  refine p_X5_13_5 rfl dX5_init_13 ((ah_ne (fun e => hne e.symm)).trans ah_at) (Nat.le_of_ble_eq_true rfl) ?_
  refine ev_return dX5_init_16 ?_
  refine ⟨rfl, q2, ?_, hne, ah_at, ?_, fun x h1 h2 => ?_⟩
  · rw [ah_ne hne] at e2
    exact e2
  · rw [ah_ne hne, ah_at]
  · rw [ah_ne h1, ah_ne h2, ah_ne h1]

