set_option maxHeartbeats 4000000 in
theorem law_loop {E : EV} {mn : String} {b n : Nat} {xs : Nat → Int32} {o x : Nat} {ad : Nat → Nat} (hn : n ≤ 4096) : ∀ (m : Nat) (i : Int) (A : AD) (S : MS) (hc hm : AH), 0 ≤ i → i ≤ n → (n : Int) - i < 8 * m + 8 → A 0 0 = x → CR E A S hc → MR E o ad S hm → Inv S → CJ S → Dj hc hm → EvZ (Zs b n xs) E RL cL_law 4 (some .boolean) mn QLw 20 (6 * m) (48 * m) 18 (LL b x o i) [] (jo hc hm) := by
  intro m
  induction m with
  | zero =>
    intro i A S hc hm h0 hin hm8 hA hC hM hI hJ dj
    refine ez_iload_n 0 rfl dL_law_18 ?_
    refine ez_aload_n 3 rfl dL_law_19 ?_
    refine ez_slen dL_law_20 ?_
    refine ez_bipush dL_law_21 (by decide) ?_
    refine ez_isub dL_law_23 ?_
    refine ez_icmp_gt (tgt := 1374) dL_law_24 (by unfold InR; omega) (by unfold InR; omega) (by decide) (fun _ => ?_) (fun c => absurd c (by omega))
    refine ez_iconst dL_law_1374 ?_
    exact ez_zreturn (Or.inr rfl) dL_law_1375 rfl
  | succ m ih =>
    intro i A S hc hm h0 hin hm8 hA hC hM hI hJ dj
    refine ez_iload_n 0 rfl dL_law_18 ?_
    refine ez_aload_n 3 rfl dL_law_19 ?_
    refine ez_slen dL_law_20 ?_
    refine ez_bipush dL_law_21 (by decide) ?_
    refine ez_isub dL_law_23 ?_
    refine ez_icmp_gt (tgt := 1374) dL_law_24 (by unfold InR; omega) (by unfold InR; omega) (by decide) (fun _ => ?_) (fun c => ?_)
    · refine ez_iconst dL_law_1374 ?_
      exact ez_zreturn (Or.inr rfl) dL_law_1375 rfl
    · subst hA
      refine ez_aload_n 3 rfl dL_law_27 ?_
      refine ez_iload_n 0 rfl dL_law_28 ?_
      refine ez_sld dL_law_29 (by omega) (by omega) (by omega) ?_
      refine ez_bipush dL_law_30 (by decide) ?_
      refine ez_iand dL_law_32 ?_
      rw [show 6 * (m + 1) = 6 * m + 6 by omega, show 48 * (m + 1) = 48 * m + 48 by omega]
      have hv := andZ31 (xI xs i)
      generalize andZ (xI xs i) 31 = v at hv ⊢
      obtain ⟨k, rfl⟩ : ∃ k : Nat, v = (k : Int) := ⟨v.toNat, by omega⟩
      have hk : k < 32 := by omega
      clear hv
      have nxt : ∀ (A1 : AD) (S1 : MS) (hc1 hm1 : AH), A1 0 0 = A 0 0 → CR E A1 S1 hc1 → MR E o ad S1 hm1 → Inv S1 → CJ S1 → Dj hc1 hm1 → EvZ (Zs b n xs) E RL cL_law 4 (some .boolean) mn QLw 20 (6 * m) (48 * m) 1368 (LL b (A 0 0) o i) [] (jo hc1 hm1) := by
        intro A1 S1 hc1 hm1 e1 e2 e3 e4 e5 e6
        refine ez_iinc (L' := LL b (A 0 0) o (i + 8)) 0 rfl dL_law_1368 (by decide) rfl ?_
        refine ez_goto (tgt := 18) dL_law_1371 (by decide) ?_
        exact ih (i + 8) A1 S1 hc1 hm1 (by omega) (by omega) (by omega) e1 e2 e3 e4 e5 e6
      match k, hk with
      | 0, _ => exact ez_tableIn (tgt := 176) dL_law_33 (by decide) (by decide) (by decide) rfl (by decide) (zc_station hn h0 (by omega) hC hM hI hJ dj nxt)
      | 1, _ => exact ez_tableIn (tgt := 209) dL_law_33 (by decide) (by decide) (by decide) rfl (by decide) (zc_clock hn h0 (by omega) hC hM hI hJ dj nxt)
      | 2, _ => exact ez_tableIn (tgt := 252) dL_law_33 (by decide) (by decide) (by decide) rfl (by decide) (zc_glow hn h0 (by omega) hC hM hI hJ dj nxt)
      | 3, _ => exact ez_tableIn (tgt := 315) dL_law_33 (by decide) (by decide) (by decide) rfl (by decide) (zc_arc hn h0 (by omega) hC hM hI hJ dj nxt)
      | 4, _ => exact ez_tableIn (tgt := 390) dL_law_33 (by decide) (by decide) (by decide) rfl (by decide) (zc_ray hn h0 (by omega) hC hM hI hJ dj nxt)
      | 5, _ => exact ez_tableIn (tgt := 477) dL_law_33 (by decide) (by decide) (by decide) rfl (by decide) (zc_told hn h0 (by omega) hC hM hI hJ dj nxt)
      | 6, _ => exact ez_tableIn (tgt := 510) dL_law_33 (by decide) (by decide) (by decide) rfl (by decide) (zc_colour hn h0 (by omega) hC hM hI hJ dj nxt)
      | 7, _ => exact ez_tableIn (tgt := 533) dL_law_33 (by decide) (by decide) (by decide) rfl (by decide) (zc_lean hn h0 (by omega) hC hM hI hJ dj nxt)
      | 8, _ => exact ez_tableIn (tgt := 556) dL_law_33 (by decide) (by decide) (by decide) rfl (by decide) (zc_table hn h0 (by omega) hC hM hI hJ dj nxt)
      | 9, _ => exact ez_tableIn (tgt := 589) dL_law_33 (by decide) (by decide) (by decide) rfl (by decide) (zc_thick hn h0 (by omega) hC hM hI hJ dj nxt)
      | 10, _ => exact ez_tableIn (tgt := 612) dL_law_33 (by decide) (by decide) (by decide) rfl (by decide) (zc_meets hn h0 (by omega) hC hM hI hJ dj nxt)
      | 11, _ => exact ez_tableIn (tgt := 645) dL_law_33 (by decide) (by decide) (by decide) rfl (by decide) (zc_cross hn h0 (by omega) hC hM hI hJ dj nxt)
      | 12, _ => exact ez_tableIn (tgt := 688) dL_law_33 (by decide) (by decide) (by decide) rfl (by decide) (zc_curtains hn h0 (by omega) hC hM hI hJ dj nxt)
      | 13, _ => exact ez_tableIn (tgt := 711) dL_law_33 (by decide) (by decide) (by decide) rfl (by decide) (zc_curtain hn h0 (by omega) hC hM hI hJ dj nxt)
      | 14, _ => exact ez_tableIn (tgt := 754) dL_law_33 (by decide) (by decide) (by decide) rfl (by decide) (zc_curtainOf hn h0 (by omega) hC hM hI hJ dj nxt)
      | 15, _ => exact ez_tableIn (tgt := 777) dL_law_33 (by decide) (by decide) (by decide) rfl (by decide) (zc_speed hn h0 (by omega) hC hM hI hJ dj nxt)
      | 16, _ => exact ez_tableIn (tgt := 800) dL_law_33 (by decide) (by decide) (by decide) rfl (by decide) (zc_ways hn h0 (by omega) hC hM hI hJ dj nxt)
      | 17, _ => exact ez_tableIn (tgt := 823) dL_law_33 (by decide) (by decide) (by decide) rfl (by decide) (zc_next hn h0 (by omega) hC hM hI hJ dj nxt)
      | 18, _ => exact ez_tableIn (tgt := 856) dL_law_33 (by decide) (by decide) (by decide) rfl (by decide) (zc_overhead hn h0 (by omega) hC hM hI hJ dj nxt)
      | 19, _ => exact ez_tableIn (tgt := 899) dL_law_33 (by decide) (by decide) (by decide) rfl (by decide) (zc_watch hn h0 (by omega) hC hM hI hJ dj nxt)
      | 20, _ => exact ez_tableIn (tgt := 962) dL_law_33 (by decide) (by decide) (by decide) rfl (by decide) (zc_seen hn h0 (by omega) hC hM hI hJ dj nxt)
      | 21, _ => exact ez_tableIn (tgt := 995) dL_law_33 (by decide) (by decide) (by decide) rfl (by decide) (zc_rate hn h0 (by omega) hC hM hI hJ dj nxt)
      | 22, _ => exact ez_tableIn (tgt := 1048) dL_law_33 (by decide) (by decide) (by decide) rfl (by decide) (zc_round hn h0 (by omega) hC hM hI hJ dj nxt)
      | 23, _ => exact ez_tableIn (tgt := 1071) dL_law_33 (by decide) (by decide) (by decide) rfl (by decide) (zc_best hn h0 (by omega) hC hM hI hJ dj nxt)
      | 24, _ => exact ez_tableIn (tgt := 1084) dL_law_33 (by decide) (by decide) (by decide) rfl (by decide) (zc_share hn h0 (by omega) hC hM hI hJ dj nxt)
      | 25, _ => exact ez_tableIn (tgt := 1117) dL_law_33 (by decide) (by decide) (by decide) rfl (by decide) (zc_mended hn h0 (by omega) hC hM hI hJ dj nxt)
      | 26, _ => exact ez_tableIn (tgt := 1150) dL_law_33 (by decide) (by decide) (by decide) rfl (by decide) (zc_moved hn h0 (by omega) hC hM hI hJ dj nxt)
      | 27, _ => exact ez_tableIn (tgt := 1173) dL_law_33 (by decide) (by decide) (by decide) rfl (by decide) (zc_count hn h0 (by omega) hC hM hI hJ dj nxt)
      | 28, _ => exact ez_tableIn (tgt := 1196) dL_law_33 (by decide) (by decide) (by decide) rfl (by decide) (zc_sheet hn h0 (by omega) hC hM hI hJ dj nxt)
      | 29, _ => exact ez_tableIn (tgt := 1239) dL_law_33 (by decide) (by decide) (by decide) rfl (by decide) (zc_drop hn h0 (by omega) hC hM hI hJ dj nxt)
      | 30, _ => exact ez_tableIn (tgt := 1262) dL_law_33 (by decide) (by decide) (by decide) rfl (by decide) (zc_item hn h0 (by omega) hC hM hI hJ dj nxt)
      | 31, _ => exact ez_tableIn (tgt := 1315) dL_law_33 (by decide) (by decide) (by decide) rfl (by decide) (zc_arcs hn h0 (by omega) hC hM hI hJ dj nxt)
      | k + 32, hk => exact absurd hk (by omega)
theorem jo_none {h : AH} : jo h (fun _ => none) = h := by
  funext q
  unfold jo
  cases h q <;> rfl
theorem Dj_none {h : AH} : Dj h (fun _ => none) := fun _ => Or.inr rfl
theorem jo_new {h : AH} {q : Nat} {e : va_E} (hq : jo h (fun _ => none) q = none) : ah_up (jo h (fun _ => none)) q e = jo (ah_up (fun _ => none) q e) h ∧ Dj (ah_up (fun _ => none) q e) h := by
  rw [jo_none] at hq ⊢
  refine ⟨?_, fun p => ?_⟩
  · funext p
    by_cases c : p = q
    · subst c
      rw [ah_at, jo_l ah_at]
    · rw [ah_ne c, jo_r (by rw [ah_ne c])]
  · by_cases c : p = q
    · subst c
      exact Or.inr hq
    · exact Or.inl (by rw [ah_ne c])
set_option maxHeartbeats 4000000 in
theorem law_all {E : EV} {mn : String} {b n : Nat} {xs : Nat → Int32} {M : Nat} (hn : n ≤ 4096) (hM0 : n < 8 * M + 8) : EvZ (Zs b n xs) E RL cL_law 4 (some .boolean) mn QLw 20 (6 * M + 36 + 1 + 28 + 1) (48 * M + 12409 + 46 + 419 + 17) 0 [(0, .ref b)] [] (fun _ => none) := by
  refine zn_L_7 (kc := 6 * M + 36 + 1 + 28) (ks := 48 * M + 12409 + 46 + 419) dL_law_0 (fun x hx => ?_)
  rw [← jo_none (h := ah_up (fun _ => none) x _)]
  refine ez_dup dL_law_3 rfl ?_
  refine z_L_9 (kc := 6 * M + 36 + 1) (ks := 48 * M + 12409 + 46) (k_initX9 ah_at) rfl rfl (by show (1 : Nat) ≤ 8; decide) (by decide) dL_law_4 Dj_none (fun r hc q dj => ?_)
  obtain ⟨rfl, A, hA, hC⟩ := q
  refine ez_astore_n (L' := [(1, .ref x), (0, .ref b)]) dL_law_7 (by decide) rfl ?_
  refine zn_L_10 (kc := 6 * M + 36) (ks := 48 * M + 12409) dL_law_8 (fun o ho => ?_)
  obtain ⟨e1, d1⟩ := jo_new (e := ob 10 [.null, .null, vI 0, .null, .null, .null, .null, vI 0, .null, .null, .null, .null, .null, .null, .null, .null, vI 0, vI 0, vI 0, vI 0, .null, vI 0, .null, .null, .null, .null, .null, .null, .null, .null, .null, vI 0, .null, .null, vI 0, .null, .null, .null, .null, .null, vI 0, .null, .null, .null, .null, .null]) ho
  rw [e1]
  refine ez_dup dL_law_11 rfl ?_
  refine z_L_12 (kc := 6 * M) (ks := 48 * M) (m_init ah_at) rfl rfl (by show (1 : Nat) ≤ 8; decide) (by decide) dL_law_12 d1 (fun r hm q dj2 => ?_)
  obtain ⟨rfl, ad, hM⟩ := q
  refine ez_astore_n (L' := [(2, .ref o), (1, .ref x), (0, .ref b)]) dL_law_15 (by decide) rfl ?_
  refine ez_iconst dL_law_16 ?_
  refine ez_istore_n (L' := LL b x o 0) dL_law_17 (by decide) rfl ?_
  rw [jo_comm dj2]
  exact law_loop hn M 0 A SI hc hm (by decide) (by omega) (by omega) hA hC hM Inv_SI CJ_SI dj2.symm
