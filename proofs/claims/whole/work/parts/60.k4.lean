theorem IniL.one {h : AH} {q : Nat} {e : va_E} (hq : h q = some e) : IniL [q] [e] h := by
  refine ⟨rfl, fun p p2 a h1 h2 => ?_, fun p a e2 h1 h2 => ?_⟩
  · have l1 : p < 1 := (List.getElem?_eq_some_iff.mp h1).1
    have l2 : p2 < 1 := (List.getElem?_eq_some_iff.mp h2).1
    omega
  · have l1 : p < 1 := (List.getElem?_eq_some_iff.mp h1).1
    have e0 : p = 0 := by omega
    subst e0
    cases h1
    cases h2
    exact hq
theorem Inv_SI : Inv SI := by
  refine ⟨by decide, by decide, by decide, by decide, by decide, by decide, fun i h0 h1 => ?_, fun i h0 h1 => ?_, fun i h0 h1 => ?_, fun i h0 h1 => ?_, fun i h0 h1 => ⟨⟨?_, ?_⟩, ?_, ?_⟩, fun z _ _ => rfl, fun z _ _ => rfl, fun i _ => ⟨rfl, rfl⟩⟩
  · exact absurd h1 (by show ¬ i < 0; omega)
  · exact absurd h1 (by show ¬ i < 0; omega)
  · exact absurd h1 (by show ¬ i < 0; omega)
  · exact absurd h1 (by show ¬ i < 0; omega)
  · show (-1 : Int) ≤ -1; decide
  · show (-1 : Int) ≤ 2; decide
  · show (0 : Int) ≤ 0; decide
  · show (0 : Int) ≤ 36; decide
theorem CJ_SI : CJ SI := by
  refine ⟨⟨⟨by decide, by decide⟩, fun j h0 h1 => ?_, fun k hk => ?_, fun i j h0 h1 h2 => ?_⟩, fun j => ?_⟩
  · exact absurd h1 (by show ¬ j < 0; omega)
  · exact absurd hk.2 (by show ¬ k < 0; omega)
  · exact absurd h2 (by show ¬ j < 0; omega)
  · show (-1 : Int) < 0; decide

/-- where the addresses lie in the list -/
def aiL (k : Nat) (i : Int) : Nat := if k = 19 then 19 + i.toNat else k
def AiL (AL : List Nat) : AD := fun k i => AL.getD (aiL k i) 0
theorem dom_SI {k : Nat} {i : Int} (h : dom SI k i) : (k < 19 ∧ i = 0) ∨ (k = 19 ∧ 0 ≤ i ∧ i < 10) := by
  have h1 : SI 2 0 = 0 := rfl
  have h2 : SI 7 0 = 0 := rfl
  have h3 : SI 34 0 = 0 := rfl
  have h4 : SI 43 i = -1 := rfl
  unfold dom at h
  split at h
  · exact Or.inr ⟨rfl, h⟩
  · omega
  · omega
  · omega
  · omega
  · omega
  · exact Or.inl h

theorem arR_cg {E : EV} {t n : Nat} {f g : Int → Option Nat} (h : ∀ j : Nat, f j = g j) : arR E t n f = arR E t n g := by
  unfold arR
  rw [show (fun j : Nat => f (j : Int)) = (fun j : Nat => g (j : Int)) from funext h]
theorem getD_at {l : List Nat} {n : Nat} (h : n < l.length) : l[n]? = some (l.getD n 0) := by
  rw [List.getD_eq_getElem?_getD, List.getElem?_eq_getElem h]
  rfl

set_option maxHeartbeats 4000000 in
set_option maxRecDepth 100000 in
theorem ini_A {E : EV} {q a1 a2 a3 a4 a5 a6 a7 a8 a9 a10 a11 a12 a13 a14 a15 a16 a17 a18 : Nat} {lc : List Nat} {h : AH} (B : IniL ([q, a1, a2, a3, a4, a5, a6, a7, a8, a9, a10, a11, a12, a13, a14, a15, a16, a17, a18] ++ lc) ([ob 9 [.ref a1, .ref a2, .ref a3, .ref a4, .ref a5, .ref a6, .ref a7, .ref a8, .ref a9, .ref a11, vI 0, vI 0, vI 0, vI 0, vI 0, vI 20, vI 20], arR E 1 8 (fun _ => none), arR E 2 40 (fun _ => none), arR E 3 60 (fun _ => none), arI E 20 (fun _ => 0), arI E 20 (fun _ => 0), arI E 40 (fun _ => 0), arI E 40 (fun _ => 0), arR E 4 4 (fun _ => none), ob 1 [.ref a10], arI E 7 (fun _ => 0), ob 6 [.ref a12, .ref a13, .ref a14, .ref a15, .ref a16, .ref a17, .ref a18, vI 0, vI 0], arR E 5 10 (fun j => some (([q, a1, a2, a3, a4, a5, a6, a7, a8, a9, a10, a11, a12, a13, a14, a15, a16, a17, a18] ++ lc).getD (19 + j.toNat) 0)), arR E 6 10 (fun _ => none), arI E 10 (fun _ => 0), arI E 10 (fun _ => 0), arI E 10 (fun _ => 0), arI E 10 (fun _ => 0), arI E 10 (fun _ => 0)] ++ List.replicate 10 (ob 2 [vI 0, vI 0, vI 0, vI 0, vI 0, vI 0, vI 0, vI 0, vI 0, vI 0])) h) : ∀ k : Nat, k < 19 → h (AiL ([q, a1, a2, a3, a4, a5, a6, a7, a8, a9, a10, a11, a12, a13, a14, a15, a16, a17, a18] ++ lc) k 0) = some (cel E (AiL ([q, a1, a2, a3, a4, a5, a6, a7, a8, a9, a10, a11, a12, a13, a14, a15, a16, a17, a18] ++ lc)) SI k 0) := by
  intro k hk
  match k, hk with
  | 0, _ => exact B.2.2 0 _ _ rfl rfl
  | 1, _ => exact (B.2.2 1 _ _ rfl rfl).trans (congrArg some (show arR E 1 8 (fun _ => none) = arR E 1 8 (fun j => if j < SI 2 0 then some (AiL ([q, a1, a2, a3, a4, a5, a6, a7, a8, a9, a10, a11, a12, a13, a14, a15, a16, a17, a18] ++ lc) 20 j) else none) from arR_cg (fun j => (if_neg (show ¬ (j : Int) < 0 by omega)).symm)))
  | 2, _ => exact (B.2.2 2 _ _ rfl rfl).trans (congrArg some (show arR E 2 40 (fun _ => none) = arR E 2 40 (fun j => if j < SI 7 0 then some (AiL ([q, a1, a2, a3, a4, a5, a6, a7, a8, a9, a10, a11, a12, a13, a14, a15, a16, a17, a18] ++ lc) 21 j) else none) from arR_cg (fun j => (if_neg (show ¬ (j : Int) < 0 by omega)).symm)))
  | 3, _ => exact (B.2.2 3 _ _ rfl rfl).trans (congrArg some (show arR E 3 60 (fun _ => none) = arR E 3 60 (fun j => if j < SI 34 0 then some (AiL ([q, a1, a2, a3, a4, a5, a6, a7, a8, a9, a10, a11, a12, a13, a14, a15, a16, a17, a18] ++ lc) 22 j) else none) from arR_cg (fun j => (if_neg (show ¬ (j : Int) < 0 by omega)).symm)))
  | 4, _ => exact B.2.2 4 _ _ rfl rfl
  | 5, _ => exact B.2.2 5 _ _ rfl rfl
  | 6, _ => exact B.2.2 6 _ _ rfl rfl
  | 7, _ => exact B.2.2 7 _ _ rfl rfl
  | 8, _ => exact (B.2.2 8 _ _ rfl rfl).trans (congrArg some (show arR E 4 4 (fun _ => none) = arR E 4 4 (fun j => if 0 ≤ SI 43 j then some (AiL ([q, a1, a2, a3, a4, a5, a6, a7, a8, a9, a10, a11, a12, a13, a14, a15, a16, a17, a18] ++ lc) 23 j) else none) from arR_cg (fun j => (if_neg (show ¬ (0 : Int) ≤ -1 by omega)).symm)))
  | 9, _ => exact B.2.2 9 _ _ rfl rfl
  | 10, _ => exact B.2.2 10 _ _ rfl rfl
  | 11, _ => exact B.2.2 11 _ _ rfl rfl
  | 12, _ => exact B.2.2 12 _ _ rfl rfl
  | 13, _ => exact (B.2.2 13 _ _ rfl rfl).trans (congrArg some (show arR E 6 10 (fun _ => none) = arR E 6 10 (fun j => if 0 ≤ SI 68 j then some (AiL ([q, a1, a2, a3, a4, a5, a6, a7, a8, a9, a10, a11, a12, a13, a14, a15, a16, a17, a18] ++ lc) 21 (SI 68 j)) else none) from arR_cg (fun j => (if_neg (show ¬ (0 : Int) ≤ -1 by omega)).symm)))
  | 14, _ => exact B.2.2 14 _ _ rfl rfl
  | 15, _ => exact B.2.2 15 _ _ rfl rfl
  | 16, _ => exact B.2.2 16 _ _ rfl rfl
  | 17, _ => exact B.2.2 17 _ _ rfl rfl
  | 18, _ => exact B.2.2 18 _ _ rfl rfl
  | n + 19, hx => exact absurd hx (by omega)
set_option maxHeartbeats 4000000 in
set_option maxRecDepth 100000 in
theorem ini_CR {E : EV} {q a1 a2 a3 a4 a5 a6 a7 a8 a9 a10 a11 a12 a13 a14 a15 a16 a17 a18 : Nat} {lc : List Nat} {h : AH} (hlc : lc.length = 10) (B : IniL ([q, a1, a2, a3, a4, a5, a6, a7, a8, a9, a10, a11, a12, a13, a14, a15, a16, a17, a18] ++ lc) ([ob 9 [.ref a1, .ref a2, .ref a3, .ref a4, .ref a5, .ref a6, .ref a7, .ref a8, .ref a9, .ref a11, vI 0, vI 0, vI 0, vI 0, vI 0, vI 20, vI 20], arR E 1 8 (fun _ => none), arR E 2 40 (fun _ => none), arR E 3 60 (fun _ => none), arI E 20 (fun _ => 0), arI E 20 (fun _ => 0), arI E 40 (fun _ => 0), arI E 40 (fun _ => 0), arR E 4 4 (fun _ => none), ob 1 [.ref a10], arI E 7 (fun _ => 0), ob 6 [.ref a12, .ref a13, .ref a14, .ref a15, .ref a16, .ref a17, .ref a18, vI 0, vI 0], arR E 5 10 (fun j => some (([q, a1, a2, a3, a4, a5, a6, a7, a8, a9, a10, a11, a12, a13, a14, a15, a16, a17, a18] ++ lc).getD (19 + j.toNat) 0)), arR E 6 10 (fun _ => none), arI E 10 (fun _ => 0), arI E 10 (fun _ => 0), arI E 10 (fun _ => 0), arI E 10 (fun _ => 0), arI E 10 (fun _ => 0)] ++ List.replicate 10 (ob 2 [vI 0, vI 0, vI 0, vI 0, vI 0, vI 0, vI 0, vI 0, vI 0, vI 0])) h) : ∃ A : AD, A 0 0 = q ∧ CR E A SI h := by
  have hll : ([q, a1, a2, a3, a4, a5, a6, a7, a8, a9, a10, a11, a12, a13, a14, a15, a16, a17, a18] ++ lc).length = 29 := by simp [hlc]
  refine ⟨AiL ([q, a1, a2, a3, a4, a5, a6, a7, a8, a9, a10, a11, a12, a13, a14, a15, a16, a17, a18] ++ lc), rfl, ?_, ?_, SI_in⟩
  · intro k i hd
    rcases dom_SI hd with ⟨hk, rfl⟩ | ⟨rfl, h0, h1⟩
    · exact ini_A B k hk
    · refine B.2.2 (19 + i.toNat) _ _ (getD_at (by omega)) ?_
      rw [List.getElem?_append_right (by simp)]
      simp only [List.length_cons, List.length_nil]
      rw [List.getElem?_replicate, if_pos (by omega)]
      rfl
  · intro k i k' i' hd hd' he
    have hl : ∀ k i, dom SI k i → aiL k i < 29 := fun k i h => by
      unfold aiL
      rcases dom_SI h with ⟨hk, rfl⟩ | ⟨rfl, h0, h1⟩
      · rw [if_neg (by omega)]
        omega
      · rw [if_pos rfl]
        omega
    have h1 := hl k i hd
    have h2 := hl k' i' hd'
    have h3 := B.2.1 (aiL k i) (aiL k' i') _ (getD_at (by omega)) (by rw [getD_at (by omega)]; exact congrArg some he.symm)
    unfold aiL at h3
    rcases dom_SI hd with ⟨hk, rfl⟩ | ⟨rfl, h0, h1⟩ <;> rcases dom_SI hd' with ⟨hk', rfl⟩ | ⟨rfl, h0', h1'⟩
    · rw [if_neg (by omega), if_neg (by omega)] at h3
      exact ⟨h3, rfl⟩
    · rw [if_neg (by omega), if_pos rfl] at h3
      omega
    · rw [if_pos rfl, if_neg (by omega)] at h3
      omega
    · rw [if_pos rfl, if_pos rfl] at h3
      exact ⟨rfl, by omega⟩
set_option maxHeartbeats 4000000 in
set_option maxRecDepth 100000 in
theorem k_initX9 {E : EV} {h : AH} {q : Nat} (hq : h q = some (ob 9 [.null, .null, .null, .null, .null, .null, .null, .null, .null, .null, vI 0, vI 0, vI 0, vI 0, vI 0, vI 0, vI 0])) : CM E yX9_init cX9_init 1 none 3 28 419 [.ref q] h (qV (fun h' => ∃ A : AD, A 0 0 = q ∧ CR E A SI h')) := by
  refine CM.of (by decide) (Nat.le_of_ble_eq_true rfl) (L := [(0, .ref q)]) rfl ?_
  refine ev_aload_n 0 rfl dX9_init_0 ?_
  refine oi_X9 dX9_init_1 (by decide) (Nat.le_of_ble_eq_true rfl) ?_
  have B0 : IniL [q] [ob 9 [.null, .null, .null, .null, .null, .null, .null, .null, .null, .null, vI 0, vI 0, vI 0, vI 0, vI 0, vI 0, vI 0]] h := IniL.one hq
  refine ev_aload_n 0 rfl dX9_init_4 ?_
  refine ev_bipush dX9_init_5 (by decide) ?_
  refine ev_ren (b := ((8 : Nat) : Int)) rfl ?_
  refine cna_X9_9 (n := 8) (by decide) dX9_init_7 (fun a1 ha0 => ?_)
  have B1 : IniL [q, a1] [ob 9 [.null, .null, .null, .null, .null, .null, .null, .null, .null, .null, vI 0, vI 0, vI 0, vI 0, vI 0, vI 0, vI 0], arR E 1 8 (fun _ => none)] _ := B0.new ha0
  refine p_X9_11_9 rfl dX9_init_10 (fs := [.null, .null, .null, .null, .null, .null, .null, .null, .null, .null, vI 0, vI 0, vI 0, vI 0, vI 0, vI 0, vI 0]) (B1.2.2 0 q _ rfl rfl) (Nat.le_of_ble_eq_true rfl) ?_
  have B2 : IniL [q, a1] [ob 9 [.ref a1, .null, .null, .null, .null, .null, .null, .null, .null, .null, vI 0, vI 0, vI 0, vI 0, vI 0, vI 0, vI 0], arR E 1 8 (fun _ => none)] _ := B1.put (p := 0) (a := q) rfl
  refine ev_aload_n 0 rfl dX9_init_13 ?_
  refine ev_bipush dX9_init_14 (by decide) ?_
  refine ev_ren (b := ((40 : Nat) : Int)) rfl ?_
  refine cna_X9_15 (n := 40) (by decide) dX9_init_16 (fun a2 ha1 => ?_)
  have B3 : IniL [q, a1, a2] [ob 9 [.ref a1, .null, .null, .null, .null, .null, .null, .null, .null, .null, vI 0, vI 0, vI 0, vI 0, vI 0, vI 0, vI 0], arR E 1 8 (fun _ => none), arR E 2 40 (fun _ => none)] _ := B2.new ha1
  refine p_X9_17_9 rfl dX9_init_19 (fs := [.ref a1, .null, .null, .null, .null, .null, .null, .null, .null, .null, vI 0, vI 0, vI 0, vI 0, vI 0, vI 0, vI 0]) (B3.2.2 0 q _ rfl rfl) (Nat.le_of_ble_eq_true rfl) ?_
  have B4 : IniL [q, a1, a2] [ob 9 [.ref a1, .ref a2, .null, .null, .null, .null, .null, .null, .null, .null, vI 0, vI 0, vI 0, vI 0, vI 0, vI 0, vI 0], arR E 1 8 (fun _ => none), arR E 2 40 (fun _ => none)] _ := B3.put (p := 0) (a := q) rfl
  refine ev_aload_n 0 rfl dX9_init_22 ?_
  refine ev_bipush dX9_init_23 (by decide) ?_
  refine ev_ren (b := ((60 : Nat) : Int)) rfl ?_
  refine cna_X9_21 (n := 60) (by decide) dX9_init_25 (fun a3 ha2 => ?_)
  have B5 : IniL [q, a1, a2, a3] [ob 9 [.ref a1, .ref a2, .null, .null, .null, .null, .null, .null, .null, .null, vI 0, vI 0, vI 0, vI 0, vI 0, vI 0, vI 0], arR E 1 8 (fun _ => none), arR E 2 40 (fun _ => none), arR E 3 60 (fun _ => none)] _ := B4.new ha2
  refine p_X9_23_9 rfl dX9_init_28 (fs := [.ref a1, .ref a2, .null, .null, .null, .null, .null, .null, .null, .null, vI 0, vI 0, vI 0, vI 0, vI 0, vI 0, vI 0]) (B5.2.2 0 q _ rfl rfl) (Nat.le_of_ble_eq_true rfl) ?_
  have B6 : IniL [q, a1, a2, a3] [ob 9 [.ref a1, .ref a2, .ref a3, .null, .null, .null, .null, .null, .null, .null, vI 0, vI 0, vI 0, vI 0, vI 0, vI 0, vI 0], arR E 1 8 (fun _ => none), arR E 2 40 (fun _ => none), arR E 3 60 (fun _ => none)] _ := B5.put (p := 0) (a := q) rfl
  refine ev_aload_n 0 rfl dX9_init_31 ?_
  refine ev_bipush dX9_init_32 (by decide) ?_
  refine ev_ren (b := ((20 : Nat) : Int)) rfl ?_
  refine ev_newI (n := 20) aI_ok (by decide) dX9_init_34 (fun a4 ha3 => ?_)
  have B7 : IniL [q, a1, a2, a3, a4] [ob 9 [.ref a1, .ref a2, .ref a3, .null, .null, .null, .null, .null, .null, .null, vI 0, vI 0, vI 0, vI 0, vI 0, vI 0, vI 0], arR E 1 8 (fun _ => none), arR E 2 40 (fun _ => none), arR E 3 60 (fun _ => none), arI E 20 (fun _ => 0)] _ := B6.new ha3
  refine p_X9_27_9 rfl dX9_init_36 (fs := [.ref a1, .ref a2, .ref a3, .null, .null, .null, .null, .null, .null, .null, vI 0, vI 0, vI 0, vI 0, vI 0, vI 0, vI 0]) (B7.2.2 0 q _ rfl rfl) (Nat.le_of_ble_eq_true rfl) ?_
  have B8 : IniL [q, a1, a2, a3, a4] [ob 9 [.ref a1, .ref a2, .ref a3, .ref a4, .null, .null, .null, .null, .null, .null, vI 0, vI 0, vI 0, vI 0, vI 0, vI 0, vI 0], arR E 1 8 (fun _ => none), arR E 2 40 (fun _ => none), arR E 3 60 (fun _ => none), arI E 20 (fun _ => 0)] _ := B7.put (p := 0) (a := q) rfl
  refine ev_aload_n 0 rfl dX9_init_39 ?_
  refine ev_bipush dX9_init_40 (by decide) ?_
  refine ev_ren (b := ((20 : Nat) : Int)) rfl ?_
  refine ev_newI (n := 20) aI_ok (by decide) dX9_init_42 (fun a5 ha4 => ?_)
  have B9 : IniL [q, a1, a2, a3, a4, a5] [ob 9 [.ref a1, .ref a2, .ref a3, .ref a4, .null, .null, .null, .null, .null, .null, vI 0, vI 0, vI 0, vI 0, vI 0, vI 0, vI 0], arR E 1 8 (fun _ => none), arR E 2 40 (fun _ => none), arR E 3 60 (fun _ => none), arI E 20 (fun _ => 0), arI E 20 (fun _ => 0)] _ := B8.new ha4
  refine p_X9_31_9 rfl dX9_init_44 (fs := [.ref a1, .ref a2, .ref a3, .ref a4, .null, .null, .null, .null, .null, .null, vI 0, vI 0, vI 0, vI 0, vI 0, vI 0, vI 0]) (B9.2.2 0 q _ rfl rfl) (Nat.le_of_ble_eq_true rfl) ?_
  have B10 : IniL [q, a1, a2, a3, a4, a5] [ob 9 [.ref a1, .ref a2, .ref a3, .ref a4, .ref a5, .null, .null, .null, .null, .null, vI 0, vI 0, vI 0, vI 0, vI 0, vI 0, vI 0], arR E 1 8 (fun _ => none), arR E 2 40 (fun _ => none), arR E 3 60 (fun _ => none), arI E 20 (fun _ => 0), arI E 20 (fun _ => 0)] _ := B9.put (p := 0) (a := q) rfl
  refine ev_aload_n 0 rfl dX9_init_47 ?_
  refine ev_bipush dX9_init_48 (by decide) ?_
  refine ev_ren (b := ((40 : Nat) : Int)) rfl ?_
  refine ev_newI (n := 40) aI_ok (by decide) dX9_init_50 (fun a6 ha5 => ?_)
  have B11 : IniL [q, a1, a2, a3, a4, a5, a6] [ob 9 [.ref a1, .ref a2, .ref a3, .ref a4, .ref a5, .null, .null, .null, .null, .null, vI 0, vI 0, vI 0, vI 0, vI 0, vI 0, vI 0], arR E 1 8 (fun _ => none), arR E 2 40 (fun _ => none), arR E 3 60 (fun _ => none), arI E 20 (fun _ => 0), arI E 20 (fun _ => 0), arI E 40 (fun _ => 0)] _ := B10.new ha5
  refine p_X9_34_9 rfl dX9_init_52 (fs := [.ref a1, .ref a2, .ref a3, .ref a4, .ref a5, .null, .null, .null, .null, .null, vI 0, vI 0, vI 0, vI 0, vI 0, vI 0, vI 0]) (B11.2.2 0 q _ rfl rfl) (Nat.le_of_ble_eq_true rfl) ?_
  have B12 : IniL [q, a1, a2, a3, a4, a5, a6] [ob 9 [.ref a1, .ref a2, .ref a3, .ref a4, .ref a5, .ref a6, .null, .null, .null, .null, vI 0, vI 0, vI 0, vI 0, vI 0, vI 0, vI 0], arR E 1 8 (fun _ => none), arR E 2 40 (fun _ => none), arR E 3 60 (fun _ => none), arI E 20 (fun _ => 0), arI E 20 (fun _ => 0), arI E 40 (fun _ => 0)] _ := B11.put (p := 0) (a := q) rfl
  refine ev_aload_n 0 rfl dX9_init_55 ?_
  refine ev_bipush dX9_init_56 (by decide) ?_
  refine ev_ren (b := ((40 : Nat) : Int)) rfl ?_
  refine ev_newI (n := 40) aI_ok (by decide) dX9_init_58 (fun a7 ha6 => ?_)
  have B13 : IniL [q, a1, a2, a3, a4, a5, a6, a7] [ob 9 [.ref a1, .ref a2, .ref a3, .ref a4, .ref a5, .ref a6, .null, .null, .null, .null, vI 0, vI 0, vI 0, vI 0, vI 0, vI 0, vI 0], arR E 1 8 (fun _ => none), arR E 2 40 (fun _ => none), arR E 3 60 (fun _ => none), arI E 20 (fun _ => 0), arI E 20 (fun _ => 0), arI E 40 (fun _ => 0), arI E 40 (fun _ => 0)] _ := B12.new ha6
  refine p_X9_37_9 rfl dX9_init_60 (fs := [.ref a1, .ref a2, .ref a3, .ref a4, .ref a5, .ref a6, .null, .null, .null, .null, vI 0, vI 0, vI 0, vI 0, vI 0, vI 0, vI 0]) (B13.2.2 0 q _ rfl rfl) (Nat.le_of_ble_eq_true rfl) ?_
  have B14 : IniL [q, a1, a2, a3, a4, a5, a6, a7] [ob 9 [.ref a1, .ref a2, .ref a3, .ref a4, .ref a5, .ref a6, .ref a7, .null, .null, .null, vI 0, vI 0, vI 0, vI 0, vI 0, vI 0, vI 0], arR E 1 8 (fun _ => none), arR E 2 40 (fun _ => none), arR E 3 60 (fun _ => none), arI E 20 (fun _ => 0), arI E 20 (fun _ => 0), arI E 40 (fun _ => 0), arI E 40 (fun _ => 0)] _ := B13.put (p := 0) (a := q) rfl
  refine ev_aload_n 0 rfl dX9_init_63 ?_
  refine ev_iconst dX9_init_64 ?_
  refine ev_ren (b := ((4 : Nat) : Int)) rfl ?_
  refine cna_X9_40 (n := 4) (by decide) dX9_init_65 (fun a8 ha7 => ?_)
  have B15 : IniL [q, a1, a2, a3, a4, a5, a6, a7, a8] [ob 9 [.ref a1, .ref a2, .ref a3, .ref a4, .ref a5, .ref a6, .ref a7, .null, .null, .null, vI 0, vI 0, vI 0, vI 0, vI 0, vI 0, vI 0], arR E 1 8 (fun _ => none), arR E 2 40 (fun _ => none), arR E 3 60 (fun _ => none), arI E 20 (fun _ => 0), arI E 20 (fun _ => 0), arI E 40 (fun _ => 0), arI E 40 (fun _ => 0), arR E 4 4 (fun _ => none)] _ := B14.new ha7
  refine p_X9_42_9 rfl dX9_init_68 (fs := [.ref a1, .ref a2, .ref a3, .ref a4, .ref a5, .ref a6, .ref a7, .null, .null, .null, vI 0, vI 0, vI 0, vI 0, vI 0, vI 0, vI 0]) (B15.2.2 0 q _ rfl rfl) (Nat.le_of_ble_eq_true rfl) ?_
  have B16 : IniL [q, a1, a2, a3, a4, a5, a6, a7, a8] [ob 9 [.ref a1, .ref a2, .ref a3, .ref a4, .ref a5, .ref a6, .ref a7, .ref a8, .null, .null, vI 0, vI 0, vI 0, vI 0, vI 0, vI 0, vI 0], arR E 1 8 (fun _ => none), arR E 2 40 (fun _ => none), arR E 3 60 (fun _ => none), arI E 20 (fun _ => 0), arI E 20 (fun _ => 0), arI E 40 (fun _ => 0), arI E 40 (fun _ => 0), arR E 4 4 (fun _ => none)] _ := B15.put (p := 0) (a := q) rfl
  refine ev_aload_n 0 rfl dX9_init_71 ?_
  refine cn_X9_46 dX9_init_72 (fun a9 ha9 => ?_)
  have B17 : IniL [q, a1, a2, a3, a4, a5, a6, a7, a8, a9] [ob 9 [.ref a1, .ref a2, .ref a3, .ref a4, .ref a5, .ref a6, .ref a7, .ref a8, .null, .null, vI 0, vI 0, vI 0, vI 0, vI 0, vI 0, vI 0], arR E 1 8 (fun _ => none), arR E 2 40 (fun _ => none), arR E 3 60 (fun _ => none), arI E 20 (fun _ => 0), arI E 20 (fun _ => 0), arI E 40 (fun _ => 0), arI E 40 (fun _ => 0), arR E 4 4 (fun _ => none), ob 1 [.null]] _ := B16.new ha9
  refine ev_dup dX9_init_75 rfl ?_
  refine c_X9_48 (k_initX1 B17) rfl rfl (Nat.le_of_ble_eq_true rfl) (by decide) dX9_init_76 (kV (fun h1 e1 => ?_))
  obtain ⟨a10, B18⟩ := e1
  refine p_X9_49_9 rfl dX9_init_79 (fs := [.ref a1, .ref a2, .ref a3, .ref a4, .ref a5, .ref a6, .ref a7, .ref a8, .null, .null, vI 0, vI 0, vI 0, vI 0, vI 0, vI 0, vI 0]) (B18.2.2 0 q _ rfl rfl) (Nat.le_of_ble_eq_true rfl) ?_
  have B19 : IniL [q, a1, a2, a3, a4, a5, a6, a7, a8, a9, a10] [ob 9 [.ref a1, .ref a2, .ref a3, .ref a4, .ref a5, .ref a6, .ref a7, .ref a8, .ref a9, .null, vI 0, vI 0, vI 0, vI 0, vI 0, vI 0, vI 0], arR E 1 8 (fun _ => none), arR E 2 40 (fun _ => none), arR E 3 60 (fun _ => none), arI E 20 (fun _ => 0), arI E 20 (fun _ => 0), arI E 40 (fun _ => 0), arI E 40 (fun _ => 0), arR E 4 4 (fun _ => none), ob 1 [.ref a10], arI E 7 (fun _ => 0)] _ := B18.put (p := 0) (a := q) rfl
  refine ev_aload_n 0 rfl dX9_init_82 ?_
  refine cn_X9_53 dX9_init_83 (fun a11 ha11 => ?_)
  have B20 : IniL [q, a1, a2, a3, a4, a5, a6, a7, a8, a9, a10, a11] [ob 9 [.ref a1, .ref a2, .ref a3, .ref a4, .ref a5, .ref a6, .ref a7, .ref a8, .ref a9, .null, vI 0, vI 0, vI 0, vI 0, vI 0, vI 0, vI 0], arR E 1 8 (fun _ => none), arR E 2 40 (fun _ => none), arR E 3 60 (fun _ => none), arI E 20 (fun _ => 0), arI E 20 (fun _ => 0), arI E 40 (fun _ => 0), arI E 40 (fun _ => 0), arR E 4 4 (fun _ => none), ob 1 [.ref a10], arI E 7 (fun _ => 0), ob 6 [.null, .null, .null, .null, .null, .null, .null, vI 0, vI 0]] _ := B19.new ha11
  refine ev_dup dX9_init_86 rfl ?_
  refine c_X9_55 (k_initX6 B20) rfl rfl (Nat.le_of_ble_eq_true rfl) (by decide) dX9_init_87 (kV (fun h2 e2 => ?_))
  obtain ⟨a12, a13, a14, a15, a16, a17, a18, lc, hlc, B21⟩ := e2
  refine p_X9_56_9 rfl dX9_init_90 (fs := [.ref a1, .ref a2, .ref a3, .ref a4, .ref a5, .ref a6, .ref a7, .ref a8, .ref a9, .null, vI 0, vI 0, vI 0, vI 0, vI 0, vI 0, vI 0]) (B21.2.2 0 q _ rfl rfl) (Nat.le_of_ble_eq_true rfl) ?_
  have B22 : IniL ([q, a1, a2, a3, a4, a5, a6, a7, a8, a9, a10, a11, a12, a13, a14, a15, a16, a17, a18] ++ lc) ([ob 9 [.ref a1, .ref a2, .ref a3, .ref a4, .ref a5, .ref a6, .ref a7, .ref a8, .ref a9, .ref a11, vI 0, vI 0, vI 0, vI 0, vI 0, vI 0, vI 0], arR E 1 8 (fun _ => none), arR E 2 40 (fun _ => none), arR E 3 60 (fun _ => none), arI E 20 (fun _ => 0), arI E 20 (fun _ => 0), arI E 40 (fun _ => 0), arI E 40 (fun _ => 0), arR E 4 4 (fun _ => none), ob 1 [.ref a10], arI E 7 (fun _ => 0), ob 6 [.ref a12, .ref a13, .ref a14, .ref a15, .ref a16, .ref a17, .ref a18, vI 0, vI 0], arR E 5 10 (fun j => if j < 10 then some (([q, a1, a2, a3, a4, a5, a6, a7, a8, a9, a10, a11, a12, a13, a14, a15, a16, a17, a18] ++ lc).getD (19 + j.toNat) 0) else none), arR E 6 10 (fun _ => none), arI E 10 (fun _ => 0), arI E 10 (fun _ => 0), arI E 10 (fun _ => 0), arI E 10 (fun _ => 0), arI E 10 (fun _ => 0)] ++ List.replicate 10 (ob 2 [vI 0, vI 0, vI 0, vI 0, vI 0, vI 0, vI 0, vI 0, vI 0, vI 0])) _ := B21.put (p := 0) (a := q) rfl
  refine ev_aload_n 0 rfl dX9_init_93 ?_
  refine ev_bipush dX9_init_94 (by decide) ?_
  refine p_X9_60_9 dX9_init_96 (fs := [.ref a1, .ref a2, .ref a3, .ref a4, .ref a5, .ref a6, .ref a7, .ref a8, .ref a9, .ref a11, vI 0, vI 0, vI 0, vI 0, vI 0, vI 0, vI 0]) (B22.2.2 0 q _ rfl rfl) (Nat.le_of_ble_eq_true rfl) ?_
  have B23 : IniL ([q, a1, a2, a3, a4, a5, a6, a7, a8, a9, a10, a11, a12, a13, a14, a15, a16, a17, a18] ++ lc) ([ob 9 [.ref a1, .ref a2, .ref a3, .ref a4, .ref a5, .ref a6, .ref a7, .ref a8, .ref a9, .ref a11, vI 0, vI 0, vI 0, vI 0, vI 0, vI 20, vI 0], arR E 1 8 (fun _ => none), arR E 2 40 (fun _ => none), arR E 3 60 (fun _ => none), arI E 20 (fun _ => 0), arI E 20 (fun _ => 0), arI E 40 (fun _ => 0), arI E 40 (fun _ => 0), arR E 4 4 (fun _ => none), ob 1 [.ref a10], arI E 7 (fun _ => 0), ob 6 [.ref a12, .ref a13, .ref a14, .ref a15, .ref a16, .ref a17, .ref a18, vI 0, vI 0], arR E 5 10 (fun j => if j < 10 then some (([q, a1, a2, a3, a4, a5, a6, a7, a8, a9, a10, a11, a12, a13, a14, a15, a16, a17, a18] ++ lc).getD (19 + j.toNat) 0) else none), arR E 6 10 (fun _ => none), arI E 10 (fun _ => 0), arI E 10 (fun _ => 0), arI E 10 (fun _ => 0), arI E 10 (fun _ => 0), arI E 10 (fun _ => 0)] ++ List.replicate 10 (ob 2 [vI 0, vI 0, vI 0, vI 0, vI 0, vI 0, vI 0, vI 0, vI 0, vI 0])) _ := B22.put (p := 0) (a := q) rfl
  refine ev_aload_n 0 rfl dX9_init_99 ?_
  refine ev_bipush dX9_init_100 (by decide) ?_
  refine p_X9_64_9 dX9_init_102 (fs := [.ref a1, .ref a2, .ref a3, .ref a4, .ref a5, .ref a6, .ref a7, .ref a8, .ref a9, .ref a11, vI 0, vI 0, vI 0, vI 0, vI 0, vI 20, vI 0]) (B23.2.2 0 q _ rfl rfl) (Nat.le_of_ble_eq_true rfl) ?_
  have B24 : IniL ([q, a1, a2, a3, a4, a5, a6, a7, a8, a9, a10, a11, a12, a13, a14, a15, a16, a17, a18] ++ lc) ([ob 9 [.ref a1, .ref a2, .ref a3, .ref a4, .ref a5, .ref a6, .ref a7, .ref a8, .ref a9, .ref a11, vI 0, vI 0, vI 0, vI 0, vI 0, vI 20, vI 20], arR E 1 8 (fun _ => none), arR E 2 40 (fun _ => none), arR E 3 60 (fun _ => none), arI E 20 (fun _ => 0), arI E 20 (fun _ => 0), arI E 40 (fun _ => 0), arI E 40 (fun _ => 0), arR E 4 4 (fun _ => none), ob 1 [.ref a10], arI E 7 (fun _ => 0), ob 6 [.ref a12, .ref a13, .ref a14, .ref a15, .ref a16, .ref a17, .ref a18, vI 0, vI 0], arR E 5 10 (fun j => if j < 10 then some (([q, a1, a2, a3, a4, a5, a6, a7, a8, a9, a10, a11, a12, a13, a14, a15, a16, a17, a18] ++ lc).getD (19 + j.toNat) 0) else none), arR E 6 10 (fun _ => none), arI E 10 (fun _ => 0), arI E 10 (fun _ => 0), arI E 10 (fun _ => 0), arI E 10 (fun _ => 0), arI E 10 (fun _ => 0)] ++ List.replicate 10 (ob 2 [vI 0, vI 0, vI 0, vI 0, vI 0, vI 0, vI 0, vI 0, vI 0, vI 0])) _ := B23.put (p := 0) (a := q) rfl
  refine ev_extR (q := a12) (n := 10) (t := 5) (f := (fun j => if j < 10 then some (([q, a1, a2, a3, a4, a5, a6, a7, a8, a9, a10, a11, a12, a13, a14, a15, a16, a17, a18] ++ lc).getD (19 + j.toNat) 0) else none)) (g := (fun j => some (([q, a1, a2, a3, a4, a5, a6, a7, a8, a9, a10, a11, a12, a13, a14, a15, a16, a17, a18] ++ lc).getD (19 + j.toNat) 0))) (B24.2.2 12 a12 _ rfl rfl) (fun z z0 z1 => by rw [if_pos (by omega)]) ?_
  have B25 : IniL ([q, a1, a2, a3, a4, a5, a6, a7, a8, a9, a10, a11, a12, a13, a14, a15, a16, a17, a18] ++ lc) ([ob 9 [.ref a1, .ref a2, .ref a3, .ref a4, .ref a5, .ref a6, .ref a7, .ref a8, .ref a9, .ref a11, vI 0, vI 0, vI 0, vI 0, vI 0, vI 20, vI 20], arR E 1 8 (fun _ => none), arR E 2 40 (fun _ => none), arR E 3 60 (fun _ => none), arI E 20 (fun _ => 0), arI E 20 (fun _ => 0), arI E 40 (fun _ => 0), arI E 40 (fun _ => 0), arR E 4 4 (fun _ => none), ob 1 [.ref a10], arI E 7 (fun _ => 0), ob 6 [.ref a12, .ref a13, .ref a14, .ref a15, .ref a16, .ref a17, .ref a18, vI 0, vI 0], arR E 5 10 (fun j => some (([q, a1, a2, a3, a4, a5, a6, a7, a8, a9, a10, a11, a12, a13, a14, a15, a16, a17, a18] ++ lc).getD (19 + j.toNat) 0)), arR E 6 10 (fun _ => none), arI E 10 (fun _ => 0), arI E 10 (fun _ => 0), arI E 10 (fun _ => 0), arI E 10 (fun _ => 0), arI E 10 (fun _ => 0)] ++ List.replicate 10 (ob 2 [vI 0, vI 0, vI 0, vI 0, vI 0, vI 0, vI 0, vI 0, vI 0, vI 0])) _ := B24.put (p := 12) (a := a12) rfl
  refine ev_return dX9_init_105 ?_
  exact ⟨rfl, ini_CR hlc B25⟩
