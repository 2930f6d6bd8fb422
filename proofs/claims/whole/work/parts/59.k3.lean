/-! making the class's objects: addresses AL, cells CL, side by side -/
def IniL (AL : List Nat) (CL : List va_E) (h : AH) : Prop := AL.length = CL.length ∧ (∀ (p p2 a : Nat), AL[p]? = some a → AL[p2]? = some a → p = p2) ∧ ∀ (p a : Nat) (e : va_E), AL[p]? = some a → CL[p]? = some e → h a = some e
theorem IniL.new {AL : List Nat} {CL : List va_E} {h : AH} {a : Nat} {e : va_E} (hi : IniL AL CL h) (ha : h a = none) : IniL (AL ++ [a]) (CL ++ [e]) (ah_up h a e) := by
  obtain ⟨h1, h2, h3⟩ := hi
  have hna : ∀ p, AL[p]? ≠ some a := fun p hp => by
    have hlt : p < AL.length := (List.getElem?_eq_some_iff.mp hp).1
    have hc : CL[p]? = some (CL[p]'(by omega)) := List.getElem?_eq_getElem (by omega)
    rw [h3 p a _ hp hc] at ha
    cases ha
  have hsp : ∀ p b, (AL ++ [a])[p]? = some b → (AL[p]? = some b ∧ p < AL.length) ∨ (p = AL.length ∧ b = a) := fun p b hp => by
    by_cases hlt : p < AL.length
    · rw [List.getElem?_append_left hlt] at hp
      exact Or.inl ⟨hp, hlt⟩
    · rw [List.getElem?_append_right (by omega)] at hp
      have hz : p - AL.length < 1 := (List.getElem?_eq_some_iff.mp hp).1
      have e0 : p - AL.length = 0 := by omega
      rw [e0] at hp
      cases hp
      exact Or.inr ⟨by omega, rfl⟩
  refine ⟨by simp [h1], fun p p2 b hp hp2 => ?_, fun p b e2 hp he => ?_⟩
  · rcases hsp p b hp with ⟨q, q2⟩ | ⟨q, q2⟩ <;> rcases hsp p2 b hp2 with ⟨w, w2⟩ | ⟨w, w2⟩
    · exact h2 p p2 b q w
    · rw [w2] at q
      exact absurd q (hna p)
    · rw [q2] at w
      exact absurd w (hna p2)
    · omega
  · rcases hsp p b hp with ⟨q, q2⟩ | ⟨q, q2⟩
    · rw [List.getElem?_append_left (by omega)] at he
      rw [ah_ne (fun e3 => hna p (by rw [← e3]; exact q))]
      exact h3 p b e2 q he
    · rw [List.getElem?_append_right (by omega), show p - CL.length = 0 by omega] at he
      cases he
      rw [q2]
      exact ah_at
theorem IniL.put {AL : List Nat} {CL : List va_E} {h : AH} {a p : Nat} {e : va_E} (hi : IniL AL CL h) (ha : AL[p]? = some a) : IniL AL (CL.set p e) (ah_up h a e) := by
  obtain ⟨h1, h2, h3⟩ := hi
  refine ⟨by rw [List.length_set]; exact h1, h2, fun p2 b e2 hp he => ?_⟩
  by_cases q : p = p2
  · subst q
    rw [ha] at hp
    cases hp
    have hlt : p < CL.length := by rw [← h1]; exact (List.getElem?_eq_some_iff.mp ha).1
    simp [List.getElem?_set, hlt] at he
    rw [he]
    exact ah_at
  · simp [List.getElem?_set, q] at he
    rw [ah_ne (fun e3 => q (h2 p p2 a ha (by rw [← e3]; exact hp)))]
    exact h3 p2 b e2 hp he
theorem at_snoc {α : Type} {l : List α} {c : α} {n : Nat} (h : l.length = n) : (l ++ [c])[n]? = some c := by
  subst h
  simp
theorem ev_extR {E : EV} {own : String} {cc : ByteArray} {nL : Nat} {ret : Option FieldType} {mn : String} {Q : Option Value → AH → Prop} {d kc ks pc : Nat} {L : List (Nat × Value)} {st : List Value} {h : AH} {q n t : Nat} {f g : Int → Option Nat} (hq : h q = some (arR E t n f)) (hf : ∀ z : Int, 0 ≤ z → z < n → f z = g z) (kk : Ev E own cc nL ret mn Q d kc ks pc L st (ah_up h q (arR E t n g))) : Ev E own cc nL ret mn Q d kc ks pc L st h := by
  intro p l e s m args below meth c H locs cells slots mc ms A ls hC
  obtain ⟨hx, hb, hr, hml, hown, hnm, hlk, hts, hK, hG, hA, hH, hS, hl, hc1, hc2⟩ := hC
  refine kk p l e s m args below meth c H locs cells slots mc ms A ls ⟨hx, hb, hr, hml, hown, hnm, hlk, hts, hK, hG, hA, hH.alt hq (fun ha => ?_), hS, hl, hc1, hc2⟩
  have h2 : H[q]? = some (vp_cell (E.2.1 t) (n, .inr (.inr (.inr (.inr (fun j => f (j : Int))))))) := ha
  show H[q]? = some (vp_cell (E.2.1 t) (n, .inr (.inr (.inr (.inr (fun j => g (j : Int)))))))
  rw [h2, vp_cell_q, vp_cell_q, arrV_ext (fun j hj => by rw [hf j (by omega) (by omega)])]

set_option maxHeartbeats 4000000 in
set_option maxRecDepth 100000 in
theorem k_initX2 {E : EV} {h : AH} {q : Nat} : CM E yX2_init cX2_init 1 none 1 0 0 [.ref q] h (qV (fun h' => h' = h)) := by
  refine CM.of (by decide) (Nat.le_of_ble_eq_true rfl) (L := [(0, .ref q)]) rfl ?_
  refine ev_aload_n 0 rfl dX2_init_0 ?_
  refine oi_X2 dX2_init_1 (by decide) (Nat.le_of_ble_eq_true rfl) ?_
  refine ev_return dX2_init_4 ?_
  exact ⟨rfl, rfl⟩
set_option maxHeartbeats 4000000 in
set_option maxRecDepth 100000 in
theorem k_initX1 {E : EV} {h : AH} {q0 q1 q2 q3 q4 q5 q6 q7 q8 q : Nat} {c0 c1 c2 c3 c4 c5 c6 c7 c8 : va_E} (hi : IniL [q0, q1, q2, q3, q4, q5, q6, q7, q8, q] [c0, c1, c2, c3, c4, c5, c6, c7, c8, ob 1 [.null]] h) : CM E yX1_init cX1_init 1 none 1 1 7 [.ref q] h (qV (fun h' => ∃ a, IniL [q0, q1, q2, q3, q4, q5, q6, q7, q8, q, a] [c0, c1, c2, c3, c4, c5, c6, c7, c8, ob 1 [.ref a], arI E 7 (fun _ => 0)] h')) := by
  refine CM.of (by decide) (Nat.le_of_ble_eq_true rfl) (L := [(0, .ref q)]) rfl ?_
  refine ev_aload_n 0 rfl dX1_init_0 ?_
  refine oi_X1 dX1_init_1 (by decide) (Nat.le_of_ble_eq_true rfl) ?_
  refine ev_aload_n 0 rfl dX1_init_4 ?_
  refine ev_bipush dX1_init_5 (by decide) ?_
  refine ev_ren (b := ((7 : Nat) : Int)) rfl ?_
  refine ev_newI (n := 7) aI_ok (by decide) dX1_init_7 (fun a ha => ?_)
  have B1 := hi.new (e := arI E 7 (fun _ => 0)) ha
  refine p_X1_9_1 rfl dX1_init_9 (B1.2.2 9 q _ rfl rfl) (Nat.le_of_ble_eq_true rfl) ?_
  have B2 := B1.put (p := 9) (e := ob 1 [.ref a]) (a := q) rfl
  refine ev_return dX1_init_12 ?_
  exact ⟨rfl, a, B2⟩
set_option maxHeartbeats 4000000 in
set_option maxRecDepth 100000 in
theorem sky_loop {E : EV} {q0 q1 q2 q3 q4 q5 q6 q7 q8 q9 q10 q a12 a13 a14 a15 a16 a17 a18 : Nat} {c0 c1 c2 c3 c4 c5 c6 c7 c8 c9 c10 : va_E} : ∀ (m : Nat) (i : Nat) (lc : List Nat) (h : AH), i + m = 10 → lc.length = i → IniL ([q0, q1, q2, q3, q4, q5, q6, q7, q8, q9, q10, q, a12, a13, a14, a15, a16, a17, a18] ++ lc) ([c0, c1, c2, c3, c4, c5, c6, c7, c8, c9, c10, ob 6 [.ref a12, .ref a13, .ref a14, .ref a15, .ref a16, .ref a17, .ref a18, vI 0, vI 0], arR E 5 10 (fun j => if j < (i : Int) then some (([q0, q1, q2, q3, q4, q5, q6, q7, q8, q9, q10, q, a12, a13, a14, a15, a16, a17, a18] ++ lc).getD (19 + j.toNat) 0) else none), arR E 6 10 (fun _ => none), arI E 10 (fun _ => 0), arI E 10 (fun _ => 0), arI E 10 (fun _ => 0), arI E 10 (fun _ => 0), arI E 10 (fun _ => 0)] ++ List.replicate i (ob 2 [vI 0, vI 0, vI 0, vI 0, vI 0, vI 0, vI 0, vI 0, vI 0, vI 0])) h → Ev E RX6 cX6_init 2 none "<init>" (qV (fun h' => ∃ a12 a13 a14 a15 a16 a17 a18 lc, lc.length = 10 ∧ IniL ([q0, q1, q2, q3, q4, q5, q6, q7, q8, q9, q10, q, a12, a13, a14, a15, a16, a17, a18] ++ lc) ([c0, c1, c2, c3, c4, c5, c6, c7, c8, c9, c10, ob 6 [.ref a12, .ref a13, .ref a14, .ref a15, .ref a16, .ref a17, .ref a18, vI 0, vI 0], arR E 5 10 (fun j => if j < 10 then some (([q0, q1, q2, q3, q4, q5, q6, q7, q8, q9, q10, q, a12, a13, a14, a15, a16, a17, a18] ++ lc).getD (19 + j.toNat) 0) else none), arR E 6 10 (fun _ => none), arI E 10 (fun _ => 0), arI E 10 (fun _ => 0), arI E 10 (fun _ => 0), arI E 10 (fun _ => 0), arI E 10 (fun _ => 0)] ++ List.replicate 10 (ob 2 [vI 0, vI 0, vI 0, vI 0, vI 0, vI 0, vI 0, vI 0, vI 0, vI 0])) h')) 2 m (10 * m) 64 [(1, vI (i : Int)), (0, .ref q)] [] h := by
  intro m
  induction m with
  | zero =>
    intro i lc h hm hl hi
    have e : i = 10 := by omega
    subst e
    refine ev_iload_n 0 rfl dX6_init_64 ?_
    refine ev_bipush dX6_init_65 (by decide) ?_
    refine ev_icmp_ge (tgt := 89) dX6_init_67 (by decide) (by decide) (by decide) (fun _ => ?_) (fun c => absurd c (by decide))
    refine ev_return dX6_init_89 ?_
    exact ⟨rfl, a12, a13, a14, a15, a16, a17, a18, lc, hl, hi⟩
  | succ m ih =>
    intro i lc h hm hl hi
    refine ev_iload_n 0 rfl dX6_init_64 ?_
    refine ev_bipush dX6_init_65 (by decide) ?_
    refine ev_icmp_ge (tgt := 89) dX6_init_67 (by simp only [InR]; omega) (by decide) (by decide) (fun c => absurd c (by omega)) (fun _ => ?_)
    refine ev_aload_n 1 rfl dX6_init_70 ?_
    refine g_X6_11_6 dX6_init_71 (hi.2.2 11 q _ rfl rfl) rfl ?_
    refine ev_iload_n 0 rfl dX6_init_74 ?_
    rw [show 10 * (m + 1) = 10 * m + 10 by omega]
    refine cn_X6_9 dX6_init_75 (fun c hc => ?_)
    have B1 := hi.new (e := ob 2 [vI 0, vI 0, vI 0, vI 0, vI 0, vI 0, vI 0, vI 0, vI 0, vI 0]) hc
    refine ev_dup dX6_init_78 rfl ?_
    refine c_X6_39 k_initX2 rfl rfl (Nat.le_of_ble_eq_true rfl) (by decide) dX6_init_79 (kV (fun h1 e1 => ?_))
    subst e1
    have hcc : (([q0, q1, q2, q3, q4, q5, q6, q7, q8, q9, q10, q, a12, a13, a14, a15, a16, a17, a18] ++ lc) ++ [c])[19 + i]? = some c := at_snoc (by simp [hl]; omega)
    have hce : (([c0, c1, c2, c3, c4, c5, c6, c7, c8, c9, c10, ob 6 [.ref a12, .ref a13, .ref a14, .ref a15, .ref a16, .ref a17, .ref a18, vI 0, vI 0], arR E 5 10 (fun j => if j < (i : Int) then some (([q0, q1, q2, q3, q4, q5, q6, q7, q8, q9, q10, q, a12, a13, a14, a15, a16, a17, a18] ++ lc).getD (19 + j.toNat) 0) else none), arR E 6 10 (fun _ => none), arI E 10 (fun _ => 0), arI E 10 (fun _ => 0), arI E 10 (fun _ => 0), arI E 10 (fun _ => 0), arI E 10 (fun _ => 0)] ++ List.replicate i (ob 2 [vI 0, vI 0, vI 0, vI 0, vI 0, vI 0, vI 0, vI 0, vI 0, vI 0])) ++ [ob 2 [vI 0, vI 0, vI 0, vI 0, vI 0, vI 0, vI 0, vI 0, vI 0, vI 0]])[19 + i]? = some (ob 2 [vI 0, vI 0, vI 0, vI 0, vI 0, vI 0, vI 0, vI 0, vI 0, vI 0]) := at_snoc (by simp; omega)
    have hs := B1.2.2 (19 + i) c _ hcc hce
    have ha := B1.2.2 12 a12 _ rfl rfl
    refine ev_aastore (ci := 2) (r := (RX2, TX2, 10)) (t := 5) (f := (fun j => if j < (i : Int) then some (([q0, q1, q2, q3, q4, q5, q6, q7, q8, q9, q10, q, a12, a13, a14, a15, a16, a17, a18] ++ lc).getD (19 + j.toNat) 0) else none)) rfl rfl dX6_init_82 ha hs (by decide) (by omega) (by omega) ?_
    have B2 := B1.put (p := 12) (e := arR E 5 10 (updR (fun j => if j < (i : Int) then some (([q0, q1, q2, q3, q4, q5, q6, q7, q8, q9, q10, q, a12, a13, a14, a15, a16, a17, a18] ++ lc).getD (19 + j.toNat) 0) else none) (i : Int) (some c))) (a := a12) rfl
    have hfe : arR E 5 10 (updR (fun j => if j < (i : Int) then some (([q0, q1, q2, q3, q4, q5, q6, q7, q8, q9, q10, q, a12, a13, a14, a15, a16, a17, a18] ++ lc).getD (19 + j.toNat) 0) else none) (i : Int) (some c)) = arR E 5 10 (fun j => if j < ((i + 1 : Nat) : Int) then some (([q0, q1, q2, q3, q4, q5, q6, q7, q8, q9, q10, q, a12, a13, a14, a15, a16, a17, a18] ++ (lc ++ [c])).getD (19 + j.toNat) 0) else none) := by
      have hfn : (fun j : Nat => updR (fun j => if j < (i : Int) then some (([q0, q1, q2, q3, q4, q5, q6, q7, q8, q9, q10, q, a12, a13, a14, a15, a16, a17, a18] ++ lc).getD (19 + j.toNat) 0) else none) (i : Int) (some c) (j : Int)) = (fun j : Nat => if (j : Int) < ((i + 1 : Nat) : Int) then some (([q0, q1, q2, q3, q4, q5, q6, q7, q8, q9, q10, q, a12, a13, a14, a15, a16, a17, a18] ++ (lc ++ [c])).getD (19 + (j : Int).toNat) 0) else none) := by
        funext j
        unfold updR
        rw [← List.append_assoc]
        by_cases e : (j : Int) = (i : Int)
        · have ej : j = i := by omega
          rw [if_pos e, if_pos (by omega), ej, Int.toNat_natCast, List.getD_eq_getElem?_getD, hcc]
          rfl
        · rw [if_neg e]
          show (if (j : Int) < (i : Int) then some _ else none) = _
          by_cases e2 : (j : Int) < (i : Int)
          · rw [if_pos e2, if_pos (by omega), Int.toNat_natCast, List.getD_eq_getElem?_getD, List.getD_eq_getElem?_getD, List.getElem?_append_left (l₂ := [c]) (by simp; omega)]
          · rw [if_neg e2, if_neg (by omega)]
      show (Sum.inl (E.2.1 5, 10, Sum.inr (Sum.inr (Sum.inr (Sum.inr (fun j : Nat => updR (fun j => if j < (i : Int) then some (([q0, q1, q2, q3, q4, q5, q6, q7, q8, q9, q10, q, a12, a13, a14, a15, a16, a17, a18] ++ lc).getD (19 + j.toNat) 0) else none) (i : Int) (some c) (j : Int)))))) : va_E) = _
      rw [hfn]
    rw [hfe] at B2 ⊢
    refine ev_iinc (L' := [(1, vI ((i : Int) + 1)), (0, .ref q)]) 0 rfl dX6_init_83 (by decide) rfl ?_
    refine ev_goto (tgt := 64) dX6_init_86 (by decide) ?_
    have h2 := ih (i + 1) (lc ++ [c]) _ (by omega) (by simp [hl]) (by rw [List.replicate_succ', ← List.append_assoc, ← List.append_assoc]; exact B2)
    rw [show ((i + 1 : Nat) : Int) = (i : Int) + 1 by omega] at h2
    exact h2

set_option maxHeartbeats 4000000 in
set_option maxRecDepth 100000 in
theorem k_initX6 {E : EV} {h : AH} {q0 q1 q2 q3 q4 q5 q6 q7 q8 q9 q10 q : Nat} {c0 c1 c2 c3 c4 c5 c6 c7 c8 c9 c10 : va_E} (hi : IniL [q0, q1, q2, q3, q4, q5, q6, q7, q8, q9, q10, q] [c0, c1, c2, c3, c4, c5, c6, c7, c8, c9, c10, ob 6 [.null, .null, .null, .null, .null, .null, .null, vI 0, vI 0]] h) : CM E yX6_init cX6_init 2 none 2 17 170 [.ref q] h (qV (fun h' => ∃ a12 a13 a14 a15 a16 a17 a18 lc, lc.length = 10 ∧ IniL ([q0, q1, q2, q3, q4, q5, q6, q7, q8, q9, q10, q, a12, a13, a14, a15, a16, a17, a18] ++ lc) ([c0, c1, c2, c3, c4, c5, c6, c7, c8, c9, c10, ob 6 [.ref a12, .ref a13, .ref a14, .ref a15, .ref a16, .ref a17, .ref a18, vI 0, vI 0], arR E 5 10 (fun j => if j < 10 then some (([q0, q1, q2, q3, q4, q5, q6, q7, q8, q9, q10, q, a12, a13, a14, a15, a16, a17, a18] ++ lc).getD (19 + j.toNat) 0) else none), arR E 6 10 (fun _ => none), arI E 10 (fun _ => 0), arI E 10 (fun _ => 0), arI E 10 (fun _ => 0), arI E 10 (fun _ => 0), arI E 10 (fun _ => 0)] ++ List.replicate 10 (ob 2 [vI 0, vI 0, vI 0, vI 0, vI 0, vI 0, vI 0, vI 0, vI 0, vI 0])) h')) := by
  refine CM.of (by decide) (Nat.le_of_ble_eq_true rfl) (L := [(0, .ref q)]) rfl ?_
  refine ev_aload_n 0 rfl dX6_init_0 ?_
  refine oi_X6 dX6_init_1 (by decide) (Nat.le_of_ble_eq_true rfl) ?_
  refine ev_aload_n 0 rfl dX6_init_4 ?_
  refine ev_bipush dX6_init_5 (by decide) ?_
  refine ev_ren (b := ((10 : Nat) : Int)) rfl ?_
  refine cna_X6_9 (n := 10) (by decide) dX6_init_7 (fun a12 ha0 => ?_)
  have B1 : IniL [q0, q1, q2, q3, q4, q5, q6, q7, q8, q9, q10, q, a12] [c0, c1, c2, c3, c4, c5, c6, c7, c8, c9, c10, ob 6 [.null, .null, .null, .null, .null, .null, .null, vI 0, vI 0], arR E 5 10 (fun _ => none)] _ := hi.new ha0
  refine p_X6_11_6 rfl dX6_init_10 (B1.2.2 11 q _ rfl rfl) (Nat.le_of_ble_eq_true rfl) ?_
  have B2 : IniL [q0, q1, q2, q3, q4, q5, q6, q7, q8, q9, q10, q, a12] [c0, c1, c2, c3, c4, c5, c6, c7, c8, c9, c10, ob 6 [.ref a12, .null, .null, .null, .null, .null, .null, vI 0, vI 0], arR E 5 10 (fun _ => none)] _ := B1.put (p := 11) (a := q) rfl
  refine ev_aload_n 0 rfl dX6_init_13 ?_
  refine ev_bipush dX6_init_14 (by decide) ?_
  refine ev_ren (b := ((10 : Nat) : Int)) rfl ?_
  refine cna_X6_17 (n := 10) (by decide) dX6_init_16 (fun a13 ha1 => ?_)
  have B3 : IniL [q0, q1, q2, q3, q4, q5, q6, q7, q8, q9, q10, q, a12, a13] [c0, c1, c2, c3, c4, c5, c6, c7, c8, c9, c10, ob 6 [.ref a12, .null, .null, .null, .null, .null, .null, vI 0, vI 0], arR E 5 10 (fun _ => none), arR E 6 10 (fun _ => none)] _ := B2.new ha1
  refine p_X6_19_6 rfl dX6_init_19 (B3.2.2 11 q _ rfl rfl) (Nat.le_of_ble_eq_true rfl) ?_
  have B4 : IniL [q0, q1, q2, q3, q4, q5, q6, q7, q8, q9, q10, q, a12, a13] [c0, c1, c2, c3, c4, c5, c6, c7, c8, c9, c10, ob 6 [.ref a12, .ref a13, .null, .null, .null, .null, .null, vI 0, vI 0], arR E 5 10 (fun _ => none), arR E 6 10 (fun _ => none)] _ := B3.put (p := 11) (a := q) rfl
  refine ev_aload_n 0 rfl dX6_init_22 ?_
  refine ev_bipush dX6_init_23 (by decide) ?_
  refine ev_ren (b := ((10 : Nat) : Int)) rfl ?_
  refine ev_newI (n := 10) aI_ok (by decide) dX6_init_25 (fun a14 ha2 => ?_)
  have B5 : IniL [q0, q1, q2, q3, q4, q5, q6, q7, q8, q9, q10, q, a12, a13, a14] [c0, c1, c2, c3, c4, c5, c6, c7, c8, c9, c10, ob 6 [.ref a12, .ref a13, .null, .null, .null, .null, .null, vI 0, vI 0], arR E 5 10 (fun _ => none), arR E 6 10 (fun _ => none), arI E 10 (fun _ => 0)] _ := B4.new ha2
  refine p_X6_23_6 rfl dX6_init_27 (B5.2.2 11 q _ rfl rfl) (Nat.le_of_ble_eq_true rfl) ?_
  have B6 : IniL [q0, q1, q2, q3, q4, q5, q6, q7, q8, q9, q10, q, a12, a13, a14] [c0, c1, c2, c3, c4, c5, c6, c7, c8, c9, c10, ob 6 [.ref a12, .ref a13, .ref a14, .null, .null, .null, .null, vI 0, vI 0], arR E 5 10 (fun _ => none), arR E 6 10 (fun _ => none), arI E 10 (fun _ => 0)] _ := B5.put (p := 11) (a := q) rfl
  refine ev_aload_n 0 rfl dX6_init_30 ?_
  refine ev_bipush dX6_init_31 (by decide) ?_
  refine ev_ren (b := ((10 : Nat) : Int)) rfl ?_
  refine ev_newI (n := 10) aI_ok (by decide) dX6_init_33 (fun a15 ha3 => ?_)
  have B7 : IniL [q0, q1, q2, q3, q4, q5, q6, q7, q8, q9, q10, q, a12, a13, a14, a15] [c0, c1, c2, c3, c4, c5, c6, c7, c8, c9, c10, ob 6 [.ref a12, .ref a13, .ref a14, .null, .null, .null, .null, vI 0, vI 0], arR E 5 10 (fun _ => none), arR E 6 10 (fun _ => none), arI E 10 (fun _ => 0), arI E 10 (fun _ => 0)] _ := B6.new ha3
  refine p_X6_27_6 rfl dX6_init_35 (B7.2.2 11 q _ rfl rfl) (Nat.le_of_ble_eq_true rfl) ?_
  have B8 : IniL [q0, q1, q2, q3, q4, q5, q6, q7, q8, q9, q10, q, a12, a13, a14, a15] [c0, c1, c2, c3, c4, c5, c6, c7, c8, c9, c10, ob 6 [.ref a12, .ref a13, .ref a14, .ref a15, .null, .null, .null, vI 0, vI 0], arR E 5 10 (fun _ => none), arR E 6 10 (fun _ => none), arI E 10 (fun _ => 0), arI E 10 (fun _ => 0)] _ := B7.put (p := 11) (a := q) rfl
  refine ev_aload_n 0 rfl dX6_init_38 ?_
  refine ev_bipush dX6_init_39 (by decide) ?_
  refine ev_ren (b := ((10 : Nat) : Int)) rfl ?_
  refine ev_newI (n := 10) aI_ok (by decide) dX6_init_41 (fun a16 ha4 => ?_)
  have B9 : IniL [q0, q1, q2, q3, q4, q5, q6, q7, q8, q9, q10, q, a12, a13, a14, a15, a16] [c0, c1, c2, c3, c4, c5, c6, c7, c8, c9, c10, ob 6 [.ref a12, .ref a13, .ref a14, .ref a15, .null, .null, .null, vI 0, vI 0], arR E 5 10 (fun _ => none), arR E 6 10 (fun _ => none), arI E 10 (fun _ => 0), arI E 10 (fun _ => 0), arI E 10 (fun _ => 0)] _ := B8.new ha4
  refine p_X6_30_6 rfl dX6_init_43 (B9.2.2 11 q _ rfl rfl) (Nat.le_of_ble_eq_true rfl) ?_
  have B10 : IniL [q0, q1, q2, q3, q4, q5, q6, q7, q8, q9, q10, q, a12, a13, a14, a15, a16] [c0, c1, c2, c3, c4, c5, c6, c7, c8, c9, c10, ob 6 [.ref a12, .ref a13, .ref a14, .ref a15, .ref a16, .null, .null, vI 0, vI 0], arR E 5 10 (fun _ => none), arR E 6 10 (fun _ => none), arI E 10 (fun _ => 0), arI E 10 (fun _ => 0), arI E 10 (fun _ => 0)] _ := B9.put (p := 11) (a := q) rfl
  refine ev_aload_n 0 rfl dX6_init_46 ?_
  refine ev_bipush dX6_init_47 (by decide) ?_
  refine ev_ren (b := ((10 : Nat) : Int)) rfl ?_
  refine ev_newI (n := 10) aI_ok (by decide) dX6_init_49 (fun a17 ha5 => ?_)
  have B11 : IniL [q0, q1, q2, q3, q4, q5, q6, q7, q8, q9, q10, q, a12, a13, a14, a15, a16, a17] [c0, c1, c2, c3, c4, c5, c6, c7, c8, c9, c10, ob 6 [.ref a12, .ref a13, .ref a14, .ref a15, .ref a16, .null, .null, vI 0, vI 0], arR E 5 10 (fun _ => none), arR E 6 10 (fun _ => none), arI E 10 (fun _ => 0), arI E 10 (fun _ => 0), arI E 10 (fun _ => 0), arI E 10 (fun _ => 0)] _ := B10.new ha5
  refine p_X6_33_6 rfl dX6_init_51 (B11.2.2 11 q _ rfl rfl) (Nat.le_of_ble_eq_true rfl) ?_
  have B12 : IniL [q0, q1, q2, q3, q4, q5, q6, q7, q8, q9, q10, q, a12, a13, a14, a15, a16, a17] [c0, c1, c2, c3, c4, c5, c6, c7, c8, c9, c10, ob 6 [.ref a12, .ref a13, .ref a14, .ref a15, .ref a16, .ref a17, .null, vI 0, vI 0], arR E 5 10 (fun _ => none), arR E 6 10 (fun _ => none), arI E 10 (fun _ => 0), arI E 10 (fun _ => 0), arI E 10 (fun _ => 0), arI E 10 (fun _ => 0)] _ := B11.put (p := 11) (a := q) rfl
  refine ev_aload_n 0 rfl dX6_init_54 ?_
  refine ev_bipush dX6_init_55 (by decide) ?_
  refine ev_ren (b := ((10 : Nat) : Int)) rfl ?_
  refine ev_newI (n := 10) aI_ok (by decide) dX6_init_57 (fun a18 ha6 => ?_)
  have B13 : IniL [q0, q1, q2, q3, q4, q5, q6, q7, q8, q9, q10, q, a12, a13, a14, a15, a16, a17, a18] [c0, c1, c2, c3, c4, c5, c6, c7, c8, c9, c10, ob 6 [.ref a12, .ref a13, .ref a14, .ref a15, .ref a16, .ref a17, .null, vI 0, vI 0], arR E 5 10 (fun _ => none), arR E 6 10 (fun _ => none), arI E 10 (fun _ => 0), arI E 10 (fun _ => 0), arI E 10 (fun _ => 0), arI E 10 (fun _ => 0), arI E 10 (fun _ => 0)] _ := B12.new ha6
  refine p_X6_36_6 rfl dX6_init_59 (B13.2.2 11 q _ rfl rfl) (Nat.le_of_ble_eq_true rfl) ?_
  have B14 : IniL [q0, q1, q2, q3, q4, q5, q6, q7, q8, q9, q10, q, a12, a13, a14, a15, a16, a17, a18] [c0, c1, c2, c3, c4, c5, c6, c7, c8, c9, c10, ob 6 [.ref a12, .ref a13, .ref a14, .ref a15, .ref a16, .ref a17, .ref a18, vI 0, vI 0], arR E 5 10 (fun _ => none), arR E 6 10 (fun _ => none), arI E 10 (fun _ => 0), arI E 10 (fun _ => 0), arI E 10 (fun _ => 0), arI E 10 (fun _ => 0), arI E 10 (fun _ => 0)] _ := B13.put (p := 11) (a := q) rfl
  refine ev_iconst dX6_init_62 ?_
  refine ev_istore_n (L' := [(1, vI 0), (0, .ref q)]) dX6_init_63 (by decide) rfl ?_
  refine ev_extR (q := a12) (n := 10) (t := 5) (f := fun _ => none) (g := (fun j => if j < ((0 : Nat) : Int) then some (([q0, q1, q2, q3, q4, q5, q6, q7, q8, q9, q10, q, a12, a13, a14, a15, a16, a17, a18] ++ []).getD (19 + j.toNat) 0) else none)) (B14.2.2 12 a12 _ rfl rfl) (fun z z0 z1 => by rw [if_neg (by omega)]) ?_
  have B15 := B14.put (p := 12) (a := a12) (e := arR E 5 10 (fun j => if j < ((0 : Nat) : Int) then some (([q0, q1, q2, q3, q4, q5, q6, q7, q8, q9, q10, q, a12, a13, a14, a15, a16, a17, a18] ++ []).getD (19 + j.toNat) 0) else none)) rfl
  exact sky_loop 10 0 [] _ rfl rfl B15
