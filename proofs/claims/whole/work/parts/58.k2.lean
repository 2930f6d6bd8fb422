theorem arrV_ext {cA : ClassId} {n : Nat} {f g : Nat → Value} (h : ∀ j, j < n → f j = g j) : arrV cA n f = arrV cA n g := by
  unfold arrV
  congr 1
  apply Array.ext
  · simp
  · intro i h1 h2
    simp at h1 ⊢
    exact h i h1
theorem Hold.alt {D : va_G} {A : Nat → Prop} {h : AH} {H : Heap} {q : Nat} {e e' : va_E} (x : Hold D A h H) (hq : h q = some e) (he : va_at D vwCl (q, e) H → va_at D vwCl (q, e') H) : Hold D A (ah_up h q e') H := by
  obtain ⟨ws, hP, hD, hh⟩ := x
  obtain ⟨k, hk⟩ := (hh q e).mp hq
  refine ⟨ws.set k (q, e'), hP.set hD hk (he (hP k _ hk)) (fun _ _ => rfl), ⟨?_, ?_⟩, Hold.set (D := D) hD hh hk⟩
  · intro i j p1 p2 h1 h2 e1
    have fix : ∀ (i : Nat) (p1 : Nat × va_E), (ws.set k (q, e'))[i]? = some p1 → ∃ p, ws[i]? = some p ∧ p.1 = p1.1 := by
      intro i p1 h1
      by_cases e : k = i
      · subst e
        have hlt : k < ws.length := (List.getElem?_eq_some_iff.mp hk).1
        simp [List.getElem?_set, hlt] at h1
        exact ⟨(q, e), hk, by rw [← h1]⟩
      · simp [List.getElem?_set, e] at h1
        exact ⟨p1, h1, rfl⟩
    obtain ⟨a, a1, a2⟩ := fix i p1 h1
    obtain ⟨b, b1, b2⟩ := fix j p2 h2
    exact hD.1 i j a b a1 b1 (by rw [a2, b2]; exact e1)
  · intro i p1 h1
    by_cases e : k = i
    · subst e
      have hlt : k < ws.length := (List.getElem?_eq_some_iff.mp hk).1
      simp [List.getElem?_set, hlt] at h1
      rw [← h1]
      show A q
      exact hD.2 k _ hk
    · simp [List.getElem?_set, e] at h1
      exact hD.2 i p1 h1
/-- an array's picture beyond its length is free -/
theorem ev_ext {E : EV} {own : String} {cc : ByteArray} {nL : Nat} {ret : Option FieldType} {mn : String} {Q : Option Value → AH → Prop} {d kc ks pc : Nat} {L : List (Nat × Value)} {st : List Value} {h : AH} {q n : Nat} {f g : Int → Int} (hq : h q = some (arI E n f)) (hf : ∀ z : Int, 0 ≤ z → z < n → f z = g z) (kk : Ev E own cc nL ret mn Q d kc ks pc L st (ah_up h q (arI E n g))) : Ev E own cc nL ret mn Q d kc ks pc L st h := by
  intro p l e s m args below meth c H locs cells slots mc ms A ls hC
  obtain ⟨hx, hb, hr, hml, hown, hnm, hlk, hts, hK, hG, hA, hH, hS, hl, hc1, hc2⟩ := hC
  refine kk p l e s m args below meth c H locs cells slots mc ms A ls ⟨hx, hb, hr, hml, hown, hnm, hlk, hts, hK, hG, hA, hH.alt hq (fun ha => ?_), hS, hl, hc1, hc2⟩
  have h2 : H[q]? = some (vp_cell (E.2.1 0) (n, .inl (fun j => iI (f (j : Int))))) := ha
  show H[q]? = some (vp_cell (E.2.1 0) (n, .inl (fun j => iI (g (j : Int)))))
  rw [h2, vp_cell_i, vp_cell_i, arrV_ext (fun j hj => by rw [hf j (by omega) (by omega)])]
theorem MR.cg {E : EV} {o : Nat} {ad : Nat → Nat} {S S' : MS} {h : AH} (hM : MR E o ad S h) (hs : ∀ k, k < 46 → S' k = S k) (hR : ∀ k z, InR (S' k z)) : MR E o ad S' h := by
  obtain ⟨h1, h2, h3, h4, h5⟩ := hM
  have hlt : ∀ k, 0 < mlen k → k < 46 := fun k hk => by
    by_cases q : k < 46
    · exact q
    · unfold mlen at hk
      rw [List.getD_eq_getElem?_getD, List.getElem?_eq_none (by simp; omega)] at hk
      exact absurd hk (by decide)
  refine ⟨?_, fun k hk => by rw [hs k (hlt k hk)]; exact h2 k hk, h3, h4, hR⟩
  rw [h1]
  unfold mfs
  rw [hs 2 (by decide), hs 7 (by decide), hs 16 (by decide), hs 17 (by decide), hs 18 (by decide), hs 19 (by decide), hs 21 (by decide), hs 31 (by decide), hs 34 (by decide), hs 40 (by decide)]
/-- the first numbers of all -/
def SI : MS := fun k z => if k = 0 then tabS z else if k = 1 then tabT z else if k = 16 ∨ k = 31 then 20 else if k = 43 ∨ k = 68 then -1 else 0
theorem SI_in : ∀ k z, InR (SI k z) := by
  intro k z
  unfold SI
  have h1 := tabS_b z
  have h2 := tabT_b z
  repeat' split
  all_goals (simp only [InR]; omega)
theorem tabS_out {z : Int} (h : z < 0 ∨ 90 < z) : tabS z = 0 := by
  rcases h with h | h
  · unfold tabS
    rw [show z.toNat = 0 by omega]
    rfl
  · unfold tabS
    rw [List.getD_eq_getElem?_getD, List.getElem?_eq_none (by simp; omega)]
    rfl
theorem tabT_out {z : Int} (h : z < 1 ∨ 89 < z) : tabT z = 0 := by
  rcases h with h | h
  · unfold tabT
    rw [show z.toNat = 0 by omega]
    rfl
  · unfold tabT
    rw [List.getD_eq_getElem?_getD, List.getElem?_eq_none (by simp; omega)]
    rfl
/-- a reference in the making: its arrays (field, address) are all new, its fields fs -/
def IniP (E : EV) (q : Nat) (fs : List Value) (l : List (Nat × Nat)) (B : Nat) (h : AH) : Prop := h q = some (ob 10 fs) ∧ (∀ p ∈ l, h p.2 = some (arI E (mlen p.1) (fun _ => 0)) ∧ p.2 ≠ q ∧ p.1 < B) ∧ ∀ p ∈ l, ∀ p2 ∈ l, p.2 = p2.2 → p.1 = p2.1
theorem IniP.put {E : EV} {q : Nat} {fs fs' : List Value} {l : List (Nat × Nat)} {B : Nat} {h : AH} (hi : IniP E q fs l B h) : IniP E q fs' l B (ah_up h q (ob 10 fs')) := by
  obtain ⟨h1, h2, h3⟩ := hi
  exact ⟨ah_at, fun p hp => ⟨(ah_ne (h2 p hp).2.1).trans (h2 p hp).1, (h2 p hp).2⟩, h3⟩
theorem IniP.new {E : EV} {q a k n : Nat} {fs : List Value} {l : List (Nat × Nat)} {B : Nat} {h : AH} (hi : IniP E q fs l B h) (ha : h a = none) (hn : mlen k = n) (hk : B ≤ k) : IniP E q fs ((k, a) :: l) (k + 1) (ah_up h a (arI E n (fun _ => 0))) := by
  obtain ⟨h1, h2, h3⟩ := hi
  have hqa : q ≠ a := fun e => by rw [← e, h1] at ha; cases ha
  have hla : ∀ p ∈ l, p.2 ≠ a := fun p hp e => by
    have := (h2 p hp).1
    rw [e, ha] at this
    cases this
  refine ⟨(ah_ne hqa).trans h1, fun p hp => ?_, fun p hp p2 hp2 he => ?_⟩
  · rcases List.mem_cons.mp hp with e | e
    · subst e
      rw [← hn]
      exact ⟨ah_at, fun e => hqa e.symm, Nat.lt_succ_self _⟩
    · exact ⟨(ah_ne (hla p e)).trans (h2 p e).1, (h2 p e).2.1, by have := (h2 p e).2.2; omega⟩
  · rcases List.mem_cons.mp hp with e | e <;> rcases List.mem_cons.mp hp2 with e2 | e2
    · rw [e, e2]
    · rw [e] at he
      exact absurd he.symm (hla p2 e2)
    · rw [e2] at he
      exact absurd he (hla p e)
    · exact h3 p e p2 e2 he
theorem kDb {E : EV} {own : String} {cc : ByteArray} {nL : Nat} {ret : Option FieldType} {mn : String} {Q : Option Value → AH → Prop} {d kc ks pc : Nat} {L : List (Nat × Value)} {rest : List Value} {h : AH} {x : UInt64} (k : Ev E own cc nL ret mn Q d kc ks pc L (.double x :: rest) h) : ∀ r h', (h' = h ∧ r = some (.double x)) → Ev E own cc nL ret mn Q d kc ks pc L (r.toList ++ rest) h' := by
  rintro _ _ ⟨rfl, rfl⟩
  exact k

theorem ini_0 {E : EV} {Q : Option Value → AH → Prop} {d kc ks pc q : Nat} {L : List (Nat × Value)} {st : List Value} {h : AH} {fs : List Value} {fs' : Nat → List Value} {l : List (Nat × Nat)} {B : Nat} (hi : IniP E q fs l B h) (hB : B ≤ 0) (hl : 0 < fs.length) (hs : ∀ a, fs.set 0 (.ref a) = fs' a) (hd1 : decode cX10_init pc = .ok (.newarray .int, 2)) (hd2 : decode cX10_init (pc + 2) = .ok (.putfield 7, 3)) (kk : ∀ a h', IniP E q (fs' a) ((0, a) :: l) 1 h' → Ev E RX10 cX10_init 2 none "<init>" Q d kc ks (pc + 2 + 3) L st h') : Ev E RX10 cX10_init 2 none "<init>" Q d (kc + 1) (ks + 91) pc L (vI 91 :: .ref q :: st) h := by
  refine ev_ren (b := ((91 : Nat) : Int)) rfl ?_
  refine ev_newI (n := 91) aI_ok (by decide) hd1 (fun a ha => ?_)
  have h1 := hi.new (k := 0) ha rfl hB
  exact p_X10_7_10 rfl hd2 h1.1 hl (kk a _ (by rw [hs a]; exact h1.put))
theorem ini_1 {E : EV} {Q : Option Value → AH → Prop} {d kc ks pc q : Nat} {L : List (Nat × Value)} {st : List Value} {h : AH} {fs : List Value} {fs' : Nat → List Value} {l : List (Nat × Nat)} {B : Nat} (hi : IniP E q fs l B h) (hB : B ≤ 1) (hl : 1 < fs.length) (hs : ∀ a, fs.set 1 (.ref a) = fs' a) (hd1 : decode cX10_init pc = .ok (.newarray .int, 2)) (hd2 : decode cX10_init (pc + 2) = .ok (.putfield 13, 3)) (kk : ∀ a h', IniP E q (fs' a) ((1, a) :: l) 2 h' → Ev E RX10 cX10_init 2 none "<init>" Q d kc ks (pc + 2 + 3) L st h') : Ev E RX10 cX10_init 2 none "<init>" Q d (kc + 1) (ks + 90) pc L (vI 90 :: .ref q :: st) h := by
  refine ev_ren (b := ((90 : Nat) : Int)) rfl ?_
  refine ev_newI (n := 90) aI_ok (by decide) hd1 (fun a ha => ?_)
  have h1 := hi.new (k := 1) ha rfl hB
  exact p_X10_13_10 rfl hd2 h1.1 hl (kk a _ (by rw [hs a]; exact h1.put))
theorem ini_3 {E : EV} {Q : Option Value → AH → Prop} {d kc ks pc q : Nat} {L : List (Nat × Value)} {st : List Value} {h : AH} {fs : List Value} {fs' : Nat → List Value} {l : List (Nat × Nat)} {B : Nat} (hi : IniP E q fs l B h) (hB : B ≤ 3) (hl : 3 < fs.length) (hs : ∀ a, fs.set 3 (.ref a) = fs' a) (hd1 : decode cX10_init pc = .ok (.newarray .int, 2)) (hd2 : decode cX10_init (pc + 2) = .ok (.putfield 16, 3)) (kk : ∀ a h', IniP E q (fs' a) ((3, a) :: l) 4 h' → Ev E RX10 cX10_init 2 none "<init>" Q d kc ks (pc + 2 + 3) L st h') : Ev E RX10 cX10_init 2 none "<init>" Q d (kc + 1) (ks + 8) pc L (vI 8 :: .ref q :: st) h := by
  refine ev_ren (b := ((8 : Nat) : Int)) rfl ?_
  refine ev_newI (n := 8) aI_ok (by decide) hd1 (fun a ha => ?_)
  have h1 := hi.new (k := 3) ha rfl hB
  exact p_X10_16_10 rfl hd2 h1.1 hl (kk a _ (by rw [hs a]; exact h1.put))
theorem ini_4 {E : EV} {Q : Option Value → AH → Prop} {d kc ks pc q : Nat} {L : List (Nat × Value)} {st : List Value} {h : AH} {fs : List Value} {fs' : Nat → List Value} {l : List (Nat × Nat)} {B : Nat} (hi : IniP E q fs l B h) (hB : B ≤ 4) (hl : 4 < fs.length) (hs : ∀ a, fs.set 4 (.ref a) = fs' a) (hd1 : decode cX10_init pc = .ok (.newarray .int, 2)) (hd2 : decode cX10_init (pc + 2) = .ok (.putfield 19, 3)) (kk : ∀ a h', IniP E q (fs' a) ((4, a) :: l) 5 h' → Ev E RX10 cX10_init 2 none "<init>" Q d kc ks (pc + 2 + 3) L st h') : Ev E RX10 cX10_init 2 none "<init>" Q d (kc + 1) (ks + 8) pc L (vI 8 :: .ref q :: st) h := by
  refine ev_ren (b := ((8 : Nat) : Int)) rfl ?_
  refine ev_newI (n := 8) aI_ok (by decide) hd1 (fun a ha => ?_)
  have h1 := hi.new (k := 4) ha rfl hB
  exact p_X10_19_10 rfl hd2 h1.1 hl (kk a _ (by rw [hs a]; exact h1.put))
theorem ini_5 {E : EV} {Q : Option Value → AH → Prop} {d kc ks pc q : Nat} {L : List (Nat × Value)} {st : List Value} {h : AH} {fs : List Value} {fs' : Nat → List Value} {l : List (Nat × Nat)} {B : Nat} (hi : IniP E q fs l B h) (hB : B ≤ 5) (hl : 5 < fs.length) (hs : ∀ a, fs.set 5 (.ref a) = fs' a) (hd1 : decode cX10_init pc = .ok (.newarray .int, 2)) (hd2 : decode cX10_init (pc + 2) = .ok (.putfield 22, 3)) (kk : ∀ a h', IniP E q (fs' a) ((5, a) :: l) 6 h' → Ev E RX10 cX10_init 2 none "<init>" Q d kc ks (pc + 2 + 3) L st h') : Ev E RX10 cX10_init 2 none "<init>" Q d (kc + 1) (ks + 8) pc L (vI 8 :: .ref q :: st) h := by
  refine ev_ren (b := ((8 : Nat) : Int)) rfl ?_
  refine ev_newI (n := 8) aI_ok (by decide) hd1 (fun a ha => ?_)
  have h1 := hi.new (k := 5) ha rfl hB
  exact p_X10_22_10 rfl hd2 h1.1 hl (kk a _ (by rw [hs a]; exact h1.put))
theorem ini_6 {E : EV} {Q : Option Value → AH → Prop} {d kc ks pc q : Nat} {L : List (Nat × Value)} {st : List Value} {h : AH} {fs : List Value} {fs' : Nat → List Value} {l : List (Nat × Nat)} {B : Nat} (hi : IniP E q fs l B h) (hB : B ≤ 6) (hl : 6 < fs.length) (hs : ∀ a, fs.set 6 (.ref a) = fs' a) (hd1 : decode cX10_init pc = .ok (.newarray .int, 2)) (hd2 : decode cX10_init (pc + 2) = .ok (.putfield 25, 3)) (kk : ∀ a h', IniP E q (fs' a) ((6, a) :: l) 7 h' → Ev E RX10 cX10_init 2 none "<init>" Q d kc ks (pc + 2 + 3) L st h') : Ev E RX10 cX10_init 2 none "<init>" Q d (kc + 1) (ks + 8) pc L (vI 8 :: .ref q :: st) h := by
  refine ev_ren (b := ((8 : Nat) : Int)) rfl ?_
  refine ev_newI (n := 8) aI_ok (by decide) hd1 (fun a ha => ?_)
  have h1 := hi.new (k := 6) ha rfl hB
  exact p_X10_25_10 rfl hd2 h1.1 hl (kk a _ (by rw [hs a]; exact h1.put))
theorem ini_8 {E : EV} {Q : Option Value → AH → Prop} {d kc ks pc q : Nat} {L : List (Nat × Value)} {st : List Value} {h : AH} {fs : List Value} {fs' : Nat → List Value} {l : List (Nat × Nat)} {B : Nat} (hi : IniP E q fs l B h) (hB : B ≤ 8) (hl : 8 < fs.length) (hs : ∀ a, fs.set 8 (.ref a) = fs' a) (hd1 : decode cX10_init pc = .ok (.newarray .int, 2)) (hd2 : decode cX10_init (pc + 2) = .ok (.putfield 28, 3)) (kk : ∀ a h', IniP E q (fs' a) ((8, a) :: l) 9 h' → Ev E RX10 cX10_init 2 none "<init>" Q d kc ks (pc + 2 + 3) L st h') : Ev E RX10 cX10_init 2 none "<init>" Q d (kc + 1) (ks + 40) pc L (vI 40 :: .ref q :: st) h := by
  refine ev_ren (b := ((40 : Nat) : Int)) rfl ?_
  refine ev_newI (n := 40) aI_ok (by decide) hd1 (fun a ha => ?_)
  have h1 := hi.new (k := 8) ha rfl hB
  exact p_X10_28_10 rfl hd2 h1.1 hl (kk a _ (by rw [hs a]; exact h1.put))
theorem ini_9 {E : EV} {Q : Option Value → AH → Prop} {d kc ks pc q : Nat} {L : List (Nat × Value)} {st : List Value} {h : AH} {fs : List Value} {fs' : Nat → List Value} {l : List (Nat × Nat)} {B : Nat} (hi : IniP E q fs l B h) (hB : B ≤ 9) (hl : 9 < fs.length) (hs : ∀ a, fs.set 9 (.ref a) = fs' a) (hd1 : decode cX10_init pc = .ok (.newarray .int, 2)) (hd2 : decode cX10_init (pc + 2) = .ok (.putfield 31, 3)) (kk : ∀ a h', IniP E q (fs' a) ((9, a) :: l) 10 h' → Ev E RX10 cX10_init 2 none "<init>" Q d kc ks (pc + 2 + 3) L st h') : Ev E RX10 cX10_init 2 none "<init>" Q d (kc + 1) (ks + 40) pc L (vI 40 :: .ref q :: st) h := by
  refine ev_ren (b := ((40 : Nat) : Int)) rfl ?_
  refine ev_newI (n := 40) aI_ok (by decide) hd1 (fun a ha => ?_)
  have h1 := hi.new (k := 9) ha rfl hB
  exact p_X10_31_10 rfl hd2 h1.1 hl (kk a _ (by rw [hs a]; exact h1.put))
theorem ini_10 {E : EV} {Q : Option Value → AH → Prop} {d kc ks pc q : Nat} {L : List (Nat × Value)} {st : List Value} {h : AH} {fs : List Value} {fs' : Nat → List Value} {l : List (Nat × Nat)} {B : Nat} (hi : IniP E q fs l B h) (hB : B ≤ 10) (hl : 10 < fs.length) (hs : ∀ a, fs.set 10 (.ref a) = fs' a) (hd1 : decode cX10_init pc = .ok (.newarray .int, 2)) (hd2 : decode cX10_init (pc + 2) = .ok (.putfield 34, 3)) (kk : ∀ a h', IniP E q (fs' a) ((10, a) :: l) 11 h' → Ev E RX10 cX10_init 2 none "<init>" Q d kc ks (pc + 2 + 3) L st h') : Ev E RX10 cX10_init 2 none "<init>" Q d (kc + 1) (ks + 40) pc L (vI 40 :: .ref q :: st) h := by
  refine ev_ren (b := ((40 : Nat) : Int)) rfl ?_
  refine ev_newI (n := 40) aI_ok (by decide) hd1 (fun a ha => ?_)
  have h1 := hi.new (k := 10) ha rfl hB
  exact p_X10_34_10 rfl hd2 h1.1 hl (kk a _ (by rw [hs a]; exact h1.put))
theorem ini_11 {E : EV} {Q : Option Value → AH → Prop} {d kc ks pc q : Nat} {L : List (Nat × Value)} {st : List Value} {h : AH} {fs : List Value} {fs' : Nat → List Value} {l : List (Nat × Nat)} {B : Nat} (hi : IniP E q fs l B h) (hB : B ≤ 11) (hl : 11 < fs.length) (hs : ∀ a, fs.set 11 (.ref a) = fs' a) (hd1 : decode cX10_init pc = .ok (.newarray .int, 2)) (hd2 : decode cX10_init (pc + 2) = .ok (.putfield 37, 3)) (kk : ∀ a h', IniP E q (fs' a) ((11, a) :: l) 12 h' → Ev E RX10 cX10_init 2 none "<init>" Q d kc ks (pc + 2 + 3) L st h') : Ev E RX10 cX10_init 2 none "<init>" Q d (kc + 1) (ks + 40) pc L (vI 40 :: .ref q :: st) h := by
  refine ev_ren (b := ((40 : Nat) : Int)) rfl ?_
  refine ev_newI (n := 40) aI_ok (by decide) hd1 (fun a ha => ?_)
  have h1 := hi.new (k := 11) ha rfl hB
  exact p_X10_37_10 rfl hd2 h1.1 hl (kk a _ (by rw [hs a]; exact h1.put))
theorem ini_12 {E : EV} {Q : Option Value → AH → Prop} {d kc ks pc q : Nat} {L : List (Nat × Value)} {st : List Value} {h : AH} {fs : List Value} {fs' : Nat → List Value} {l : List (Nat × Nat)} {B : Nat} (hi : IniP E q fs l B h) (hB : B ≤ 12) (hl : 12 < fs.length) (hs : ∀ a, fs.set 12 (.ref a) = fs' a) (hd1 : decode cX10_init pc = .ok (.newarray .int, 2)) (hd2 : decode cX10_init (pc + 2) = .ok (.putfield 40, 3)) (kk : ∀ a h', IniP E q (fs' a) ((12, a) :: l) 13 h' → Ev E RX10 cX10_init 2 none "<init>" Q d kc ks (pc + 2 + 3) L st h') : Ev E RX10 cX10_init 2 none "<init>" Q d (kc + 1) (ks + 40) pc L (vI 40 :: .ref q :: st) h := by
  refine ev_ren (b := ((40 : Nat) : Int)) rfl ?_
  refine ev_newI (n := 40) aI_ok (by decide) hd1 (fun a ha => ?_)
  have h1 := hi.new (k := 12) ha rfl hB
  exact p_X10_40_10 rfl hd2 h1.1 hl (kk a _ (by rw [hs a]; exact h1.put))
theorem ini_13 {E : EV} {Q : Option Value → AH → Prop} {d kc ks pc q : Nat} {L : List (Nat × Value)} {st : List Value} {h : AH} {fs : List Value} {fs' : Nat → List Value} {l : List (Nat × Nat)} {B : Nat} (hi : IniP E q fs l B h) (hB : B ≤ 13) (hl : 13 < fs.length) (hs : ∀ a, fs.set 13 (.ref a) = fs' a) (hd1 : decode cX10_init pc = .ok (.newarray .int, 2)) (hd2 : decode cX10_init (pc + 2) = .ok (.putfield 43, 3)) (kk : ∀ a h', IniP E q (fs' a) ((13, a) :: l) 14 h' → Ev E RX10 cX10_init 2 none "<init>" Q d kc ks (pc + 2 + 3) L st h') : Ev E RX10 cX10_init 2 none "<init>" Q d (kc + 1) (ks + 40) pc L (vI 40 :: .ref q :: st) h := by
  refine ev_ren (b := ((40 : Nat) : Int)) rfl ?_
  refine ev_newI (n := 40) aI_ok (by decide) hd1 (fun a ha => ?_)
  have h1 := hi.new (k := 13) ha rfl hB
  exact p_X10_43_10 rfl hd2 h1.1 hl (kk a _ (by rw [hs a]; exact h1.put))
theorem ini_14 {E : EV} {Q : Option Value → AH → Prop} {d kc ks pc q : Nat} {L : List (Nat × Value)} {st : List Value} {h : AH} {fs : List Value} {fs' : Nat → List Value} {l : List (Nat × Nat)} {B : Nat} (hi : IniP E q fs l B h) (hB : B ≤ 14) (hl : 14 < fs.length) (hs : ∀ a, fs.set 14 (.ref a) = fs' a) (hd1 : decode cX10_init pc = .ok (.newarray .int, 2)) (hd2 : decode cX10_init (pc + 2) = .ok (.putfield 46, 3)) (kk : ∀ a h', IniP E q (fs' a) ((14, a) :: l) 15 h' → Ev E RX10 cX10_init 2 none "<init>" Q d kc ks (pc + 2 + 3) L st h') : Ev E RX10 cX10_init 2 none "<init>" Q d (kc + 1) (ks + 40) pc L (vI 40 :: .ref q :: st) h := by
  refine ev_ren (b := ((40 : Nat) : Int)) rfl ?_
  refine ev_newI (n := 40) aI_ok (by decide) hd1 (fun a ha => ?_)
  have h1 := hi.new (k := 14) ha rfl hB
  exact p_X10_46_10 rfl hd2 h1.1 hl (kk a _ (by rw [hs a]; exact h1.put))
theorem ini_15 {E : EV} {Q : Option Value → AH → Prop} {d kc ks pc q : Nat} {L : List (Nat × Value)} {st : List Value} {h : AH} {fs : List Value} {fs' : Nat → List Value} {l : List (Nat × Nat)} {B : Nat} (hi : IniP E q fs l B h) (hB : B ≤ 15) (hl : 15 < fs.length) (hs : ∀ a, fs.set 15 (.ref a) = fs' a) (hd1 : decode cX10_init pc = .ok (.newarray .int, 2)) (hd2 : decode cX10_init (pc + 2) = .ok (.putfield 49, 3)) (kk : ∀ a h', IniP E q (fs' a) ((15, a) :: l) 16 h' → Ev E RX10 cX10_init 2 none "<init>" Q d kc ks (pc + 2 + 3) L st h') : Ev E RX10 cX10_init 2 none "<init>" Q d (kc + 1) (ks + 40) pc L (vI 40 :: .ref q :: st) h := by
  refine ev_ren (b := ((40 : Nat) : Int)) rfl ?_
  refine ev_newI (n := 40) aI_ok (by decide) hd1 (fun a ha => ?_)
  have h1 := hi.new (k := 15) ha rfl hB
  exact p_X10_49_10 rfl hd2 h1.1 hl (kk a _ (by rw [hs a]; exact h1.put))
theorem ini_20 {E : EV} {Q : Option Value → AH → Prop} {d kc ks pc q : Nat} {L : List (Nat × Value)} {st : List Value} {h : AH} {fs : List Value} {fs' : Nat → List Value} {l : List (Nat × Nat)} {B : Nat} (hi : IniP E q fs l B h) (hB : B ≤ 20) (hl : 20 < fs.length) (hs : ∀ a, fs.set 20 (.ref a) = fs' a) (hd1 : decode cX10_init pc = .ok (.newarray .int, 2)) (hd2 : decode cX10_init (pc + 2) = .ok (.putfield 56, 3)) (kk : ∀ a h', IniP E q (fs' a) ((20, a) :: l) 21 h' → Ev E RX10 cX10_init 2 none "<init>" Q d kc ks (pc + 2 + 3) L st h') : Ev E RX10 cX10_init 2 none "<init>" Q d (kc + 1) (ks + 40) pc L (vI 40 :: .ref q :: st) h := by
  refine ev_ren (b := ((40 : Nat) : Int)) rfl ?_
  refine ev_newI (n := 40) aI_ok (by decide) hd1 (fun a ha => ?_)
  have h1 := hi.new (k := 20) ha rfl hB
  exact p_X10_56_10 rfl hd2 h1.1 hl (kk a _ (by rw [hs a]; exact h1.put))
theorem ini_22 {E : EV} {Q : Option Value → AH → Prop} {d kc ks pc q : Nat} {L : List (Nat × Value)} {st : List Value} {h : AH} {fs : List Value} {fs' : Nat → List Value} {l : List (Nat × Nat)} {B : Nat} (hi : IniP E q fs l B h) (hB : B ≤ 22) (hl : 22 < fs.length) (hs : ∀ a, fs.set 22 (.ref a) = fs' a) (hd1 : decode cX10_init pc = .ok (.newarray .int, 2)) (hd2 : decode cX10_init (pc + 2) = .ok (.putfield 59, 3)) (kk : ∀ a h', IniP E q (fs' a) ((22, a) :: l) 23 h' → Ev E RX10 cX10_init 2 none "<init>" Q d kc ks (pc + 2 + 3) L st h') : Ev E RX10 cX10_init 2 none "<init>" Q d (kc + 1) (ks + 10) pc L (vI 10 :: .ref q :: st) h := by
  refine ev_ren (b := ((10 : Nat) : Int)) rfl ?_
  refine ev_newI (n := 10) aI_ok (by decide) hd1 (fun a ha => ?_)
  have h1 := hi.new (k := 22) ha rfl hB
  exact p_X10_59_10 rfl hd2 h1.1 hl (kk a _ (by rw [hs a]; exact h1.put))
theorem ini_23 {E : EV} {Q : Option Value → AH → Prop} {d kc ks pc q : Nat} {L : List (Nat × Value)} {st : List Value} {h : AH} {fs : List Value} {fs' : Nat → List Value} {l : List (Nat × Nat)} {B : Nat} (hi : IniP E q fs l B h) (hB : B ≤ 23) (hl : 23 < fs.length) (hs : ∀ a, fs.set 23 (.ref a) = fs' a) (hd1 : decode cX10_init pc = .ok (.newarray .int, 2)) (hd2 : decode cX10_init (pc + 2) = .ok (.putfield 62, 3)) (kk : ∀ a h', IniP E q (fs' a) ((23, a) :: l) 24 h' → Ev E RX10 cX10_init 2 none "<init>" Q d kc ks (pc + 2 + 3) L st h') : Ev E RX10 cX10_init 2 none "<init>" Q d (kc + 1) (ks + 10) pc L (vI 10 :: .ref q :: st) h := by
  refine ev_ren (b := ((10 : Nat) : Int)) rfl ?_
  refine ev_newI (n := 10) aI_ok (by decide) hd1 (fun a ha => ?_)
  have h1 := hi.new (k := 23) ha rfl hB
  exact p_X10_62_10 rfl hd2 h1.1 hl (kk a _ (by rw [hs a]; exact h1.put))
theorem ini_24 {E : EV} {Q : Option Value → AH → Prop} {d kc ks pc q : Nat} {L : List (Nat × Value)} {st : List Value} {h : AH} {fs : List Value} {fs' : Nat → List Value} {l : List (Nat × Nat)} {B : Nat} (hi : IniP E q fs l B h) (hB : B ≤ 24) (hl : 24 < fs.length) (hs : ∀ a, fs.set 24 (.ref a) = fs' a) (hd1 : decode cX10_init pc = .ok (.newarray .int, 2)) (hd2 : decode cX10_init (pc + 2) = .ok (.putfield 65, 3)) (kk : ∀ a h', IniP E q (fs' a) ((24, a) :: l) 25 h' → Ev E RX10 cX10_init 2 none "<init>" Q d kc ks (pc + 2 + 3) L st h') : Ev E RX10 cX10_init 2 none "<init>" Q d (kc + 1) (ks + 10) pc L (vI 10 :: .ref q :: st) h := by
  refine ev_ren (b := ((10 : Nat) : Int)) rfl ?_
  refine ev_newI (n := 10) aI_ok (by decide) hd1 (fun a ha => ?_)
  have h1 := hi.new (k := 24) ha rfl hB
  exact p_X10_65_10 rfl hd2 h1.1 hl (kk a _ (by rw [hs a]; exact h1.put))
theorem ini_25 {E : EV} {Q : Option Value → AH → Prop} {d kc ks pc q : Nat} {L : List (Nat × Value)} {st : List Value} {h : AH} {fs : List Value} {fs' : Nat → List Value} {l : List (Nat × Nat)} {B : Nat} (hi : IniP E q fs l B h) (hB : B ≤ 25) (hl : 25 < fs.length) (hs : ∀ a, fs.set 25 (.ref a) = fs' a) (hd1 : decode cX10_init pc = .ok (.newarray .int, 2)) (hd2 : decode cX10_init (pc + 2) = .ok (.putfield 68, 3)) (kk : ∀ a h', IniP E q (fs' a) ((25, a) :: l) 26 h' → Ev E RX10 cX10_init 2 none "<init>" Q d kc ks (pc + 2 + 3) L st h') : Ev E RX10 cX10_init 2 none "<init>" Q d (kc + 1) (ks + 10) pc L (vI 10 :: .ref q :: st) h := by
  refine ev_ren (b := ((10 : Nat) : Int)) rfl ?_
  refine ev_newI (n := 10) aI_ok (by decide) hd1 (fun a ha => ?_)
  have h1 := hi.new (k := 25) ha rfl hB
  exact p_X10_68_10 rfl hd2 h1.1 hl (kk a _ (by rw [hs a]; exact h1.put))
theorem ini_26 {E : EV} {Q : Option Value → AH → Prop} {d kc ks pc q : Nat} {L : List (Nat × Value)} {st : List Value} {h : AH} {fs : List Value} {fs' : Nat → List Value} {l : List (Nat × Nat)} {B : Nat} (hi : IniP E q fs l B h) (hB : B ≤ 26) (hl : 26 < fs.length) (hs : ∀ a, fs.set 26 (.ref a) = fs' a) (hd1 : decode cX10_init pc = .ok (.newarray .int, 2)) (hd2 : decode cX10_init (pc + 2) = .ok (.putfield 71, 3)) (kk : ∀ a h', IniP E q (fs' a) ((26, a) :: l) 27 h' → Ev E RX10 cX10_init 2 none "<init>" Q d kc ks (pc + 2 + 3) L st h') : Ev E RX10 cX10_init 2 none "<init>" Q d (kc + 1) (ks + 10) pc L (vI 10 :: .ref q :: st) h := by
  refine ev_ren (b := ((10 : Nat) : Int)) rfl ?_
  refine ev_newI (n := 10) aI_ok (by decide) hd1 (fun a ha => ?_)
  have h1 := hi.new (k := 26) ha rfl hB
  exact p_X10_71_10 rfl hd2 h1.1 hl (kk a _ (by rw [hs a]; exact h1.put))
theorem ini_27 {E : EV} {Q : Option Value → AH → Prop} {d kc ks pc q : Nat} {L : List (Nat × Value)} {st : List Value} {h : AH} {fs : List Value} {fs' : Nat → List Value} {l : List (Nat × Nat)} {B : Nat} (hi : IniP E q fs l B h) (hB : B ≤ 27) (hl : 27 < fs.length) (hs : ∀ a, fs.set 27 (.ref a) = fs' a) (hd1 : decode cX10_init pc = .ok (.newarray .int, 2)) (hd2 : decode cX10_init (pc + 2) = .ok (.putfield 74, 3)) (kk : ∀ a h', IniP E q (fs' a) ((27, a) :: l) 28 h' → Ev E RX10 cX10_init 2 none "<init>" Q d kc ks (pc + 2 + 3) L st h') : Ev E RX10 cX10_init 2 none "<init>" Q d (kc + 1) (ks + 10) pc L (vI 10 :: .ref q :: st) h := by
  refine ev_ren (b := ((10 : Nat) : Int)) rfl ?_
  refine ev_newI (n := 10) aI_ok (by decide) hd1 (fun a ha => ?_)
  have h1 := hi.new (k := 27) ha rfl hB
  exact p_X10_74_10 rfl hd2 h1.1 hl (kk a _ (by rw [hs a]; exact h1.put))
theorem ini_28 {E : EV} {Q : Option Value → AH → Prop} {d kc ks pc q : Nat} {L : List (Nat × Value)} {st : List Value} {h : AH} {fs : List Value} {fs' : Nat → List Value} {l : List (Nat × Nat)} {B : Nat} (hi : IniP E q fs l B h) (hB : B ≤ 28) (hl : 28 < fs.length) (hs : ∀ a, fs.set 28 (.ref a) = fs' a) (hd1 : decode cX10_init pc = .ok (.newarray .int, 2)) (hd2 : decode cX10_init (pc + 2) = .ok (.putfield 77, 3)) (kk : ∀ a h', IniP E q (fs' a) ((28, a) :: l) 29 h' → Ev E RX10 cX10_init 2 none "<init>" Q d kc ks (pc + 2 + 3) L st h') : Ev E RX10 cX10_init 2 none "<init>" Q d (kc + 1) (ks + 10) pc L (vI 10 :: .ref q :: st) h := by
  refine ev_ren (b := ((10 : Nat) : Int)) rfl ?_
  refine ev_newI (n := 10) aI_ok (by decide) hd1 (fun a ha => ?_)
  have h1 := hi.new (k := 28) ha rfl hB
  exact p_X10_77_10 rfl hd2 h1.1 hl (kk a _ (by rw [hs a]; exact h1.put))
theorem ini_29 {E : EV} {Q : Option Value → AH → Prop} {d kc ks pc q : Nat} {L : List (Nat × Value)} {st : List Value} {h : AH} {fs : List Value} {fs' : Nat → List Value} {l : List (Nat × Nat)} {B : Nat} (hi : IniP E q fs l B h) (hB : B ≤ 29) (hl : 29 < fs.length) (hs : ∀ a, fs.set 29 (.ref a) = fs' a) (hd1 : decode cX10_init pc = .ok (.newarray .int, 2)) (hd2 : decode cX10_init (pc + 2) = .ok (.putfield 80, 3)) (kk : ∀ a h', IniP E q (fs' a) ((29, a) :: l) 30 h' → Ev E RX10 cX10_init 2 none "<init>" Q d kc ks (pc + 2 + 3) L st h') : Ev E RX10 cX10_init 2 none "<init>" Q d (kc + 1) (ks + 10) pc L (vI 10 :: .ref q :: st) h := by
  refine ev_ren (b := ((10 : Nat) : Int)) rfl ?_
  refine ev_newI (n := 10) aI_ok (by decide) hd1 (fun a ha => ?_)
  have h1 := hi.new (k := 29) ha rfl hB
  exact p_X10_80_10 rfl hd2 h1.1 hl (kk a _ (by rw [hs a]; exact h1.put))
theorem ini_30 {E : EV} {Q : Option Value → AH → Prop} {d kc ks pc q : Nat} {L : List (Nat × Value)} {st : List Value} {h : AH} {fs : List Value} {fs' : Nat → List Value} {l : List (Nat × Nat)} {B : Nat} (hi : IniP E q fs l B h) (hB : B ≤ 30) (hl : 30 < fs.length) (hs : ∀ a, fs.set 30 (.ref a) = fs' a) (hd1 : decode cX10_init pc = .ok (.newarray .int, 2)) (hd2 : decode cX10_init (pc + 2) = .ok (.putfield 83, 3)) (kk : ∀ a h', IniP E q (fs' a) ((30, a) :: l) 31 h' → Ev E RX10 cX10_init 2 none "<init>" Q d kc ks (pc + 2 + 3) L st h') : Ev E RX10 cX10_init 2 none "<init>" Q d (kc + 1) (ks + 10) pc L (vI 10 :: .ref q :: st) h := by
  refine ev_ren (b := ((10 : Nat) : Int)) rfl ?_
  refine ev_newI (n := 10) aI_ok (by decide) hd1 (fun a ha => ?_)
  have h1 := hi.new (k := 30) ha rfl hB
  exact p_X10_83_10 rfl hd2 h1.1 hl (kk a _ (by rw [hs a]; exact h1.put))
theorem ini_32 {E : EV} {Q : Option Value → AH → Prop} {d kc ks pc q : Nat} {L : List (Nat × Value)} {st : List Value} {h : AH} {fs : List Value} {fs' : Nat → List Value} {l : List (Nat × Nat)} {B : Nat} (hi : IniP E q fs l B h) (hB : B ≤ 32) (hl : 32 < fs.length) (hs : ∀ a, fs.set 32 (.ref a) = fs' a) (hd1 : decode cX10_init pc = .ok (.newarray .int, 2)) (hd2 : decode cX10_init (pc + 2) = .ok (.putfield 89, 3)) (kk : ∀ a h', IniP E q (fs' a) ((32, a) :: l) 33 h' → Ev E RX10 cX10_init 2 none "<init>" Q d kc ks (pc + 2 + 3) L st h') : Ev E RX10 cX10_init 2 none "<init>" Q d (kc + 1) (ks + 11264) pc L (vI 11264 :: .ref q :: st) h := by
  refine ev_ren (b := ((11264 : Nat) : Int)) rfl ?_
  refine ev_newI (n := 11264) aI_ok (by decide) hd1 (fun a ha => ?_)
  have h1 := hi.new (k := 32) ha rfl hB
  exact p_X10_89_10 rfl hd2 h1.1 hl (kk a _ (by rw [hs a]; exact h1.put))
theorem ini_33 {E : EV} {Q : Option Value → AH → Prop} {d kc ks pc q : Nat} {L : List (Nat × Value)} {st : List Value} {h : AH} {fs : List Value} {fs' : Nat → List Value} {l : List (Nat × Nat)} {B : Nat} (hi : IniP E q fs l B h) (hB : B ≤ 33) (hl : 33 < fs.length) (hs : ∀ a, fs.set 33 (.ref a) = fs' a) (hd1 : decode cX10_init pc = .ok (.newarray .int, 2)) (hd2 : decode cX10_init (pc + 2) = .ok (.putfield 92, 3)) (kk : ∀ a h', IniP E q (fs' a) ((33, a) :: l) 34 h' → Ev E RX10 cX10_init 2 none "<init>" Q d kc ks (pc + 2 + 3) L st h') : Ev E RX10 cX10_init 2 none "<init>" Q d (kc + 1) (ks + 10) pc L (vI 10 :: .ref q :: st) h := by
  refine ev_ren (b := ((10 : Nat) : Int)) rfl ?_
  refine ev_newI (n := 10) aI_ok (by decide) hd1 (fun a ha => ?_)
  have h1 := hi.new (k := 33) ha rfl hB
  exact p_X10_92_10 rfl hd2 h1.1 hl (kk a _ (by rw [hs a]; exact h1.put))
theorem ini_35 {E : EV} {Q : Option Value → AH → Prop} {d kc ks pc q : Nat} {L : List (Nat × Value)} {st : List Value} {h : AH} {fs : List Value} {fs' : Nat → List Value} {l : List (Nat × Nat)} {B : Nat} (hi : IniP E q fs l B h) (hB : B ≤ 35) (hl : 35 < fs.length) (hs : ∀ a, fs.set 35 (.ref a) = fs' a) (hd1 : decode cX10_init pc = .ok (.newarray .int, 2)) (hd2 : decode cX10_init (pc + 2) = .ok (.putfield 95, 3)) (kk : ∀ a h', IniP E q (fs' a) ((35, a) :: l) 36 h' → Ev E RX10 cX10_init 2 none "<init>" Q d kc ks (pc + 2 + 3) L st h') : Ev E RX10 cX10_init 2 none "<init>" Q d (kc + 1) (ks + 60) pc L (vI 60 :: .ref q :: st) h := by
  refine ev_ren (b := ((60 : Nat) : Int)) rfl ?_
  refine ev_newI (n := 60) aI_ok (by decide) hd1 (fun a ha => ?_)
  have h1 := hi.new (k := 35) ha rfl hB
  exact p_X10_95_10 rfl hd2 h1.1 hl (kk a _ (by rw [hs a]; exact h1.put))
theorem ini_36 {E : EV} {Q : Option Value → AH → Prop} {d kc ks pc q : Nat} {L : List (Nat × Value)} {st : List Value} {h : AH} {fs : List Value} {fs' : Nat → List Value} {l : List (Nat × Nat)} {B : Nat} (hi : IniP E q fs l B h) (hB : B ≤ 36) (hl : 36 < fs.length) (hs : ∀ a, fs.set 36 (.ref a) = fs' a) (hd1 : decode cX10_init pc = .ok (.newarray .int, 2)) (hd2 : decode cX10_init (pc + 2) = .ok (.putfield 98, 3)) (kk : ∀ a h', IniP E q (fs' a) ((36, a) :: l) 37 h' → Ev E RX10 cX10_init 2 none "<init>" Q d kc ks (pc + 2 + 3) L st h') : Ev E RX10 cX10_init 2 none "<init>" Q d (kc + 1) (ks + 60) pc L (vI 60 :: .ref q :: st) h := by
  refine ev_ren (b := ((60 : Nat) : Int)) rfl ?_
  refine ev_newI (n := 60) aI_ok (by decide) hd1 (fun a ha => ?_)
  have h1 := hi.new (k := 36) ha rfl hB
  exact p_X10_98_10 rfl hd2 h1.1 hl (kk a _ (by rw [hs a]; exact h1.put))
theorem ini_37 {E : EV} {Q : Option Value → AH → Prop} {d kc ks pc q : Nat} {L : List (Nat × Value)} {st : List Value} {h : AH} {fs : List Value} {fs' : Nat → List Value} {l : List (Nat × Nat)} {B : Nat} (hi : IniP E q fs l B h) (hB : B ≤ 37) (hl : 37 < fs.length) (hs : ∀ a, fs.set 37 (.ref a) = fs' a) (hd1 : decode cX10_init pc = .ok (.newarray .int, 2)) (hd2 : decode cX10_init (pc + 2) = .ok (.putfield 101, 3)) (kk : ∀ a h', IniP E q (fs' a) ((37, a) :: l) 38 h' → Ev E RX10 cX10_init 2 none "<init>" Q d kc ks (pc + 2 + 3) L st h') : Ev E RX10 cX10_init 2 none "<init>" Q d (kc + 1) (ks + 60) pc L (vI 60 :: .ref q :: st) h := by
  refine ev_ren (b := ((60 : Nat) : Int)) rfl ?_
  refine ev_newI (n := 60) aI_ok (by decide) hd1 (fun a ha => ?_)
  have h1 := hi.new (k := 37) ha rfl hB
  exact p_X10_101_10 rfl hd2 h1.1 hl (kk a _ (by rw [hs a]; exact h1.put))
theorem ini_38 {E : EV} {Q : Option Value → AH → Prop} {d kc ks pc q : Nat} {L : List (Nat × Value)} {st : List Value} {h : AH} {fs : List Value} {fs' : Nat → List Value} {l : List (Nat × Nat)} {B : Nat} (hi : IniP E q fs l B h) (hB : B ≤ 38) (hl : 38 < fs.length) (hs : ∀ a, fs.set 38 (.ref a) = fs' a) (hd1 : decode cX10_init pc = .ok (.newarray .int, 2)) (hd2 : decode cX10_init (pc + 2) = .ok (.putfield 104, 3)) (kk : ∀ a h', IniP E q (fs' a) ((38, a) :: l) 39 h' → Ev E RX10 cX10_init 2 none "<init>" Q d kc ks (pc + 2 + 3) L st h') : Ev E RX10 cX10_init 2 none "<init>" Q d (kc + 1) (ks + 60) pc L (vI 60 :: .ref q :: st) h := by
  refine ev_ren (b := ((60 : Nat) : Int)) rfl ?_
  refine ev_newI (n := 60) aI_ok (by decide) hd1 (fun a ha => ?_)
  have h1 := hi.new (k := 38) ha rfl hB
  exact p_X10_104_10 rfl hd2 h1.1 hl (kk a _ (by rw [hs a]; exact h1.put))
theorem ini_39 {E : EV} {Q : Option Value → AH → Prop} {d kc ks pc q : Nat} {L : List (Nat × Value)} {st : List Value} {h : AH} {fs : List Value} {fs' : Nat → List Value} {l : List (Nat × Nat)} {B : Nat} (hi : IniP E q fs l B h) (hB : B ≤ 39) (hl : 39 < fs.length) (hs : ∀ a, fs.set 39 (.ref a) = fs' a) (hd1 : decode cX10_init pc = .ok (.newarray .int, 2)) (hd2 : decode cX10_init (pc + 2) = .ok (.putfield 107, 3)) (kk : ∀ a h', IniP E q (fs' a) ((39, a) :: l) 40 h' → Ev E RX10 cX10_init 2 none "<init>" Q d kc ks (pc + 2 + 3) L st h') : Ev E RX10 cX10_init 2 none "<init>" Q d (kc + 1) (ks + 40) pc L (vI 40 :: .ref q :: st) h := by
  refine ev_ren (b := ((40 : Nat) : Int)) rfl ?_
  refine ev_newI (n := 40) aI_ok (by decide) hd1 (fun a ha => ?_)
  have h1 := hi.new (k := 39) ha rfl hB
  exact p_X10_107_10 rfl hd2 h1.1 hl (kk a _ (by rw [hs a]; exact h1.put))
theorem ini_41 {E : EV} {Q : Option Value → AH → Prop} {d kc ks pc q : Nat} {L : List (Nat × Value)} {st : List Value} {h : AH} {fs : List Value} {fs' : Nat → List Value} {l : List (Nat × Nat)} {B : Nat} (hi : IniP E q fs l B h) (hB : B ≤ 41) (hl : 41 < fs.length) (hs : ∀ a, fs.set 41 (.ref a) = fs' a) (hd1 : decode cX10_init pc = .ok (.newarray .int, 2)) (hd2 : decode cX10_init (pc + 2) = .ok (.putfield 110, 3)) (kk : ∀ a h', IniP E q (fs' a) ((41, a) :: l) 42 h' → Ev E RX10 cX10_init 2 none "<init>" Q d kc ks (pc + 2 + 3) L st h') : Ev E RX10 cX10_init 2 none "<init>" Q d (kc + 1) (ks + 20) pc L (vI 20 :: .ref q :: st) h := by
  refine ev_ren (b := ((20 : Nat) : Int)) rfl ?_
  refine ev_newI (n := 20) aI_ok (by decide) hd1 (fun a ha => ?_)
  have h1 := hi.new (k := 41) ha rfl hB
  exact p_X10_110_10 rfl hd2 h1.1 hl (kk a _ (by rw [hs a]; exact h1.put))
theorem ini_42 {E : EV} {Q : Option Value → AH → Prop} {d kc ks pc q : Nat} {L : List (Nat × Value)} {st : List Value} {h : AH} {fs : List Value} {fs' : Nat → List Value} {l : List (Nat × Nat)} {B : Nat} (hi : IniP E q fs l B h) (hB : B ≤ 42) (hl : 42 < fs.length) (hs : ∀ a, fs.set 42 (.ref a) = fs' a) (hd1 : decode cX10_init pc = .ok (.newarray .int, 2)) (hd2 : decode cX10_init (pc + 2) = .ok (.putfield 113, 3)) (kk : ∀ a h', IniP E q (fs' a) ((42, a) :: l) 43 h' → Ev E RX10 cX10_init 2 none "<init>" Q d kc ks (pc + 2 + 3) L st h') : Ev E RX10 cX10_init 2 none "<init>" Q d (kc + 1) (ks + 20) pc L (vI 20 :: .ref q :: st) h := by
  refine ev_ren (b := ((20 : Nat) : Int)) rfl ?_
  refine ev_newI (n := 20) aI_ok (by decide) hd1 (fun a ha => ?_)
  have h1 := hi.new (k := 42) ha rfl hB
  exact p_X10_113_10 rfl hd2 h1.1 hl (kk a _ (by rw [hs a]; exact h1.put))
theorem ini_43 {E : EV} {Q : Option Value → AH → Prop} {d kc ks pc q : Nat} {L : List (Nat × Value)} {st : List Value} {h : AH} {fs : List Value} {fs' : Nat → List Value} {l : List (Nat × Nat)} {B : Nat} (hi : IniP E q fs l B h) (hB : B ≤ 43) (hl : 43 < fs.length) (hs : ∀ a, fs.set 43 (.ref a) = fs' a) (hd1 : decode cX10_init pc = .ok (.newarray .int, 2)) (hd2 : decode cX10_init (pc + 2) = .ok (.putfield 116, 3)) (kk : ∀ a h', IniP E q (fs' a) ((43, a) :: l) 44 h' → Ev E RX10 cX10_init 2 none "<init>" Q d kc ks (pc + 2 + 3) L st h') : Ev E RX10 cX10_init 2 none "<init>" Q d (kc + 1) (ks + 4) pc L (vI 4 :: .ref q :: st) h := by
  refine ev_ren (b := ((4 : Nat) : Int)) rfl ?_
  refine ev_newI (n := 4) aI_ok (by decide) hd1 (fun a ha => ?_)
  have h1 := hi.new (k := 43) ha rfl hB
  exact p_X10_116_10 rfl hd2 h1.1 hl (kk a _ (by rw [hs a]; exact h1.put))
theorem ini_44 {E : EV} {Q : Option Value → AH → Prop} {d kc ks pc q : Nat} {L : List (Nat × Value)} {st : List Value} {h : AH} {fs : List Value} {fs' : Nat → List Value} {l : List (Nat × Nat)} {B : Nat} (hi : IniP E q fs l B h) (hB : B ≤ 44) (hl : 44 < fs.length) (hs : ∀ a, fs.set 44 (.ref a) = fs' a) (hd1 : decode cX10_init pc = .ok (.newarray .int, 2)) (hd2 : decode cX10_init (pc + 2) = .ok (.putfield 119, 3)) (kk : ∀ a h', IniP E q (fs' a) ((44, a) :: l) 45 h' → Ev E RX10 cX10_init 2 none "<init>" Q d kc ks (pc + 2 + 3) L st h') : Ev E RX10 cX10_init 2 none "<init>" Q d (kc + 1) (ks + 4) pc L (vI 4 :: .ref q :: st) h := by
  refine ev_ren (b := ((4 : Nat) : Int)) rfl ?_
  refine ev_newI (n := 4) aI_ok (by decide) hd1 (fun a ha => ?_)
  have h1 := hi.new (k := 44) ha rfl hB
  exact p_X10_119_10 rfl hd2 h1.1 hl (kk a _ (by rw [hs a]; exact h1.put))
theorem ini_45 {E : EV} {Q : Option Value → AH → Prop} {d kc ks pc q : Nat} {L : List (Nat × Value)} {st : List Value} {h : AH} {fs : List Value} {fs' : Nat → List Value} {l : List (Nat × Nat)} {B : Nat} (hi : IniP E q fs l B h) (hB : B ≤ 45) (hl : 45 < fs.length) (hs : ∀ a, fs.set 45 (.ref a) = fs' a) (hd1 : decode cX10_init pc = .ok (.newarray .int, 2)) (hd2 : decode cX10_init (pc + 2) = .ok (.putfield 122, 3)) (kk : ∀ a h', IniP E q (fs' a) ((45, a) :: l) 46 h' → Ev E RX10 cX10_init 2 none "<init>" Q d kc ks (pc + 2 + 3) L st h') : Ev E RX10 cX10_init 2 none "<init>" Q d (kc + 1) (ks + 144) pc L (vI 144 :: .ref q :: st) h := by
  refine ev_ren (b := ((144 : Nat) : Int)) rfl ?_
  refine ev_newI (n := 144) aI_ok (by decide) hd1 (fun a ha => ?_)
  have h1 := hi.new (k := 45) ha rfl hB
  exact p_X10_122_10 rfl hd2 h1.1 hl (kk a _ (by rw [hs a]; exact h1.put))
theorem ini_16 {E : EV} {Q : Option Value → AH → Prop} {d kc ks pc q : Nat} {L : List (Nat × Value)} {st : List Value} {h : AH} {fs : List Value} {l : List (Nat × Nat)} {B : Nat} {w : Int} {fs' : List Value} (hi : IniP E q fs l B h) (hl : 16 < fs.length) (hs : fs.set 16 (vI w) = fs') (hd2 : decode cX10_init pc = .ok (.putfield 52, 3)) (kk : ∀ h', IniP E q fs' l B h' → Ev E RX10 cX10_init 2 none "<init>" Q d kc ks (pc + 3) L st h') : Ev E RX10 cX10_init 2 none "<init>" Q d kc ks pc L (vI w :: .ref q :: st) h := p_X10_52_10 hd2 hi.1 hl (kk _ (by rw [hs]; exact hi.put))
theorem ini_31 {E : EV} {Q : Option Value → AH → Prop} {d kc ks pc q : Nat} {L : List (Nat × Value)} {st : List Value} {h : AH} {fs : List Value} {l : List (Nat × Nat)} {B : Nat} {w : Int} {fs' : List Value} (hi : IniP E q fs l B h) (hl : 31 < fs.length) (hs : fs.set 31 (vI w) = fs') (hd2 : decode cX10_init pc = .ok (.putfield 86, 3)) (kk : ∀ h', IniP E q fs' l B h' → Ev E RX10 cX10_init 2 none "<init>" Q d kc ks (pc + 3) L st h') : Ev E RX10 cX10_init 2 none "<init>" Q d kc ks pc L (vI w :: .ref q :: st) h := p_X10_86_10 hd2 hi.1 hl (kk _ (by rw [hs]; exact hi.put))
theorem mlen46 {k : Nat} (hk : 0 < mlen k) : k < 46 := by
  by_cases q : k < 46
  · exact q
  · unfold mlen at hk
    rw [List.getD_eq_getElem?_getD, List.getElem?_eq_none (by simp; omega)] at hk
    exact absurd hk (by decide)
def SZ : MS := fun k _ => if k = 16 ∨ k = 31 then 20 else 0
theorem SZ_in : ∀ k z, InR (SZ k z) := fun k z => by unfold SZ; split <;> decide
theorem SZ_arr {k : Nat} (hk : 0 < mlen k) : SZ k = fun _ => 0 := by
  funext z
  unfold SZ
  rw [if_neg]
  rintro (e | e) <;> (rw [e] at hk; exact absurd hk (by decide))
theorem MR_ini {E : EV} {q : Nat} {fs : List Value} {l : List (Nat × Nat)} {B : Nat} {h : AH} {as : List Nat} (hi : IniP E q fs l B h) (hm : ∀ k, 0 < mlen k → (k, as.getD k 0) ∈ l) (hf : fs = mfs (fun k => as.getD k 0) SZ) : MR E q (fun k => as.getD k 0) SZ h := by
  obtain ⟨h1, h2, h3⟩ := hi
  refine ⟨by rw [h1, hf], fun k hk => ?_, fun j k hj hk he => h3 _ (hm j hj) _ (hm k hk) he, fun k hk => (h2 _ (hm k hk)).2.1, SZ_in⟩
  rw [SZ_arr hk]
  exact (h2 _ (hm k hk)).1

set_option maxHeartbeats 4000000 in
set_option maxRecDepth 100000 in
theorem ini_loops {E : EV} {h : AH} {q : Nat} {ad : Nat → Nat} {d kc ks : Nat} (hM : MR E q ad SZ h) (hd1 : 1 ≤ d) : Ev E RX10 cX10_init 2 none "<init>" (qV (fun h' => ∃ ad, MR E q ad SI h')) d kc ks 304 [(0, .ref (q))] [] h := by
  have hR := hM.2.2.2.2
  refine ev_iconst dX10_init_304 ?_
  refine ev_istore_n (L' := [(1, vI (0)), (0, .ref (q))]) dX10_init_305 (by decide) rfl ?_
  refine up_ind (P := fun dg : Int => ∀ (S1 : MS) (h2 : AH), 0 ≤ dg → MR E q ad S1 h2 → eqx [0] SZ S1 → (∀ z : Int, S1 0 z = if 0 ≤ z ∧ z < dg then tabS z else 0) → Ev E RX10 cX10_init 2 none "<init>" (qV (fun h' => ∃ ad, MR E q ad SI h')) d kc ks 306 [(1, vI (dg)), (0, .ref (q))] [] h2) (N := 91) ?_ 0 (by omega)  SZ h (by omega) hM eqx.rf (fun z => by rw [if_neg (by omega)]; rfl)
  intro dg ihdg hdgN S1 h2 pdg hM3 hx4 h0
  have hRS1 := hM3.2.2.2.2
  refine ev_iload_n 0 rfl dX10_init_306 ?_
  refine ev_bipush dX10_init_307 (by decide) ?_
  refine ev_icmp_gt (tgt := 337) dX10_init_309 (by first | assumption | exact hR _ _ | exact hRS1 _ _ | decide | (simp only [InR]; omega)) (by decide) (by decide) (fun c309 => ?_) (fun c309 => ?_)
  · refine ev_iconst dX10_init_337 ?_
    refine ev_istore_n (L' := [(1, vI (1)), (0, .ref (q))]) dX10_init_338 (by decide) rfl ?_
    refine up_ind (P := fun dg : Int => ∀ (S5 : MS) (h6 : AH), 0 ≤ dg → MR E q ad S5 h6 → eqx [1] S1 S5 → (∀ z : Int, S5 1 z = if 1 ≤ z ∧ z < dg then tabT z else 0) → 1 ≤ dg → Ev E RX10 cX10_init 2 none "<init>" (qV (fun h' => ∃ ad, MR E q ad SI h')) d kc ks 339 [(1, vI (dg)), (0, .ref (q))] [] h6) (N := 90) ?_ 1 (by omega)  S1 h2 (by omega) hM3 eqx.rf (fun z => by rw [if_neg (by omega), hx4 1 (by decide)]; rfl) (by omega)
    intro dg ihdg hdgN S5 h6 pdg hM7 hx8 h1 hd1
    have hRS5 := hM7.2.2.2.2
    refine ev_iload_n 0 rfl dX10_init_339 ?_
    refine ev_bipush dX10_init_340 (by decide) ?_
    refine ev_icmp_ge (tgt := 378) dX10_init_342 (by first | assumption | exact hR _ _ | exact hRS1 _ _ | exact hRS5 _ _ | decide | (simp only [InR]; omega)) (by decide) (by decide) (fun c342 => ?_) (fun c342 => ?_)
    · refine ev_iconst dX10_init_378 ?_
      refine ev_istore_n (L' := [(1, vI (0)), (0, .ref (q))]) dX10_init_379 (by decide) rfl ?_
      refine up_ind (P := fun dg : Int => ∀ (S9 : MS) (h10 : AH), 0 ≤ dg → MR E q ad S9 h10 → eqx [43] S5 S9 → (∀ z : Int, 0 ≤ z → z < dg → S9 43 z = -1) → Ev E RX10 cX10_init 2 none "<init>" (qV (fun h' => ∃ ad, MR E q ad SI h')) d kc ks 380 [(1, vI (dg)), (0, .ref (q))] [] h10) (N := 4) ?_ 0 (by omega)  S5 h6 (by omega) hM7 eqx.rf (fun z z0 z1 => absurd z0 (by omega))
      intro dg ihdg hdgN S9 h10 pdg hM11 hx12 h43
      have hRS9 := hM11.2.2.2.2
      refine ev_iload_n 0 rfl dX10_init_380 ?_
      refine ev_iconst dX10_init_381 ?_
      refine ev_icmp_ge (tgt := 398) dX10_init_382 (by first | assumption | exact hR _ _ | exact hRS1 _ _ | exact hRS5 _ _ | exact hRS9 _ _ | decide | (simp only [InR]; omega)) (by decide) (by decide) (fun c382 => ?_) (fun c382 => ?_)
      · have hM9 := hM11
        refine ev_ext (q := ad 43) (n := 4) (f := S9 43) (g := fun _ => -1) (hM11.2.1 43 (by decide)) (fun z z0 z1 => h43 z z0 (by omega)) ?_
        refine ev_return dX10_init_398 ?_
        refine ⟨rfl, ad, MR.cg (S := fun k => if k = 43 then fun _ => -1 else S9 k) ⟨?_, fun k hk => ?_, hM9.2.2.1, hM9.2.2.2.1, fun k z => ?_⟩ (fun k hk => ?_) SI_in⟩
        · rw [ah_ne (fun e => hM9.2.2.2.1 43 (by decide) e.symm), hM9.1]
          rfl
        · by_cases e : k = 43
          · subst e
            exact ah_at
          · (try dsimp only)
            rw [if_neg e, ah_ne (fun e2 => e (hM9.2.2.1 k 43 hk (by decide) e2))]
            exact hM9.2.1 k hk
        · dsimp only
          split
          · show InR (-1)
            decide
          · exact hM9.2.2.2.2 k z
        · by_cases e : k = 43
          · rw [if_pos e, e]
            rfl
          · rw [if_neg e]
            by_cases e0 : k = 0
            · subst e0
              funext z
              rw [hx12 0 (by decide), hx8 0 (by decide), h0 z]
              show tabS z = _
              split
              · rfl
              · exact tabS_out (by omega)
            · by_cases e1 : k = 1
              · subst e1
                funext z
                rw [hx12 1 (by decide), h1 z]
                show tabT z = _
                split
                · rfl
                · exact tabT_out (by omega)
              · rw [hx12 k (by simp; omega), hx8 k (by simp; omega), hx4 k (by simp; omega)]
                funext z
                unfold SI SZ
                rw [if_neg e0, if_neg e1]
                split
                · rfl
                · rw [if_neg (by omega)]
      · refine ev_aload_n 1 rfl dX10_init_385 ?_
        refine mg_116 hM11 dX10_init_386 ?_
        refine ev_iload_n 0 rfl dX10_init_389 ?_
        refine ev_iconst dX10_init_390 ?_
        refine m_st (k := 43) hM11 (by decide) dX10_init_391 (by omega) (by show _ < ((4 : Nat) : Int); omega) (by decide) (fun S13 h14 eS15 hM16 => ?_)
        have hRS13 := hM16.2.2.2.2
        refine ev_iinc (L' := [(1, vI (dg + 1)), (0, .ref (q))]) 0 rfl dX10_init_392 (by decide) rfl ?_
        refine ev_goto (tgt := 380) dX10_init_395 (by decide) ?_
        exact ihdg (dg + 1) (by omega) (by omega) S13 h14 (by omega) hM16 (by rw [eS15]; exact eqx.up (l := [43]) hx12 (by decide)) (fun z z0 z1 => by rw [eS15]; by_cases hz : z = dg; (rw [hz, upS_at]); (rw [upS_nz hz]; exact h43 z z0 (by omega)))
    · have os := ok_sin dg.toNat (by omega)
      rw [Int.toNat_of_nonneg (show 0 ≤ dg by omega)] at os
      obtain ⟨o1, _, _⟩ := os
      have ot := (ok_tan dg.toNat (by omega)).resolve_left (by omega)
      rw [Int.toNat_of_nonneg (show 0 ≤ dg by omega)] at ot
      obtain ⟨o2, o3, o4⟩ := ot
      have tb1 := tabT_b dg
      refine ev_aload_n 1 rfl dX10_init_345 ?_
      refine mg_13 hM7 dX10_init_346 ?_
      refine ev_iload_n 0 rfl dX10_init_349 ?_
      refine ev_ldc2d dX10_init_350 k_X10_125 ?_
      refine ev_iload_n 0 rfl dX10_init_353 ?_
      refine c_X10_127 (m_sineOf (d := dg) (by omega)) rfl rfl (Nat.le_of_ble_eq_true rfl) (by omega) dX10_init_354 (kDb ?_)
      refine ev_dmul dX10_init_357 (by first | assumption | exact o1 | exact o2 | exact o3) ?_
      refine ev_bipush dX10_init_358 (by decide) ?_
      refine ev_iload_n 0 rfl dX10_init_360 ?_
      refine ev_isub dX10_init_361 ?_
      refine c_X10_127 (m_sineOf (d := 90 - dg) (by omega)) rfl rfl (Nat.le_of_ble_eq_true rfl) (by omega) dX10_init_362 (kDb ?_)
      refine ev_ddiv dX10_init_365 (by first | assumption | exact o1 | exact o2 | exact o3) ?_
      refine ev_ldc2d dX10_init_366 k_X10_131 ?_
      refine ev_dadd dX10_init_369 (by first | assumption | exact o1 | exact o2 | exact o3) ?_
      refine ev_d2i dX10_init_370 ?_
      refine ev_ren (b := tabT dg) (o4) ?_
      refine m_st (k := 1) hM7 (by decide) dX10_init_371 (by omega) (by show _ < ((90 : Nat) : Int); omega) (by first | assumption | exact hR _ _ | exact hRS1 _ _ | exact hRS5 _ _ | decide | (simp only [InR]; omega)) (fun S17 h18 eS19 hM20 => ?_)
      have hRS17 := hM20.2.2.2.2
      refine ev_iinc (L' := [(1, vI (dg + 1)), (0, .ref (q))]) 0 rfl dX10_init_372 (by decide) rfl ?_
      refine ev_goto (tgt := 339) dX10_init_375 (by decide) ?_
      exact ihdg (dg + 1) (by omega) (by omega) S17 h18 (by omega) hM20 (by rw [eS19]; exact eqx.up (l := [1]) hx8 (by decide)) (fun z => by rw [eS19]; by_cases hz : z = dg; (rw [hz, upS_at, if_pos (by omega)]); (rw [upS_nz hz, h1 z]; by_cases h2 : 1 ≤ z ∧ z < dg; (rw [if_pos h2, if_pos (by omega)]); (rw [if_neg h2, if_neg (by omega)]))) (by omega)
  · have os := ok_sin dg.toNat (by omega)
    rw [Int.toNat_of_nonneg (show 0 ≤ dg by omega)] at os
    obtain ⟨o1, o2, o4⟩ := os
    have tb1 := tabS_b dg
    refine ev_aload_n 1 rfl dX10_init_312 ?_
    refine mg_7 hM3 dX10_init_313 ?_
    refine ev_iload_n 0 rfl dX10_init_316 ?_
    refine ev_ldc2d dX10_init_317 k_X10_125 ?_
    refine ev_iload_n 0 rfl dX10_init_320 ?_
    refine c_X10_127 (m_sineOf (d := dg) (by omega)) rfl rfl (Nat.le_of_ble_eq_true rfl) (by omega) dX10_init_321 (kDb ?_)
    refine ev_dmul dX10_init_324 (by first | assumption | exact o1 | exact o2 | exact o3) ?_
    refine ev_ldc2d dX10_init_325 k_X10_131 ?_
    refine ev_dadd dX10_init_328 (by first | assumption | exact o1 | exact o2 | exact o3) ?_
    refine ev_d2i dX10_init_329 ?_
    refine ev_ren (b := tabS dg) (o4) ?_
    refine m_st (k := 0) hM3 (by decide) dX10_init_330 (by omega) (by show _ < ((91 : Nat) : Int); omega) (by first | assumption | exact hR _ _ | exact hRS1 _ _ | decide | (simp only [InR]; omega)) (fun S21 h22 eS23 hM24 => ?_)
    have hRS21 := hM24.2.2.2.2
    refine ev_iinc (L' := [(1, vI (dg + 1)), (0, .ref (q))]) 0 rfl dX10_init_331 (by decide) rfl ?_
    refine ev_goto (tgt := 306) dX10_init_334 (by decide) ?_
    exact ihdg (dg + 1) (by omega) (by omega) S21 h22 (by omega) hM24 (by rw [eS23]; exact eqx.up (l := [0]) hx4 (by decide)) (fun z => by rw [eS23]; by_cases hz : z = dg; (rw [hz, upS_at, if_pos (by omega)]); (rw [upS_nz hz, h0 z]; by_cases h2 : 0 ≤ z ∧ z < dg; (rw [if_pos h2, if_pos (by omega)]); (rw [if_neg h2, if_neg (by omega)])))

theorem ini_tail {E : EV} {q : Nat} {fs : List Value} {l : List (Nat × Nat)} {B : Nat} {h : AH} {as : List Nat} {d kc ks : Nat} (hi : IniP E q fs l B h) (hm : ∀ k, 0 < mlen k → (k, as.getD k 0) ∈ l) (hf : fs = mfs (fun k => as.getD k 0) SZ) (hd1 : 1 ≤ d) : Ev E RX10 cX10_init 2 none "<init>" (qV (fun h' => ∃ ad, MR E q ad SI h')) d kc ks 304 [(0, .ref q)] [] h := ini_loops (MR_ini hi hm hf) hd1
set_option maxHeartbeats 4000000 in
set_option maxRecDepth 100000 in
theorem m_init {E : EV} {h : AH} {q : Nat} (hq : h q = some (ob 10 [.null, .null, vI 0, .null, .null, .null, .null, vI 0, .null, .null, .null, .null, .null, .null, .null, .null, vI 0, vI 0, vI 0, vI 0, .null, vI 0, .null, .null, .null, .null, .null, .null, .null, .null, .null, vI 0, .null, .null, vI 0, .null, .null, .null, .null, .null, vI 0, .null, .null, .null, .null, .null])) : CM E yX10_init cX10_init 2 none 1 36 12409 [.ref q] h (qV (fun h' => ∃ ad, MR E q ad SI h')) := by
  refine CM.of (by decide) (Nat.le_of_ble_eq_true rfl) (L := [(0, .ref q)]) rfl ?_
  refine ev_aload_n 0 rfl dX10_init_0 ?_
  refine oi_X10 dX10_init_1 (by decide) (Nat.le_of_ble_eq_true rfl) ?_
  have hin : IniP E q [.null, .null, vI 0, .null, .null, .null, .null, vI 0, .null, .null, .null, .null, .null, .null, .null, .null, vI 0, vI 0, vI 0, vI 0, .null, vI 0, .null, .null, .null, .null, .null, .null, .null, .null, .null, vI 0, .null, .null, vI 0, .null, .null, .null, .null, .null, vI 0, .null, .null, .null, .null, .null] [] 0 h := ⟨hq, fun p hp => (by cases hp), fun p hp => (by cases hp)⟩
  refine ev_aload_n 0 rfl dX10_init_4 ?_
  refine ev_bipush dX10_init_5 (by decide) ?_
  refine ini_0 (fs' := fun a => [.ref a, .null, vI 0, .null, .null, .null, .null, vI 0, .null, .null, .null, .null, .null, .null, .null, .null, vI 0, vI 0, vI 0, vI 0, .null, vI 0, .null, .null, .null, .null, .null, .null, .null, .null, .null, vI 0, .null, .null, vI 0, .null, .null, .null, .null, .null, vI 0, .null, .null, .null, .null, .null]) hin (by decide) (Nat.le_of_ble_eq_true rfl) (fun _ => rfl) dX10_init_7 dX10_init_9 (fun a0 h0 hin0 => ?_)
  refine ev_aload_n 0 rfl dX10_init_12 ?_
  refine ev_bipush dX10_init_13 (by decide) ?_
  refine ini_1 (fs' := fun a => [.ref a0, .ref a, vI 0, .null, .null, .null, .null, vI 0, .null, .null, .null, .null, .null, .null, .null, .null, vI 0, vI 0, vI 0, vI 0, .null, vI 0, .null, .null, .null, .null, .null, .null, .null, .null, .null, vI 0, .null, .null, vI 0, .null, .null, .null, .null, .null, vI 0, .null, .null, .null, .null, .null]) hin0 (by decide) (Nat.le_of_ble_eq_true rfl) (fun _ => rfl) dX10_init_15 dX10_init_17 (fun a1 h1 hin1 => ?_)
  refine ev_aload_n 0 rfl dX10_init_20 ?_
  refine ev_bipush dX10_init_21 (by decide) ?_
  refine ini_3 (fs' := fun a => [.ref a0, .ref a1, vI 0, .ref a, .null, .null, .null, vI 0, .null, .null, .null, .null, .null, .null, .null, .null, vI 0, vI 0, vI 0, vI 0, .null, vI 0, .null, .null, .null, .null, .null, .null, .null, .null, .null, vI 0, .null, .null, vI 0, .null, .null, .null, .null, .null, vI 0, .null, .null, .null, .null, .null]) hin1 (by decide) (Nat.le_of_ble_eq_true rfl) (fun _ => rfl) dX10_init_23 dX10_init_25 (fun a3 h3 hin3 => ?_)
  refine ev_aload_n 0 rfl dX10_init_28 ?_
  refine ev_bipush dX10_init_29 (by decide) ?_
  refine ini_4 (fs' := fun a => [.ref a0, .ref a1, vI 0, .ref a3, .ref a, .null, .null, vI 0, .null, .null, .null, .null, .null, .null, .null, .null, vI 0, vI 0, vI 0, vI 0, .null, vI 0, .null, .null, .null, .null, .null, .null, .null, .null, .null, vI 0, .null, .null, vI 0, .null, .null, .null, .null, .null, vI 0, .null, .null, .null, .null, .null]) hin3 (by decide) (Nat.le_of_ble_eq_true rfl) (fun _ => rfl) dX10_init_31 dX10_init_33 (fun a4 h4 hin4 => ?_)
  refine ev_aload_n 0 rfl dX10_init_36 ?_
  refine ev_bipush dX10_init_37 (by decide) ?_
  refine ini_5 (fs' := fun a => [.ref a0, .ref a1, vI 0, .ref a3, .ref a4, .ref a, .null, vI 0, .null, .null, .null, .null, .null, .null, .null, .null, vI 0, vI 0, vI 0, vI 0, .null, vI 0, .null, .null, .null, .null, .null, .null, .null, .null, .null, vI 0, .null, .null, vI 0, .null, .null, .null, .null, .null, vI 0, .null, .null, .null, .null, .null]) hin4 (by decide) (Nat.le_of_ble_eq_true rfl) (fun _ => rfl) dX10_init_39 dX10_init_41 (fun a5 h5 hin5 => ?_)
  refine ev_aload_n 0 rfl dX10_init_44 ?_
  refine ev_bipush dX10_init_45 (by decide) ?_
  refine ini_6 (fs' := fun a => [.ref a0, .ref a1, vI 0, .ref a3, .ref a4, .ref a5, .ref a, vI 0, .null, .null, .null, .null, .null, .null, .null, .null, vI 0, vI 0, vI 0, vI 0, .null, vI 0, .null, .null, .null, .null, .null, .null, .null, .null, .null, vI 0, .null, .null, vI 0, .null, .null, .null, .null, .null, vI 0, .null, .null, .null, .null, .null]) hin5 (by decide) (Nat.le_of_ble_eq_true rfl) (fun _ => rfl) dX10_init_47 dX10_init_49 (fun a6 h6 hin6 => ?_)
  refine ev_aload_n 0 rfl dX10_init_52 ?_
  refine ev_bipush dX10_init_53 (by decide) ?_
  refine ini_8 (fs' := fun a => [.ref a0, .ref a1, vI 0, .ref a3, .ref a4, .ref a5, .ref a6, vI 0, .ref a, .null, .null, .null, .null, .null, .null, .null, vI 0, vI 0, vI 0, vI 0, .null, vI 0, .null, .null, .null, .null, .null, .null, .null, .null, .null, vI 0, .null, .null, vI 0, .null, .null, .null, .null, .null, vI 0, .null, .null, .null, .null, .null]) hin6 (by decide) (Nat.le_of_ble_eq_true rfl) (fun _ => rfl) dX10_init_55 dX10_init_57 (fun a8 h8 hin8 => ?_)
  refine ev_aload_n 0 rfl dX10_init_60 ?_
  refine ev_bipush dX10_init_61 (by decide) ?_
  refine ini_9 (fs' := fun a => [.ref a0, .ref a1, vI 0, .ref a3, .ref a4, .ref a5, .ref a6, vI 0, .ref a8, .ref a, .null, .null, .null, .null, .null, .null, vI 0, vI 0, vI 0, vI 0, .null, vI 0, .null, .null, .null, .null, .null, .null, .null, .null, .null, vI 0, .null, .null, vI 0, .null, .null, .null, .null, .null, vI 0, .null, .null, .null, .null, .null]) hin8 (by decide) (Nat.le_of_ble_eq_true rfl) (fun _ => rfl) dX10_init_63 dX10_init_65 (fun a9 h9 hin9 => ?_)
  refine ev_aload_n 0 rfl dX10_init_68 ?_
  refine ev_bipush dX10_init_69 (by decide) ?_
  refine ini_10 (fs' := fun a => [.ref a0, .ref a1, vI 0, .ref a3, .ref a4, .ref a5, .ref a6, vI 0, .ref a8, .ref a9, .ref a, .null, .null, .null, .null, .null, vI 0, vI 0, vI 0, vI 0, .null, vI 0, .null, .null, .null, .null, .null, .null, .null, .null, .null, vI 0, .null, .null, vI 0, .null, .null, .null, .null, .null, vI 0, .null, .null, .null, .null, .null]) hin9 (by decide) (Nat.le_of_ble_eq_true rfl) (fun _ => rfl) dX10_init_71 dX10_init_73 (fun a10 h10 hin10 => ?_)
  refine ev_aload_n 0 rfl dX10_init_76 ?_
  refine ev_bipush dX10_init_77 (by decide) ?_
  refine ini_11 (fs' := fun a => [.ref a0, .ref a1, vI 0, .ref a3, .ref a4, .ref a5, .ref a6, vI 0, .ref a8, .ref a9, .ref a10, .ref a, .null, .null, .null, .null, vI 0, vI 0, vI 0, vI 0, .null, vI 0, .null, .null, .null, .null, .null, .null, .null, .null, .null, vI 0, .null, .null, vI 0, .null, .null, .null, .null, .null, vI 0, .null, .null, .null, .null, .null]) hin10 (by decide) (Nat.le_of_ble_eq_true rfl) (fun _ => rfl) dX10_init_79 dX10_init_81 (fun a11 h11 hin11 => ?_)
  refine ev_aload_n 0 rfl dX10_init_84 ?_
  refine ev_bipush dX10_init_85 (by decide) ?_
  refine ini_12 (fs' := fun a => [.ref a0, .ref a1, vI 0, .ref a3, .ref a4, .ref a5, .ref a6, vI 0, .ref a8, .ref a9, .ref a10, .ref a11, .ref a, .null, .null, .null, vI 0, vI 0, vI 0, vI 0, .null, vI 0, .null, .null, .null, .null, .null, .null, .null, .null, .null, vI 0, .null, .null, vI 0, .null, .null, .null, .null, .null, vI 0, .null, .null, .null, .null, .null]) hin11 (by decide) (Nat.le_of_ble_eq_true rfl) (fun _ => rfl) dX10_init_87 dX10_init_89 (fun a12 h12 hin12 => ?_)
  refine ev_aload_n 0 rfl dX10_init_92 ?_
  refine ev_bipush dX10_init_93 (by decide) ?_
  refine ini_13 (fs' := fun a => [.ref a0, .ref a1, vI 0, .ref a3, .ref a4, .ref a5, .ref a6, vI 0, .ref a8, .ref a9, .ref a10, .ref a11, .ref a12, .ref a, .null, .null, vI 0, vI 0, vI 0, vI 0, .null, vI 0, .null, .null, .null, .null, .null, .null, .null, .null, .null, vI 0, .null, .null, vI 0, .null, .null, .null, .null, .null, vI 0, .null, .null, .null, .null, .null]) hin12 (by decide) (Nat.le_of_ble_eq_true rfl) (fun _ => rfl) dX10_init_95 dX10_init_97 (fun a13 h13 hin13 => ?_)
  refine ev_aload_n 0 rfl dX10_init_100 ?_
  refine ev_bipush dX10_init_101 (by decide) ?_
  refine ini_14 (fs' := fun a => [.ref a0, .ref a1, vI 0, .ref a3, .ref a4, .ref a5, .ref a6, vI 0, .ref a8, .ref a9, .ref a10, .ref a11, .ref a12, .ref a13, .ref a, .null, vI 0, vI 0, vI 0, vI 0, .null, vI 0, .null, .null, .null, .null, .null, .null, .null, .null, .null, vI 0, .null, .null, vI 0, .null, .null, .null, .null, .null, vI 0, .null, .null, .null, .null, .null]) hin13 (by decide) (Nat.le_of_ble_eq_true rfl) (fun _ => rfl) dX10_init_103 dX10_init_105 (fun a14 h14 hin14 => ?_)
  refine ev_aload_n 0 rfl dX10_init_108 ?_
  refine ev_bipush dX10_init_109 (by decide) ?_
  refine ini_15 (fs' := fun a => [.ref a0, .ref a1, vI 0, .ref a3, .ref a4, .ref a5, .ref a6, vI 0, .ref a8, .ref a9, .ref a10, .ref a11, .ref a12, .ref a13, .ref a14, .ref a, vI 0, vI 0, vI 0, vI 0, .null, vI 0, .null, .null, .null, .null, .null, .null, .null, .null, .null, vI 0, .null, .null, vI 0, .null, .null, .null, .null, .null, vI 0, .null, .null, .null, .null, .null]) hin14 (by decide) (Nat.le_of_ble_eq_true rfl) (fun _ => rfl) dX10_init_111 dX10_init_113 (fun a15 h15 hin15 => ?_)
  refine ev_aload_n 0 rfl dX10_init_116 ?_
  refine ev_bipush dX10_init_117 (by decide) ?_
  refine ini_16 (fs' := [.ref a0, .ref a1, vI 0, .ref a3, .ref a4, .ref a5, .ref a6, vI 0, .ref a8, .ref a9, .ref a10, .ref a11, .ref a12, .ref a13, .ref a14, .ref a15, vI 20, vI 0, vI 0, vI 0, .null, vI 0, .null, .null, .null, .null, .null, .null, .null, .null, .null, vI 0, .null, .null, vI 0, .null, .null, .null, .null, .null, vI 0, .null, .null, .null, .null, .null]) hin15 (Nat.le_of_ble_eq_true rfl) rfl dX10_init_119 (fun h16 hin16 => ?_)
  refine ev_aload_n 0 rfl dX10_init_122 ?_
  refine ev_bipush dX10_init_123 (by decide) ?_
  refine ini_20 (fs' := fun a => [.ref a0, .ref a1, vI 0, .ref a3, .ref a4, .ref a5, .ref a6, vI 0, .ref a8, .ref a9, .ref a10, .ref a11, .ref a12, .ref a13, .ref a14, .ref a15, vI 20, vI 0, vI 0, vI 0, .ref a, vI 0, .null, .null, .null, .null, .null, .null, .null, .null, .null, vI 0, .null, .null, vI 0, .null, .null, .null, .null, .null, vI 0, .null, .null, .null, .null, .null]) hin16 (by decide) (Nat.le_of_ble_eq_true rfl) (fun _ => rfl) dX10_init_125 dX10_init_127 (fun a20 h20 hin20 => ?_)
  refine ev_aload_n 0 rfl dX10_init_130 ?_
  refine ev_bipush dX10_init_131 (by decide) ?_
  refine ini_22 (fs' := fun a => [.ref a0, .ref a1, vI 0, .ref a3, .ref a4, .ref a5, .ref a6, vI 0, .ref a8, .ref a9, .ref a10, .ref a11, .ref a12, .ref a13, .ref a14, .ref a15, vI 20, vI 0, vI 0, vI 0, .ref a20, vI 0, .ref a, .null, .null, .null, .null, .null, .null, .null, .null, vI 0, .null, .null, vI 0, .null, .null, .null, .null, .null, vI 0, .null, .null, .null, .null, .null]) hin20 (by decide) (Nat.le_of_ble_eq_true rfl) (fun _ => rfl) dX10_init_133 dX10_init_135 (fun a22 h22 hin22 => ?_)
  refine ev_aload_n 0 rfl dX10_init_138 ?_
  refine ev_bipush dX10_init_139 (by decide) ?_
  refine ini_23 (fs' := fun a => [.ref a0, .ref a1, vI 0, .ref a3, .ref a4, .ref a5, .ref a6, vI 0, .ref a8, .ref a9, .ref a10, .ref a11, .ref a12, .ref a13, .ref a14, .ref a15, vI 20, vI 0, vI 0, vI 0, .ref a20, vI 0, .ref a22, .ref a, .null, .null, .null, .null, .null, .null, .null, vI 0, .null, .null, vI 0, .null, .null, .null, .null, .null, vI 0, .null, .null, .null, .null, .null]) hin22 (by decide) (Nat.le_of_ble_eq_true rfl) (fun _ => rfl) dX10_init_141 dX10_init_143 (fun a23 h23 hin23 => ?_)
  refine ev_aload_n 0 rfl dX10_init_146 ?_
  refine ev_bipush dX10_init_147 (by decide) ?_
  refine ini_24 (fs' := fun a => [.ref a0, .ref a1, vI 0, .ref a3, .ref a4, .ref a5, .ref a6, vI 0, .ref a8, .ref a9, .ref a10, .ref a11, .ref a12, .ref a13, .ref a14, .ref a15, vI 20, vI 0, vI 0, vI 0, .ref a20, vI 0, .ref a22, .ref a23, .ref a, .null, .null, .null, .null, .null, .null, vI 0, .null, .null, vI 0, .null, .null, .null, .null, .null, vI 0, .null, .null, .null, .null, .null]) hin23 (by decide) (Nat.le_of_ble_eq_true rfl) (fun _ => rfl) dX10_init_149 dX10_init_151 (fun a24 h24 hin24 => ?_)
  refine ev_aload_n 0 rfl dX10_init_154 ?_
  refine ev_bipush dX10_init_155 (by decide) ?_
  refine ini_25 (fs' := fun a => [.ref a0, .ref a1, vI 0, .ref a3, .ref a4, .ref a5, .ref a6, vI 0, .ref a8, .ref a9, .ref a10, .ref a11, .ref a12, .ref a13, .ref a14, .ref a15, vI 20, vI 0, vI 0, vI 0, .ref a20, vI 0, .ref a22, .ref a23, .ref a24, .ref a, .null, .null, .null, .null, .null, vI 0, .null, .null, vI 0, .null, .null, .null, .null, .null, vI 0, .null, .null, .null, .null, .null]) hin24 (by decide) (Nat.le_of_ble_eq_true rfl) (fun _ => rfl) dX10_init_157 dX10_init_159 (fun a25 h25 hin25 => ?_)
  refine ev_aload_n 0 rfl dX10_init_162 ?_
  refine ev_bipush dX10_init_163 (by decide) ?_
  refine ini_26 (fs' := fun a => [.ref a0, .ref a1, vI 0, .ref a3, .ref a4, .ref a5, .ref a6, vI 0, .ref a8, .ref a9, .ref a10, .ref a11, .ref a12, .ref a13, .ref a14, .ref a15, vI 20, vI 0, vI 0, vI 0, .ref a20, vI 0, .ref a22, .ref a23, .ref a24, .ref a25, .ref a, .null, .null, .null, .null, vI 0, .null, .null, vI 0, .null, .null, .null, .null, .null, vI 0, .null, .null, .null, .null, .null]) hin25 (by decide) (Nat.le_of_ble_eq_true rfl) (fun _ => rfl) dX10_init_165 dX10_init_167 (fun a26 h26 hin26 => ?_)
  refine ev_aload_n 0 rfl dX10_init_170 ?_
  refine ev_bipush dX10_init_171 (by decide) ?_
  refine ini_27 (fs' := fun a => [.ref a0, .ref a1, vI 0, .ref a3, .ref a4, .ref a5, .ref a6, vI 0, .ref a8, .ref a9, .ref a10, .ref a11, .ref a12, .ref a13, .ref a14, .ref a15, vI 20, vI 0, vI 0, vI 0, .ref a20, vI 0, .ref a22, .ref a23, .ref a24, .ref a25, .ref a26, .ref a, .null, .null, .null, vI 0, .null, .null, vI 0, .null, .null, .null, .null, .null, vI 0, .null, .null, .null, .null, .null]) hin26 (by decide) (Nat.le_of_ble_eq_true rfl) (fun _ => rfl) dX10_init_173 dX10_init_175 (fun a27 h27 hin27 => ?_)
  refine ev_aload_n 0 rfl dX10_init_178 ?_
  refine ev_bipush dX10_init_179 (by decide) ?_
  refine ini_28 (fs' := fun a => [.ref a0, .ref a1, vI 0, .ref a3, .ref a4, .ref a5, .ref a6, vI 0, .ref a8, .ref a9, .ref a10, .ref a11, .ref a12, .ref a13, .ref a14, .ref a15, vI 20, vI 0, vI 0, vI 0, .ref a20, vI 0, .ref a22, .ref a23, .ref a24, .ref a25, .ref a26, .ref a27, .ref a, .null, .null, vI 0, .null, .null, vI 0, .null, .null, .null, .null, .null, vI 0, .null, .null, .null, .null, .null]) hin27 (by decide) (Nat.le_of_ble_eq_true rfl) (fun _ => rfl) dX10_init_181 dX10_init_183 (fun a28 h28 hin28 => ?_)
  refine ev_aload_n 0 rfl dX10_init_186 ?_
  refine ev_bipush dX10_init_187 (by decide) ?_
  refine ini_29 (fs' := fun a => [.ref a0, .ref a1, vI 0, .ref a3, .ref a4, .ref a5, .ref a6, vI 0, .ref a8, .ref a9, .ref a10, .ref a11, .ref a12, .ref a13, .ref a14, .ref a15, vI 20, vI 0, vI 0, vI 0, .ref a20, vI 0, .ref a22, .ref a23, .ref a24, .ref a25, .ref a26, .ref a27, .ref a28, .ref a, .null, vI 0, .null, .null, vI 0, .null, .null, .null, .null, .null, vI 0, .null, .null, .null, .null, .null]) hin28 (by decide) (Nat.le_of_ble_eq_true rfl) (fun _ => rfl) dX10_init_189 dX10_init_191 (fun a29 h29 hin29 => ?_)
  refine ev_aload_n 0 rfl dX10_init_194 ?_
  refine ev_bipush dX10_init_195 (by decide) ?_
  refine ini_30 (fs' := fun a => [.ref a0, .ref a1, vI 0, .ref a3, .ref a4, .ref a5, .ref a6, vI 0, .ref a8, .ref a9, .ref a10, .ref a11, .ref a12, .ref a13, .ref a14, .ref a15, vI 20, vI 0, vI 0, vI 0, .ref a20, vI 0, .ref a22, .ref a23, .ref a24, .ref a25, .ref a26, .ref a27, .ref a28, .ref a29, .ref a, vI 0, .null, .null, vI 0, .null, .null, .null, .null, .null, vI 0, .null, .null, .null, .null, .null]) hin29 (by decide) (Nat.le_of_ble_eq_true rfl) (fun _ => rfl) dX10_init_197 dX10_init_199 (fun a30 h30 hin30 => ?_)
  refine ev_aload_n 0 rfl dX10_init_202 ?_
  refine ev_bipush dX10_init_203 (by decide) ?_
  refine ini_31 (fs' := [.ref a0, .ref a1, vI 0, .ref a3, .ref a4, .ref a5, .ref a6, vI 0, .ref a8, .ref a9, .ref a10, .ref a11, .ref a12, .ref a13, .ref a14, .ref a15, vI 20, vI 0, vI 0, vI 0, .ref a20, vI 0, .ref a22, .ref a23, .ref a24, .ref a25, .ref a26, .ref a27, .ref a28, .ref a29, .ref a30, vI 20, .null, .null, vI 0, .null, .null, .null, .null, .null, vI 0, .null, .null, .null, .null, .null]) hin30 (Nat.le_of_ble_eq_true rfl) rfl dX10_init_205 (fun h31 hin31 => ?_)
  refine ev_aload_n 0 rfl dX10_init_208 ?_
  refine ev_sipush dX10_init_209 (by decide) ?_
  refine ini_32 (fs' := fun a => [.ref a0, .ref a1, vI 0, .ref a3, .ref a4, .ref a5, .ref a6, vI 0, .ref a8, .ref a9, .ref a10, .ref a11, .ref a12, .ref a13, .ref a14, .ref a15, vI 20, vI 0, vI 0, vI 0, .ref a20, vI 0, .ref a22, .ref a23, .ref a24, .ref a25, .ref a26, .ref a27, .ref a28, .ref a29, .ref a30, vI 20, .ref a, .null, vI 0, .null, .null, .null, .null, .null, vI 0, .null, .null, .null, .null, .null]) hin31 (by decide) (Nat.le_of_ble_eq_true rfl) (fun _ => rfl) dX10_init_212 dX10_init_214 (fun a32 h32 hin32 => ?_)
  refine ev_aload_n 0 rfl dX10_init_217 ?_
  refine ev_bipush dX10_init_218 (by decide) ?_
  refine ini_33 (fs' := fun a => [.ref a0, .ref a1, vI 0, .ref a3, .ref a4, .ref a5, .ref a6, vI 0, .ref a8, .ref a9, .ref a10, .ref a11, .ref a12, .ref a13, .ref a14, .ref a15, vI 20, vI 0, vI 0, vI 0, .ref a20, vI 0, .ref a22, .ref a23, .ref a24, .ref a25, .ref a26, .ref a27, .ref a28, .ref a29, .ref a30, vI 20, .ref a32, .ref a, vI 0, .null, .null, .null, .null, .null, vI 0, .null, .null, .null, .null, .null]) hin32 (by decide) (Nat.le_of_ble_eq_true rfl) (fun _ => rfl) dX10_init_220 dX10_init_222 (fun a33 h33 hin33 => ?_)
  refine ev_aload_n 0 rfl dX10_init_225 ?_
  refine ev_bipush dX10_init_226 (by decide) ?_
  refine ini_35 (fs' := fun a => [.ref a0, .ref a1, vI 0, .ref a3, .ref a4, .ref a5, .ref a6, vI 0, .ref a8, .ref a9, .ref a10, .ref a11, .ref a12, .ref a13, .ref a14, .ref a15, vI 20, vI 0, vI 0, vI 0, .ref a20, vI 0, .ref a22, .ref a23, .ref a24, .ref a25, .ref a26, .ref a27, .ref a28, .ref a29, .ref a30, vI 20, .ref a32, .ref a33, vI 0, .ref a, .null, .null, .null, .null, vI 0, .null, .null, .null, .null, .null]) hin33 (by decide) (Nat.le_of_ble_eq_true rfl) (fun _ => rfl) dX10_init_228 dX10_init_230 (fun a35 h35 hin35 => ?_)
  refine ev_aload_n 0 rfl dX10_init_233 ?_
  refine ev_bipush dX10_init_234 (by decide) ?_
  refine ini_36 (fs' := fun a => [.ref a0, .ref a1, vI 0, .ref a3, .ref a4, .ref a5, .ref a6, vI 0, .ref a8, .ref a9, .ref a10, .ref a11, .ref a12, .ref a13, .ref a14, .ref a15, vI 20, vI 0, vI 0, vI 0, .ref a20, vI 0, .ref a22, .ref a23, .ref a24, .ref a25, .ref a26, .ref a27, .ref a28, .ref a29, .ref a30, vI 20, .ref a32, .ref a33, vI 0, .ref a35, .ref a, .null, .null, .null, vI 0, .null, .null, .null, .null, .null]) hin35 (by decide) (Nat.le_of_ble_eq_true rfl) (fun _ => rfl) dX10_init_236 dX10_init_238 (fun a36 h36 hin36 => ?_)
  refine ev_aload_n 0 rfl dX10_init_241 ?_
  refine ev_bipush dX10_init_242 (by decide) ?_
  refine ini_37 (fs' := fun a => [.ref a0, .ref a1, vI 0, .ref a3, .ref a4, .ref a5, .ref a6, vI 0, .ref a8, .ref a9, .ref a10, .ref a11, .ref a12, .ref a13, .ref a14, .ref a15, vI 20, vI 0, vI 0, vI 0, .ref a20, vI 0, .ref a22, .ref a23, .ref a24, .ref a25, .ref a26, .ref a27, .ref a28, .ref a29, .ref a30, vI 20, .ref a32, .ref a33, vI 0, .ref a35, .ref a36, .ref a, .null, .null, vI 0, .null, .null, .null, .null, .null]) hin36 (by decide) (Nat.le_of_ble_eq_true rfl) (fun _ => rfl) dX10_init_244 dX10_init_246 (fun a37 h37 hin37 => ?_)
  refine ev_aload_n 0 rfl dX10_init_249 ?_
  refine ev_bipush dX10_init_250 (by decide) ?_
  refine ini_38 (fs' := fun a => [.ref a0, .ref a1, vI 0, .ref a3, .ref a4, .ref a5, .ref a6, vI 0, .ref a8, .ref a9, .ref a10, .ref a11, .ref a12, .ref a13, .ref a14, .ref a15, vI 20, vI 0, vI 0, vI 0, .ref a20, vI 0, .ref a22, .ref a23, .ref a24, .ref a25, .ref a26, .ref a27, .ref a28, .ref a29, .ref a30, vI 20, .ref a32, .ref a33, vI 0, .ref a35, .ref a36, .ref a37, .ref a, .null, vI 0, .null, .null, .null, .null, .null]) hin37 (by decide) (Nat.le_of_ble_eq_true rfl) (fun _ => rfl) dX10_init_252 dX10_init_254 (fun a38 h38 hin38 => ?_)
  refine ev_aload_n 0 rfl dX10_init_257 ?_
  refine ev_bipush dX10_init_258 (by decide) ?_
  refine ini_39 (fs' := fun a => [.ref a0, .ref a1, vI 0, .ref a3, .ref a4, .ref a5, .ref a6, vI 0, .ref a8, .ref a9, .ref a10, .ref a11, .ref a12, .ref a13, .ref a14, .ref a15, vI 20, vI 0, vI 0, vI 0, .ref a20, vI 0, .ref a22, .ref a23, .ref a24, .ref a25, .ref a26, .ref a27, .ref a28, .ref a29, .ref a30, vI 20, .ref a32, .ref a33, vI 0, .ref a35, .ref a36, .ref a37, .ref a38, .ref a, vI 0, .null, .null, .null, .null, .null]) hin38 (by decide) (Nat.le_of_ble_eq_true rfl) (fun _ => rfl) dX10_init_260 dX10_init_262 (fun a39 h39 hin39 => ?_)
  refine ev_aload_n 0 rfl dX10_init_265 ?_
  refine ev_bipush dX10_init_266 (by decide) ?_
  refine ini_41 (fs' := fun a => [.ref a0, .ref a1, vI 0, .ref a3, .ref a4, .ref a5, .ref a6, vI 0, .ref a8, .ref a9, .ref a10, .ref a11, .ref a12, .ref a13, .ref a14, .ref a15, vI 20, vI 0, vI 0, vI 0, .ref a20, vI 0, .ref a22, .ref a23, .ref a24, .ref a25, .ref a26, .ref a27, .ref a28, .ref a29, .ref a30, vI 20, .ref a32, .ref a33, vI 0, .ref a35, .ref a36, .ref a37, .ref a38, .ref a39, vI 0, .ref a, .null, .null, .null, .null]) hin39 (by decide) (Nat.le_of_ble_eq_true rfl) (fun _ => rfl) dX10_init_268 dX10_init_270 (fun a41 h41 hin41 => ?_)
  refine ev_aload_n 0 rfl dX10_init_273 ?_
  refine ev_bipush dX10_init_274 (by decide) ?_
  refine ini_42 (fs' := fun a => [.ref a0, .ref a1, vI 0, .ref a3, .ref a4, .ref a5, .ref a6, vI 0, .ref a8, .ref a9, .ref a10, .ref a11, .ref a12, .ref a13, .ref a14, .ref a15, vI 20, vI 0, vI 0, vI 0, .ref a20, vI 0, .ref a22, .ref a23, .ref a24, .ref a25, .ref a26, .ref a27, .ref a28, .ref a29, .ref a30, vI 20, .ref a32, .ref a33, vI 0, .ref a35, .ref a36, .ref a37, .ref a38, .ref a39, vI 0, .ref a41, .ref a, .null, .null, .null]) hin41 (by decide) (Nat.le_of_ble_eq_true rfl) (fun _ => rfl) dX10_init_276 dX10_init_278 (fun a42 h42 hin42 => ?_)
  refine ev_aload_n 0 rfl dX10_init_281 ?_
  refine ev_iconst dX10_init_282 ?_
  refine ini_43 (fs' := fun a => [.ref a0, .ref a1, vI 0, .ref a3, .ref a4, .ref a5, .ref a6, vI 0, .ref a8, .ref a9, .ref a10, .ref a11, .ref a12, .ref a13, .ref a14, .ref a15, vI 20, vI 0, vI 0, vI 0, .ref a20, vI 0, .ref a22, .ref a23, .ref a24, .ref a25, .ref a26, .ref a27, .ref a28, .ref a29, .ref a30, vI 20, .ref a32, .ref a33, vI 0, .ref a35, .ref a36, .ref a37, .ref a38, .ref a39, vI 0, .ref a41, .ref a42, .ref a, .null, .null]) hin42 (by decide) (Nat.le_of_ble_eq_true rfl) (fun _ => rfl) dX10_init_283 dX10_init_285 (fun a43 h43 hin43 => ?_)
  refine ev_aload_n 0 rfl dX10_init_288 ?_
  refine ev_iconst dX10_init_289 ?_
  refine ini_44 (fs' := fun a => [.ref a0, .ref a1, vI 0, .ref a3, .ref a4, .ref a5, .ref a6, vI 0, .ref a8, .ref a9, .ref a10, .ref a11, .ref a12, .ref a13, .ref a14, .ref a15, vI 20, vI 0, vI 0, vI 0, .ref a20, vI 0, .ref a22, .ref a23, .ref a24, .ref a25, .ref a26, .ref a27, .ref a28, .ref a29, .ref a30, vI 20, .ref a32, .ref a33, vI 0, .ref a35, .ref a36, .ref a37, .ref a38, .ref a39, vI 0, .ref a41, .ref a42, .ref a43, .ref a, .null]) hin43 (by decide) (Nat.le_of_ble_eq_true rfl) (fun _ => rfl) dX10_init_290 dX10_init_292 (fun a44 h44 hin44 => ?_)
  refine ev_aload_n 0 rfl dX10_init_295 ?_
  refine ev_sipush dX10_init_296 (by decide) ?_
  refine ini_45 (fs' := fun a => [.ref a0, .ref a1, vI 0, .ref a3, .ref a4, .ref a5, .ref a6, vI 0, .ref a8, .ref a9, .ref a10, .ref a11, .ref a12, .ref a13, .ref a14, .ref a15, vI 20, vI 0, vI 0, vI 0, .ref a20, vI 0, .ref a22, .ref a23, .ref a24, .ref a25, .ref a26, .ref a27, .ref a28, .ref a29, .ref a30, vI 20, .ref a32, .ref a33, vI 0, .ref a35, .ref a36, .ref a37, .ref a38, .ref a39, vI 0, .ref a41, .ref a42, .ref a43, .ref a44, .ref a]) hin44 (by decide) (Nat.le_of_ble_eq_true rfl) (fun _ => rfl) dX10_init_299 dX10_init_301 (fun a45 h45 hin45 => ?_)
  refine ini_tail (as := [a0, a1, 0, a3, a4, a5, a6, 0, a8, a9, a10, a11, a12, a13, a14, a15, 0, 0, 0, 0, a20, 0, a22, a23, a24, a25, a26, a27, a28, a29, a30, 0, a32, a33, 0, a35, a36, a37, a38, a39, 0, a41, a42, a43, a44, a45]) (l := [(45, a45), (44, a44), (43, a43), (42, a42), (41, a41), (39, a39), (38, a38), (37, a37), (36, a36), (35, a35), (33, a33), (32, a32), (30, a30), (29, a29), (28, a28), (27, a27), (26, a26), (25, a25), (24, a24), (23, a23), (22, a22), (20, a20), (15, a15), (14, a14), (13, a13), (12, a12), (11, a11), (10, a10), (9, a9), (8, a8), (6, a6), (5, a5), (4, a4), (3, a3), (1, a1), (0, a0)]) hin45 (fun k hk => ?_) rfl (by decide)
  have key : ∀ k, k < 46 → 0 < mlen k → (k, ([a0, a1, 0, a3, a4, a5, a6, 0, a8, a9, a10, a11, a12, a13, a14, a15, 0, 0, 0, 0, a20, 0, a22, a23, a24, a25, a26, a27, a28, a29, a30, 0, a32, a33, 0, a35, a36, a37, a38, a39, 0, a41, a42, a43, a44, a45] : List Nat).getD k 0) ∈ ([(45, a45), (44, a44), (43, a43), (42, a42), (41, a41), (39, a39), (38, a38), (37, a37), (36, a36), (35, a35), (33, a33), (32, a32), (30, a30), (29, a29), (28, a28), (27, a27), (26, a26), (25, a25), (24, a24), (23, a23), (22, a22), (20, a20), (15, a15), (14, a14), (13, a13), (12, a12), (11, a11), (10, a10), (9, a9), (8, a8), (6, a6), (5, a5), (4, a4), (3, a3), (1, a1), (0, a0)] : List (Nat × Nat)) := by
    intro k hk hm
    match k, hk, hm with
    | 0, _, hm => exact List.mem_of_getElem? (i := 35) rfl
    | 1, _, hm => exact List.mem_of_getElem? (i := 34) rfl
    | 2, _, hm => exact absurd hm (by decide)
    | 3, _, hm => exact List.mem_of_getElem? (i := 33) rfl
    | 4, _, hm => exact List.mem_of_getElem? (i := 32) rfl
    | 5, _, hm => exact List.mem_of_getElem? (i := 31) rfl
    | 6, _, hm => exact List.mem_of_getElem? (i := 30) rfl
    | 7, _, hm => exact absurd hm (by decide)
    | 8, _, hm => exact List.mem_of_getElem? (i := 29) rfl
    | 9, _, hm => exact List.mem_of_getElem? (i := 28) rfl
    | 10, _, hm => exact List.mem_of_getElem? (i := 27) rfl
    | 11, _, hm => exact List.mem_of_getElem? (i := 26) rfl
    | 12, _, hm => exact List.mem_of_getElem? (i := 25) rfl
    | 13, _, hm => exact List.mem_of_getElem? (i := 24) rfl
    | 14, _, hm => exact List.mem_of_getElem? (i := 23) rfl
    | 15, _, hm => exact List.mem_of_getElem? (i := 22) rfl
    | 16, _, hm => exact absurd hm (by decide)
    | 17, _, hm => exact absurd hm (by decide)
    | 18, _, hm => exact absurd hm (by decide)
    | 19, _, hm => exact absurd hm (by decide)
    | 20, _, hm => exact List.mem_of_getElem? (i := 21) rfl
    | 21, _, hm => exact absurd hm (by decide)
    | 22, _, hm => exact List.mem_of_getElem? (i := 20) rfl
    | 23, _, hm => exact List.mem_of_getElem? (i := 19) rfl
    | 24, _, hm => exact List.mem_of_getElem? (i := 18) rfl
    | 25, _, hm => exact List.mem_of_getElem? (i := 17) rfl
    | 26, _, hm => exact List.mem_of_getElem? (i := 16) rfl
    | 27, _, hm => exact List.mem_of_getElem? (i := 15) rfl
    | 28, _, hm => exact List.mem_of_getElem? (i := 14) rfl
    | 29, _, hm => exact List.mem_of_getElem? (i := 13) rfl
    | 30, _, hm => exact List.mem_of_getElem? (i := 12) rfl
    | 31, _, hm => exact absurd hm (by decide)
    | 32, _, hm => exact List.mem_of_getElem? (i := 11) rfl
    | 33, _, hm => exact List.mem_of_getElem? (i := 10) rfl
    | 34, _, hm => exact absurd hm (by decide)
    | 35, _, hm => exact List.mem_of_getElem? (i := 9) rfl
    | 36, _, hm => exact List.mem_of_getElem? (i := 8) rfl
    | 37, _, hm => exact List.mem_of_getElem? (i := 7) rfl
    | 38, _, hm => exact List.mem_of_getElem? (i := 6) rfl
    | 39, _, hm => exact List.mem_of_getElem? (i := 5) rfl
    | 40, _, hm => exact absurd hm (by decide)
    | 41, _, hm => exact List.mem_of_getElem? (i := 4) rfl
    | 42, _, hm => exact List.mem_of_getElem? (i := 3) rfl
    | 43, _, hm => exact List.mem_of_getElem? (i := 2) rfl
    | 44, _, hm => exact List.mem_of_getElem? (i := 1) rfl
    | 45, _, hm => exact List.mem_of_getElem? (i := 0) rfl
    | k + 46, hk, _ => omega
  exact key k (mlen46 hk) hk

