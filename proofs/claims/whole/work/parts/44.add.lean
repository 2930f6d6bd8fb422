theorem ah_uu {h : AH} {q : Nat} {a b : va_E} : ah_up (ah_up h q a) q b = ah_up h q b := by
  funext x
  unfold ah_up
  split <;> rfl
theorem ah_at {h : AH} {q : Nat} {e : va_E} : ah_up h q e q = some e := if_pos rfl
theorem ah_ne {h : AH} {q x : Nat} {e : va_E} (hx : x ≠ q) : ah_up h q e x = h x := if_neg hx
def upA (A : AD) (k : Nat) (i : Int) (q : Nat) : AD := fun k' i' => if k' = k ∧ i' = i then q else A k' i'
theorem upA_at {A : AD} {k : Nat} {i : Int} {q : Nat} : upA A k i q k i = q := if_pos ⟨rfl, rfl⟩
theorem upA_k {A : AD} {k k' : Nat} {i i' : Int} {q : Nat} (h : k' ≠ k) : upA A k i q k' i' = A k' i' := if_neg (fun z => h z.1)
theorem upA_i {A : AD} {k k' : Nat} {i i' : Int} {q : Nat} (h : i' ≠ i) : upA A k i q k' i' = A k' i' := if_neg (fun z => h z.2)
/-- the numbers that the cell (k, i) tells are the same -/
def sla (S S' : MS) (k : Nat) (i : Int) : Prop := if k < 19 then ∀ s ∈ slo k, S' s = S s else if k = 24 then S' 44 i = S 44 i ∧ ∀ z, 0 ≤ z → z < 36 → S' 45 (36 * i + z) = S 45 (36 * i + z) else ∀ s ∈ slo k, S' s i = S s i
/-- the references that the cell (k, i) holds are the same -/
def rfa (A A' : AD) (S : MS) (k : Nat) (i : Int) : Prop :=
  match k with
  | 0 => ∀ k, k < 19 → A' k 0 = A k 0
  | 1 => ∀ j, j < S 2 0 → A' 20 j = A 20 j
  | 2 => ∀ j, j < S 7 0 → A' 21 j = A 21 j
  | 3 => ∀ j, j < S 34 0 → A' 22 j = A 22 j
  | 8 => ∀ j, 0 ≤ S 43 j → A' 23 j = A 23 j
  | 9 => ∀ k, k < 19 → A' k 0 = A k 0
  | 11 => ∀ k, k < 19 → A' k 0 = A k 0
  | 12 => ∀ j, A' 19 j = A 19 j
  | 13 => ∀ j, A' 21 (S 68 j) = A 21 (S 68 j)
  | 21 => A' 20 (S 9 i) = A 20 (S 9 i)
  | 22 => A' 20 (S 35 i) = A 20 (S 35 i)
  | 23 => A' 24 i = A 24 i
  | _ => True
theorem cel_cg {E : EV} {A A' : AD} {S S' : MS} {i : Int} : ∀ k : Nat, sla S S' k i → rfa A A' S k i → cel E A' S' k i = cel E A S k i
  | 0, h, r => by
    have hs : ∀ s ∈ slo 0, S' s = S s := h
    have hr : ∀ k, k < 19 → A' k 0 = A k 0 := r
    simp only [cel, hs 2 (by decide), hs 7 (by decide), hs 34 (by decide), hs 40 (by decide), hs 70 (by decide), hs 16 (by decide), hs 31 (by decide), hr 1 (by decide), hr 2 (by decide), hr 3 (by decide), hr 4 (by decide), hr 5 (by decide), hr 6 (by decide), hr 7 (by decide), hr 8 (by decide), hr 9 (by decide), hr 11 (by decide)]
  | 1, h, r => by
    have hs : ∀ s ∈ slo 1, S' s = S s := h
    have hr : ∀ j, j < S 2 0 → A' 20 j = A 20 j := r
    have hf : (fun j => if j < S 2 0 then some (A' 20 j) else none) = (fun j => if j < S 2 0 then some (A 20 j) else none) := by
      funext j
      by_cases q : j < S 2 0
      · rw [if_pos q, if_pos q, hr j q]
      · rw [if_neg q, if_neg q]
    simp only [cel, hs 2 (by decide)]
    rw [hf]
  | 2, h, r => by
    have hs : ∀ s ∈ slo 2, S' s = S s := h
    have hr : ∀ j, j < S 7 0 → A' 21 j = A 21 j := r
    have hf : (fun j => if j < S 7 0 then some (A' 21 j) else none) = (fun j => if j < S 7 0 then some (A 21 j) else none) := by
      funext j
      by_cases q : j < S 7 0
      · rw [if_pos q, if_pos q, hr j q]
      · rw [if_neg q, if_neg q]
    simp only [cel, hs 7 (by decide)]
    rw [hf]
  | 3, h, r => by
    have hs : ∀ s ∈ slo 3, S' s = S s := h
    have hr : ∀ j, j < S 34 0 → A' 22 j = A 22 j := r
    have hf : (fun j => if j < S 34 0 then some (A' 22 j) else none) = (fun j => if j < S 34 0 then some (A 22 j) else none) := by
      funext j
      by_cases q : j < S 34 0
      · rw [if_pos q, if_pos q, hr j q]
      · rw [if_neg q, if_neg q]
    simp only [cel, hs 34 (by decide)]
    rw [hf]
  | 4, h, r => by
    have hs : ∀ s ∈ slo 4, S' s = S s := h
    simp only [cel, hs 41 (by decide)]
  | 5, h, r => by
    have hs : ∀ s ∈ slo 5, S' s = S s := h
    simp only [cel, hs 42 (by decide)]
  | 6, h, r => by
    have hs : ∀ s ∈ slo 6, S' s = S s := h
    simp only [cel, hs 69 (by decide)]
  | 7, h, r => by
    have hs : ∀ s ∈ slo 7, S' s = S s := h
    simp only [cel, hs 71 (by decide)]
  | 8, h, r => by
    have hs : ∀ s ∈ slo 8, S' s = S s := h
    have hr : ∀ j, 0 ≤ S 43 j → A' 23 j = A 23 j := r
    have hf : (fun j => if 0 ≤ S 43 j then some (A' 23 j) else none) = (fun j => if 0 ≤ S 43 j then some (A 23 j) else none) := by
      funext j
      by_cases q : 0 ≤ S 43 j
      · rw [if_pos q, if_pos q, hr j q]
      · rw [if_neg q, if_neg q]
    simp only [cel, hs 43 (by decide)]
    rw [hf]
  | 9, h, r => by
    have hs : ∀ s ∈ slo 9, S' s = S s := h
    have hr : ∀ k, k < 19 → A' k 0 = A k 0 := r
    simp only [cel, hr 10 (by decide)]
  | 10, h, r => by
    have hs : ∀ s ∈ slo 10, S' s = S s := h
    simp only [cel, hs 50 (by decide)]
  | 11, h, r => by
    have hs : ∀ s ∈ slo 11, S' s = S s := h
    have hr : ∀ k, k < 19 → A' k 0 = A k 0 := r
    simp only [cel, hs 56 (by decide), hs 57 (by decide), hr 12 (by decide), hr 13 (by decide), hr 14 (by decide), hr 15 (by decide), hr 16 (by decide), hr 17 (by decide), hr 18 (by decide)]
  | 12, h, r => by
    have hr : ∀ j, A' 19 j = A 19 j := r
    simp only [cel, hr]
  | 13, h, r => by
    have hs : ∀ s ∈ slo 13, S' s = S s := h
    have hr : ∀ j, A' 21 (S 68 j) = A 21 (S 68 j) := r
    simp only [cel, hs 68 (by decide), hr]
  | 14, h, r => by
    have hs : ∀ s ∈ slo 14, S' s = S s := h
    simp only [cel, hs 51 (by decide)]
  | 15, h, r => by
    have hs : ∀ s ∈ slo 15, S' s = S s := h
    simp only [cel, hs 52 (by decide)]
  | 16, h, r => by
    have hs : ∀ s ∈ slo 16, S' s = S s := h
    simp only [cel, hs 53 (by decide)]
  | 17, h, r => by
    have hs : ∀ s ∈ slo 17, S' s = S s := h
    simp only [cel, hs 54 (by decide)]
  | 18, h, r => by
    have hs : ∀ s ∈ slo 18, S' s = S s := h
    simp only [cel, hs 55 (by decide)]
  | 19, h, r => by
    have hs : ∀ s ∈ slo 19, S' s i = S s i := h
    simp only [cel, hs 58 (by decide), hs 59 (by decide), hs 60 (by decide), hs 61 (by decide), hs 62 (by decide), hs 63 (by decide), hs 64 (by decide), hs 65 (by decide), hs 66 (by decide), hs 67 (by decide)]
  | 20, h, r => by
    have hs : ∀ s ∈ slo 20, S' s i = S s i := h
    simp only [cel, hs 3 (by decide), hs 4 (by decide), hs 5 (by decide), hs 6 (by decide)]
  | 21, h, r => by
    have hs : ∀ s ∈ slo 21, S' s i = S s i := h
    have hr : A' 20 (S 9 i) = A 20 (S 9 i) := r
    simp only [cel, hs 8 (by decide), hs 9 (by decide), hs 10 (by decide), hs 11 (by decide), hs 12 (by decide), hs 13 (by decide), hs 14 (by decide), hs 15 (by decide), hr]
  | 22, h, r => by
    have hs : ∀ s ∈ slo 22, S' s i = S s i := h
    have hr : A' 20 (S 35 i) = A 20 (S 35 i) := r
    simp only [cel, hs 35 (by decide), hs 36 (by decide), hs 37 (by decide), hs 38 (by decide), hr]
  | 23, h, r => by
    have hs : ∀ s ∈ slo 23, S' s i = S s i := h
    have hr : A' 24 i = A 24 i := r
    simp only [cel, hs 43 (by decide), hr]
  | 24, h, r => by
    have hs : S' 44 i = S 44 i ∧ ∀ z, 0 ≤ z → z < 36 → S' 45 (36 * i + z) = S 45 (36 * i + z) := h
    have hf : (fun z => if 0 ≤ z ∧ z < 36 then S' 45 (36 * i + z) else 0) = (fun z => if 0 ≤ z ∧ z < 36 then S 45 (36 * i + z) else 0) := by
      funext z
      by_cases q : 0 ≤ z ∧ z < 36
      · rw [if_pos q, if_pos q, hs.2 z q.1 q.2]
      · rw [if_neg q, if_neg q]
    simp only [cel, hs.1]
    rw [hf]
  | _ + 25, _, _ => rfl
/-- the class's objects behind a making: N: what is new -/
theorem CR.gen {E : EV} {A A' : AD} {S S' : MS} {h h' : AH} {N : Nat → Int → Prop} (hC : CR E A S h) (hA : ∀ k i, dom S' k i → ¬ N k i → A' k i = A k i ∧ dom S k i) (hf : ∀ k i, dom S' k i → N k i → ∀ k2 i2, dom S k2 i2 → A k2 i2 ≠ A' k i) (hi : ∀ k i k2 i2, dom S' k i → dom S' k2 i2 → N k i → N k2 i2 → A' k i = A' k2 i2 → k = k2 ∧ i = i2) (hc : ∀ k i, dom S' k i → h' (A' k i) = some (cel E A' S' k i)) (hR : ∀ k z, InR (S' k z)) : CR E A' S' h' := by
  refine ⟨hc, fun k i k2 i2 d1 d2 he => ?_, hR⟩
  rcases Classical.em (N k i) with n1 | n1
  · rcases Classical.em (N k2 i2) with n2 | n2
    · exact hi k i k2 i2 d1 d2 n1 n2 he
    · obtain ⟨e2, d3⟩ := hA k2 i2 d2 n2
      exact absurd (by rw [he, e2]) (hf k i d1 n1 k2 i2 d3)
  · obtain ⟨e1, d4⟩ := hA k i d1 n1
    rcases Classical.em (N k2 i2) with n2 | n2
    · exact absurd (by rw [← he, e1]) (hf k2 i2 d2 n2 k i d4)
    · obtain ⟨e2, d3⟩ := hA k2 i2 d2 n2
      rw [e1, e2] at he
      exact hC.2.1 k i k2 i2 d4 d3 he
theorem dom_hi {S : MS} {k : Nat} {i : Int} (h : dom S k i) (hk : k < 19) : i = 0 := dom_0i hk h

theorem CR.addSt {E : EV} {A : AD} {S : MS} {h : AH} {q : Nat} {x y : Int} (hC : CR E A S h) (hI : Inv S) (ho : ∀ k i, dom S k i → A k i ≠ q)  (hq : h q = some (ob 7 [vI (S 2 0), vI x, vI y, vI 0, vI 0])) (hR : ∀ k z, InR ((upS (upS (upS S 3 (S 2 0) x) 4 (S 2 0) y) 2 0 (S 2 0 + 1)) k z)) : CR E (upA A 20 (S 2 0) q) (upS (upS (upS S 3 (S 2 0) x) 4 (S 2 0) y) 2 0 (S 2 0 + 1)) (ah_up (ah_up h (A 1 0) (arR E 1 8 (updR (fun j => if j < S 2 0 then some (A 20 j) else none) (S 2 0) (some q)))) (A 0 0) (ob 9 (([.ref (A 1 0), .ref (A 2 0), .ref (A 3 0), .ref (A 4 0), .ref (A 5 0), .ref (A 6 0), .ref (A 7 0), .ref (A 8 0), .ref (A 9 0), .ref (A 11 0), vI (S 2 0), vI (S 7 0), vI (S 34 0), vI (S 40 0), vI (S 70 0), vI (S 16 0), vI (S 31 0)] : List Value).set 10 (vI (S 2 0 + 1))))) := by
  have n0 : 0 ≤ S 2 0 := hI.1.1
  have q0 : q ≠ A 0 0 := fun e => ho 0 0 (dom_0 (by decide)) e.symm
  have q1 : q ≠ A 1 0 := fun e => ho 1 0 (dom_0 (by decide)) e.symm
  have q01 : A 1 0 ≠ A 0 0 := fun e => absurd (hC.2.1 _ _ _ _ (dom_0 (by decide)) (dom_0 (by decide)) e).1 (by decide)
  have hdm : ∀ k i, dom (upS (upS (upS S 3 (S 2 0) x) 4 (S 2 0) y) 2 0 (S 2 0 + 1)) k i → ¬ (k = 20 ∧ i = S 2 0) → dom S k i := by
    intro k i hd hn
    unfold dom at hd ⊢
    split at hd <;> (try simp only [upS] at hd) <;> (try simp at hd) <;> first | exact hd | omega | (simp at hn; omega)
  refine hC.gen (N := fun k i => k = 20 ∧ i = S 2 0) (fun k i hd hn => ⟨if_neg hn, hdm k i hd hn⟩) (fun k i hd hn k2 i2 h2 => by obtain ⟨rfl, rfl⟩ := hn; rw [upA_at]; exact ho k2 i2 h2) (fun k i k2 i2 _ _ h1 h2 _ => ⟨h1.1.trans h2.1.symm, h1.2.trans h2.2.symm⟩) (fun k i hd => ?_) hR
  by_cases hn : k = 20 ∧ i = S 2 0
  · obtain ⟨rfl, rfl⟩ := hn
    rw [upA_at, ah_ne q0, ah_ne q1, hq]
    obtain ⟨z5, z6⟩ := hI.2.2.2.2.2.2.2.2.2.2.2.2.2 (S 2 0) (Int.le_refl _)
    refine congrArg some ?_
    simp only [cel, upS]
    simp [z5, z6]
  · have hd0 := hdm k i hd hn
    rw [show upA A 20 (S 2 0) q k i = A k i from if_neg hn]
    by_cases k0 : k = 0
    · subst k0
      have := dom_0i (by decide) hd0
      subst this
      rw [ah_at]
      refine congrArg some ?_
      simp only [cel, upS, upA, List.set]
      simp
    · by_cases k1 : k = 1
      · subst k1
        have := dom_0i (by decide) hd0
        subst this
        rw [ah_ne q01, ah_at]
        have hf : updR (fun j => if j < S 2 0 then some (A 20 j) else none) (S 2 0) (some q) = (fun j => if j < (upS (upS (upS S 3 (S 2 0) x) 4 (S 2 0) y) 2 0 (S 2 0 + 1)) 2 0 then some (upA A 20 (S 2 0) q 20 j) else none) := by
          funext j
          rw [upS_at]
          unfold updR
          by_cases e : j = S 2 0
          · rw [if_pos e, if_pos (by omega), e, upA_at]
          · rw [if_neg e, upA_i e]
            (try dsimp only)
            by_cases e2 : j < S 2 0
            · rw [if_pos e2, if_pos (by omega)]
            · rw [if_neg e2, if_neg (by omega)]
        rw [hf]
        rfl
      · rw [ah_ne (fun e => k0 (hC.2.1 _ _ _ _ hd0 (dom_0 (by decide)) e).1), ah_ne (fun e => k1 (hC.2.1 _ _ _ _ hd0 (dom_0 (by decide)) e).1), hC.1 k i hd0]
        refine congrArg some (cel_cg k ?_ ?_).symm
        · have hk25 := dom_lt hd0
          unfold sla
          by_cases k19 : k < 19
          · rw [if_pos k19]
            intro s hs
            have hall : ∀ j, j < 19 → (j = 0 ∨ j = 1 ∨ ∀ s ∈ slo j, s ∉ [3, 4, 2]) := by decide
            have hne := ((hall k k19).resolve_left k0).resolve_left k1 s hs
            have hn2 : ∀ x ∈ [3, 4, 2], s ≠ x := fun x hx e => hne (e ▸ hx)
            rw [upS_ne (hn2 2 (by decide)), upS_ne (hn2 4 (by decide)), upS_ne (hn2 3 (by decide))]
          · rw [if_neg k19]
            by_cases k24 : k = 24
            · rw [if_pos k24]
              exact ⟨by simp only [upS]; simp, fun z _ _ => by simp only [upS]; simp⟩
            · rw [if_neg k24]
              intro s hs
              have hz : ∀ s ∈ slo k, s ≠ 2 := by
                have hall : ∀ j, j < 25 → 19 ≤ j → ∀ s ∈ slo j, s ≠ 2 := by decide
                exact hall k hk25 (by omega)
              rw [upS_ne (hz s hs)]
              by_cases kK : k = 20
              · have hi : i ≠ S 2 0 := fun e => hn ⟨kK, e⟩
                simp only [upS, if_neg hi, ite_self]
              · have hall : ∀ j, j < 25 → (j < 19 ∨ j = 20 ∨ ∀ s ∈ slo j, s ∉ [3, 4]) := by decide
                have hne := ((hall k hk25).resolve_left k19).resolve_left kK s hs
                have hn2 : ∀ x ∈ [3, 4], s ≠ x := fun x hx e => hne (e ▸ hx)
                rw [upS_ne (hn2 4 (by decide)), upS_ne (hn2 3 (by decide))]
        · unfold rfa
          split
          · exact absurd rfl k0
          · exact absurd rfl k1
          · exact fun j _ => upA_k (by decide)
          · exact fun j _ => upA_k (by decide)
          · exact fun j _ => upA_k (by decide)
          · exact fun k hk => upA_k (by omega)
          · exact fun k hk => upA_k (by omega)
          · exact fun j => upA_k (by decide)
          · exact fun j => upA_k (by decide)
          · exact upA_i (by have := (hI.2.2.2.2.2.2.2.1 i hd0.1 hd0.2).2.1; omega)
          · exact upA_i (by have := (hI.2.2.2.2.2.2.2.2.1 i hd0.1 hd0.2).1; omega)
          · exact upA_k (by decide)
          · trivial
def glc (A : AD) (kd a1 a2 a3 a4 a5 c l : Int) : va_E := if kd = 0 then ob 3 [.ref (A 20 a1), vI a2, vI a3, vI a4, vI a5] else if kd = 1 then ob 0 [.ref (A 20 a1), vI a2, vI a3, vI a4, vI a5, vI c, vI (sinZ a4), vI (cosZ a4)] else ob 4 [vI c, vI (sinZ a4), vI (cosZ a4), .ref (A 20 a1), vI a2, vI a3, vI a4, vI a5, vI l]
theorem CR.addSi {E : EV} {A : AD} {S : MS} {h : AH} {q : Nat} {kd a1 a2 a3 a4 a5 c l : Int} (hC : CR E A S h) (hI : Inv S) (ho : ∀ k i, dom S k i → A k i ≠ q) (h68 : ∀ j, S 68 j < S 7 0) (hq : h q = some (glc A kd a1 a2 a3 a4 a5 c l)) (hR : ∀ k z, InR ((upS (upS (upS (upS (upS (upS (upS (upS (upS S 8 (S 7 0) kd) 9 (S 7 0) a1) 10 (S 7 0) a2) 11 (S 7 0) a3) 12 (S 7 0) a4) 13 (S 7 0) a5) 14 (S 7 0) c) 15 (S 7 0) l) 7 0 (S 7 0 + 1)) k z)) : CR E (upA A 21 (S 7 0) q) (upS (upS (upS (upS (upS (upS (upS (upS (upS S 8 (S 7 0) kd) 9 (S 7 0) a1) 10 (S 7 0) a2) 11 (S 7 0) a3) 12 (S 7 0) a4) 13 (S 7 0) a5) 14 (S 7 0) c) 15 (S 7 0) l) 7 0 (S 7 0 + 1)) (ah_up (ah_up h (A 2 0) (arR E 2 40 (updR (fun j => if j < S 7 0 then some (A 21 j) else none) (S 7 0) (some q)))) (A 0 0) (ob 9 (([.ref (A 1 0), .ref (A 2 0), .ref (A 3 0), .ref (A 4 0), .ref (A 5 0), .ref (A 6 0), .ref (A 7 0), .ref (A 8 0), .ref (A 9 0), .ref (A 11 0), vI (S 2 0), vI (S 7 0), vI (S 34 0), vI (S 40 0), vI (S 70 0), vI (S 16 0), vI (S 31 0)] : List Value).set 11 (vI (S 7 0 + 1))))) := by
  have n0 : 0 ≤ S 7 0 := hI.2.1.1
  have q0 : q ≠ A 0 0 := fun e => ho 0 0 (dom_0 (by decide)) e.symm
  have q1 : q ≠ A 2 0 := fun e => ho 2 0 (dom_0 (by decide)) e.symm
  have q01 : A 2 0 ≠ A 0 0 := fun e => absurd (hC.2.1 _ _ _ _ (dom_0 (by decide)) (dom_0 (by decide)) e).1 (by decide)
  have hdm : ∀ k i, dom (upS (upS (upS (upS (upS (upS (upS (upS (upS S 8 (S 7 0) kd) 9 (S 7 0) a1) 10 (S 7 0) a2) 11 (S 7 0) a3) 12 (S 7 0) a4) 13 (S 7 0) a5) 14 (S 7 0) c) 15 (S 7 0) l) 7 0 (S 7 0 + 1)) k i → ¬ (k = 21 ∧ i = S 7 0) → dom S k i := by
    intro k i hd hn
    unfold dom at hd ⊢
    split at hd <;> (try simp only [upS] at hd) <;> (try simp at hd) <;> first | exact hd | omega | (simp at hn; omega)
  refine hC.gen (N := fun k i => k = 21 ∧ i = S 7 0) (fun k i hd hn => ⟨if_neg hn, hdm k i hd hn⟩) (fun k i hd hn k2 i2 h2 => by obtain ⟨rfl, rfl⟩ := hn; rw [upA_at]; exact ho k2 i2 h2) (fun k i k2 i2 _ _ h1 h2 _ => ⟨h1.1.trans h2.1.symm, h1.2.trans h2.2.symm⟩) (fun k i hd => ?_) hR
  by_cases hn : k = 21 ∧ i = S 7 0
  · obtain ⟨rfl, rfl⟩ := hn
    rw [upA_at, ah_ne q0, ah_ne q1, hq]
    refine congrArg some ?_
    unfold glc
    simp only [cel, upS, upA]
    simp
  · have hd0 := hdm k i hd hn
    rw [show upA A 21 (S 7 0) q k i = A k i from if_neg hn]
    by_cases k0 : k = 0
    · subst k0
      have := dom_0i (by decide) hd0
      subst this
      rw [ah_at]
      refine congrArg some ?_
      simp only [cel, upS, upA, List.set]
      simp
    · by_cases k1 : k = 2
      · subst k1
        have := dom_0i (by decide) hd0
        subst this
        rw [ah_ne q01, ah_at]
        have hf : updR (fun j => if j < S 7 0 then some (A 21 j) else none) (S 7 0) (some q) = (fun j => if j < (upS (upS (upS (upS (upS (upS (upS (upS (upS S 8 (S 7 0) kd) 9 (S 7 0) a1) 10 (S 7 0) a2) 11 (S 7 0) a3) 12 (S 7 0) a4) 13 (S 7 0) a5) 14 (S 7 0) c) 15 (S 7 0) l) 7 0 (S 7 0 + 1)) 7 0 then some (upA A 21 (S 7 0) q 21 j) else none) := by
          funext j
          rw [upS_at]
          unfold updR
          by_cases e : j = S 7 0
          · rw [if_pos e, if_pos (by omega), e, upA_at]
          · rw [if_neg e, upA_i e]
            (try dsimp only)
            by_cases e2 : j < S 7 0
            · rw [if_pos e2, if_pos (by omega)]
            · rw [if_neg e2, if_neg (by omega)]
        rw [hf]
        rfl
      · rw [ah_ne (fun e => k0 (hC.2.1 _ _ _ _ hd0 (dom_0 (by decide)) e).1), ah_ne (fun e => k1 (hC.2.1 _ _ _ _ hd0 (dom_0 (by decide)) e).1), hC.1 k i hd0]
        refine congrArg some (cel_cg k ?_ ?_).symm
        · have hk25 := dom_lt hd0
          unfold sla
          by_cases k19 : k < 19
          · rw [if_pos k19]
            intro s hs
            have hall : ∀ j, j < 19 → (j = 0 ∨ j = 2 ∨ ∀ s ∈ slo j, s ∉ [8, 9, 10, 11, 12, 13, 14, 15, 7]) := by decide
            have hne := ((hall k k19).resolve_left k0).resolve_left k1 s hs
            have hn2 : ∀ x ∈ [8, 9, 10, 11, 12, 13, 14, 15, 7], s ≠ x := fun x hx e => hne (e ▸ hx)
            rw [upS_ne (hn2 7 (by decide)), upS_ne (hn2 15 (by decide)), upS_ne (hn2 14 (by decide)), upS_ne (hn2 13 (by decide)), upS_ne (hn2 12 (by decide)), upS_ne (hn2 11 (by decide)), upS_ne (hn2 10 (by decide)), upS_ne (hn2 9 (by decide)), upS_ne (hn2 8 (by decide))]
          · rw [if_neg k19]
            by_cases k24 : k = 24
            · rw [if_pos k24]
              exact ⟨by simp only [upS]; simp, fun z _ _ => by simp only [upS]; simp⟩
            · rw [if_neg k24]
              intro s hs
              have hz : ∀ s ∈ slo k, s ≠ 7 := by
                have hall : ∀ j, j < 25 → 19 ≤ j → ∀ s ∈ slo j, s ≠ 7 := by decide
                exact hall k hk25 (by omega)
              rw [upS_ne (hz s hs)]
              by_cases kK : k = 21
              · have hi : i ≠ S 7 0 := fun e => hn ⟨kK, e⟩
                simp only [upS, if_neg hi, ite_self]
              · have hall : ∀ j, j < 25 → (j < 19 ∨ j = 21 ∨ ∀ s ∈ slo j, s ∉ [8, 9, 10, 11, 12, 13, 14, 15]) := by decide
                have hne := ((hall k hk25).resolve_left k19).resolve_left kK s hs
                have hn2 : ∀ x ∈ [8, 9, 10, 11, 12, 13, 14, 15], s ≠ x := fun x hx e => hne (e ▸ hx)
                rw [upS_ne (hn2 15 (by decide)), upS_ne (hn2 14 (by decide)), upS_ne (hn2 13 (by decide)), upS_ne (hn2 12 (by decide)), upS_ne (hn2 11 (by decide)), upS_ne (hn2 10 (by decide)), upS_ne (hn2 9 (by decide)), upS_ne (hn2 8 (by decide))]
        · unfold rfa
          split
          · exact absurd rfl k0
          · exact fun j _ => upA_k (by decide)
          · exact absurd rfl k1
          · exact fun j _ => upA_k (by decide)
          · exact fun j _ => upA_k (by decide)
          · exact fun k hk => upA_k (by omega)
          · exact fun k hk => upA_k (by omega)
          · exact fun j => upA_k (by decide)
          · exact fun j => upA_i (by have := h68 j; omega)
          · exact upA_k (by decide)
          · exact upA_k (by decide)
          · exact upA_k (by decide)
          · trivial
theorem CR.addWa {E : EV} {A : AD} {S : MS} {h : AH} {q : Nat} {a n cl dk : Int} (hC : CR E A S h) (hI : Inv S) (ho : ∀ k i, dom S k i → A k i ≠ q)  (hq : h q = some (ob 8 [.ref (A 20 a), vI n, vI cl, vI dk])) (hR : ∀ k z, InR ((upS (upS (upS (upS (upS S 35 (S 34 0) a) 36 (S 34 0) n) 37 (S 34 0) cl) 38 (S 34 0) dk) 34 0 (S 34 0 + 1)) k z)) : CR E (upA A 22 (S 34 0) q) (upS (upS (upS (upS (upS S 35 (S 34 0) a) 36 (S 34 0) n) 37 (S 34 0) cl) 38 (S 34 0) dk) 34 0 (S 34 0 + 1)) (ah_up (ah_up h (A 3 0) (arR E 3 60 (updR (fun j => if j < S 34 0 then some (A 22 j) else none) (S 34 0) (some q)))) (A 0 0) (ob 9 (([.ref (A 1 0), .ref (A 2 0), .ref (A 3 0), .ref (A 4 0), .ref (A 5 0), .ref (A 6 0), .ref (A 7 0), .ref (A 8 0), .ref (A 9 0), .ref (A 11 0), vI (S 2 0), vI (S 7 0), vI (S 34 0), vI (S 40 0), vI (S 70 0), vI (S 16 0), vI (S 31 0)] : List Value).set 12 (vI (S 34 0 + 1))))) := by
  have n0 : 0 ≤ S 34 0 := hI.2.2.1.1
  have q0 : q ≠ A 0 0 := fun e => ho 0 0 (dom_0 (by decide)) e.symm
  have q1 : q ≠ A 3 0 := fun e => ho 3 0 (dom_0 (by decide)) e.symm
  have q01 : A 3 0 ≠ A 0 0 := fun e => absurd (hC.2.1 _ _ _ _ (dom_0 (by decide)) (dom_0 (by decide)) e).1 (by decide)
  have hdm : ∀ k i, dom (upS (upS (upS (upS (upS S 35 (S 34 0) a) 36 (S 34 0) n) 37 (S 34 0) cl) 38 (S 34 0) dk) 34 0 (S 34 0 + 1)) k i → ¬ (k = 22 ∧ i = S 34 0) → dom S k i := by
    intro k i hd hn
    unfold dom at hd ⊢
    split at hd <;> (try simp only [upS] at hd) <;> (try simp at hd) <;> first | exact hd | omega | (simp at hn; omega)
  refine hC.gen (N := fun k i => k = 22 ∧ i = S 34 0) (fun k i hd hn => ⟨if_neg hn, hdm k i hd hn⟩) (fun k i hd hn k2 i2 h2 => by obtain ⟨rfl, rfl⟩ := hn; rw [upA_at]; exact ho k2 i2 h2) (fun k i k2 i2 _ _ h1 h2 _ => ⟨h1.1.trans h2.1.symm, h1.2.trans h2.2.symm⟩) (fun k i hd => ?_) hR
  by_cases hn : k = 22 ∧ i = S 34 0
  · obtain ⟨rfl, rfl⟩ := hn
    rw [upA_at, ah_ne q0, ah_ne q1, hq]
    refine congrArg some ?_
    simp only [cel, upS, upA]
    simp
  · have hd0 := hdm k i hd hn
    rw [show upA A 22 (S 34 0) q k i = A k i from if_neg hn]
    by_cases k0 : k = 0
    · subst k0
      have := dom_0i (by decide) hd0
      subst this
      rw [ah_at]
      refine congrArg some ?_
      simp only [cel, upS, upA, List.set]
      simp
    · by_cases k1 : k = 3
      · subst k1
        have := dom_0i (by decide) hd0
        subst this
        rw [ah_ne q01, ah_at]
        have hf : updR (fun j => if j < S 34 0 then some (A 22 j) else none) (S 34 0) (some q) = (fun j => if j < (upS (upS (upS (upS (upS S 35 (S 34 0) a) 36 (S 34 0) n) 37 (S 34 0) cl) 38 (S 34 0) dk) 34 0 (S 34 0 + 1)) 34 0 then some (upA A 22 (S 34 0) q 22 j) else none) := by
          funext j
          rw [upS_at]
          unfold updR
          by_cases e : j = S 34 0
          · rw [if_pos e, if_pos (by omega), e, upA_at]
          · rw [if_neg e, upA_i e]
            (try dsimp only)
            by_cases e2 : j < S 34 0
            · rw [if_pos e2, if_pos (by omega)]
            · rw [if_neg e2, if_neg (by omega)]
        rw [hf]
        rfl
      · rw [ah_ne (fun e => k0 (hC.2.1 _ _ _ _ hd0 (dom_0 (by decide)) e).1), ah_ne (fun e => k1 (hC.2.1 _ _ _ _ hd0 (dom_0 (by decide)) e).1), hC.1 k i hd0]
        refine congrArg some (cel_cg k ?_ ?_).symm
        · have hk25 := dom_lt hd0
          unfold sla
          by_cases k19 : k < 19
          · rw [if_pos k19]
            intro s hs
            have hall : ∀ j, j < 19 → (j = 0 ∨ j = 3 ∨ ∀ s ∈ slo j, s ∉ [35, 36, 37, 38, 34]) := by decide
            have hne := ((hall k k19).resolve_left k0).resolve_left k1 s hs
            have hn2 : ∀ x ∈ [35, 36, 37, 38, 34], s ≠ x := fun x hx e => hne (e ▸ hx)
            rw [upS_ne (hn2 34 (by decide)), upS_ne (hn2 38 (by decide)), upS_ne (hn2 37 (by decide)), upS_ne (hn2 36 (by decide)), upS_ne (hn2 35 (by decide))]
          · rw [if_neg k19]
            by_cases k24 : k = 24
            · rw [if_pos k24]
              exact ⟨by simp only [upS]; simp, fun z _ _ => by simp only [upS]; simp⟩
            · rw [if_neg k24]
              intro s hs
              have hz : ∀ s ∈ slo k, s ≠ 34 := by
                have hall : ∀ j, j < 25 → 19 ≤ j → ∀ s ∈ slo j, s ≠ 34 := by decide
                exact hall k hk25 (by omega)
              rw [upS_ne (hz s hs)]
              by_cases kK : k = 22
              · have hi : i ≠ S 34 0 := fun e => hn ⟨kK, e⟩
                simp only [upS, if_neg hi, ite_self]
              · have hall : ∀ j, j < 25 → (j < 19 ∨ j = 22 ∨ ∀ s ∈ slo j, s ∉ [35, 36, 37, 38]) := by decide
                have hne := ((hall k hk25).resolve_left k19).resolve_left kK s hs
                have hn2 : ∀ x ∈ [35, 36, 37, 38], s ≠ x := fun x hx e => hne (e ▸ hx)
                rw [upS_ne (hn2 38 (by decide)), upS_ne (hn2 37 (by decide)), upS_ne (hn2 36 (by decide)), upS_ne (hn2 35 (by decide))]
        · unfold rfa
          split
          · exact absurd rfl k0
          · exact fun j _ => upA_k (by decide)
          · exact fun j _ => upA_k (by decide)
          · exact absurd rfl k1
          · exact fun j _ => upA_k (by decide)
          · exact fun k hk => upA_k (by omega)
          · exact fun k hk => upA_k (by omega)
          · exact fun j => upA_k (by decide)
          · exact fun j => upA_k (by decide)
          · exact upA_k (by decide)
          · exact upA_k (by decide)
          · exact upA_k (by decide)
          · trivial
