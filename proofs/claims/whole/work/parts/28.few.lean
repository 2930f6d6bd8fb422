/-! CROSS and MEET are the same from either side -/
theorem dZ_sw (S : MS) (a b : Int) : dZ S b a = -dZ S a b := by
  unfold dZ
  rw [Int.mul_comm (sinZ (S 12 b)) (cosZ (S 12 a)), Int.mul_comm (cosZ (S 12 b)) (sinZ (S 12 a))]
  omega
theorem rZ_sw (S : MS) (a b : Int) : rZ S b a = sZ S a b := by
  unfold rZ sZ
  have e : 1000 * ((S 3 (S 9 a) - S 3 (S 9 b)) * cosZ (S 12 a) - (S 4 (S 9 a) - S 4 (S 9 b)) * sinZ (S 12 a)) = -(1000 * ((S 3 (S 9 b) - S 3 (S 9 a)) * cosZ (S 12 a) - (S 4 (S 9 b) - S 4 (S 9 a)) * sinZ (S 12 a))) := by
    rw [show S 3 (S 9 a) - S 3 (S 9 b) = -(S 3 (S 9 b) - S 3 (S 9 a)) by omega, show S 4 (S 9 a) - S 4 (S 9 b) = -(S 4 (S 9 b) - S 4 (S 9 a)) by omega, Int.neg_mul, Int.neg_mul]
    omega
  rw [e, dZ_sw S a b, Int.neg_tdiv, Int.tdiv_neg, Int.neg_neg]
theorem sZ_sw (S : MS) (a b : Int) : sZ S b a = rZ S a b := (rZ_sw S b a).symm
theorem CrP_sw {S : MS} {a b : Int} (h : CrP S a b) : CrP S b a := by
  obtain ⟨h1, h2, h3, h4, h5, h6, h7⟩ := h
  unfold CrP
  rw [dZ_sw S a b, rZ_sw S a b, sZ_sw S a b]
  exact ⟨Ne.symm h1, h3, h2, by omega, h6, h5, by omega⟩
theorem MeP_sw {S : MS} {a b : Int} (h : MeP S a b) : MeP S b a := ⟨CrP_sw h.1, h.2.1.symm, h.2.2.2, h.2.2.1⟩
noncomputable def MM (S : MS) (l : List Int) : Int → Int → Bool := fun i j => @decide (MeP S (at0 l i) (at0 l j)) (Classical.propDecidable _)
theorem MM_y {S : MS} {l : List Int} {i j : Int} (h : MeP S (at0 l i) (at0 l j)) : MM S l i j = true := by
  unfold MM
  exact @decide_eq_true _ (Classical.propDecidable _) h
theorem MM_n {S : MS} {l : List Int} {i j : Int} (h : ¬ MeP S (at0 l i) (at0 l j)) : MM S l i j = false := by
  unfold MM
  exact @decide_eq_false _ (Classical.propDecidable _) h
theorem MM_of {S : MS} {l : List Int} {i j : Int} (h : MM S l i j = true) : MeP S (at0 l i) (at0 l j) := by
  unfold MM at h
  exact @of_decide_eq_true _ (Classical.propDecidable _) h
theorem MM_sw (S : MS) (l : List Int) (i j : Int) : MM S l i j = MM S l j i := by
  cases h : MM S l j i
  · cases h2 : MM S l i j
    · rfl
    · rw [MM_y (MeP_sw (MM_of h2))] at h
      exact absurd h (by decide)
  · exact MM_y (MeP_sw (MM_of h))
/-! the search: what it finds -/
theorem tryS_some {f : Int → Option (List Int)} {x : List Int} : ∀ (r : Nat) (k : Int), tryS f r k = some x → ∃ u, k ≤ u ∧ u < k + r ∧ f u = some x := by
  intro r
  induction r with
  | zero => intro k h; cases h
  | succ r ih =>
    intro k h
    rw [tryS] at h
    cases hf : f k with
    | some y =>
      rw [hf] at h
      cases h
      exact ⟨k, by omega, by omega, hf⟩
    | none =>
      rw [hf] at h
      obtain ⟨u, h1, h2, h3⟩ := ih (k + 1) h
      exact ⟨u, by omega, by omega, h3⟩
theorem tryS_ne {f : Int → Option (List Int)} {u : Int} (hu : f u ≠ none) : ∀ (r : Nat) (k : Int), k ≤ u → u < k + r → tryS f r k ≠ none := by
  intro r
  induction r with
  | zero => intro k h1 h2; omega
  | succ r ih =>
    intro k h1 h2
    rw [tryS]
    cases hf : f k with
    | some y => exact fun q => by cases q
    | none =>
      refine ih (k + 1) ?_ (by omega)
      by_cases e : k = u
      · rw [e] at hf
        exact absurd hf hu
      · omega
theorem begL_gt {cs : List Int} {x : Int} (h : x ∈ cs) : x < begL cs := by
  induction cs with
  | nil => cases h
  | cons y l ih =>
    unfold begL
    rcases List.mem_cons.mp h with e | e
    · subst e
      split <;> omega
    · have := ih e
      split <;> omega
theorem begL_le {cs : List Int} {c : Int} (h : ∀ x ∈ cs, x < c) (hc : 0 ≤ c) : begL cs ≤ c := by
  induction cs with
  | nil => exact hc
  | cons y l ih =>
    have h1 := ih (fun x hx => h x (List.mem_cons_of_mem _ hx))
    have h2 := h y List.mem_cons_self
    unfold begL
    split <;> omega
/-- the sets so far are as the search makes them -/
def Gd (M : Int → Int → Bool) (most : Int) (cs : List Int) : Prop := (∀ x ∈ cs, 0 ≤ x ∧ x < most) ∧ (∀ k, 0 ≤ k → k < begL cs → k ∈ cs) ∧ ∀ i j : Int, 0 ≤ i → i < j → j < len0 cs → at0 cs i = at0 cs j → M j i = true
theorem Gd_nil {M : Int → Int → Bool} {most : Int} : Gd M most [] := by
  refine ⟨fun x hx => (by cases hx), fun k h0 h1 => ?_, fun i j h0 h1 h2 => ?_⟩
  · have : begL [] = 0 := rfl
    omega
  · have : len0 [] = 0 := rfl
    omega
theorem Gd_app {M : Int → Int → Bool} {most k : Int} {cs : List Int} (h : Gd M most cs) (k0 : 0 ≤ k) (k1 : k ≤ begL cs) (k2 : k < most) (hk : okL M cs k) : Gd M most (cs ++ [k]) := by
  obtain ⟨h1, h2, h3⟩ := h
  refine ⟨fun x hx => ?_, fun u u0 u1 => ?_, fun i j i0 ij j1 he => ?_⟩
  · rcases List.mem_append.mp hx with q | q
    · exact h1 x q
    · rw [List.mem_singleton.mp q]
      exact ⟨k0, k2⟩
  · rw [begL_app _ _ k0] at u1
    by_cases e : u = k
    · exact List.mem_append.mpr (Or.inr (List.mem_singleton.mpr e))
    · refine List.mem_append.mpr (Or.inl (h2 u u0 ?_))
      split at u1 <;> omega
  · rw [len0_app] at j1
    by_cases e : j = len0 cs
    · subst e
      rw [at0_last, at0_old i0 ij] at he
      exact hk i i0 ij he
    · rw [at0_old i0 (by omega), at0_old (by omega) (by omega)] at he
      exact h3 i j i0 ij (by omega) he
theorem stp_some {M : Int → Int → Bool} {most k : Int} {m : Nat} {cs r : List Int} (h : stp M most m cs k = some r) : okL M cs k ∧ dfs M most m (cs ++ [k]) = some r := by
  rcases Classical.em (okL M cs k) with q | q
  · rw [stp_y q] at h
    exact ⟨q, h⟩
  · rw [stp_n q] at h
    cases h
theorem dfs_gd {M : Int → Int → Bool} {most : Int} : ∀ (m : Nat) (cs r : List Int), Gd M most cs → dfs M most m cs = some r → Gd M most r ∧ len0 r = len0 cs + m ∧ begL cs ≤ begL r := by
  intro m
  induction m with
  | zero =>
    intro cs r hg h
    have e : cs = r := Option.some.inj h
    subst e
    exact ⟨hg, by omega, Int.le_refl _⟩
  | succ m ih =>
    intro cs r hg h
    rw [dfs_s] at h
    obtain ⟨u, u0, u1, hu⟩ := tryS_some _ _ h
    obtain ⟨hk, hd⟩ := stp_some hu
    have hb := begL_app cs u (by omega)
    obtain ⟨g1, g2, g3⟩ := ih _ _ (Gd_app hg (by omega) (by omega) (by omega) hk) hd
    rw [len0_app] at g2
    refine ⟨g1, by omega, ?_⟩
    rw [hb] at g3
    split at g3 <;> omega
theorem dfs_less {M : Int → Int → Bool} {most most' : Int} (hm : most' ≤ most) : ∀ (m : Nat) (cs r : List Int), Gd M most cs → dfs M most m cs = some r → begL r ≤ most' → dfs M most' m cs ≠ none := by
  intro m
  induction m with
  | zero => intro cs r _ _ _ q; cases q
  | succ m ih =>
    intro cs r hg h hb
    rw [dfs_s] at h ⊢
    obtain ⟨u, u0, u1, hu⟩ := tryS_some _ _ h
    obtain ⟨hk, hd⟩ := stp_some hu
    have hga := Gd_app hg (by omega) (by omega) (by omega) hk
    have hg3 := (dfs_gd m _ _ hga hd).2.2
    have hgt : u < begL (cs ++ [u]) := begL_gt (List.mem_append.mpr (Or.inr (List.mem_singleton.mpr rfl)))
    refine tryS_ne (u := u) ?_ _ _ (by omega) (by omega)
    rw [stp_y hk]
    exact ih _ _ hga hd hb
theorem dfs_full {M : Int → Int → Bool} {most : Int} : ∀ (m : Nat) (cs : List Int), Gd M most cs → begL cs + m ≤ most → dfs M most m cs ≠ none := by
  intro m
  induction m with
  | zero => intro cs _ _ q; cases q
  | succ m ih =>
    intro cs hg hb
    have hb0 := begL_nn cs (fun x hx => (hg.1 x hx).1)
    rw [dfs_s]
    have hk : okL M cs (begL cs) := fun i i0 i1 he => by
      have := begL_gt (at0_mem i0 i1)
      omega
    refine tryS_ne (u := begL cs) ?_ _ _ hb0 (by omega)
    rw [stp_y hk]
    refine ih _ (Gd_app hg hb0 (Int.le_refl _) (by omega) hk) ?_
    rw [begL_app _ _ hb0, if_pos (Int.le_refl _)]
    omega
/-- the fewest sets, and of as few the first -/
def FewP (M : Int → Int → Bool) (n c : Int) (r : List Int) : Prop := 0 ≤ c ∧ dfs M c n.toNat [] = some r ∧ ∀ m, 0 ≤ m → m < c → dfs M m n.toNat [] = none
theorem few_uq {M : Int → Int → Bool} {n c c' : Int} {r r' : List Int} (h : FewP M n c r) (h' : FewP M n c' r') : c = c' ∧ r = r' := by
  obtain ⟨a0, a1, a2⟩ := h
  obtain ⟨b0, b1, b2⟩ := h'
  have e : c = c' := by
    rcases Int.lt_trichotomy c c' with q | q | q
    · rw [b2 c a0 q] at a1
      cases a1
    · exact q
    · rw [a2 c' b0 q] at b1
      cases b1
  subst e
  rw [a1] at b1
  exact ⟨rfl, Option.some.inj b1⟩
theorem few_ok {M : Int → Int → Bool} {n c : Int} {r : List Int} (hn : 0 ≤ n) (h : FewP M n c r) : Gd M c r ∧ len0 r = n ∧ begL r = c := by
  obtain ⟨a0, a1, a2⟩ := h
  obtain ⟨g1, g2, g3⟩ := dfs_gd _ _ _ Gd_nil a1
  have e1 : len0 [] = 0 := rfl
  have h1 := begL_le (fun x hx => (g1.1 x hx).2) a0
  have h2 := begL_nn r (fun x hx => (g1.1 x hx).1)
  refine ⟨g1, by omega, ?_⟩
  by_cases e : begL r = c
  · exact e
  · have := dfs_less (most' := c - 1) (by omega) _ _ _ Gd_nil a1 (by omega)
    exact absurd (a2 (c - 1) (by omega) (by omega)) this
noncomputable def fewZ (M : Int → Int → Bool) (n : Int) : Int × List Int := @dite _ (∃ p : Int × List Int, FewP M n p.1 p.2) (Classical.propDecidable _) (fun h => h.choose) (fun _ => (0, []))
theorem fewZ_eq {M : Int → Int → Bool} {n c : Int} {r : List Int} (h : FewP M n c r) : fewZ M n = (c, r) := by
  have hx : ∃ p : Int × List Int, FewP M n p.1 p.2 := ⟨(c, r), h⟩
  unfold fewZ
  rw [dif_pos hx]
  obtain ⟨e1, e2⟩ := few_uq h hx.choose_spec
  exact Prod.ext e1.symm e2.symm
