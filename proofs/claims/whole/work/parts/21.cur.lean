/-! the NIGHT's ARCS and RAYS, in their order -/
abbrev SelP (S : MS) (n k : Int) : Prop := S 10 k = n ∧ 0 < S 8 k
def selL (S : MS) (n : Int) : Nat → List Int
  | 0 => []
  | i + 1 => if SelP S n (i : Int) then selL S n i ++ [(i : Int)] else selL S n i
def at0 (l : List Int) (j : Int) : Int := l.getD j.toNat 0
def len0 (l : List Int) : Int := (l.length : Int)
def nightL (S : MS) (n : Int) : List Int := selL S n (S 7 0).toNat
theorem at0_last {l : List Int} {x : Int} : at0 (l ++ [x]) (len0 l) = x := by
  unfold at0 len0
  simp
theorem at0_old {l : List Int} {x j : Int} (h0 : 0 ≤ j) (h1 : j < len0 l) : at0 (l ++ [x]) j = at0 l j := by
  unfold at0
  unfold len0 at h1
  rw [List.getD_eq_getElem?_getD, List.getD_eq_getElem?_getD, List.getElem?_append_left (by omega)]
theorem len0_app {l : List Int} {x : Int} : len0 (l ++ [x]) = len0 l + 1 := by unfold len0; simp
theorem len0_nn (l : List Int) : 0 ≤ len0 l := Int.natCast_nonneg _
theorem selL_s {S : MS} {n k : Int} (h : 0 ≤ k) : selL S n (k + 1).toNat = if SelP S n k then selL S n k.toNat ++ [k] else selL S n k.toNat := by
  rw [show (k + 1).toNat = k.toNat + 1 by omega, selL, Int.toNat_of_nonneg h]
theorem selL_b {S : MS} {n : Int} : ∀ i : Nat, len0 (selL S n i) ≤ i ∧ ∀ j : Int, 0 ≤ j → j < len0 (selL S n i) → (0 ≤ at0 (selL S n i) j ∧ at0 (selL S n i) j < i) ∧ SelP S n (at0 (selL S n i) j) := by
  intro i
  induction i with
  | zero => exact ⟨by unfold len0 selL; simp, fun j h1 h2 => by unfold len0 selL at h2; simp at h2; omega⟩
  | succ i ih =>
    unfold selL
    split
    · next hc =>
      refine ⟨by rw [len0_app]; omega, fun j h1 h2 => ?_⟩
      rw [len0_app] at h2
      by_cases e : j = len0 (selL S n i)
      · rw [e, at0_last]
        exact ⟨by omega, hc⟩
      · rw [at0_old h1 (by omega)]
        have := ih.2 j h1 (by omega)
        exact ⟨by omega, this.2⟩
    · refine ⟨by omega, fun j h1 h2 => ?_⟩
      have := ih.2 j h1 h2
      exact ⟨by omega, this.2⟩
theorem selL_x {S S' : MS} {n : Int} (hx : eqx scr S S') (i : Nat) : selL S' n i = selL S n i := by
  induction i with
  | zero => rfl
  | succ i ih =>
    have e1 := hx 10 (by decide)
    have e2 := hx 8 (by decide)
    simp only [selL, SelP, ih, e1, e2]
/-! parting into sets: the first fit of all, by a search in the order of the sets -/
def begL : List Int → Int
  | [] => 0
  | x :: l => if begL l ≤ x then x + 1 else begL l
/-- may the next one come into set k -/
def okL (M : Int → Int → Bool) (cs : List Int) (k : Int) : Prop := ∀ i : Int, 0 ≤ i → i < len0 cs → at0 cs i = k → M (len0 cs) i = true
def tryS (f : Int → Option (List Int)) : Nat → Int → Option (List Int)
  | 0, _ => none
  | r + 1, k => match f k with
    | some x => some x
    | none => tryS f r (k + 1)
noncomputable def dfs (M : Int → Int → Bool) (most : Int) : Nat → List Int → Option (List Int)
  | 0, cs => some cs
  | m + 1, cs => tryS (fun k => @ite _ (okL M cs k) (Classical.propDecidable _) (dfs M most m (cs ++ [k])) none) (min (begL cs + 1) most).toNat 0
theorem begL_nn : ∀ l : List Int, (∀ x ∈ l, 0 ≤ x) → 0 ≤ begL l := by
  intro l
  induction l with
  | nil => intro _; decide
  | cons x l ih =>
    intro h
    have h1 := ih (fun y hy => h y (List.mem_cons_of_mem _ hy))
    have h2 := h x List.mem_cons_self
    unfold begL
    split <;> omega
theorem begL_app (l : List Int) (k : Int) (h : 0 ≤ k) : begL (l ++ [k]) = if begL l ≤ k then k + 1 else begL l := by
  induction l with
  | nil => simp [begL, h]
  | cons x l ih =>
    rw [List.cons_append, begL, begL, ih]
    repeat' split
    all_goals omega

abbrev LsP (S S1 : MS) (n k : Int) : Prop := S1 19 0 = len0 (selL S n k.toNat) ∧ ∀ j : Int, 0 ≤ j → j < len0 (selL S n k.toNat) → S1 20 j = at0 (selL S n k.toNat) j
theorem ls_step {S S1 S2 S3 : MS} {n k : Int} (hk : 0 ≤ k) (hs : SelP S n k) (h : LsP S S1 n k) (e2 : S2 = upS S1 20 (S1 19 0) k) (e3 : S3 = upS S2 19 0 (S1 19 0 + 1)) : LsP S S3 n (k + 1) := by
  obtain ⟨hl, hj⟩ := h
  unfold LsP
  rw [selL_s hk, if_pos hs, len0_app]
  refine ⟨by rw [e3, upS_at, hl], fun j h1 h2 => ?_⟩
  rw [e3, upS_ne (by decide), e2]
  by_cases e : j = len0 (selL S n k.toNat)
  · rw [e, ← hl, upS_at, hl, at0_last]
  · rw [upS_nz (by rw [hl]; exact e), at0_old h1 (by omega)]
    exact hj j h1 (by omega)
theorem ls_same {S S1 : MS} {n k : Int} (hk : 0 ≤ k) (hs : ¬ SelP S n k) (h : LsP S S1 n k) : LsP S S1 n (k + 1) := by
  unfold LsP
  rw [selL_s hk, if_neg hs]
  exact h
theorem take_s {cs : List Int} {i : Int} (h0 : 0 ≤ i) (h1 : i < len0 cs) : cs.take (i + 1).toNat = cs.take i.toNat ++ [at0 cs i] := by
  unfold len0 at h1
  unfold at0
  rw [show (i + 1).toNat = i.toNat + 1 by omega, List.take_succ, List.getD_eq_getElem?_getD]
  have : i.toNat < cs.length := by omega
  simp [List.getElem?_eq_getElem this]
theorem at0_mem {cs : List Int} {i : Int} (h0 : 0 ≤ i) (h1 : i < len0 cs) : at0 cs i ∈ cs := by
  unfold len0 at h1
  unfold at0
  have : i.toNat < cs.length := by omega
  rw [List.getD_eq_getElem?_getD, List.getElem?_eq_getElem this]
  exact List.getElem_mem this
/-- the sets are numbered 0 .. 9 -/
def Sm (cs : List Int) : Prop := ∀ x ∈ cs, 0 ≤ x ∧ x < 10
theorem begL_b {cs : List Int} (h : Sm cs) : 0 ≤ begL cs ∧ begL cs ≤ 10 := by
  induction cs with
  | nil => decide
  | cons x l ih =>
    have h1 := ih (fun y hy => h y (List.mem_cons_of_mem _ hy))
    have h2 := h x List.mem_cons_self
    unfold begL
    split <;> omega
theorem Sm_take {cs : List Int} (h : Sm cs) (n : Nat) : Sm (cs.take n) := fun x hx => h x (List.mem_of_mem_take hx)
theorem Sm_app {cs : List Int} {k : Int} (h : Sm cs) (h0 : 0 ≤ k) (h1 : k < 10) : Sm (cs ++ [k]) := by
  intro x hx
  rcases List.mem_append.mp hx with q | q
  · exact h x q
  · rw [List.mem_singleton.mp q]; exact ⟨h0, h1⟩
/-- the search, from a set on -/
theorem try_skip {f : Int → Option (List Int)} {b : Int} : ∀ s t : Int, s ≤ t → t ≤ b → (∀ u, s ≤ u → u < t → f u = none) → tryS f (b - s).toNat s = tryS f (b - t).toNat t := by
  intro s t hst htb
  have key : ∀ s, s ≤ t → (∀ u, s ≤ u → u < t → f u = none) → tryS f (b - s).toNat s = tryS f (b - t).toNat t := by
    refine up_ind (fun s ih hs hu => ?_)
    by_cases e : s = t
    · rw [e]
    · rw [show (b - s).toNat = (b - (s + 1)).toNat + 1 by omega, tryS, hu s (by omega) (by omega)]
      exact ih (s + 1) (by omega) (by omega) (fun u h1 h2 => hu u (by omega) h2)
  exact key s hst
theorem try_hit {f : Int → Option (List Int)} {b t : Int} (h : t < b) : tryS f (b - t).toNat t = match f t with
    | some x => some x
    | none => tryS f (b - (t + 1)).toNat (t + 1) := by
  rw [show (b - t).toNat = (b - (t + 1)).toNat + 1 by omega, tryS]
noncomputable def stp (M : Int → Int → Bool) (most : Int) (m : Nat) (cs : List Int) : Int → Option (List Int) := fun k => @ite _ (okL M cs k) (Classical.propDecidable _) (dfs M most m (cs ++ [k])) none
theorem stp_y {M : Int → Int → Bool} {most : Int} {m : Nat} {cs : List Int} {k : Int} (h : okL M cs k) : stp M most m cs k = dfs M most m (cs ++ [k]) := by unfold stp; rw [if_pos h]
theorem stp_n {M : Int → Int → Bool} {most : Int} {m : Nat} {cs : List Int} {k : Int} (h : ¬ okL M cs k) : stp M most m cs k = none := by unfold stp; rw [if_neg h]
theorem dfs_s {M : Int → Int → Bool} {most : Int} {m : Nat} {cs : List Int} : dfs M most (m + 1) cs = tryS (stp M most m cs) (min (begL cs + 1) most - 0).toNat 0 := by
  rw [Int.sub_zero]
  rfl
