/-! the invariant is kept -/
theorem Inv_put {S : MS} {k a1 a2 a3 a4 a5 c l : Int} (hI : Inv S) (hk : 0 ≤ k ∧ k ≤ 2) (ht : TO S a1 a2 a3 a4 a5) (hc : 0 ≤ c ∧ c ≤ 4) (hl : -45 ≤ l ∧ l ≤ 45) (hn : S 7 0 < 40) : Inv (nx_put S k a1 a2 a3 a4 a5 c l) := by
  obtain ⟨i1, i2, i3, i4, i5, i6, iSt, iSi, iWa, iSh, iLa, iS0, iS1, iZe⟩ := hI
  obtain ⟨t1, t2, t3, t4, t5⟩ := ht
  unfold Inv nx_put
  simp only [upS, ↓reduceIte, Nat.reduceEqDiff]
  refine ⟨i1, by omega, i3, i4, i5, i6, iSt, fun i h1 h2 => ?_, iWa, fun i h1 h2 => ?_, iLa, iS0, iS1, iZe⟩
  · by_cases e : i = S 7 0
    · rw [if_pos e, if_pos e, if_pos e, if_pos e, if_pos e, if_pos e, if_pos e, if_pos e]
      omega
    · rw [if_neg e, if_neg e, if_neg e, if_neg e, if_neg e, if_neg e, if_neg e, if_neg e]
      exact iSi i h1 (by omega)
  · have q := iSh i h1 h2
    rw [if_neg (by omega), if_neg (by omega)]
    exact ⟨by omega, by omega, q.2.2⟩

theorem Inv_station {S : MS} {x y : Int} (hI : Inv S) : Inv (nx_station S x y) := by
  unfold nx_station
  split
  · next hc =>
    obtain ⟨i1, i2, i3, i4, i5, i6, iSt, iSi, iWa, iSh, iLa, iS0, iS1, iZe⟩ := hI
    unfold Inv
    simp only [upS, ↓reduceIte, Nat.reduceEqDiff]
    refine ⟨by omega, i2, i3, i4, i5, i6, fun i h1 h2 => ?_, fun i h1 h2 => ?_, fun i h1 h2 => ?_, iSh, iLa, iS0, iS1, fun i h1 => iZe i (by omega)⟩
    · by_cases e : i = S 2 0
      · have q := iZe i (by omega)
        rw [if_pos e, if_pos e]
        omega
      · rw [if_neg e, if_neg e]
        exact iSt i h1 (by omega)
    · have q := iSi i h1 h2; omega
    · have q := iWa i h1 h2; omega
  · exact hI

theorem Inv_clock {S : MS} {a lo hi : Int} (hI : Inv S) : Inv (nx_clock S a lo hi) := by
  unfold nx_clock
  split
  · next hc =>
    obtain ⟨i1, i2, i3, i4, i5, i6, iSt, iSi, iWa, iSh, iLa, iS0, iS1, iZe⟩ := hI
    unfold Inv
    simp only [upS, ↓reduceIte, Nat.reduceEqDiff]
    refine ⟨i1, i2, i3, i4, i5, i6, fun i h1 h2 => ?_, iSi, iWa, iSh, iLa, iS0, iS1, fun i h1 => ?_⟩
    · have q := iSt i h1 h2
      by_cases e : i = a
      · rw [if_pos e, if_pos e]; omega
      · rw [if_neg e, if_neg e]; exact q
    · rw [if_neg (by omega), if_neg (by omega)]; exact iZe i h1
  · exact hI

theorem Inv_thick {S : MS} {n : Int} (hI : Inv S) : Inv (nx_thick S n) := by
  unfold nx_thick
  split
  · next hc =>
    obtain ⟨i1, i2, i3, i4, i5, i6, iSt, iSi, iWa, iSh, iLa, iS0, iS1, iZe⟩ := hI
    unfold Inv
    simp only [upS, ↓reduceIte, Nat.reduceEqDiff]
    refine ⟨i1, i2, i3, i4, by omega, i6, iSt, iSi, iWa, iSh, iLa, iS0, iS1, iZe⟩
    
  · exact hI

theorem Inv_speed {S : MS} {n : Int} (hI : Inv S) : Inv (nx_speed S n) := by
  unfold nx_speed
  split
  · next hc =>
    obtain ⟨i1, i2, i3, i4, i5, i6, iSt, iSi, iWa, iSh, iLa, iS0, iS1, iZe⟩ := hI
    unfold Inv
    simp only [upS, ↓reduceIte, Nat.reduceEqDiff]
    refine ⟨i1, i2, i3, i4, i5, by omega, iSt, iSi, iWa, iSh, iLa, iS0, iS1, iZe⟩
    
  · exact hI

theorem Inv_watch {S : MS} {a n hrs cl mo : Int} (hI : Inv S) : Inv (nx_watch S a n hrs cl mo) := by
  unfold nx_watch
  split
  · next hc =>
    obtain ⟨i1, i2, i3, i4, i5, i6, iSt, iSi, iWa, iSh, iLa, iS0, iS1, iZe⟩ := hI
    unfold Inv
    simp only [upS, ↓reduceIte, Nat.reduceEqDiff]
    refine ⟨i1, i2, by omega, i4, i5, i6, iSt, iSi, fun i h1 h2 => ?_, iSh, iLa, iS0, iS1, iZe⟩
    by_cases e : i = S 34 0
    · rw [if_pos e, if_pos e, if_pos e, if_pos e]; omega
    · rw [if_neg e, if_neg e, if_neg e, if_neg e]; exact iWa i h1 (by omega)
  · exact hI

theorem Inv_share {S : MS} {a b : Int} (hI : Inv S) : Inv (nx_share S a b) := by
  unfold nx_share
  split
  · next hc =>
    obtain ⟨i1, i2, i3, i4, i5, i6, iSt, iSi, iWa, iSh, iLa, iS0, iS1, iZe⟩ := hI
    unfold Inv
    simp only [upS, ↓reduceIte, Nat.reduceEqDiff]
    refine ⟨i1, i2, i3, by omega, i5, i6, iSt, iSi, iWa, fun i h1 h2 => ?_, iLa, iS0, iS1, iZe⟩
    by_cases e : i = S 40 0
    · rw [if_pos e, if_pos e]; exact ⟨hc.1.1, hc.1.2.1, hc.1.2.2⟩
    · rw [if_neg e, if_neg e]; exact iSh i h1 (by omega)
  · exact hI

theorem Inv_drop {S : MS} {s : Int} (hI : Inv S) : Inv (nx_drop S s) := by
  unfold nx_drop
  split
  · next hc =>
    obtain ⟨i1, i2, i3, i4, i5, i6, iSt, iSi, iWa, iSh, iLa, iS0, iS1, iZe⟩ := hI
    unfold Inv
    simp only [upS, ↓reduceIte, Nat.reduceEqDiff]
    refine ⟨i1, i2, i3, i4, i5, i6, iSt, iSi, iWa, iSh, fun i h1 h2 => ?_, iS0, iS1, iZe⟩
    have q := iLa i h1 h2
    split <;> omega
  · exact hI

theorem Inv_item {S : MS} {s l i v : Int} (hI : Inv S) : Inv (nx_item S s l i v) := by
  unfold nx_item
  split
  · next hc =>
    obtain ⟨i1, i2, i3, i4, i5, i6, iSt, iSi, iWa, iSh, iLa, iS0, iS1, iZe⟩ := hI
    unfold Inv
    simp only [upS, ↓reduceIte, Nat.reduceEqDiff]
    refine ⟨i1, i2, i3, i4, i5, i6, iSt, iSi, iWa, iSh, iLa, iS0, iS1, iZe⟩
    
  · exact hI

theorem Inv_sheet {S : MS} {s l n : Int} (hI : Inv S) : Inv (nx_sheet S s l n) := by
  unfold nx_sheet
  split
  · next hc =>
    obtain ⟨i1, i2, i3, i4, i5, i6, iSt, iSi, iWa, iSh, iLa, iS0, iS1, iZe⟩ := hI
    unfold Inv
    simp only [↓reduceIte, Nat.reduceEqDiff]
    refine ⟨i1, i2, i3, i4, i5, i6, iSt, iSi, iWa, iSh, fun i h1 h2 => ?_, iS0, iS1, iZe⟩
    have q := iLa i h1 h2
    split <;> omega
  · exact hI
theorem nx_put_7 {S : MS} {k a1 a2 a3 a4 a5 c l : Int} : nx_put S k a1 a2 a3 a4 a5 c l 7 0 = S 7 0 + 1 := by unfold nx_put; exact upS_at
theorem nx_put_x {S : MS} {k a1 a2 a3 a4 a5 c l : Int} {j : Nat} (hj : j < 7 ∨ 15 < j) : nx_put S k a1 a2 a3 a4 a5 c l j = S j := by
  unfold nx_put
  rw [upS_ne (by omega), upS_ne (by omega), upS_ne (by omega), upS_ne (by omega), upS_ne (by omega), upS_ne (by omega), upS_ne (by omega), upS_ne (by omega), upS_ne (by omega)]
theorem arN_f {S : MS} {t : Int} : ∀ n : Nat, arN S t n 7 0 = S 7 0 + n ∧ ∀ j : Nat, (j < 7 ∨ 15 < j) → arN S t n j = S j := by
  intro n
  induction n with
  | zero => exact ⟨by simp [arN], fun j _ => rfl⟩
  | succ n ih => exact ⟨by unfold arN; rw [nx_put_7, ih.1]; omega, fun j hj => by unfold arN; rw [nx_put_x hj, ih.2 j hj]⟩
theorem Inv_arN {S : MS} {t : Int} (hI : Inv S) : ∀ n : Nat, (∀ j : Int, 0 ≤ j → j < n → AtP S (t + 6 * j)) → S 7 0 + n ≤ 40 → Inv (arN S t n) := by
  intro n
  induction n with
  | zero => intro _ _; exact hI
  | succ n ih =>
    intro h1 h2
    have h3 := ih (fun j g1 g2 => h1 j g1 (by omega)) (by omega)
    have h4 := h1 n (by omega) (by omega)
    have h5 := arN_f (S := S) (t := t) n
    unfold arN
    refine Inv_put h3 (by omega) ?_ h4.2 (by omega) (by omega)
    have h6 := h4.1
    unfold TO at h6 ⊢
    rw [h5.2 2 (by omega)]
    exact h6
theorem AB_all {S : MS} {t n : Int} (h : scanI (AB S t) 0 n = -1) : ∀ j : Int, 0 ≤ j → j < n → AtP S (t + 6 * j) := by
  have key : ∀ i, i ≤ n → scanI (AB S t) i n = -1 → 0 ≤ i → ∀ j : Int, i ≤ j → j < n → AtP S (t + 6 * j) := by
    refine up_ind (fun i ih hi h1 h0 j h2 h3 => ?_)
    rw [scanI_s _ (by omega)] at h1
    split at h1
    · omega
    · next hb =>
      rcases Int.lt_or_eq_of_le h2 with q | q
      · exact ih (i + 1) (by omega) (by omega) h1 (by omega) j (by omega) h3
      · subst q
        simp only [AB, decide_eq_true_eq] at hb
        exact Decidable.not_not.mp hb
  intro j h1 h2
  exact key 0 (by omega) h (by omega) j h1 h2
theorem Inv_arcs {S : MS} {s l f n : Int} (hI : Inv S) : Inv (nx_arcs S s l f n) := by
  unfold nx_arcs
  split
  · next hc =>
    have hb := scanI_b (AB S (36 * s + f)) (N := n) 0 (by omega)
    have h1 := AB_all (S := S) (t := 36 * s + f) (n := n) (by omega)
    exact Inv_arN hI n.toNat (fun j g1 g2 => h1 j g1 (by omega)) (by omega)
  · exact hI
theorem Inv_add {S : MS} {k a1 a2 a3 a4 a5 c l : Int} (hI : Inv S) (hk : 0 ≤ k ∧ k ≤ 2) (ht : TO S a1 a2 a3 a4 a5) (hc : 0 ≤ c ∧ c ≤ 4) (hl : -45 ≤ l ∧ l ≤ 45) : Inv (nx_add S k a1 a2 a3 a4 a5 c l) := by
  unfold nx_add
  split
  · have := hI.2.1
    exact Inv_put hI hk ht hc hl (by omega)
  · exact hI
theorem Inv_glow {S : MS} {a1 a2 a3 a4 a5 : Int} (hI : Inv S) : Inv (nx_glow S a1 a2 a3 a4 a5) := by
  unfold nx_glow
  split
  · next hc => exact Inv_add hI (by omega) hc (by omega) (by omega)
  · exact hI
theorem Inv_arc {S : MS} {a1 a2 a3 a4 a5 a6 : Int} (hI : Inv S) : Inv (nx_arc S a1 a2 a3 a4 a5 a6) := by
  unfold nx_arc
  split
  · next hc => exact Inv_add hI (by omega) hc.1 hc.2 (by omega)
  · exact hI
theorem Inv_ray {S : MS} {a1 a2 a3 a4 a5 a6 a7 : Int} (hI : Inv S) : Inv (nx_ray S a1 a2 a3 a4 a5 a6 a7) := by
  unfold nx_ray
  split
  · next hc => exact Inv_add hI (by omega) hc.1 hc.2.1 hc.2.2
  · exact hI
