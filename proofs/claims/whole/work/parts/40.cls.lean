/-! the class's objects: A k i is where the i-th of kind k lies; S: the persons' numbers (slots below 50), the class's own ones (50 ..) -/
abbrev AD : Type := Nat → Int → Nat
def cel (E : EV) (A : AD) (S : MS) (k : Nat) (i : Int) : va_E :=
  match k with
  | 0 => ob 9 [.ref (A 1 0), .ref (A 2 0), .ref (A 3 0), .ref (A 4 0), .ref (A 5 0), .ref (A 6 0), .ref (A 7 0), .ref (A 8 0), .ref (A 9 0), .ref (A 11 0), vI (S 2 0), vI (S 7 0), vI (S 34 0), vI (S 40 0), vI (S 70 0), vI (S 16 0), vI (S 31 0)]
  | 1 => arR E 1 8 (fun j => if j < S 2 0 then some (A 20 j) else none)
  | 2 => arR E 2 40 (fun j => if j < S 7 0 then some (A 21 j) else none)
  | 3 => arR E 3 60 (fun j => if j < S 34 0 then some (A 22 j) else none)
  | 4 => arI E 20 (S 41)
  | 5 => arI E 20 (S 42)
  | 6 => arI E 40 (S 69)
  | 7 => arI E 40 (S 71)
  | 8 => arR E 4 4 (fun j => if 0 ≤ S 43 j then some (A 23 j) else none)
  | 9 => ob 1 [.ref (A 10 0)]
  | 10 => arI E 7 (S 50)
  | 11 => ob 6 [.ref (A 12 0), .ref (A 13 0), .ref (A 14 0), .ref (A 15 0), .ref (A 16 0), .ref (A 17 0), .ref (A 18 0), vI (S 56 0), vI (S 57 0)]
  | 12 => arR E 5 10 (fun j => some (A 19 j))
  | 13 => arR E 6 10 (fun j => if 0 ≤ S 68 j then some (A 21 (S 68 j)) else none)
  | 14 => arI E 10 (S 51)
  | 15 => arI E 10 (S 52)
  | 16 => arI E 10 (S 53)
  | 17 => arI E 10 (S 54)
  | 18 => arI E 10 (S 55)
  | 19 => ob 2 [vI (S 58 i), vI (S 59 i), vI (S 60 i), vI (S 61 i), vI (S 62 i), vI (S 63 i), vI (S 64 i), vI (S 65 i), vI (S 66 i), vI (S 67 i)]
  | 20 => ob 7 [vI i, vI (S 3 i), vI (S 4 i), vI (S 5 i), vI (S 6 i)]
  | 21 => if S 8 i = 0 then ob 3 [.ref (A 20 (S 9 i)), vI (S 10 i), vI (S 11 i), vI (S 12 i), vI (S 13 i)] else if S 8 i = 1 then ob 0 [.ref (A 20 (S 9 i)), vI (S 10 i), vI (S 11 i), vI (S 12 i), vI (S 13 i), vI (S 14 i), vI (sinZ (S 12 i)), vI (cosZ (S 12 i))] else ob 4 [vI (S 14 i), vI (sinZ (S 12 i)), vI (cosZ (S 12 i)), .ref (A 20 (S 9 i)), vI (S 10 i), vI (S 11 i), vI (S 12 i), vI (S 13 i), vI (S 15 i)]
  | 22 => ob 8 [.ref (A 20 (S 35 i)), vI (S 36 i), vI (S 37 i), vI (S 38 i)]
  | 23 => ob 5 [vI (S 43 i), .ref (A 24 i)]
  | 24 => arI E (S 44 i).toNat (fun z => if 0 ≤ z ∧ z < 36 then S 45 (36 * i + z) else 0)
  | _ => arI E 0 (fun _ => 0)
def slo (k : Nat) : List Nat := ([[2, 7, 34, 40, 70, 16, 31], [2], [7], [34], [41], [42], [69], [71], [43], [], [50], [56, 57], [], [68], [51], [52], [53], [54], [55], [58, 59, 60, 61, 62, 63, 64, 65, 66, 67], [3, 4, 5, 6], [8, 9, 10, 11, 12, 13, 14, 15], [35, 36, 37, 38], [43], [44, 45]] : List (List Nat)).getD k []
def dom (S : MS) (k : Nat) (i : Int) : Prop :=
  match k with
  | 19 => 0 ≤ i ∧ i < 10
  | 20 => 0 ≤ i ∧ i < S 2 0
  | 21 => 0 ≤ i ∧ i < S 7 0
  | 22 => 0 ≤ i ∧ i < S 34 0
  | 23 => (0 ≤ i ∧ i < 4) ∧ 0 ≤ S 43 i
  | 24 => (0 ≤ i ∧ i < 4) ∧ 0 ≤ S 43 i
  | k => k < 19 ∧ i = 0
theorem cel_congr {E : EV} {A : AD} {S S' : MS} {i : Int} : ∀ k : Nat, (∀ s ∈ slo k, S' s = S s) → cel E A S' k i = cel E A S k i
  | 0, hs => by simp only [cel, hs 2 (by decide), hs 7 (by decide), hs 34 (by decide), hs 40 (by decide), hs 70 (by decide), hs 16 (by decide), hs 31 (by decide)]
  | 1, hs => by simp only [cel, hs 2 (by decide)]
  | 2, hs => by simp only [cel, hs 7 (by decide)]
  | 3, hs => by simp only [cel, hs 34 (by decide)]
  | 4, hs => by simp only [cel, hs 41 (by decide)]
  | 5, hs => by simp only [cel, hs 42 (by decide)]
  | 6, hs => by simp only [cel, hs 69 (by decide)]
  | 7, hs => by simp only [cel, hs 71 (by decide)]
  | 8, hs => by simp only [cel, hs 43 (by decide)]
  | 9, hs => by rfl
  | 10, hs => by simp only [cel, hs 50 (by decide)]
  | 11, hs => by simp only [cel, hs 56 (by decide), hs 57 (by decide)]
  | 12, hs => by rfl
  | 13, hs => by simp only [cel, hs 68 (by decide)]
  | 14, hs => by simp only [cel, hs 51 (by decide)]
  | 15, hs => by simp only [cel, hs 52 (by decide)]
  | 16, hs => by simp only [cel, hs 53 (by decide)]
  | 17, hs => by simp only [cel, hs 54 (by decide)]
  | 18, hs => by simp only [cel, hs 55 (by decide)]
  | 19, hs => by simp only [cel, hs 58 (by decide), hs 59 (by decide), hs 60 (by decide), hs 61 (by decide), hs 62 (by decide), hs 63 (by decide), hs 64 (by decide), hs 65 (by decide), hs 66 (by decide), hs 67 (by decide)]
  | 20, hs => by simp only [cel, hs 3 (by decide), hs 4 (by decide), hs 5 (by decide), hs 6 (by decide)]
  | 21, hs => by simp only [cel, hs 8 (by decide), hs 9 (by decide), hs 10 (by decide), hs 11 (by decide), hs 12 (by decide), hs 13 (by decide), hs 14 (by decide), hs 15 (by decide)]
  | 22, hs => by simp only [cel, hs 35 (by decide), hs 36 (by decide), hs 37 (by decide), hs 38 (by decide)]
  | 23, hs => by simp only [cel, hs 43 (by decide)]
  | 24, hs => by simp only [cel, hs 44 (by decide), hs 45 (by decide)]
  | _ + 25, _ => rfl
theorem dom_congr {S S' : MS} {i : Int} (h2 : S' 2 = S 2) (h7 : S' 7 = S 7) (h34 : S' 34 = S 34) (h43 : S' 43 = S 43) (k : Nat) : dom S' k i = dom S k i := by
  unfold dom
  rw [h2, h7, h34, h43]
theorem dom_lt {S : MS} {k : Nat} {i : Int} (h : dom S k i) : k < 25 := by
  unfold dom at h
  split at h <;> omega
def CR (E : EV) (A : AD) (S : MS) (h : AH) : Prop :=
  (∀ k i, dom S k i → h (A k i) = some (cel E A S k i)) ∧ (∀ k i k' i', dom S k i → dom S k' i' → A k i = A k' i' → k = k' ∧ i = i') ∧ (∀ k z, InR (S k z))
theorem CR.up {E : EV} {A : AD} {S S' : MS} {h : AH} {k : Nat} {i : Int} {e : va_E} (hC : CR E A S h) (hk : dom S k i) (hd : ∀ k' i', dom S' k' i' → dom S k' i') (hc : ∀ k' i', dom S' k' i' → ¬ (k' = k ∧ i' = i) → cel E A S' k' i' = cel E A S k' i') (he : cel E A S' k i = e) (hR : ∀ k z, InR (S' k z)) : CR E A S' (ah_up h (A k i) e) := by
  refine ⟨fun k' i' hd' => ?_, fun k1 i1 k2 i2 d1 d2 => hC.2.1 k1 i1 k2 i2 (hd _ _ d1) (hd _ _ d2), hR⟩
  unfold ah_up
  by_cases e1 : k' = k ∧ i' = i
  · obtain ⟨rfl, rfl⟩ := e1
    rw [if_pos rfl, he]
  · rw [if_neg (fun q => e1 (hC.2.1 _ _ _ _ (hd _ _ hd') hk q)), hC.1 _ _ (hd _ _ hd'), hc _ _ hd' e1]
theorem CR.eqv {E : EV} {A : AD} {S S' : MS} {h : AH} (hC : CR E A S h) (hs : ∀ k, k < 25 → ∀ s ∈ slo k, S' s = S s) (hR : ∀ k z, InR (S' k z)) : CR E A S' h := by
  have hd : ∀ k i, dom S' k i = dom S k i := fun k i => dom_congr (hs 0 (by decide) 2 (by decide)) (hs 0 (by decide) 7 (by decide)) (hs 0 (by decide) 34 (by decide)) (hs 8 (by decide) 43 (by decide)) k
  refine ⟨fun k i h1 => ?_, fun k1 i1 k2 i2 d1 d2 => hC.2.1 k1 i1 k2 i2 (hd _ _ ▸ d1) (hd _ _ ▸ d2), hR⟩
  rw [hd] at h1
  rw [hC.1 k i h1, cel_congr k (hs k (dom_lt h1))]
theorem CR.off {E : EV} {A : AD} {S : MS} {h : AH} {q : Nat} {e : va_E} (hC : CR E A S h) (ho : ∀ k i, dom S k i → A k i ≠ q) : CR E A S (ah_up h q e) := by
  refine ⟨fun k i hd => ?_, hC.2.1, hC.2.2⟩
  unfold ah_up
  rw [if_neg (ho k i hd)]
  exact hC.1 k i hd
theorem CR.frs {E : EV} {A : AD} {S : MS} {h : AH} {q : Nat} (hC : CR E A S h) (hq : h q = none) : ∀ k i, dom S k i → A k i ≠ q := by
  intro k i hd e
  rw [← e, hC.1 k i hd] at hq
  cases hq
/-- slot s is of kind k alone, and no part of what there is -/
def sole (k s : Nat) : Bool := (List.range 25).all (fun j => j == k || !(slo j).contains s) && !([2, 7, 34, 43].contains s)
theorem sole_ne {k s : Nat} (h : sole k s = true) : (∀ j, j < 25 → j ≠ k → s ∉ slo j) ∧ s ≠ 2 ∧ s ≠ 7 ∧ s ≠ 34 ∧ s ≠ 43 := by
  unfold sole at h
  rw [Bool.and_eq_true, List.all_eq_true] at h
  refine ⟨fun j hj hne hm => ?_, ?_, ?_, ?_, ?_⟩
  · have h1 := h.1 j (List.mem_range.mpr hj)
    simp [hne, hm] at h1
  all_goals (rintro rfl; simp at h)
theorem dom_up {S : MS} {s : Nat} {z w : Int} (hs : s ≠ 2 ∧ s ≠ 7 ∧ s ≠ 34 ∧ s ≠ 43) (k : Nat) (i : Int) : dom (upS S s z w) k i = dom S k i :=
  dom_congr (upS_ne (Ne.symm hs.1)) (upS_ne (Ne.symm hs.2.1)) (upS_ne (Ne.symm hs.2.2.1)) (upS_ne (Ne.symm hs.2.2.2)) k
theorem CR.set {E : EV} {A : AD} {S : MS} {h : AH} {k s : Nat} {i z w : Int} {e : va_E} (hC : CR E A S h) (hk : dom S k i) (hs : sole k s = true) (hi : ∀ i', dom S k i' → i' ≠ i → cel E A (upS S s z w) k i' = cel E A S k i') (he : cel E A (upS S s z w) k i = e) (hw : InR w) : CR E A (upS S s z w) (ah_up h (A k i) e) := by
  obtain ⟨h1, h2⟩ := sole_ne hs
  refine hC.up hk (fun k' i' hd => by rw [dom_up h2] at hd; exact hd) (fun k' i' hd hne => ?_) he (upS_in hC.2.2 hw)
  rw [dom_up h2] at hd
  by_cases e1 : k' = k
  · subst e1
    exact hi i' hd (fun q => hne ⟨rfl, q⟩)
  · exact cel_congr k' (fun s' hs' => upS_ne (fun q => h1 k' (dom_lt hd) e1 (q ▸ hs')))
theorem dom_0 {S : MS} {k : Nat} (hk : k < 19) : dom S k 0 := by
  unfold dom
  split <;> first | omega | exact ⟨hk, rfl⟩
theorem dom_0i {S : MS} {k : Nat} {i : Int} (hk : k < 19) (h : dom S k i) : i = 0 := by
  unfold dom at h
  split at h <;> omega
theorem CR.set0 {E : EV} {A : AD} {S : MS} {h : AH} {k s : Nat} {z w : Int} {e : va_E} (hC : CR E A S h) (hk : k < 19) (hs : sole k s = true) (he : cel E A (upS S s z w) k 0 = e) (hw : InR w) : CR E A (upS S s z w) (ah_up h (A k 0) e) :=
  hC.set (dom_0 hk) hs (fun i' hd hne => absurd (dom_0i hk hd) hne) he hw
def aslot (k : Nat) : Nat :=
  match k with
  | 4 => 41
  | 5 => 42
  | 6 => 69
  | 7 => 71
  | 10 => 50
  | 14 => 51
  | 15 => 52
  | 16 => 53
  | 17 => 54
  | 18 => 55
  | _ => 0
def alen (k : Nat) : Nat :=
  match k with
  | 4 => 20
  | 5 => 20
  | 6 => 40
  | 7 => 40
  | 10 => 7
  | 14 => 10
  | 15 => 10
  | 16 => 10
  | 17 => 10
  | 18 => 10
  | _ => 0
theorem cel_ar {E : EV} {A : AD} {S : MS} : ∀ k, 0 < alen k → cel E A S k 0 = arI E (alen k) (S (aslot k))
  | 0, hk => absurd hk (by decide)
  | 1, hk => absurd hk (by decide)
  | 2, hk => absurd hk (by decide)
  | 3, hk => absurd hk (by decide)
  | 4, hk => rfl
  | 5, hk => rfl
  | 6, hk => rfl
  | 7, hk => rfl
  | 8, hk => absurd hk (by decide)
  | 9, hk => absurd hk (by decide)
  | 10, hk => rfl
  | 11, hk => absurd hk (by decide)
  | 12, hk => absurd hk (by decide)
  | 13, hk => absurd hk (by decide)
  | 14, hk => rfl
  | 15, hk => rfl
  | 16, hk => rfl
  | 17, hk => rfl
  | 18, hk => rfl
  | k + 19, hk => absurd hk (Nat.lt_irrefl 0)
theorem alen_lt {k : Nat} (h : 0 < alen k) : k < 19 ∧ alen k < 2 ^ 31 := by
  unfold alen at h ⊢
  split at h <;> first | decide | omega
theorem CR.k0 {E : EV} {A : AD} {S : MS} {h : AH} (hC : CR E A S h) : h (A 0 0) = some (ob 9 [.ref (A 1 0), .ref (A 2 0), .ref (A 3 0), .ref (A 4 0), .ref (A 5 0), .ref (A 6 0), .ref (A 7 0), .ref (A 8 0), .ref (A 9 0), .ref (A 11 0), vI (S 2 0), vI (S 7 0), vI (S 34 0), vI (S 40 0), vI (S 70 0), vI (S 16 0), vI (S 31 0)]) := hC.1 0 0 (dom_0 (by decide))
theorem CR.k1 {E : EV} {A : AD} {S : MS} {h : AH} (hC : CR E A S h) : h (A 1 0) = some (arR E 1 8 (fun j => if j < S 2 0 then some (A 20 j) else none)) := hC.1 1 0 (dom_0 (by decide))
theorem CR.k2 {E : EV} {A : AD} {S : MS} {h : AH} (hC : CR E A S h) : h (A 2 0) = some (arR E 2 40 (fun j => if j < S 7 0 then some (A 21 j) else none)) := hC.1 2 0 (dom_0 (by decide))
theorem CR.k3 {E : EV} {A : AD} {S : MS} {h : AH} (hC : CR E A S h) : h (A 3 0) = some (arR E 3 60 (fun j => if j < S 34 0 then some (A 22 j) else none)) := hC.1 3 0 (dom_0 (by decide))
theorem CR.k4 {E : EV} {A : AD} {S : MS} {h : AH} (hC : CR E A S h) : h (A 4 0) = some (arI E 20 (S 41)) := hC.1 4 0 (dom_0 (by decide))
theorem CR.k5 {E : EV} {A : AD} {S : MS} {h : AH} (hC : CR E A S h) : h (A 5 0) = some (arI E 20 (S 42)) := hC.1 5 0 (dom_0 (by decide))
theorem CR.k6 {E : EV} {A : AD} {S : MS} {h : AH} (hC : CR E A S h) : h (A 6 0) = some (arI E 40 (S 69)) := hC.1 6 0 (dom_0 (by decide))
theorem CR.k7 {E : EV} {A : AD} {S : MS} {h : AH} (hC : CR E A S h) : h (A 7 0) = some (arI E 40 (S 71)) := hC.1 7 0 (dom_0 (by decide))
theorem CR.k8 {E : EV} {A : AD} {S : MS} {h : AH} (hC : CR E A S h) : h (A 8 0) = some (arR E 4 4 (fun j => if 0 ≤ S 43 j then some (A 23 j) else none)) := hC.1 8 0 (dom_0 (by decide))
theorem CR.k9 {E : EV} {A : AD} {S : MS} {h : AH} (hC : CR E A S h) : h (A 9 0) = some (ob 1 [.ref (A 10 0)]) := hC.1 9 0 (dom_0 (by decide))
theorem CR.k10 {E : EV} {A : AD} {S : MS} {h : AH} (hC : CR E A S h) : h (A 10 0) = some (arI E 7 (S 50)) := hC.1 10 0 (dom_0 (by decide))
theorem CR.k11 {E : EV} {A : AD} {S : MS} {h : AH} (hC : CR E A S h) : h (A 11 0) = some (ob 6 [.ref (A 12 0), .ref (A 13 0), .ref (A 14 0), .ref (A 15 0), .ref (A 16 0), .ref (A 17 0), .ref (A 18 0), vI (S 56 0), vI (S 57 0)]) := hC.1 11 0 (dom_0 (by decide))
theorem CR.k12 {E : EV} {A : AD} {S : MS} {h : AH} (hC : CR E A S h) : h (A 12 0) = some (arR E 5 10 (fun j => some (A 19 j))) := hC.1 12 0 (dom_0 (by decide))
theorem CR.k13 {E : EV} {A : AD} {S : MS} {h : AH} (hC : CR E A S h) : h (A 13 0) = some (arR E 6 10 (fun j => if 0 ≤ S 68 j then some (A 21 (S 68 j)) else none)) := hC.1 13 0 (dom_0 (by decide))
theorem CR.k14 {E : EV} {A : AD} {S : MS} {h : AH} (hC : CR E A S h) : h (A 14 0) = some (arI E 10 (S 51)) := hC.1 14 0 (dom_0 (by decide))
theorem CR.k15 {E : EV} {A : AD} {S : MS} {h : AH} (hC : CR E A S h) : h (A 15 0) = some (arI E 10 (S 52)) := hC.1 15 0 (dom_0 (by decide))
theorem CR.k16 {E : EV} {A : AD} {S : MS} {h : AH} (hC : CR E A S h) : h (A 16 0) = some (arI E 10 (S 53)) := hC.1 16 0 (dom_0 (by decide))
theorem CR.k17 {E : EV} {A : AD} {S : MS} {h : AH} (hC : CR E A S h) : h (A 17 0) = some (arI E 10 (S 54)) := hC.1 17 0 (dom_0 (by decide))
theorem CR.k18 {E : EV} {A : AD} {S : MS} {h : AH} (hC : CR E A S h) : h (A 18 0) = some (arI E 10 (S 55)) := hC.1 18 0 (dom_0 (by decide))
theorem CR.k19 {E : EV} {A : AD} {S : MS} {h : AH} {i : Int} (hC : CR E A S h) (hi : 0 ≤ i ∧ i < 10) : h (A 19 i) = some (ob 2 [vI (S 58 i), vI (S 59 i), vI (S 60 i), vI (S 61 i), vI (S 62 i), vI (S 63 i), vI (S 64 i), vI (S 65 i), vI (S 66 i), vI (S 67 i)]) := hC.1 19 i hi
theorem CR.k20 {E : EV} {A : AD} {S : MS} {h : AH} {i : Int} (hC : CR E A S h) (hi : 0 ≤ i ∧ i < S 2 0) : h (A 20 i) = some (ob 7 [vI i, vI (S 3 i), vI (S 4 i), vI (S 5 i), vI (S 6 i)]) := hC.1 20 i hi
theorem CR.k22 {E : EV} {A : AD} {S : MS} {h : AH} {i : Int} (hC : CR E A S h) (hi : 0 ≤ i ∧ i < S 34 0) : h (A 22 i) = some (ob 8 [.ref (A 20 (S 35 i)), vI (S 36 i), vI (S 37 i), vI (S 38 i)]) := hC.1 22 i hi
theorem CR.k23 {E : EV} {A : AD} {S : MS} {h : AH} {i : Int} (hC : CR E A S h) (hi : (0 ≤ i ∧ i < 4) ∧ 0 ≤ S 43 i) : h (A 23 i) = some (ob 5 [vI (S 43 i), .ref (A 24 i)]) := hC.1 23 i hi
theorem CR.k24 {E : EV} {A : AD} {S : MS} {h : AH} {i : Int} (hC : CR E A S h) (hi : (0 ≤ i ∧ i < 4) ∧ 0 ≤ S 43 i) : h (A 24 i) = some (arI E (S 44 i).toNat (fun z => if 0 ≤ z ∧ z < 36 then S 45 (36 * i + z) else 0)) := hC.1 24 i hi
section CRULES
variable {E : EV} {own : String} {cc : ByteArray} {nL : Nat} {ret : Option FieldType} {mn : String} {Q : Option Value → AH → Prop} {d kc ks pc : Nat} {L : List (Nat × Value)} {st : List Value} {h : AH} {A : AD} {S : MS}
theorem c_ld {k s : Nat} {z : Int} (hC : CR E A S h) (hk : 0 < alen k) (hs : aslot k = s) (hd : decode cc pc = .ok (.iaload, 1)) (h0 : 0 ≤ z) (h1 : z < (alen k : Int)) (kk : Ev E own cc nL ret mn Q d kc ks (pc + 1) L (vI (S s z) :: st) h) : Ev E own cc nL ret mn Q d kc ks pc L (vI z :: .ref (A k 0) :: st) h := by
  subst hs
  exact ev_iaload hd ((hC.1 k 0 (dom_0 (alen_lt hk).1)).trans (congrArg some (cel_ar k hk))) (alen_lt hk).2 h0 h1 kk
theorem c_ldE {k s : Nat} {z v : Int} (hC : CR E A S h) (hk : 0 < alen k) (hs : aslot k = s) (hv : S s z = v) (hd : decode cc pc = .ok (.iaload, 1)) (h0 : 0 ≤ z) (h1 : z < (alen k : Int)) (kk : Ev E own cc nL ret mn Q d kc ks (pc + 1) L (vI v :: st) h) : Ev E own cc nL ret mn Q d kc ks pc L (vI z :: .ref (A k 0) :: st) h := by
  subst hv
  exact c_ld hC hk hs hd h0 h1 kk
theorem c_st {k s : Nat} {z w : Int} (hC : CR E A S h) (hk : 0 < alen k) (hs : aslot k = s) (hso : sole k s = true) (hd : decode cc pc = .ok (.iastore, 1)) (h0 : 0 ≤ z) (h1 : z < (alen k : Int)) (hw : InR w) (kk : ∀ S' h', S' = upS S s z w → CR E A S' h' → Ev E own cc nL ret mn Q d kc ks (pc + 1) L st h') : Ev E own cc nL ret mn Q d kc ks pc L (vI w :: vI z :: .ref (A k 0) :: st) h := by
  subst hs
  exact ev_iastore hd ((hC.1 k 0 (dom_0 (alen_lt hk).1)).trans (congrArg some (cel_ar k hk))) (alen_lt hk).2 h0 h1 (kk _ _ rfl (hC.set0 (alen_lt hk).1 hso (by rw [cel_ar k hk, upS_k]) hw))
theorem c_ldI {i z : Int} (hC : CR E A S h) (hi : (0 ≤ i ∧ i < 4) ∧ 0 ≤ S 43 i) (hd : decode cc pc = .ok (.iaload, 1)) (h0 : 0 ≤ z) (h1 : z < S 44 i) (h2 : S 44 i ≤ 36) (kk : Ev E own cc nL ret mn Q d kc ks (pc + 1) L (vI (S 45 (36 * i + z)) :: st) h) : Ev E own cc nL ret mn Q d kc ks pc L (vI z :: .ref (A 24 i) :: st) h := by
  refine ev_iaload (f := fun z => if 0 ≤ z ∧ z < 36 then S 45 (36 * i + z) else 0) hd (hC.k24 hi) (by omega) h0 (by omega) ?_
  try dsimp only
  rw [if_pos (by omega)]
  exact kk
theorem c_lenI {i : Int} (hC : CR E A S h) (hi : (0 ≤ i ∧ i < 4) ∧ 0 ≤ S 43 i) (h0 : 0 ≤ S 44 i) (hd : decode cc pc = .ok (.arraylength, 1)) (kk : Ev E own cc nL ret mn Q d kc ks (pc + 1) L (vI (S 44 i) :: st) h) : Ev E own cc nL ret mn Q d kc ks pc L (.ref (A 24 i) :: st) h := by
  refine ev_alen (f := fun z => if 0 ≤ z ∧ z < 36 then S 45 (36 * i + z) else 0) hd (hC.k24 hi) ?_
  rw [Int.toNat_of_nonneg h0]
  exact kk
theorem c_stI {i z w : Int} (hC : CR E A S h) (hi : (0 ≤ i ∧ i < 4) ∧ 0 ≤ S 43 i) (hd : decode cc pc = .ok (.iastore, 1)) (h0 : 0 ≤ z) (h1 : z < S 44 i) (h2 : S 44 i ≤ 36) (hw : InR w) (kk : ∀ S' h', S' = upS S 45 (36 * i + z) w → CR E A S' h' → Ev E own cc nL ret mn Q d kc ks (pc + 1) L st h') : Ev E own cc nL ret mn Q d kc ks pc L (vI w :: vI z :: .ref (A 24 i) :: st) h := by
  refine ev_iastore (f := fun z => if 0 ≤ z ∧ z < 36 then S 45 (36 * i + z) else 0) hd (hC.k24 hi) (by omega) h0 (by omega) (kk _ _ rfl (hC.set (k := 24) (i := i) hi (by decide) (fun i' hd' hne => ?_) ?_ hw))
  · have hd2 : (0 ≤ i' ∧ i' < 4) ∧ 0 ≤ S 43 i' := hd'
    have hf : (fun y => if 0 ≤ y ∧ y < 36 then upS S 45 (36 * i + z) w 45 (36 * i' + y) else 0) = (fun y => if 0 ≤ y ∧ y < 36 then S 45 (36 * i' + y) else 0) := by
      funext j
      by_cases q : 0 ≤ j ∧ j < 36
      · rw [if_pos q, if_pos q, upS_nz (by omega)]
      · rw [if_neg q, if_neg q]
    show arI E (upS S 45 (36 * i + z) w 44 i').toNat (fun y => if 0 ≤ y ∧ y < 36 then upS S 45 (36 * i + z) w 45 (36 * i' + y) else 0) = _
    rw [hf, upS_ne (by decide)]
    rfl
  · have hf : (fun y => if 0 ≤ y ∧ y < 36 then upS S 45 (36 * i + z) w 45 (36 * i + y) else 0) = updZ (fun y => if 0 ≤ y ∧ y < 36 then S 45 (36 * i + y) else 0) z w := by
      funext j
      unfold updZ
      by_cases e : j = z
      · rw [if_pos e, if_pos (by omega), e, upS_at]
      · rw [if_neg e]
        (try dsimp only)
        by_cases q : 0 ≤ j ∧ j < 36
        · rw [if_pos q, if_pos q, upS_nz (by omega)]
        · rw [if_neg q, if_neg q]
    show arI E (upS S 45 (36 * i + z) w 44 i).toNat (fun y => if 0 ≤ y ∧ y < 36 then upS S 45 (36 * i + z) w 45 (36 * i + y) else 0) = _
    rw [hf, upS_ne (by decide)]
theorem c_aa1 {z : Int} (hC : CR E A S h) (hd : decode cc pc = .ok (.aaload, 1)) (h0 : 0 ≤ z) (h1 : z < 8) (h2 : z < S 2 0) (kk : Ev E own cc nL ret mn Q d kc ks (pc + 1) L (.ref (A 20 z) :: st) h) : Ev E own cc nL ret mn Q d kc ks pc L (vI z :: .ref (A 1 0) :: st) h := by
  refine ev_aaload (C := RX7) (f := fun j => if j < S 2 0 then some (A 20 j) else none) rfl hd hC.k1 (by decide) h0 (by omega) ?_
  try dsimp only
  rw [if_pos h2]
  exact kk
theorem c_aa2 {z : Int} (hC : CR E A S h) (hd : decode cc pc = .ok (.aaload, 1)) (h0 : 0 ≤ z) (h1 : z < 40) (h2 : z < S 7 0) (kk : Ev E own cc nL ret mn Q d kc ks (pc + 1) L (.ref (A 21 z) :: st) h) : Ev E own cc nL ret mn Q d kc ks pc L (vI z :: .ref (A 2 0) :: st) h := by
  refine ev_aaload (C := RX3) (f := fun j => if j < S 7 0 then some (A 21 j) else none) rfl hd hC.k2 (by decide) h0 (by omega) ?_
  try dsimp only
  rw [if_pos h2]
  exact kk
theorem c_aa3 {z : Int} (hC : CR E A S h) (hd : decode cc pc = .ok (.aaload, 1)) (h0 : 0 ≤ z) (h1 : z < 60) (h2 : z < S 34 0) (kk : Ev E own cc nL ret mn Q d kc ks (pc + 1) L (.ref (A 22 z) :: st) h) : Ev E own cc nL ret mn Q d kc ks pc L (vI z :: .ref (A 3 0) :: st) h := by
  refine ev_aaload (C := RX8) (f := fun j => if j < S 34 0 then some (A 22 j) else none) rfl hd hC.k3 (by decide) h0 (by omega) ?_
  try dsimp only
  rw [if_pos h2]
  exact kk
theorem c_aa8 {z : Int} (hC : CR E A S h) (hd : decode cc pc = .ok (.aaload, 1)) (h0 : 0 ≤ z) (h1 : z < 4) (ky : 0 ≤ S 43 z → Ev E own cc nL ret mn Q d kc ks (pc + 1) L (.ref (A 23 z) :: st) h) (kn : S 43 z < 0 → Ev E own cc nL ret mn Q d kc ks (pc + 1) L (.null :: st) h) : Ev E own cc nL ret mn Q d kc ks pc L (vI z :: .ref (A 8 0) :: st) h := by
  refine ev_aaload (C := RX5) (f := fun j => if 0 ≤ S 43 j then some (A 23 j) else none) rfl hd hC.k8 (by decide) h0 (by omega) ?_
  try dsimp only
  by_cases e : 0 ≤ S 43 z
  · rw [if_pos e]
    exact ky e
  · rw [if_neg e]
    exact kn (by omega)
theorem c_aa12 {z : Int} (hC : CR E A S h) (hd : decode cc pc = .ok (.aaload, 1)) (h0 : 0 ≤ z) (h1 : z < 10) (kk : Ev E own cc nL ret mn Q d kc ks (pc + 1) L (.ref (A 19 z) :: st) h) : Ev E own cc nL ret mn Q d kc ks pc L (vI z :: .ref (A 12 0) :: st) h := by
  exact ev_aaload (C := RX2) (f := fun j => some (A 19 j)) rfl hd hC.k12 (by decide) h0 (by omega) kk
theorem c_aa13 {z v : Int} (hC : CR E A S h) (hv : S 68 z = v) (hv0 : 0 ≤ v) (hd : decode cc pc = .ok (.aaload, 1)) (h0 : 0 ≤ z) (h1 : z < 10) (kk : Ev E own cc nL ret mn Q d kc ks (pc + 1) L (.ref (A 21 v) :: st) h) : Ev E own cc nL ret mn Q d kc ks pc L (vI z :: .ref (A 13 0) :: st) h := by
  subst hv
  refine ev_aaload (C := RX0) (f := fun j => if 0 ≤ S 68 j then some (A 21 (S 68 j)) else none) rfl hd hC.k13 (by decide) h0 (by omega) ?_
  try dsimp only
  rw [if_pos hv0]
  exact kk
theorem CR.s3 {i : Int} (hC : CR E A S h) (hi : SG S i) (e : S 8 i = 0) : h (A 21 i) = some (ob 3 [.ref (A 20 (S 9 i)), vI (S 10 i), vI (S 11 i), vI (S 12 i), vI (S 13 i)]) := by
  rw [hC.1 21 i hi]
  simp only [cel]
  rw [if_pos e]
theorem CR.s0 {i : Int} (hC : CR E A S h) (hi : SG S i) (e : S 8 i = 1) : h (A 21 i) = some (ob 0 [.ref (A 20 (S 9 i)), vI (S 10 i), vI (S 11 i), vI (S 12 i), vI (S 13 i), vI (S 14 i), vI (sinZ (S 12 i)), vI (cosZ (S 12 i))]) := by
  rw [hC.1 21 i hi]
  simp only [cel]
  rw [if_neg (by omega), if_pos e]
theorem CR.s4 {i : Int} (hC : CR E A S h) (hi : SG S i) (e : S 8 i = 2) : h (A 21 i) = some (ob 4 [vI (S 14 i), vI (sinZ (S 12 i)), vI (cosZ (S 12 i)), .ref (A 20 (S 9 i)), vI (S 10 i), vI (S 11 i), vI (S 12 i), vI (S 13 i), vI (S 15 i)]) := by
  rw [hC.1 21 i hi]
  simp only [cel]
  rw [if_neg (by omega), if_neg (by omega)]
theorem kinds {i : Int} (hI : Inv S) (hi : SG S i) : S 8 i = 0 ∨ S 8 i = 1 ∨ S 8 i = 2 := by
  have := (hI.2.2.2.2.2.2.2.1 i hi.1 hi.2).1
  omega
theorem c_as13 {z v : Int} (hC : CR E A S h) (hI : Inv S) (hv : SG S v) (hv8 : S 8 v ≠ 0) (hw : InR v) (hd : decode cc pc = .ok (.aastore, 1)) (h0 : 0 ≤ z) (h1 : z < 10) (kk : ∀ S' h', S' = upS S 68 z v → CR E A S' h' → Ev E own cc nL ret mn Q d kc ks (pc + 1) L st h') : Ev E own cc nL ret mn Q d kc ks pc L (.ref (A 21 v) :: vI z :: .ref (A 13 0) :: st) h := by
  have hq := hC.k13
  have hset : CR E A (upS S 68 z v) (ah_up h (A 13 0) (arR E 6 10 (updR (fun j => if 0 ≤ S 68 j then some (A 21 (S 68 j)) else none) z (some (A 21 v))))) := by
    refine hC.set0 (by decide) (by decide) ?_ hw
    simp only [cel]
    congr 7
    funext j
    unfold updR
    by_cases e : (j : Int) = z
    · rw [if_pos e, e, upS_at, if_pos hv.1]
    · rw [if_neg e, upS_nz e]
  rcases kinds hI hv with e | e | e
  · exact absurd e hv8
  · exact ev_aastore (f := fun j => if 0 ≤ S 68 j then some (A 21 (S 68 j)) else none) (ci := 0) (r := (RX0, TX0, 8)) rfl rfl hd hq (hC.s0 hv e) (by decide) h0 (by omega) (kk _ _ rfl hset)
  · exact ev_aastoreO (f := fun j => if 0 ≤ S 68 j then some (A 21 (S 68 j)) else none) (ci := 4) (r := (RX4, TX4, 9)) (C := RX0) rfl (by decide) rfl hd hq (hC.s4 hv e) (by decide) h0 (by omega) (kk _ _ rfl hset)
theorem cg_X1_9 (hC : CR E A S h)  (hd : decode cc pc = .ok (.getfield 9, 3)) (kk : Ev E RX1 cc nL ret mn Q d kc ks (pc + 3) L (.ref (A 10 0) :: st) h) : Ev E RX1 cc nL ret mn Q d kc ks pc L (.ref (A 9 0) :: st) h := g_X1_9_1 hd (hC.k9) rfl kk
theorem cg_X6_99 (hC : CR E A S h)  (hd : decode cc pc = .ok (.getfield 99, 3)) (kk : Ev E RX6 cc nL ret mn Q d kc ks (pc + 3) L (.ref (A 10 0) :: st) h) : Ev E RX6 cc nL ret mn Q d kc ks pc L (.ref (A 9 0) :: st) h := g_X6_99_1 hd (hC.k9) rfl kk
theorem cg_X9_173 (hC : CR E A S h)  (hd : decode cc pc = .ok (.getfield 173, 3)) (kk : Ev E RX9 cc nL ret mn Q d kc ks (pc + 3) L (.ref (A 10 0) :: st) h) : Ev E RX9 cc nL ret mn Q d kc ks pc L (.ref (A 9 0) :: st) h := g_X9_173_1 hd (hC.k9) rfl kk
theorem cg_X2_9 {i : Int} (hC : CR E A S h) (hi : 0 ≤ i ∧ i < 10) (hd : decode cc pc = .ok (.getfield 9, 3)) (kk : Ev E RX2 cc nL ret mn Q d kc ks (pc + 3) L (vI (S 58 i) :: st) h) : Ev E RX2 cc nL ret mn Q d kc ks pc L (.ref (A 19 i) :: st) h := g_X2_9_2 hd (hC.k19 hi) rfl kk
theorem cgE_X2_9 {i : Int} {v : Int} (hC : CR E A S h) (hi : 0 ≤ i ∧ i < 10) (hv : S 58 i = v) (hd : decode cc pc = .ok (.getfield 9, 3)) (kk : Ev E RX2 cc nL ret mn Q d kc ks (pc + 3) L (vI v :: st) h) : Ev E RX2 cc nL ret mn Q d kc ks pc L (.ref (A 19 i) :: st) h := by
  subst hv
  exact cg_X2_9 hC hi hd kk
theorem cp_X2_9 {i : Int} {w : Int} (hC : CR E A S h) (hi : 0 ≤ i ∧ i < 10) (hw : InR w) (hd : decode cc pc = .ok (.putfield 9, 3)) (kk : ∀ S' h', S' = upS S 58 i w → CR E A S' h' → Ev E RX2 cc nL ret mn Q d kc ks (pc + 3) L st h') : Ev E RX2 cc nL ret mn Q d kc ks pc L (vI w :: .ref (A 19 i) :: st) h := p_X2_9_2 hd (hC.k19 hi) (Nat.le_of_ble_eq_true rfl) (kk _ _ rfl (hC.set (k := 19) (i := i) hi (by decide) (fun i' hd' hne => by simp only [cel, upS, if_neg hne, ite_self]) (by simp only [cel, upS, if_true, List.set, Nat.reduceEqDiff, if_false]) hw))
theorem cg_X2_62 {i : Int} (hC : CR E A S h) (hi : 0 ≤ i ∧ i < 10) (hd : decode cc pc = .ok (.getfield 62, 3)) (kk : Ev E RX2 cc nL ret mn Q d kc ks (pc + 3) L (vI (S 59 i) :: st) h) : Ev E RX2 cc nL ret mn Q d kc ks pc L (.ref (A 19 i) :: st) h := g_X2_62_2 hd (hC.k19 hi) rfl kk
theorem cgE_X2_62 {i : Int} {v : Int} (hC : CR E A S h) (hi : 0 ≤ i ∧ i < 10) (hv : S 59 i = v) (hd : decode cc pc = .ok (.getfield 62, 3)) (kk : Ev E RX2 cc nL ret mn Q d kc ks (pc + 3) L (vI v :: st) h) : Ev E RX2 cc nL ret mn Q d kc ks pc L (.ref (A 19 i) :: st) h := by
  subst hv
  exact cg_X2_62 hC hi hd kk
theorem cp_X2_62 {i : Int} {w : Int} (hC : CR E A S h) (hi : 0 ≤ i ∧ i < 10) (hw : InR w) (hd : decode cc pc = .ok (.putfield 62, 3)) (kk : ∀ S' h', S' = upS S 59 i w → CR E A S' h' → Ev E RX2 cc nL ret mn Q d kc ks (pc + 3) L st h') : Ev E RX2 cc nL ret mn Q d kc ks pc L (vI w :: .ref (A 19 i) :: st) h := p_X2_62_2 hd (hC.k19 hi) (Nat.le_of_ble_eq_true rfl) (kk _ _ rfl (hC.set (k := 19) (i := i) hi (by decide) (fun i' hd' hne => by simp only [cel, upS, if_neg hne, ite_self]) (by simp only [cel, upS, if_true, List.set, Nat.reduceEqDiff, if_false]) hw))
theorem cg_X2_18 {i : Int} (hC : CR E A S h) (hi : 0 ≤ i ∧ i < 10) (hd : decode cc pc = .ok (.getfield 18, 3)) (kk : Ev E RX2 cc nL ret mn Q d kc ks (pc + 3) L (vI (S 60 i) :: st) h) : Ev E RX2 cc nL ret mn Q d kc ks pc L (.ref (A 19 i) :: st) h := g_X2_18_2 hd (hC.k19 hi) rfl kk
theorem cgE_X2_18 {i : Int} {v : Int} (hC : CR E A S h) (hi : 0 ≤ i ∧ i < 10) (hv : S 60 i = v) (hd : decode cc pc = .ok (.getfield 18, 3)) (kk : Ev E RX2 cc nL ret mn Q d kc ks (pc + 3) L (vI v :: st) h) : Ev E RX2 cc nL ret mn Q d kc ks pc L (.ref (A 19 i) :: st) h := by
  subst hv
  exact cg_X2_18 hC hi hd kk
theorem cp_X2_18 {i : Int} {w : Int} (hC : CR E A S h) (hi : 0 ≤ i ∧ i < 10) (hw : InR w) (hd : decode cc pc = .ok (.putfield 18, 3)) (kk : ∀ S' h', S' = upS S 60 i w → CR E A S' h' → Ev E RX2 cc nL ret mn Q d kc ks (pc + 3) L st h') : Ev E RX2 cc nL ret mn Q d kc ks pc L (vI w :: .ref (A 19 i) :: st) h := p_X2_18_2 hd (hC.k19 hi) (Nat.le_of_ble_eq_true rfl) (kk _ _ rfl (hC.set (k := 19) (i := i) hi (by decide) (fun i' hd' hne => by simp only [cel, upS, if_neg hne, ite_self]) (by simp only [cel, upS, if_true, List.set, Nat.reduceEqDiff, if_false]) hw))
theorem cg_X2_21 {i : Int} (hC : CR E A S h) (hi : 0 ≤ i ∧ i < 10) (hd : decode cc pc = .ok (.getfield 21, 3)) (kk : Ev E RX2 cc nL ret mn Q d kc ks (pc + 3) L (vI (S 61 i) :: st) h) : Ev E RX2 cc nL ret mn Q d kc ks pc L (.ref (A 19 i) :: st) h := g_X2_21_2 hd (hC.k19 hi) rfl kk
theorem cgE_X2_21 {i : Int} {v : Int} (hC : CR E A S h) (hi : 0 ≤ i ∧ i < 10) (hv : S 61 i = v) (hd : decode cc pc = .ok (.getfield 21, 3)) (kk : Ev E RX2 cc nL ret mn Q d kc ks (pc + 3) L (vI v :: st) h) : Ev E RX2 cc nL ret mn Q d kc ks pc L (.ref (A 19 i) :: st) h := by
  subst hv
  exact cg_X2_21 hC hi hd kk
theorem cp_X2_21 {i : Int} {w : Int} (hC : CR E A S h) (hi : 0 ≤ i ∧ i < 10) (hw : InR w) (hd : decode cc pc = .ok (.putfield 21, 3)) (kk : ∀ S' h', S' = upS S 61 i w → CR E A S' h' → Ev E RX2 cc nL ret mn Q d kc ks (pc + 3) L st h') : Ev E RX2 cc nL ret mn Q d kc ks pc L (vI w :: .ref (A 19 i) :: st) h := p_X2_21_2 hd (hC.k19 hi) (Nat.le_of_ble_eq_true rfl) (kk _ _ rfl (hC.set (k := 19) (i := i) hi (by decide) (fun i' hd' hne => by simp only [cel, upS, if_neg hne, ite_self]) (by simp only [cel, upS, if_true, List.set, Nat.reduceEqDiff, if_false]) hw))
theorem cg_X2_24 {i : Int} (hC : CR E A S h) (hi : 0 ≤ i ∧ i < 10) (hd : decode cc pc = .ok (.getfield 24, 3)) (kk : Ev E RX2 cc nL ret mn Q d kc ks (pc + 3) L (vI (S 62 i) :: st) h) : Ev E RX2 cc nL ret mn Q d kc ks pc L (.ref (A 19 i) :: st) h := g_X2_24_2 hd (hC.k19 hi) rfl kk
theorem cgE_X2_24 {i : Int} {v : Int} (hC : CR E A S h) (hi : 0 ≤ i ∧ i < 10) (hv : S 62 i = v) (hd : decode cc pc = .ok (.getfield 24, 3)) (kk : Ev E RX2 cc nL ret mn Q d kc ks (pc + 3) L (vI v :: st) h) : Ev E RX2 cc nL ret mn Q d kc ks pc L (.ref (A 19 i) :: st) h := by
  subst hv
  exact cg_X2_24 hC hi hd kk
theorem cp_X2_24 {i : Int} {w : Int} (hC : CR E A S h) (hi : 0 ≤ i ∧ i < 10) (hw : InR w) (hd : decode cc pc = .ok (.putfield 24, 3)) (kk : ∀ S' h', S' = upS S 62 i w → CR E A S' h' → Ev E RX2 cc nL ret mn Q d kc ks (pc + 3) L st h') : Ev E RX2 cc nL ret mn Q d kc ks pc L (vI w :: .ref (A 19 i) :: st) h := p_X2_24_2 hd (hC.k19 hi) (Nat.le_of_ble_eq_true rfl) (kk _ _ rfl (hC.set (k := 19) (i := i) hi (by decide) (fun i' hd' hne => by simp only [cel, upS, if_neg hne, ite_self]) (by simp only [cel, upS, if_true, List.set, Nat.reduceEqDiff, if_false]) hw))
theorem cg_X2_30 {i : Int} (hC : CR E A S h) (hi : 0 ≤ i ∧ i < 10) (hd : decode cc pc = .ok (.getfield 30, 3)) (kk : Ev E RX2 cc nL ret mn Q d kc ks (pc + 3) L (vI (S 63 i) :: st) h) : Ev E RX2 cc nL ret mn Q d kc ks pc L (.ref (A 19 i) :: st) h := g_X2_30_2 hd (hC.k19 hi) rfl kk
theorem cgE_X2_30 {i : Int} {v : Int} (hC : CR E A S h) (hi : 0 ≤ i ∧ i < 10) (hv : S 63 i = v) (hd : decode cc pc = .ok (.getfield 30, 3)) (kk : Ev E RX2 cc nL ret mn Q d kc ks (pc + 3) L (vI v :: st) h) : Ev E RX2 cc nL ret mn Q d kc ks pc L (.ref (A 19 i) :: st) h := by
  subst hv
  exact cg_X2_30 hC hi hd kk
theorem cp_X2_30 {i : Int} {w : Int} (hC : CR E A S h) (hi : 0 ≤ i ∧ i < 10) (hw : InR w) (hd : decode cc pc = .ok (.putfield 30, 3)) (kk : ∀ S' h', S' = upS S 63 i w → CR E A S' h' → Ev E RX2 cc nL ret mn Q d kc ks (pc + 3) L st h') : Ev E RX2 cc nL ret mn Q d kc ks pc L (vI w :: .ref (A 19 i) :: st) h := p_X2_30_2 hd (hC.k19 hi) (Nat.le_of_ble_eq_true rfl) (kk _ _ rfl (hC.set (k := 19) (i := i) hi (by decide) (fun i' hd' hne => by simp only [cel, upS, if_neg hne, ite_self]) (by simp only [cel, upS, if_true, List.set, Nat.reduceEqDiff, if_false]) hw))
theorem cg_X2_27 {i : Int} (hC : CR E A S h) (hi : 0 ≤ i ∧ i < 10) (hd : decode cc pc = .ok (.getfield 27, 3)) (kk : Ev E RX2 cc nL ret mn Q d kc ks (pc + 3) L (vI (S 64 i) :: st) h) : Ev E RX2 cc nL ret mn Q d kc ks pc L (.ref (A 19 i) :: st) h := g_X2_27_2 hd (hC.k19 hi) rfl kk
theorem cgE_X2_27 {i : Int} {v : Int} (hC : CR E A S h) (hi : 0 ≤ i ∧ i < 10) (hv : S 64 i = v) (hd : decode cc pc = .ok (.getfield 27, 3)) (kk : Ev E RX2 cc nL ret mn Q d kc ks (pc + 3) L (vI v :: st) h) : Ev E RX2 cc nL ret mn Q d kc ks pc L (.ref (A 19 i) :: st) h := by
  subst hv
  exact cg_X2_27 hC hi hd kk
theorem cp_X2_27 {i : Int} {w : Int} (hC : CR E A S h) (hi : 0 ≤ i ∧ i < 10) (hw : InR w) (hd : decode cc pc = .ok (.putfield 27, 3)) (kk : ∀ S' h', S' = upS S 64 i w → CR E A S' h' → Ev E RX2 cc nL ret mn Q d kc ks (pc + 3) L st h') : Ev E RX2 cc nL ret mn Q d kc ks pc L (vI w :: .ref (A 19 i) :: st) h := p_X2_27_2 hd (hC.k19 hi) (Nat.le_of_ble_eq_true rfl) (kk _ _ rfl (hC.set (k := 19) (i := i) hi (by decide) (fun i' hd' hne => by simp only [cel, upS, if_neg hne, ite_self]) (by simp only [cel, upS, if_true, List.set, Nat.reduceEqDiff, if_false]) hw))
theorem cg_X6_74 {i : Int} (hC : CR E A S h) (hi : 0 ≤ i ∧ i < 10) (hd : decode cc pc = .ok (.getfield 74, 3)) (kk : Ev E RX6 cc nL ret mn Q d kc ks (pc + 3) L (vI (S 64 i) :: st) h) : Ev E RX6 cc nL ret mn Q d kc ks pc L (.ref (A 19 i) :: st) h := g_X6_74_2 hd (hC.k19 hi) rfl kk
theorem cgE_X6_74 {i : Int} {v : Int} (hC : CR E A S h) (hi : 0 ≤ i ∧ i < 10) (hv : S 64 i = v) (hd : decode cc pc = .ok (.getfield 74, 3)) (kk : Ev E RX6 cc nL ret mn Q d kc ks (pc + 3) L (vI v :: st) h) : Ev E RX6 cc nL ret mn Q d kc ks pc L (.ref (A 19 i) :: st) h := by
  subst hv
  exact cg_X6_74 hC hi hd kk
theorem cp_X6_74 {i : Int} {w : Int} (hC : CR E A S h) (hi : 0 ≤ i ∧ i < 10) (hw : InR w) (hd : decode cc pc = .ok (.putfield 74, 3)) (kk : ∀ S' h', S' = upS S 64 i w → CR E A S' h' → Ev E RX6 cc nL ret mn Q d kc ks (pc + 3) L st h') : Ev E RX6 cc nL ret mn Q d kc ks pc L (vI w :: .ref (A 19 i) :: st) h := p_X6_74_2 hd (hC.k19 hi) (Nat.le_of_ble_eq_true rfl) (kk _ _ rfl (hC.set (k := 19) (i := i) hi (by decide) (fun i' hd' hne => by simp only [cel, upS, if_neg hne, ite_self]) (by simp only [cel, upS, if_true, List.set, Nat.reduceEqDiff, if_false]) hw))
theorem cg_X9_204 {i : Int} (hC : CR E A S h) (hi : 0 ≤ i ∧ i < 10) (hd : decode cc pc = .ok (.getfield 204, 3)) (kk : Ev E RX9 cc nL ret mn Q d kc ks (pc + 3) L (vI (S 64 i) :: st) h) : Ev E RX9 cc nL ret mn Q d kc ks pc L (.ref (A 19 i) :: st) h := g_X9_204_2 hd (hC.k19 hi) rfl kk
theorem cgE_X9_204 {i : Int} {v : Int} (hC : CR E A S h) (hi : 0 ≤ i ∧ i < 10) (hv : S 64 i = v) (hd : decode cc pc = .ok (.getfield 204, 3)) (kk : Ev E RX9 cc nL ret mn Q d kc ks (pc + 3) L (vI v :: st) h) : Ev E RX9 cc nL ret mn Q d kc ks pc L (.ref (A 19 i) :: st) h := by
  subst hv
  exact cg_X9_204 hC hi hd kk
theorem cp_X9_204 {i : Int} {w : Int} (hC : CR E A S h) (hi : 0 ≤ i ∧ i < 10) (hw : InR w) (hd : decode cc pc = .ok (.putfield 204, 3)) (kk : ∀ S' h', S' = upS S 64 i w → CR E A S' h' → Ev E RX9 cc nL ret mn Q d kc ks (pc + 3) L st h') : Ev E RX9 cc nL ret mn Q d kc ks pc L (vI w :: .ref (A 19 i) :: st) h := p_X9_204_2 hd (hC.k19 hi) (Nat.le_of_ble_eq_true rfl) (kk _ _ rfl (hC.set (k := 19) (i := i) hi (by decide) (fun i' hd' hne => by simp only [cel, upS, if_neg hne, ite_self]) (by simp only [cel, upS, if_true, List.set, Nat.reduceEqDiff, if_false]) hw))
theorem cg_X2_39 {i : Int} (hC : CR E A S h) (hi : 0 ≤ i ∧ i < 10) (hd : decode cc pc = .ok (.getfield 39, 3)) (kk : Ev E RX2 cc nL ret mn Q d kc ks (pc + 3) L (vI (S 65 i) :: st) h) : Ev E RX2 cc nL ret mn Q d kc ks pc L (.ref (A 19 i) :: st) h := g_X2_39_2 hd (hC.k19 hi) rfl kk
theorem cgE_X2_39 {i : Int} {v : Int} (hC : CR E A S h) (hi : 0 ≤ i ∧ i < 10) (hv : S 65 i = v) (hd : decode cc pc = .ok (.getfield 39, 3)) (kk : Ev E RX2 cc nL ret mn Q d kc ks (pc + 3) L (vI v :: st) h) : Ev E RX2 cc nL ret mn Q d kc ks pc L (.ref (A 19 i) :: st) h := by
  subst hv
  exact cg_X2_39 hC hi hd kk
theorem cp_X2_39 {i : Int} {w : Int} (hC : CR E A S h) (hi : 0 ≤ i ∧ i < 10) (hw : InR w) (hd : decode cc pc = .ok (.putfield 39, 3)) (kk : ∀ S' h', S' = upS S 65 i w → CR E A S' h' → Ev E RX2 cc nL ret mn Q d kc ks (pc + 3) L st h') : Ev E RX2 cc nL ret mn Q d kc ks pc L (vI w :: .ref (A 19 i) :: st) h := p_X2_39_2 hd (hC.k19 hi) (Nat.le_of_ble_eq_true rfl) (kk _ _ rfl (hC.set (k := 19) (i := i) hi (by decide) (fun i' hd' hne => by simp only [cel, upS, if_neg hne, ite_self]) (by simp only [cel, upS, if_true, List.set, Nat.reduceEqDiff, if_false]) hw))
theorem cg_X2_51 {i : Int} (hC : CR E A S h) (hi : 0 ≤ i ∧ i < 10) (hd : decode cc pc = .ok (.getfield 51, 3)) (kk : Ev E RX2 cc nL ret mn Q d kc ks (pc + 3) L (vI (S 66 i) :: st) h) : Ev E RX2 cc nL ret mn Q d kc ks pc L (.ref (A 19 i) :: st) h := g_X2_51_2 hd (hC.k19 hi) rfl kk
theorem cgE_X2_51 {i : Int} {v : Int} (hC : CR E A S h) (hi : 0 ≤ i ∧ i < 10) (hv : S 66 i = v) (hd : decode cc pc = .ok (.getfield 51, 3)) (kk : Ev E RX2 cc nL ret mn Q d kc ks (pc + 3) L (vI v :: st) h) : Ev E RX2 cc nL ret mn Q d kc ks pc L (.ref (A 19 i) :: st) h := by
  subst hv
  exact cg_X2_51 hC hi hd kk
theorem cp_X2_51 {i : Int} {w : Int} (hC : CR E A S h) (hi : 0 ≤ i ∧ i < 10) (hw : InR w) (hd : decode cc pc = .ok (.putfield 51, 3)) (kk : ∀ S' h', S' = upS S 66 i w → CR E A S' h' → Ev E RX2 cc nL ret mn Q d kc ks (pc + 3) L st h') : Ev E RX2 cc nL ret mn Q d kc ks pc L (vI w :: .ref (A 19 i) :: st) h := p_X2_51_2 hd (hC.k19 hi) (Nat.le_of_ble_eq_true rfl) (kk _ _ rfl (hC.set (k := 19) (i := i) hi (by decide) (fun i' hd' hne => by simp only [cel, upS, if_neg hne, ite_self]) (by simp only [cel, upS, if_true, List.set, Nat.reduceEqDiff, if_false]) hw))
theorem cg_X2_15 {i : Int} (hC : CR E A S h) (hi : 0 ≤ i ∧ i < 10) (hd : decode cc pc = .ok (.getfield 15, 3)) (kk : Ev E RX2 cc nL ret mn Q d kc ks (pc + 3) L (vI (S 67 i) :: st) h) : Ev E RX2 cc nL ret mn Q d kc ks pc L (.ref (A 19 i) :: st) h := g_X2_15_2 hd (hC.k19 hi) rfl kk
theorem cgE_X2_15 {i : Int} {v : Int} (hC : CR E A S h) (hi : 0 ≤ i ∧ i < 10) (hv : S 67 i = v) (hd : decode cc pc = .ok (.getfield 15, 3)) (kk : Ev E RX2 cc nL ret mn Q d kc ks (pc + 3) L (vI v :: st) h) : Ev E RX2 cc nL ret mn Q d kc ks pc L (.ref (A 19 i) :: st) h := by
  subst hv
  exact cg_X2_15 hC hi hd kk
theorem cp_X2_15 {i : Int} {w : Int} (hC : CR E A S h) (hi : 0 ≤ i ∧ i < 10) (hw : InR w) (hd : decode cc pc = .ok (.putfield 15, 3)) (kk : ∀ S' h', S' = upS S 67 i w → CR E A S' h' → Ev E RX2 cc nL ret mn Q d kc ks (pc + 3) L st h') : Ev E RX2 cc nL ret mn Q d kc ks pc L (vI w :: .ref (A 19 i) :: st) h := p_X2_15_2 hd (hC.k19 hi) (Nat.le_of_ble_eq_true rfl) (kk _ _ rfl (hC.set (k := 19) (i := i) hi (by decide) (fun i' hd' hne => by simp only [cel, upS, if_neg hne, ite_self]) (by simp only [cel, upS, if_true, List.set, Nat.reduceEqDiff, if_false]) hw))
theorem cg_X6_11 (hC : CR E A S h)  (hd : decode cc pc = .ok (.getfield 11, 3)) (kk : Ev E RX6 cc nL ret mn Q d kc ks (pc + 3) L (.ref (A 12 0) :: st) h) : Ev E RX6 cc nL ret mn Q d kc ks pc L (.ref (A 11 0) :: st) h := g_X6_11_6 hd (hC.k11) rfl kk
theorem cg_X9_185 (hC : CR E A S h)  (hd : decode cc pc = .ok (.getfield 185, 3)) (kk : Ev E RX9 cc nL ret mn Q d kc ks (pc + 3) L (.ref (A 12 0) :: st) h) : Ev E RX9 cc nL ret mn Q d kc ks pc L (.ref (A 11 0) :: st) h := g_X9_185_6 hd (hC.k11) rfl kk
theorem cg_X6_19 (hC : CR E A S h)  (hd : decode cc pc = .ok (.getfield 19, 3)) (kk : Ev E RX6 cc nL ret mn Q d kc ks (pc + 3) L (.ref (A 13 0) :: st) h) : Ev E RX6 cc nL ret mn Q d kc ks pc L (.ref (A 11 0) :: st) h := g_X6_19_6 hd (hC.k11) rfl kk
theorem cg_X6_23 (hC : CR E A S h)  (hd : decode cc pc = .ok (.getfield 23, 3)) (kk : Ev E RX6 cc nL ret mn Q d kc ks (pc + 3) L (.ref (A 14 0) :: st) h) : Ev E RX6 cc nL ret mn Q d kc ks pc L (.ref (A 11 0) :: st) h := g_X6_23_6 hd (hC.k11) rfl kk
theorem cg_X6_27 (hC : CR E A S h)  (hd : decode cc pc = .ok (.getfield 27, 3)) (kk : Ev E RX6 cc nL ret mn Q d kc ks (pc + 3) L (.ref (A 15 0) :: st) h) : Ev E RX6 cc nL ret mn Q d kc ks pc L (.ref (A 11 0) :: st) h := g_X6_27_6 hd (hC.k11) rfl kk
theorem cg_X6_30 (hC : CR E A S h)  (hd : decode cc pc = .ok (.getfield 30, 3)) (kk : Ev E RX6 cc nL ret mn Q d kc ks (pc + 3) L (.ref (A 16 0) :: st) h) : Ev E RX6 cc nL ret mn Q d kc ks pc L (.ref (A 11 0) :: st) h := g_X6_30_6 hd (hC.k11) rfl kk
theorem cg_X6_33 (hC : CR E A S h)  (hd : decode cc pc = .ok (.getfield 33, 3)) (kk : Ev E RX6 cc nL ret mn Q d kc ks (pc + 3) L (.ref (A 17 0) :: st) h) : Ev E RX6 cc nL ret mn Q d kc ks pc L (.ref (A 11 0) :: st) h := g_X6_33_6 hd (hC.k11) rfl kk
theorem cg_X6_36 (hC : CR E A S h)  (hd : decode cc pc = .ok (.getfield 36, 3)) (kk : Ev E RX6 cc nL ret mn Q d kc ks (pc + 3) L (.ref (A 18 0) :: st) h) : Ev E RX6 cc nL ret mn Q d kc ks pc L (.ref (A 11 0) :: st) h := g_X6_36_6 hd (hC.k11) rfl kk
theorem cg_X6_40 (hC : CR E A S h)  (hd : decode cc pc = .ok (.getfield 40, 3)) (kk : Ev E RX6 cc nL ret mn Q d kc ks (pc + 3) L (vI (S 56 0) :: st) h) : Ev E RX6 cc nL ret mn Q d kc ks pc L (.ref (A 11 0) :: st) h := g_X6_40_6 hd (hC.k11) rfl kk
theorem cgE_X6_40 {v : Int} (hC : CR E A S h)  (hv : S 56 0 = v) (hd : decode cc pc = .ok (.getfield 40, 3)) (kk : Ev E RX6 cc nL ret mn Q d kc ks (pc + 3) L (vI v :: st) h) : Ev E RX6 cc nL ret mn Q d kc ks pc L (.ref (A 11 0) :: st) h := by
  subst hv
  exact cg_X6_40 hC  hd kk
theorem cp_X6_40 {w : Int} (hC : CR E A S h)  (hw : InR w) (hd : decode cc pc = .ok (.putfield 40, 3)) (kk : ∀ S' h', S' = upS S 56 0 w → CR E A S' h' → Ev E RX6 cc nL ret mn Q d kc ks (pc + 3) L st h') : Ev E RX6 cc nL ret mn Q d kc ks pc L (vI w :: .ref (A 11 0) :: st) h := p_X6_40_6 hd (hC.k11) (Nat.le_of_ble_eq_true rfl) (kk _ _ rfl (hC.set0 (k := 11) (by decide) (by decide) (by rfl) hw))
theorem cg_X6_51 (hC : CR E A S h)  (hd : decode cc pc = .ok (.getfield 51, 3)) (kk : Ev E RX6 cc nL ret mn Q d kc ks (pc + 3) L (vI (S 57 0) :: st) h) : Ev E RX6 cc nL ret mn Q d kc ks pc L (.ref (A 11 0) :: st) h := g_X6_51_6 hd (hC.k11) rfl kk
theorem cgE_X6_51 {v : Int} (hC : CR E A S h)  (hv : S 57 0 = v) (hd : decode cc pc = .ok (.getfield 51, 3)) (kk : Ev E RX6 cc nL ret mn Q d kc ks (pc + 3) L (vI v :: st) h) : Ev E RX6 cc nL ret mn Q d kc ks pc L (.ref (A 11 0) :: st) h := by
  subst hv
  exact cg_X6_51 hC  hd kk
theorem cp_X6_51 {w : Int} (hC : CR E A S h)  (hw : InR w) (hd : decode cc pc = .ok (.putfield 51, 3)) (kk : ∀ S' h', S' = upS S 57 0 w → CR E A S' h' → Ev E RX6 cc nL ret mn Q d kc ks (pc + 3) L st h') : Ev E RX6 cc nL ret mn Q d kc ks pc L (vI w :: .ref (A 11 0) :: st) h := p_X6_51_6 hd (hC.k11) (Nat.le_of_ble_eq_true rfl) (kk _ _ rfl (hC.set0 (k := 11) (by decide) (by decide) (by rfl) hw))
theorem cg_X9_11 (hC : CR E A S h)  (hd : decode cc pc = .ok (.getfield 11, 3)) (kk : Ev E RX9 cc nL ret mn Q d kc ks (pc + 3) L (.ref (A 1 0) :: st) h) : Ev E RX9 cc nL ret mn Q d kc ks pc L (.ref (A 0 0) :: st) h := g_X9_11_9 hd (hC.k0) rfl kk
theorem cg_X9_17 (hC : CR E A S h)  (hd : decode cc pc = .ok (.getfield 17, 3)) (kk : Ev E RX9 cc nL ret mn Q d kc ks (pc + 3) L (.ref (A 2 0) :: st) h) : Ev E RX9 cc nL ret mn Q d kc ks pc L (.ref (A 0 0) :: st) h := g_X9_17_9 hd (hC.k0) rfl kk
theorem cg_X9_23 (hC : CR E A S h)  (hd : decode cc pc = .ok (.getfield 23, 3)) (kk : Ev E RX9 cc nL ret mn Q d kc ks (pc + 3) L (.ref (A 3 0) :: st) h) : Ev E RX9 cc nL ret mn Q d kc ks pc L (.ref (A 0 0) :: st) h := g_X9_23_9 hd (hC.k0) rfl kk
theorem cg_X9_27 (hC : CR E A S h)  (hd : decode cc pc = .ok (.getfield 27, 3)) (kk : Ev E RX9 cc nL ret mn Q d kc ks (pc + 3) L (.ref (A 4 0) :: st) h) : Ev E RX9 cc nL ret mn Q d kc ks pc L (.ref (A 0 0) :: st) h := g_X9_27_9 hd (hC.k0) rfl kk
theorem cg_X9_31 (hC : CR E A S h)  (hd : decode cc pc = .ok (.getfield 31, 3)) (kk : Ev E RX9 cc nL ret mn Q d kc ks (pc + 3) L (.ref (A 5 0) :: st) h) : Ev E RX9 cc nL ret mn Q d kc ks pc L (.ref (A 0 0) :: st) h := g_X9_31_9 hd (hC.k0) rfl kk
theorem cg_X9_34 (hC : CR E A S h)  (hd : decode cc pc = .ok (.getfield 34, 3)) (kk : Ev E RX9 cc nL ret mn Q d kc ks (pc + 3) L (.ref (A 6 0) :: st) h) : Ev E RX9 cc nL ret mn Q d kc ks pc L (.ref (A 0 0) :: st) h := g_X9_34_9 hd (hC.k0) rfl kk
theorem cg_X9_37 (hC : CR E A S h)  (hd : decode cc pc = .ok (.getfield 37, 3)) (kk : Ev E RX9 cc nL ret mn Q d kc ks (pc + 3) L (.ref (A 7 0) :: st) h) : Ev E RX9 cc nL ret mn Q d kc ks pc L (.ref (A 0 0) :: st) h := g_X9_37_9 hd (hC.k0) rfl kk
theorem cg_X9_42 (hC : CR E A S h)  (hd : decode cc pc = .ok (.getfield 42, 3)) (kk : Ev E RX9 cc nL ret mn Q d kc ks (pc + 3) L (.ref (A 8 0) :: st) h) : Ev E RX9 cc nL ret mn Q d kc ks pc L (.ref (A 0 0) :: st) h := g_X9_42_9 hd (hC.k0) rfl kk
theorem cg_X9_49 (hC : CR E A S h)  (hd : decode cc pc = .ok (.getfield 49, 3)) (kk : Ev E RX9 cc nL ret mn Q d kc ks (pc + 3) L (.ref (A 9 0) :: st) h) : Ev E RX9 cc nL ret mn Q d kc ks pc L (.ref (A 0 0) :: st) h := g_X9_49_9 hd (hC.k0) rfl kk
theorem cg_X9_56 (hC : CR E A S h)  (hd : decode cc pc = .ok (.getfield 56, 3)) (kk : Ev E RX9 cc nL ret mn Q d kc ks (pc + 3) L (.ref (A 11 0) :: st) h) : Ev E RX9 cc nL ret mn Q d kc ks pc L (.ref (A 0 0) :: st) h := g_X9_56_9 hd (hC.k0) rfl kk
theorem cg_X9_71 (hC : CR E A S h)  (hd : decode cc pc = .ok (.getfield 71, 3)) (kk : Ev E RX9 cc nL ret mn Q d kc ks (pc + 3) L (vI (S 2 0) :: st) h) : Ev E RX9 cc nL ret mn Q d kc ks pc L (.ref (A 0 0) :: st) h := g_X9_71_9 hd (hC.k0) rfl kk
theorem cgE_X9_71 {v : Int} (hC : CR E A S h)  (hv : S 2 0 = v) (hd : decode cc pc = .ok (.getfield 71, 3)) (kk : Ev E RX9 cc nL ret mn Q d kc ks (pc + 3) L (vI v :: st) h) : Ev E RX9 cc nL ret mn Q d kc ks pc L (.ref (A 0 0) :: st) h := by
  subst hv
  exact cg_X9_71 hC  hd kk
theorem cg_X9_91 (hC : CR E A S h)  (hd : decode cc pc = .ok (.getfield 91, 3)) (kk : Ev E RX9 cc nL ret mn Q d kc ks (pc + 3) L (vI (S 7 0) :: st) h) : Ev E RX9 cc nL ret mn Q d kc ks pc L (.ref (A 0 0) :: st) h := g_X9_91_9 hd (hC.k0) rfl kk
theorem cgE_X9_91 {v : Int} (hC : CR E A S h)  (hv : S 7 0 = v) (hd : decode cc pc = .ok (.getfield 91, 3)) (kk : Ev E RX9 cc nL ret mn Q d kc ks (pc + 3) L (vI v :: st) h) : Ev E RX9 cc nL ret mn Q d kc ks pc L (.ref (A 0 0) :: st) h := by
  subst hv
  exact cg_X9_91 hC  hd kk
theorem cg_X9_219 (hC : CR E A S h)  (hd : decode cc pc = .ok (.getfield 219, 3)) (kk : Ev E RX9 cc nL ret mn Q d kc ks (pc + 3) L (vI (S 34 0) :: st) h) : Ev E RX9 cc nL ret mn Q d kc ks pc L (.ref (A 0 0) :: st) h := g_X9_219_9 hd (hC.k0) rfl kk
theorem cgE_X9_219 {v : Int} (hC : CR E A S h)  (hv : S 34 0 = v) (hd : decode cc pc = .ok (.getfield 219, 3)) (kk : Ev E RX9 cc nL ret mn Q d kc ks (pc + 3) L (vI v :: st) h) : Ev E RX9 cc nL ret mn Q d kc ks pc L (.ref (A 0 0) :: st) h := by
  subst hv
  exact cg_X9_219 hC  hd kk
theorem cg_X9_247 (hC : CR E A S h)  (hd : decode cc pc = .ok (.getfield 247, 3)) (kk : Ev E RX9 cc nL ret mn Q d kc ks (pc + 3) L (vI (S 40 0) :: st) h) : Ev E RX9 cc nL ret mn Q d kc ks pc L (.ref (A 0 0) :: st) h := g_X9_247_9 hd (hC.k0) rfl kk
theorem cgE_X9_247 {v : Int} (hC : CR E A S h)  (hv : S 40 0 = v) (hd : decode cc pc = .ok (.getfield 247, 3)) (kk : Ev E RX9 cc nL ret mn Q d kc ks (pc + 3) L (vI v :: st) h) : Ev E RX9 cc nL ret mn Q d kc ks pc L (.ref (A 0 0) :: st) h := by
  subst hv
  exact cg_X9_247 hC  hd kk
theorem cp_X9_247 {w : Int} (hC : CR E A S h)  (hw : InR w) (hd : decode cc pc = .ok (.putfield 247, 3)) (kk : ∀ S' h', S' = upS S 40 0 w → CR E A S' h' → Ev E RX9 cc nL ret mn Q d kc ks (pc + 3) L st h') : Ev E RX9 cc nL ret mn Q d kc ks pc L (vI w :: .ref (A 0 0) :: st) h := p_X9_247_9 hd (hC.k0) (Nat.le_of_ble_eq_true rfl) (kk _ _ rfl (hC.set0 (k := 0) (by decide) (by decide) (by rfl) hw))
theorem cg_X9_240 (hC : CR E A S h)  (hd : decode cc pc = .ok (.getfield 240, 3)) (kk : Ev E RX9 cc nL ret mn Q d kc ks (pc + 3) L (vI (S 70 0) :: st) h) : Ev E RX9 cc nL ret mn Q d kc ks pc L (.ref (A 0 0) :: st) h := g_X9_240_9 hd (hC.k0) rfl kk
theorem cgE_X9_240 {v : Int} (hC : CR E A S h)  (hv : S 70 0 = v) (hd : decode cc pc = .ok (.getfield 240, 3)) (kk : Ev E RX9 cc nL ret mn Q d kc ks (pc + 3) L (vI v :: st) h) : Ev E RX9 cc nL ret mn Q d kc ks pc L (.ref (A 0 0) :: st) h := by
  subst hv
  exact cg_X9_240 hC  hd kk
theorem cp_X9_240 {w : Int} (hC : CR E A S h)  (hw : InR w) (hd : decode cc pc = .ok (.putfield 240, 3)) (kk : ∀ S' h', S' = upS S 70 0 w → CR E A S' h' → Ev E RX9 cc nL ret mn Q d kc ks (pc + 3) L st h') : Ev E RX9 cc nL ret mn Q d kc ks pc L (vI w :: .ref (A 0 0) :: st) h := p_X9_240_9 hd (hC.k0) (Nat.le_of_ble_eq_true rfl) (kk _ _ rfl (hC.set0 (k := 0) (by decide) (by decide) (by rfl) hw))
theorem cg_X9_60 (hC : CR E A S h)  (hd : decode cc pc = .ok (.getfield 60, 3)) (kk : Ev E RX9 cc nL ret mn Q d kc ks (pc + 3) L (vI (S 16 0) :: st) h) : Ev E RX9 cc nL ret mn Q d kc ks pc L (.ref (A 0 0) :: st) h := g_X9_60_9 hd (hC.k0) rfl kk
theorem cgE_X9_60 {v : Int} (hC : CR E A S h)  (hv : S 16 0 = v) (hd : decode cc pc = .ok (.getfield 60, 3)) (kk : Ev E RX9 cc nL ret mn Q d kc ks (pc + 3) L (vI v :: st) h) : Ev E RX9 cc nL ret mn Q d kc ks pc L (.ref (A 0 0) :: st) h := by
  subst hv
  exact cg_X9_60 hC  hd kk
theorem cp_X9_60 {w : Int} (hC : CR E A S h)  (hw : InR w) (hd : decode cc pc = .ok (.putfield 60, 3)) (kk : ∀ S' h', S' = upS S 16 0 w → CR E A S' h' → Ev E RX9 cc nL ret mn Q d kc ks (pc + 3) L st h') : Ev E RX9 cc nL ret mn Q d kc ks pc L (vI w :: .ref (A 0 0) :: st) h := p_X9_60_9 hd (hC.k0) (Nat.le_of_ble_eq_true rfl) (kk _ _ rfl (hC.set0 (k := 0) (by decide) (by decide) (by rfl) hw))
theorem cg_X9_64 (hC : CR E A S h)  (hd : decode cc pc = .ok (.getfield 64, 3)) (kk : Ev E RX9 cc nL ret mn Q d kc ks (pc + 3) L (vI (S 31 0) :: st) h) : Ev E RX9 cc nL ret mn Q d kc ks pc L (.ref (A 0 0) :: st) h := g_X9_64_9 hd (hC.k0) rfl kk
theorem cgE_X9_64 {v : Int} (hC : CR E A S h)  (hv : S 31 0 = v) (hd : decode cc pc = .ok (.getfield 64, 3)) (kk : Ev E RX9 cc nL ret mn Q d kc ks (pc + 3) L (vI v :: st) h) : Ev E RX9 cc nL ret mn Q d kc ks pc L (.ref (A 0 0) :: st) h := by
  subst hv
  exact cg_X9_64 hC  hd kk
theorem cp_X9_64 {w : Int} (hC : CR E A S h)  (hw : InR w) (hd : decode cc pc = .ok (.putfield 64, 3)) (kk : ∀ S' h', S' = upS S 31 0 w → CR E A S' h' → Ev E RX9 cc nL ret mn Q d kc ks (pc + 3) L st h') : Ev E RX9 cc nL ret mn Q d kc ks pc L (vI w :: .ref (A 0 0) :: st) h := p_X9_64_9 hd (hC.k0) (Nat.le_of_ble_eq_true rfl) (kk _ _ rfl (hC.set0 (k := 0) (by decide) (by decide) (by rfl) hw))
theorem cg_X7_7 {i : Int} (hC : CR E A S h) (hi : 0 ≤ i ∧ i < S 2 0) (hd : decode cc pc = .ok (.getfield 7, 3)) (kk : Ev E RX7 cc nL ret mn Q d kc ks (pc + 3) L (vI i :: st) h) : Ev E RX7 cc nL ret mn Q d kc ks pc L (.ref (A 20 i) :: st) h := g_X7_7_7 hd (hC.k20 hi) rfl kk
theorem cg_X1_19 {i : Int} (hC : CR E A S h) (hi : 0 ≤ i ∧ i < S 2 0) (hd : decode cc pc = .ok (.getfield 19, 3)) (kk : Ev E RX1 cc nL ret mn Q d kc ks (pc + 3) L (vI i :: st) h) : Ev E RX1 cc nL ret mn Q d kc ks pc L (.ref (A 20 i) :: st) h := g_X1_19_7 hd (hC.k20 hi) rfl kk
theorem cg_X9_127 {i : Int} (hC : CR E A S h) (hi : 0 ≤ i ∧ i < S 2 0) (hd : decode cc pc = .ok (.getfield 127, 3)) (kk : Ev E RX9 cc nL ret mn Q d kc ks (pc + 3) L (vI i :: st) h) : Ev E RX9 cc nL ret mn Q d kc ks pc L (.ref (A 20 i) :: st) h := g_X9_127_7 hd (hC.k20 hi) rfl kk
theorem cg_X7_13 {i : Int} (hC : CR E A S h) (hi : 0 ≤ i ∧ i < S 2 0) (hd : decode cc pc = .ok (.getfield 13, 3)) (kk : Ev E RX7 cc nL ret mn Q d kc ks (pc + 3) L (vI (S 3 i) :: st) h) : Ev E RX7 cc nL ret mn Q d kc ks pc L (.ref (A 20 i) :: st) h := g_X7_13_7 hd (hC.k20 hi) rfl kk
theorem cgE_X7_13 {i : Int} {v : Int} (hC : CR E A S h) (hi : 0 ≤ i ∧ i < S 2 0) (hv : S 3 i = v) (hd : decode cc pc = .ok (.getfield 13, 3)) (kk : Ev E RX7 cc nL ret mn Q d kc ks (pc + 3) L (vI v :: st) h) : Ev E RX7 cc nL ret mn Q d kc ks pc L (.ref (A 20 i) :: st) h := by
  subst hv
  exact cg_X7_13 hC hi hd kk
theorem cg_X1_38 {i : Int} (hC : CR E A S h) (hi : 0 ≤ i ∧ i < S 2 0) (hd : decode cc pc = .ok (.getfield 38, 3)) (kk : Ev E RX1 cc nL ret mn Q d kc ks (pc + 3) L (vI (S 3 i) :: st) h) : Ev E RX1 cc nL ret mn Q d kc ks pc L (.ref (A 20 i) :: st) h := g_X1_38_7 hd (hC.k20 hi) rfl kk
theorem cgE_X1_38 {i : Int} {v : Int} (hC : CR E A S h) (hi : 0 ≤ i ∧ i < S 2 0) (hv : S 3 i = v) (hd : decode cc pc = .ok (.getfield 38, 3)) (kk : Ev E RX1 cc nL ret mn Q d kc ks (pc + 3) L (vI v :: st) h) : Ev E RX1 cc nL ret mn Q d kc ks pc L (.ref (A 20 i) :: st) h := by
  subst hv
  exact cg_X1_38 hC hi hd kk
theorem cg_X2_73 {i : Int} (hC : CR E A S h) (hi : 0 ≤ i ∧ i < S 2 0) (hd : decode cc pc = .ok (.getfield 73, 3)) (kk : Ev E RX2 cc nL ret mn Q d kc ks (pc + 3) L (vI (S 3 i) :: st) h) : Ev E RX2 cc nL ret mn Q d kc ks pc L (.ref (A 20 i) :: st) h := g_X2_73_7 hd (hC.k20 hi) rfl kk
theorem cgE_X2_73 {i : Int} {v : Int} (hC : CR E A S h) (hi : 0 ≤ i ∧ i < S 2 0) (hv : S 3 i = v) (hd : decode cc pc = .ok (.getfield 73, 3)) (kk : Ev E RX2 cc nL ret mn Q d kc ks (pc + 3) L (vI v :: st) h) : Ev E RX2 cc nL ret mn Q d kc ks pc L (.ref (A 20 i) :: st) h := by
  subst hv
  exact cg_X2_73 hC hi hd kk
theorem cg_X7_16 {i : Int} (hC : CR E A S h) (hi : 0 ≤ i ∧ i < S 2 0) (hd : decode cc pc = .ok (.getfield 16, 3)) (kk : Ev E RX7 cc nL ret mn Q d kc ks (pc + 3) L (vI (S 4 i) :: st) h) : Ev E RX7 cc nL ret mn Q d kc ks pc L (.ref (A 20 i) :: st) h := g_X7_16_7 hd (hC.k20 hi) rfl kk
theorem cgE_X7_16 {i : Int} {v : Int} (hC : CR E A S h) (hi : 0 ≤ i ∧ i < S 2 0) (hv : S 4 i = v) (hd : decode cc pc = .ok (.getfield 16, 3)) (kk : Ev E RX7 cc nL ret mn Q d kc ks (pc + 3) L (vI v :: st) h) : Ev E RX7 cc nL ret mn Q d kc ks pc L (.ref (A 20 i) :: st) h := by
  subst hv
  exact cg_X7_16 hC hi hd kk
theorem cg_X1_41 {i : Int} (hC : CR E A S h) (hi : 0 ≤ i ∧ i < S 2 0) (hd : decode cc pc = .ok (.getfield 41, 3)) (kk : Ev E RX1 cc nL ret mn Q d kc ks (pc + 3) L (vI (S 4 i) :: st) h) : Ev E RX1 cc nL ret mn Q d kc ks pc L (.ref (A 20 i) :: st) h := g_X1_41_7 hd (hC.k20 hi) rfl kk
theorem cgE_X1_41 {i : Int} {v : Int} (hC : CR E A S h) (hi : 0 ≤ i ∧ i < S 2 0) (hv : S 4 i = v) (hd : decode cc pc = .ok (.getfield 41, 3)) (kk : Ev E RX1 cc nL ret mn Q d kc ks (pc + 3) L (vI v :: st) h) : Ev E RX1 cc nL ret mn Q d kc ks pc L (.ref (A 20 i) :: st) h := by
  subst hv
  exact cg_X1_41 hC hi hd kk
theorem cg_X2_76 {i : Int} (hC : CR E A S h) (hi : 0 ≤ i ∧ i < S 2 0) (hd : decode cc pc = .ok (.getfield 76, 3)) (kk : Ev E RX2 cc nL ret mn Q d kc ks (pc + 3) L (vI (S 4 i) :: st) h) : Ev E RX2 cc nL ret mn Q d kc ks pc L (.ref (A 20 i) :: st) h := g_X2_76_7 hd (hC.k20 hi) rfl kk
theorem cgE_X2_76 {i : Int} {v : Int} (hC : CR E A S h) (hi : 0 ≤ i ∧ i < S 2 0) (hv : S 4 i = v) (hd : decode cc pc = .ok (.getfield 76, 3)) (kk : Ev E RX2 cc nL ret mn Q d kc ks (pc + 3) L (vI v :: st) h) : Ev E RX2 cc nL ret mn Q d kc ks pc L (.ref (A 20 i) :: st) h := by
  subst hv
  exact cg_X2_76 hC hi hd kk
theorem cg_X9_81 {i : Int} (hC : CR E A S h) (hi : 0 ≤ i ∧ i < S 2 0) (hd : decode cc pc = .ok (.getfield 81, 3)) (kk : Ev E RX9 cc nL ret mn Q d kc ks (pc + 3) L (vI (S 5 i) :: st) h) : Ev E RX9 cc nL ret mn Q d kc ks pc L (.ref (A 20 i) :: st) h := g_X9_81_7 hd (hC.k20 hi) rfl kk
theorem cgE_X9_81 {i : Int} {v : Int} (hC : CR E A S h) (hi : 0 ≤ i ∧ i < S 2 0) (hv : S 5 i = v) (hd : decode cc pc = .ok (.getfield 81, 3)) (kk : Ev E RX9 cc nL ret mn Q d kc ks (pc + 3) L (vI v :: st) h) : Ev E RX9 cc nL ret mn Q d kc ks pc L (.ref (A 20 i) :: st) h := by
  subst hv
  exact cg_X9_81 hC hi hd kk
theorem cp_X9_81 {i : Int} {w : Int} (hC : CR E A S h) (hi : 0 ≤ i ∧ i < S 2 0) (hw : InR w) (hd : decode cc pc = .ok (.putfield 81, 3)) (kk : ∀ S' h', S' = upS S 5 i w → CR E A S' h' → Ev E RX9 cc nL ret mn Q d kc ks (pc + 3) L st h') : Ev E RX9 cc nL ret mn Q d kc ks pc L (vI w :: .ref (A 20 i) :: st) h := p_X9_81_7 hd (hC.k20 hi) (Nat.le_of_ble_eq_true rfl) (kk _ _ rfl (hC.set (k := 20) (i := i) hi (by decide) (fun i' hd' hne => by simp only [cel, upS, if_neg hne, ite_self]) (by simp only [cel, upS, if_true, List.set, Nat.reduceEqDiff, if_false]) hw))
theorem cg_X3_31 {i : Int} (hC : CR E A S h) (hi : 0 ≤ i ∧ i < S 2 0) (hd : decode cc pc = .ok (.getfield 31, 3)) (kk : Ev E RX3 cc nL ret mn Q d kc ks (pc + 3) L (vI (S 5 i) :: st) h) : Ev E RX3 cc nL ret mn Q d kc ks pc L (.ref (A 20 i) :: st) h := g_X3_31_7 hd (hC.k20 hi) rfl kk
theorem cgE_X3_31 {i : Int} {v : Int} (hC : CR E A S h) (hi : 0 ≤ i ∧ i < S 2 0) (hv : S 5 i = v) (hd : decode cc pc = .ok (.getfield 31, 3)) (kk : Ev E RX3 cc nL ret mn Q d kc ks (pc + 3) L (vI v :: st) h) : Ev E RX3 cc nL ret mn Q d kc ks pc L (.ref (A 20 i) :: st) h := by
  subst hv
  exact cg_X3_31 hC hi hd kk
theorem cp_X3_31 {i : Int} {w : Int} (hC : CR E A S h) (hi : 0 ≤ i ∧ i < S 2 0) (hw : InR w) (hd : decode cc pc = .ok (.putfield 31, 3)) (kk : ∀ S' h', S' = upS S 5 i w → CR E A S' h' → Ev E RX3 cc nL ret mn Q d kc ks (pc + 3) L st h') : Ev E RX3 cc nL ret mn Q d kc ks pc L (vI w :: .ref (A 20 i) :: st) h := p_X3_31_7 hd (hC.k20 hi) (Nat.le_of_ble_eq_true rfl) (kk _ _ rfl (hC.set (k := 20) (i := i) hi (by decide) (fun i' hd' hne => by simp only [cel, upS, if_neg hne, ite_self]) (by simp only [cel, upS, if_true, List.set, Nat.reduceEqDiff, if_false]) hw))
theorem cg_X3_26 {i : Int} (hC : CR E A S h) (hi : 0 ≤ i ∧ i < S 2 0) (hd : decode cc pc = .ok (.getfield 26, 3)) (kk : Ev E RX3 cc nL ret mn Q d kc ks (pc + 3) L (vI (S 6 i) :: st) h) : Ev E RX3 cc nL ret mn Q d kc ks pc L (.ref (A 20 i) :: st) h := g_X3_26_7 hd (hC.k20 hi) rfl kk
theorem cgE_X3_26 {i : Int} {v : Int} (hC : CR E A S h) (hi : 0 ≤ i ∧ i < S 2 0) (hv : S 6 i = v) (hd : decode cc pc = .ok (.getfield 26, 3)) (kk : Ev E RX3 cc nL ret mn Q d kc ks (pc + 3) L (vI v :: st) h) : Ev E RX3 cc nL ret mn Q d kc ks pc L (.ref (A 20 i) :: st) h := by
  subst hv
  exact cg_X3_26 hC hi hd kk
theorem cp_X3_26 {i : Int} {w : Int} (hC : CR E A S h) (hi : 0 ≤ i ∧ i < S 2 0) (hw : InR w) (hd : decode cc pc = .ok (.putfield 26, 3)) (kk : ∀ S' h', S' = upS S 6 i w → CR E A S' h' → Ev E RX3 cc nL ret mn Q d kc ks (pc + 3) L st h') : Ev E RX3 cc nL ret mn Q d kc ks pc L (vI w :: .ref (A 20 i) :: st) h := p_X3_26_7 hd (hC.k20 hi) (Nat.le_of_ble_eq_true rfl) (kk _ _ rfl (hC.set (k := 20) (i := i) hi (by decide) (fun i' hd' hne => by simp only [cel, upS, if_neg hne, ite_self]) (by simp only [cel, upS, if_true, List.set, Nat.reduceEqDiff, if_false]) hw))
theorem cg_X9_84 {i : Int} (hC : CR E A S h) (hi : 0 ≤ i ∧ i < S 2 0) (hd : decode cc pc = .ok (.getfield 84, 3)) (kk : Ev E RX9 cc nL ret mn Q d kc ks (pc + 3) L (vI (S 6 i) :: st) h) : Ev E RX9 cc nL ret mn Q d kc ks pc L (.ref (A 20 i) :: st) h := g_X9_84_7 hd (hC.k20 hi) rfl kk
theorem cgE_X9_84 {i : Int} {v : Int} (hC : CR E A S h) (hi : 0 ≤ i ∧ i < S 2 0) (hv : S 6 i = v) (hd : decode cc pc = .ok (.getfield 84, 3)) (kk : Ev E RX9 cc nL ret mn Q d kc ks (pc + 3) L (vI v :: st) h) : Ev E RX9 cc nL ret mn Q d kc ks pc L (.ref (A 20 i) :: st) h := by
  subst hv
  exact cg_X9_84 hC hi hd kk
theorem cp_X9_84 {i : Int} {w : Int} (hC : CR E A S h) (hi : 0 ≤ i ∧ i < S 2 0) (hw : InR w) (hd : decode cc pc = .ok (.putfield 84, 3)) (kk : ∀ S' h', S' = upS S 6 i w → CR E A S' h' → Ev E RX9 cc nL ret mn Q d kc ks (pc + 3) L st h') : Ev E RX9 cc nL ret mn Q d kc ks pc L (vI w :: .ref (A 20 i) :: st) h := p_X9_84_7 hd (hC.k20 hi) (Nat.le_of_ble_eq_true rfl) (kk _ _ rfl (hC.set (k := 20) (i := i) hi (by decide) (fun i' hd' hne => by simp only [cel, upS, if_neg hne, ite_self]) (by simp only [cel, upS, if_true, List.set, Nat.reduceEqDiff, if_false]) hw))
theorem cg_X3_7 {i : Int} (hC : CR E A S h) (hI : Inv S) (hi : SG S i)  (hd : decode cc pc = .ok (.getfield 7, 3)) (kk : Ev E RX3 cc nL ret mn Q d kc ks (pc + 3) L (.ref (A 20 (S 9 i)) :: st) h) : Ev E RX3 cc nL ret mn Q d kc ks pc L (.ref (A 21 i) :: st) h := by
  rcases kinds hI hi with e | e | e
  · exact g_X3_7_3 hd (hC.s3 hi e) rfl kk
  · exact g_X3_7_0 hd (hC.s0 hi e) rfl kk
  · exact g_X3_7_4 hd (hC.s4 hi e) rfl kk
theorem cg_X1_13 {i : Int} (hC : CR E A S h) (hI : Inv S) (hi : SG S i) (h8 : S 8 i ≠ 0) (hd : decode cc pc = .ok (.getfield 13, 3)) (kk : Ev E RX1 cc nL ret mn Q d kc ks (pc + 3) L (.ref (A 20 (S 9 i)) :: st) h) : Ev E RX1 cc nL ret mn Q d kc ks pc L (.ref (A 21 i) :: st) h := by
  rcases kinds hI hi with e | e | e
  · exact absurd e (by omega)
  · exact g_X1_13_0 hd (hC.s0 hi e) rfl kk
  · exact g_X1_13_4 hd (hC.s4 hi e) rfl kk
theorem cg_X9_123 {i : Int} (hC : CR E A S h) (hI : Inv S) (hi : SG S i)  (hd : decode cc pc = .ok (.getfield 123, 3)) (kk : Ev E RX9 cc nL ret mn Q d kc ks (pc + 3) L (.ref (A 20 (S 9 i)) :: st) h) : Ev E RX9 cc nL ret mn Q d kc ks pc L (.ref (A 21 i) :: st) h := by
  rcases kinds hI hi with e | e | e
  · exact g_X9_123_3 hd (hC.s3 hi e) rfl kk
  · exact g_X9_123_0 hd (hC.s0 hi e) rfl kk
  · exact g_X9_123_4 hd (hC.s4 hi e) rfl kk
theorem cg_X3_13 {i : Int} (hC : CR E A S h) (hI : Inv S) (hi : SG S i)  (hd : decode cc pc = .ok (.getfield 13, 3)) (kk : Ev E RX3 cc nL ret mn Q d kc ks (pc + 3) L (vI (S 10 i) :: st) h) : Ev E RX3 cc nL ret mn Q d kc ks pc L (.ref (A 21 i) :: st) h := by
  rcases kinds hI hi with e | e | e
  · exact g_X3_13_3 hd (hC.s3 hi e) rfl kk
  · exact g_X3_13_0 hd (hC.s0 hi e) rfl kk
  · exact g_X3_13_4 hd (hC.s4 hi e) rfl kk
theorem cgE_X3_13 {i v : Int} (hC : CR E A S h) (hI : Inv S) (hi : SG S i)  (hv : S 10 i = v) (hd : decode cc pc = .ok (.getfield 13, 3)) (kk : Ev E RX3 cc nL ret mn Q d kc ks (pc + 3) L (vI v :: st) h) : Ev E RX3 cc nL ret mn Q d kc ks pc L (.ref (A 21 i) :: st) h := by
  subst hv
  exact cg_X3_13 hC hI hi  hd kk
theorem cg_X6_44 {i : Int} (hC : CR E A S h) (hI : Inv S) (hi : SG S i) (h8 : S 8 i ≠ 0) (hd : decode cc pc = .ok (.getfield 44, 3)) (kk : Ev E RX6 cc nL ret mn Q d kc ks (pc + 3) L (vI (S 10 i) :: st) h) : Ev E RX6 cc nL ret mn Q d kc ks pc L (.ref (A 21 i) :: st) h := by
  rcases kinds hI hi with e | e | e
  · exact absurd e (by omega)
  · exact g_X6_44_0 hd (hC.s0 hi e) rfl kk
  · exact g_X6_44_4 hd (hC.s4 hi e) rfl kk
theorem cgE_X6_44 {i v : Int} (hC : CR E A S h) (hI : Inv S) (hi : SG S i) (h8 : S 8 i ≠ 0) (hv : S 10 i = v) (hd : decode cc pc = .ok (.getfield 44, 3)) (kk : Ev E RX6 cc nL ret mn Q d kc ks (pc + 3) L (vI v :: st) h) : Ev E RX6 cc nL ret mn Q d kc ks pc L (.ref (A 21 i) :: st) h := by
  subst hv
  exact cg_X6_44 hC hI hi h8 hd kk
theorem cg_X0_28 {i : Int} (hC : CR E A S h) (hI : Inv S) (hi : SG S i) (h8 : S 8 i ≠ 0) (hd : decode cc pc = .ok (.getfield 28, 3)) (kk : Ev E RX0 cc nL ret mn Q d kc ks (pc + 3) L (vI (S 10 i) :: st) h) : Ev E RX0 cc nL ret mn Q d kc ks pc L (.ref (A 21 i) :: st) h := by
  rcases kinds hI hi with e | e | e
  · exact absurd e (by omega)
  · exact g_X0_28_0 hd (hC.s0 hi e) rfl kk
  · exact g_X0_28_4 hd (hC.s4 hi e) rfl kk
theorem cgE_X0_28 {i v : Int} (hC : CR E A S h) (hI : Inv S) (hi : SG S i) (h8 : S 8 i ≠ 0) (hv : S 10 i = v) (hd : decode cc pc = .ok (.getfield 28, 3)) (kk : Ev E RX0 cc nL ret mn Q d kc ks (pc + 3) L (vI v :: st) h) : Ev E RX0 cc nL ret mn Q d kc ks pc L (.ref (A 21 i) :: st) h := by
  subst hv
  exact cg_X0_28 hC hI hi h8 hd kk
theorem cg_X9_130 {i : Int} (hC : CR E A S h) (hI : Inv S) (hi : SG S i)  (hd : decode cc pc = .ok (.getfield 130, 3)) (kk : Ev E RX9 cc nL ret mn Q d kc ks (pc + 3) L (vI (S 10 i) :: st) h) : Ev E RX9 cc nL ret mn Q d kc ks pc L (.ref (A 21 i) :: st) h := by
  rcases kinds hI hi with e | e | e
  · exact g_X9_130_3 hd (hC.s3 hi e) rfl kk
  · exact g_X9_130_0 hd (hC.s0 hi e) rfl kk
  · exact g_X9_130_4 hd (hC.s4 hi e) rfl kk
theorem cgE_X9_130 {i v : Int} (hC : CR E A S h) (hI : Inv S) (hi : SG S i)  (hv : S 10 i = v) (hd : decode cc pc = .ok (.getfield 130, 3)) (kk : Ev E RX9 cc nL ret mn Q d kc ks (pc + 3) L (vI v :: st) h) : Ev E RX9 cc nL ret mn Q d kc ks pc L (.ref (A 21 i) :: st) h := by
  subst hv
  exact cg_X9_130 hC hI hi  hd kk
theorem cg_X3_17 {i : Int} (hC : CR E A S h) (hI : Inv S) (hi : SG S i)  (hd : decode cc pc = .ok (.getfield 17, 3)) (kk : Ev E RX3 cc nL ret mn Q d kc ks (pc + 3) L (vI (S 11 i) :: st) h) : Ev E RX3 cc nL ret mn Q d kc ks pc L (.ref (A 21 i) :: st) h := by
  rcases kinds hI hi with e | e | e
  · exact g_X3_17_3 hd (hC.s3 hi e) rfl kk
  · exact g_X3_17_0 hd (hC.s0 hi e) rfl kk
  · exact g_X3_17_4 hd (hC.s4 hi e) rfl kk
theorem cgE_X3_17 {i v : Int} (hC : CR E A S h) (hI : Inv S) (hi : SG S i)  (hv : S 11 i = v) (hd : decode cc pc = .ok (.getfield 17, 3)) (kk : Ev E RX3 cc nL ret mn Q d kc ks (pc + 3) L (vI v :: st) h) : Ev E RX3 cc nL ret mn Q d kc ks pc L (.ref (A 21 i) :: st) h := by
  subst hv
  exact cg_X3_17 hC hI hi  hd kk
theorem cg_X9_133 {i : Int} (hC : CR E A S h) (hI : Inv S) (hi : SG S i)  (hd : decode cc pc = .ok (.getfield 133, 3)) (kk : Ev E RX9 cc nL ret mn Q d kc ks (pc + 3) L (vI (S 11 i) :: st) h) : Ev E RX9 cc nL ret mn Q d kc ks pc L (.ref (A 21 i) :: st) h := by
  rcases kinds hI hi with e | e | e
  · exact g_X9_133_3 hd (hC.s3 hi e) rfl kk
  · exact g_X9_133_0 hd (hC.s0 hi e) rfl kk
  · exact g_X9_133_4 hd (hC.s4 hi e) rfl kk
theorem cgE_X9_133 {i v : Int} (hC : CR E A S h) (hI : Inv S) (hi : SG S i)  (hv : S 11 i = v) (hd : decode cc pc = .ok (.getfield 133, 3)) (kk : Ev E RX9 cc nL ret mn Q d kc ks (pc + 3) L (vI v :: st) h) : Ev E RX9 cc nL ret mn Q d kc ks pc L (.ref (A 21 i) :: st) h := by
  subst hv
  exact cg_X9_133 hC hI hi  hd kk
theorem cg_X3_20 {i : Int} (hC : CR E A S h) (hI : Inv S) (hi : SG S i)  (hd : decode cc pc = .ok (.getfield 20, 3)) (kk : Ev E RX3 cc nL ret mn Q d kc ks (pc + 3) L (vI (S 12 i) :: st) h) : Ev E RX3 cc nL ret mn Q d kc ks pc L (.ref (A 21 i) :: st) h := by
  rcases kinds hI hi with e | e | e
  · exact g_X3_20_3 hd (hC.s3 hi e) rfl kk
  · exact g_X3_20_0 hd (hC.s0 hi e) rfl kk
  · exact g_X3_20_4 hd (hC.s4 hi e) rfl kk
theorem cgE_X3_20 {i v : Int} (hC : CR E A S h) (hI : Inv S) (hi : SG S i)  (hv : S 12 i = v) (hd : decode cc pc = .ok (.getfield 20, 3)) (kk : Ev E RX3 cc nL ret mn Q d kc ks (pc + 3) L (vI v :: st) h) : Ev E RX3 cc nL ret mn Q d kc ks pc L (.ref (A 21 i) :: st) h := by
  subst hv
  exact cg_X3_20 hC hI hi  hd kk
theorem cg_X9_136 {i : Int} (hC : CR E A S h) (hI : Inv S) (hi : SG S i)  (hd : decode cc pc = .ok (.getfield 136, 3)) (kk : Ev E RX9 cc nL ret mn Q d kc ks (pc + 3) L (vI (S 12 i) :: st) h) : Ev E RX9 cc nL ret mn Q d kc ks pc L (.ref (A 21 i) :: st) h := by
  rcases kinds hI hi with e | e | e
  · exact g_X9_136_3 hd (hC.s3 hi e) rfl kk
  · exact g_X9_136_0 hd (hC.s0 hi e) rfl kk
  · exact g_X9_136_4 hd (hC.s4 hi e) rfl kk
theorem cgE_X9_136 {i v : Int} (hC : CR E A S h) (hI : Inv S) (hi : SG S i)  (hv : S 12 i = v) (hd : decode cc pc = .ok (.getfield 136, 3)) (kk : Ev E RX9 cc nL ret mn Q d kc ks (pc + 3) L (vI v :: st) h) : Ev E RX9 cc nL ret mn Q d kc ks pc L (.ref (A 21 i) :: st) h := by
  subst hv
  exact cg_X9_136 hC hI hi  hd kk
theorem cg_X3_23 {i : Int} (hC : CR E A S h) (hI : Inv S) (hi : SG S i)  (hd : decode cc pc = .ok (.getfield 23, 3)) (kk : Ev E RX3 cc nL ret mn Q d kc ks (pc + 3) L (vI (S 13 i) :: st) h) : Ev E RX3 cc nL ret mn Q d kc ks pc L (.ref (A 21 i) :: st) h := by
  rcases kinds hI hi with e | e | e
  · exact g_X3_23_3 hd (hC.s3 hi e) rfl kk
  · exact g_X3_23_0 hd (hC.s0 hi e) rfl kk
  · exact g_X3_23_4 hd (hC.s4 hi e) rfl kk
theorem cgE_X3_23 {i v : Int} (hC : CR E A S h) (hI : Inv S) (hi : SG S i)  (hv : S 13 i = v) (hd : decode cc pc = .ok (.getfield 23, 3)) (kk : Ev E RX3 cc nL ret mn Q d kc ks (pc + 3) L (vI v :: st) h) : Ev E RX3 cc nL ret mn Q d kc ks pc L (.ref (A 21 i) :: st) h := by
  subst hv
  exact cg_X3_23 hC hI hi  hd kk
theorem cg_X1_52 {i : Int} (hC : CR E A S h) (hI : Inv S) (hi : SG S i) (h8 : S 8 i ≠ 0) (hd : decode cc pc = .ok (.getfield 52, 3)) (kk : Ev E RX1 cc nL ret mn Q d kc ks (pc + 3) L (vI (S 13 i) :: st) h) : Ev E RX1 cc nL ret mn Q d kc ks pc L (.ref (A 21 i) :: st) h := by
  rcases kinds hI hi with e | e | e
  · exact absurd e (by omega)
  · exact g_X1_52_0 hd (hC.s0 hi e) rfl kk
  · exact g_X1_52_4 hd (hC.s4 hi e) rfl kk
theorem cgE_X1_52 {i v : Int} (hC : CR E A S h) (hI : Inv S) (hi : SG S i) (h8 : S 8 i ≠ 0) (hv : S 13 i = v) (hd : decode cc pc = .ok (.getfield 52, 3)) (kk : Ev E RX1 cc nL ret mn Q d kc ks (pc + 3) L (vI v :: st) h) : Ev E RX1 cc nL ret mn Q d kc ks pc L (.ref (A 21 i) :: st) h := by
  subst hv
  exact cg_X1_52 hC hI hi h8 hd kk
theorem cg_X9_139 {i : Int} (hC : CR E A S h) (hI : Inv S) (hi : SG S i)  (hd : decode cc pc = .ok (.getfield 139, 3)) (kk : Ev E RX9 cc nL ret mn Q d kc ks (pc + 3) L (vI (S 13 i) :: st) h) : Ev E RX9 cc nL ret mn Q d kc ks pc L (.ref (A 21 i) :: st) h := by
  rcases kinds hI hi with e | e | e
  · exact g_X9_139_3 hd (hC.s3 hi e) rfl kk
  · exact g_X9_139_0 hd (hC.s0 hi e) rfl kk
  · exact g_X9_139_4 hd (hC.s4 hi e) rfl kk
theorem cgE_X9_139 {i v : Int} (hC : CR E A S h) (hI : Inv S) (hi : SG S i)  (hv : S 13 i = v) (hd : decode cc pc = .ok (.getfield 139, 3)) (kk : Ev E RX9 cc nL ret mn Q d kc ks (pc + 3) L (vI v :: st) h) : Ev E RX9 cc nL ret mn Q d kc ks pc L (.ref (A 21 i) :: st) h := by
  subst hv
  exact cg_X9_139 hC hI hi  hd kk
theorem cg_X0_7 {i : Int} (hC : CR E A S h) (hI : Inv S) (hi : SG S i) (h8 : S 8 i ≠ 0) (hd : decode cc pc = .ok (.getfield 7, 3)) (kk : Ev E RX0 cc nL ret mn Q d kc ks (pc + 3) L (vI (S 14 i) :: st) h) : Ev E RX0 cc nL ret mn Q d kc ks pc L (.ref (A 21 i) :: st) h := by
  rcases kinds hI hi with e | e | e
  · exact absurd e (by omega)
  · exact g_X0_7_0 hd (hC.s0 hi e) rfl kk
  · exact g_X0_7_4 hd (hC.s4 hi e) rfl kk
theorem cgE_X0_7 {i v : Int} (hC : CR E A S h) (hI : Inv S) (hi : SG S i) (h8 : S 8 i ≠ 0) (hv : S 14 i = v) (hd : decode cc pc = .ok (.getfield 7, 3)) (kk : Ev E RX0 cc nL ret mn Q d kc ks (pc + 3) L (vI v :: st) h) : Ev E RX0 cc nL ret mn Q d kc ks pc L (.ref (A 21 i) :: st) h := by
  subst hv
  exact cg_X0_7 hC hI hi h8 hd kk
theorem cg_X9_148 {i : Int} (hC : CR E A S h) (hI : Inv S) (hi : SG S i) (h8 : S 8 i ≠ 0) (hd : decode cc pc = .ok (.getfield 148, 3)) (kk : Ev E RX9 cc nL ret mn Q d kc ks (pc + 3) L (vI (S 14 i) :: st) h) : Ev E RX9 cc nL ret mn Q d kc ks pc L (.ref (A 21 i) :: st) h := by
  rcases kinds hI hi with e | e | e
  · exact absurd e (by omega)
  · exact g_X9_148_0 hd (hC.s0 hi e) rfl kk
  · exact g_X9_148_4 hd (hC.s4 hi e) rfl kk
theorem cgE_X9_148 {i v : Int} (hC : CR E A S h) (hI : Inv S) (hi : SG S i) (h8 : S 8 i ≠ 0) (hv : S 14 i = v) (hd : decode cc pc = .ok (.getfield 148, 3)) (kk : Ev E RX9 cc nL ret mn Q d kc ks (pc + 3) L (vI v :: st) h) : Ev E RX9 cc nL ret mn Q d kc ks pc L (.ref (A 21 i) :: st) h := by
  subst hv
  exact cg_X9_148 hC hI hi h8 hd kk
theorem cg_X0_19 {i : Int} (hC : CR E A S h) (hI : Inv S) (hi : SG S i) (h8 : S 8 i ≠ 0) (hd : decode cc pc = .ok (.getfield 19, 3)) (kk : Ev E RX0 cc nL ret mn Q d kc ks (pc + 3) L (vI (sinZ (S 12 i)) :: st) h) : Ev E RX0 cc nL ret mn Q d kc ks pc L (.ref (A 21 i) :: st) h := by
  rcases kinds hI hi with e | e | e
  · exact absurd e (by omega)
  · exact g_X0_19_0 hd (hC.s0 hi e) rfl kk
  · exact g_X0_19_4 hd (hC.s4 hi e) rfl kk
theorem cgE_X0_19 {i v : Int} (hC : CR E A S h) (hI : Inv S) (hi : SG S i) (h8 : S 8 i ≠ 0) (hv : sinZ (S 12 i) = v) (hd : decode cc pc = .ok (.getfield 19, 3)) (kk : Ev E RX0 cc nL ret mn Q d kc ks (pc + 3) L (vI v :: st) h) : Ev E RX0 cc nL ret mn Q d kc ks pc L (.ref (A 21 i) :: st) h := by
  subst hv
  exact cg_X0_19 hC hI hi h8 hd kk
theorem cg_X1_25 {i : Int} (hC : CR E A S h) (hI : Inv S) (hi : SG S i) (h8 : S 8 i ≠ 0) (hd : decode cc pc = .ok (.getfield 25, 3)) (kk : Ev E RX1 cc nL ret mn Q d kc ks (pc + 3) L (vI (sinZ (S 12 i)) :: st) h) : Ev E RX1 cc nL ret mn Q d kc ks pc L (.ref (A 21 i) :: st) h := by
  rcases kinds hI hi with e | e | e
  · exact absurd e (by omega)
  · exact g_X1_25_0 hd (hC.s0 hi e) rfl kk
  · exact g_X1_25_4 hd (hC.s4 hi e) rfl kk
theorem cgE_X1_25 {i v : Int} (hC : CR E A S h) (hI : Inv S) (hi : SG S i) (h8 : S 8 i ≠ 0) (hv : sinZ (S 12 i) = v) (hd : decode cc pc = .ok (.getfield 25, 3)) (kk : Ev E RX1 cc nL ret mn Q d kc ks (pc + 3) L (vI v :: st) h) : Ev E RX1 cc nL ret mn Q d kc ks pc L (.ref (A 21 i) :: st) h := by
  subst hv
  exact cg_X1_25 hC hI hi h8 hd kk
theorem cg_X0_25 {i : Int} (hC : CR E A S h) (hI : Inv S) (hi : SG S i) (h8 : S 8 i ≠ 0) (hd : decode cc pc = .ok (.getfield 25, 3)) (kk : Ev E RX0 cc nL ret mn Q d kc ks (pc + 3) L (vI (cosZ (S 12 i)) :: st) h) : Ev E RX0 cc nL ret mn Q d kc ks pc L (.ref (A 21 i) :: st) h := by
  rcases kinds hI hi with e | e | e
  · exact absurd e (by omega)
  · exact g_X0_25_0 hd (hC.s0 hi e) rfl kk
  · exact g_X0_25_4 hd (hC.s4 hi e) rfl kk
theorem cgE_X0_25 {i v : Int} (hC : CR E A S h) (hI : Inv S) (hi : SG S i) (h8 : S 8 i ≠ 0) (hv : cosZ (S 12 i) = v) (hd : decode cc pc = .ok (.getfield 25, 3)) (kk : Ev E RX0 cc nL ret mn Q d kc ks (pc + 3) L (vI v :: st) h) : Ev E RX0 cc nL ret mn Q d kc ks pc L (.ref (A 21 i) :: st) h := by
  subst hv
  exact cg_X0_25 hC hI hi h8 hd kk
theorem cg_X1_28 {i : Int} (hC : CR E A S h) (hI : Inv S) (hi : SG S i) (h8 : S 8 i ≠ 0) (hd : decode cc pc = .ok (.getfield 28, 3)) (kk : Ev E RX1 cc nL ret mn Q d kc ks (pc + 3) L (vI (cosZ (S 12 i)) :: st) h) : Ev E RX1 cc nL ret mn Q d kc ks pc L (.ref (A 21 i) :: st) h := by
  rcases kinds hI hi with e | e | e
  · exact absurd e (by omega)
  · exact g_X1_28_0 hd (hC.s0 hi e) rfl kk
  · exact g_X1_28_4 hd (hC.s4 hi e) rfl kk
theorem cgE_X1_28 {i v : Int} (hC : CR E A S h) (hI : Inv S) (hi : SG S i) (h8 : S 8 i ≠ 0) (hv : cosZ (S 12 i) = v) (hd : decode cc pc = .ok (.getfield 28, 3)) (kk : Ev E RX1 cc nL ret mn Q d kc ks (pc + 3) L (vI v :: st) h) : Ev E RX1 cc nL ret mn Q d kc ks pc L (.ref (A 21 i) :: st) h := by
  subst hv
  exact cg_X1_28 hC hI hi h8 hd kk
theorem cg_X4_7 {i : Int} (hC : CR E A S h) (hI : Inv S) (hi : SG S i) (h8 : S 8 i = 2) (hd : decode cc pc = .ok (.getfield 7, 3)) (kk : Ev E RX4 cc nL ret mn Q d kc ks (pc + 3) L (vI (S 15 i) :: st) h) : Ev E RX4 cc nL ret mn Q d kc ks pc L (.ref (A 21 i) :: st) h := by
  rcases kinds hI hi with e | e | e
  · exact absurd e (by omega)
  · exact absurd e (by omega)
  · exact g_X4_7_4 hd (hC.s4 hi e) rfl kk
theorem cgE_X4_7 {i v : Int} (hC : CR E A S h) (hI : Inv S) (hi : SG S i) (h8 : S 8 i = 2) (hv : S 15 i = v) (hd : decode cc pc = .ok (.getfield 7, 3)) (kk : Ev E RX4 cc nL ret mn Q d kc ks (pc + 3) L (vI v :: st) h) : Ev E RX4 cc nL ret mn Q d kc ks pc L (.ref (A 21 i) :: st) h := by
  subst hv
  exact cg_X4_7 hC hI hi h8 hd kk
theorem cg_X9_151 {i : Int} (hC : CR E A S h) (hI : Inv S) (hi : SG S i) (h8 : S 8 i = 2) (hd : decode cc pc = .ok (.getfield 151, 3)) (kk : Ev E RX9 cc nL ret mn Q d kc ks (pc + 3) L (vI (S 15 i) :: st) h) : Ev E RX9 cc nL ret mn Q d kc ks pc L (.ref (A 21 i) :: st) h := by
  rcases kinds hI hi with e | e | e
  · exact absurd e (by omega)
  · exact absurd e (by omega)
  · exact g_X9_151_4 hd (hC.s4 hi e) rfl kk
theorem cgE_X9_151 {i v : Int} (hC : CR E A S h) (hI : Inv S) (hi : SG S i) (h8 : S 8 i = 2) (hv : S 15 i = v) (hd : decode cc pc = .ok (.getfield 151, 3)) (kk : Ev E RX9 cc nL ret mn Q d kc ks (pc + 3) L (vI v :: st) h) : Ev E RX9 cc nL ret mn Q d kc ks pc L (.ref (A 21 i) :: st) h := by
  subst hv
  exact cg_X9_151 hC hI hi h8 hd kk
theorem cg_X8_7 {i : Int} (hC : CR E A S h) (hi : 0 ≤ i ∧ i < S 34 0) (hd : decode cc pc = .ok (.getfield 7, 3)) (kk : Ev E RX8 cc nL ret mn Q d kc ks (pc + 3) L (.ref (A 20 (S 35 i)) :: st) h) : Ev E RX8 cc nL ret mn Q d kc ks pc L (.ref (A 22 i) :: st) h := g_X8_7_8 hd (hC.k22 hi) rfl kk
theorem cg_X9_232 {i : Int} (hC : CR E A S h) (hi : 0 ≤ i ∧ i < S 34 0) (hd : decode cc pc = .ok (.getfield 232, 3)) (kk : Ev E RX9 cc nL ret mn Q d kc ks (pc + 3) L (.ref (A 20 (S 35 i)) :: st) h) : Ev E RX9 cc nL ret mn Q d kc ks pc L (.ref (A 22 i) :: st) h := g_X9_232_8 hd (hC.k22 hi) rfl kk
theorem cg_X8_13 {i : Int} (hC : CR E A S h) (hi : 0 ≤ i ∧ i < S 34 0) (hd : decode cc pc = .ok (.getfield 13, 3)) (kk : Ev E RX8 cc nL ret mn Q d kc ks (pc + 3) L (vI (S 36 i) :: st) h) : Ev E RX8 cc nL ret mn Q d kc ks pc L (.ref (A 22 i) :: st) h := g_X8_13_8 hd (hC.k22 hi) rfl kk
theorem cgE_X8_13 {i : Int} {v : Int} (hC : CR E A S h) (hi : 0 ≤ i ∧ i < S 34 0) (hv : S 36 i = v) (hd : decode cc pc = .ok (.getfield 13, 3)) (kk : Ev E RX8 cc nL ret mn Q d kc ks (pc + 3) L (vI v :: st) h) : Ev E RX8 cc nL ret mn Q d kc ks pc L (.ref (A 22 i) :: st) h := by
  subst hv
  exact cg_X8_13 hC hi hd kk
theorem cg_X9_233 {i : Int} (hC : CR E A S h) (hi : 0 ≤ i ∧ i < S 34 0) (hd : decode cc pc = .ok (.getfield 233, 3)) (kk : Ev E RX9 cc nL ret mn Q d kc ks (pc + 3) L (vI (S 36 i) :: st) h) : Ev E RX9 cc nL ret mn Q d kc ks pc L (.ref (A 22 i) :: st) h := g_X9_233_8 hd (hC.k22 hi) rfl kk
theorem cgE_X9_233 {i : Int} {v : Int} (hC : CR E A S h) (hi : 0 ≤ i ∧ i < S 34 0) (hv : S 36 i = v) (hd : decode cc pc = .ok (.getfield 233, 3)) (kk : Ev E RX9 cc nL ret mn Q d kc ks (pc + 3) L (vI v :: st) h) : Ev E RX9 cc nL ret mn Q d kc ks pc L (.ref (A 22 i) :: st) h := by
  subst hv
  exact cg_X9_233 hC hi hd kk
theorem cg_X8_17 {i : Int} (hC : CR E A S h) (hi : 0 ≤ i ∧ i < S 34 0) (hd : decode cc pc = .ok (.getfield 17, 3)) (kk : Ev E RX8 cc nL ret mn Q d kc ks (pc + 3) L (vI (S 37 i) :: st) h) : Ev E RX8 cc nL ret mn Q d kc ks pc L (.ref (A 22 i) :: st) h := g_X8_17_8 hd (hC.k22 hi) rfl kk
theorem cgE_X8_17 {i : Int} {v : Int} (hC : CR E A S h) (hi : 0 ≤ i ∧ i < S 34 0) (hv : S 37 i = v) (hd : decode cc pc = .ok (.getfield 17, 3)) (kk : Ev E RX8 cc nL ret mn Q d kc ks (pc + 3) L (vI v :: st) h) : Ev E RX8 cc nL ret mn Q d kc ks pc L (.ref (A 22 i) :: st) h := by
  subst hv
  exact cg_X8_17 hC hi hd kk
theorem cg_X9_234 {i : Int} (hC : CR E A S h) (hi : 0 ≤ i ∧ i < S 34 0) (hd : decode cc pc = .ok (.getfield 234, 3)) (kk : Ev E RX9 cc nL ret mn Q d kc ks (pc + 3) L (vI (S 37 i) :: st) h) : Ev E RX9 cc nL ret mn Q d kc ks pc L (.ref (A 22 i) :: st) h := g_X9_234_8 hd (hC.k22 hi) rfl kk
theorem cgE_X9_234 {i : Int} {v : Int} (hC : CR E A S h) (hi : 0 ≤ i ∧ i < S 34 0) (hv : S 37 i = v) (hd : decode cc pc = .ok (.getfield 234, 3)) (kk : Ev E RX9 cc nL ret mn Q d kc ks (pc + 3) L (vI v :: st) h) : Ev E RX9 cc nL ret mn Q d kc ks pc L (.ref (A 22 i) :: st) h := by
  subst hv
  exact cg_X9_234 hC hi hd kk
theorem cg_X8_20 {i : Int} (hC : CR E A S h) (hi : 0 ≤ i ∧ i < S 34 0) (hd : decode cc pc = .ok (.getfield 20, 3)) (kk : Ev E RX8 cc nL ret mn Q d kc ks (pc + 3) L (vI (S 38 i) :: st) h) : Ev E RX8 cc nL ret mn Q d kc ks pc L (.ref (A 22 i) :: st) h := g_X8_20_8 hd (hC.k22 hi) rfl kk
theorem cgE_X8_20 {i : Int} {v : Int} (hC : CR E A S h) (hi : 0 ≤ i ∧ i < S 34 0) (hv : S 38 i = v) (hd : decode cc pc = .ok (.getfield 20, 3)) (kk : Ev E RX8 cc nL ret mn Q d kc ks (pc + 3) L (vI v :: st) h) : Ev E RX8 cc nL ret mn Q d kc ks pc L (.ref (A 22 i) :: st) h := by
  subst hv
  exact cg_X8_20 hC hi hd kk
theorem cg_X9_229 {i : Int} (hC : CR E A S h) (hi : 0 ≤ i ∧ i < S 34 0) (hd : decode cc pc = .ok (.getfield 229, 3)) (kk : Ev E RX9 cc nL ret mn Q d kc ks (pc + 3) L (vI (S 38 i) :: st) h) : Ev E RX9 cc nL ret mn Q d kc ks pc L (.ref (A 22 i) :: st) h := g_X9_229_8 hd (hC.k22 hi) rfl kk
theorem cgE_X9_229 {i : Int} {v : Int} (hC : CR E A S h) (hi : 0 ≤ i ∧ i < S 34 0) (hv : S 38 i = v) (hd : decode cc pc = .ok (.getfield 229, 3)) (kk : Ev E RX9 cc nL ret mn Q d kc ks (pc + 3) L (vI v :: st) h) : Ev E RX9 cc nL ret mn Q d kc ks pc L (.ref (A 22 i) :: st) h := by
  subst hv
  exact cg_X9_229 hC hi hd kk
theorem cg_X5_7 {i : Int} (hC : CR E A S h) (hi : (0 ≤ i ∧ i < 4) ∧ 0 ≤ S 43 i) (hd : decode cc pc = .ok (.getfield 7, 3)) (kk : Ev E RX5 cc nL ret mn Q d kc ks (pc + 3) L (vI (S 43 i) :: st) h) : Ev E RX5 cc nL ret mn Q d kc ks pc L (.ref (A 23 i) :: st) h := g_X5_7_5 hd (hC.k23 hi) rfl kk
theorem cgE_X5_7 {i : Int} {v : Int} (hC : CR E A S h) (hi : (0 ≤ i ∧ i < 4) ∧ 0 ≤ S 43 i) (hv : S 43 i = v) (hd : decode cc pc = .ok (.getfield 7, 3)) (kk : Ev E RX5 cc nL ret mn Q d kc ks (pc + 3) L (vI v :: st) h) : Ev E RX5 cc nL ret mn Q d kc ks pc L (.ref (A 23 i) :: st) h := by
  subst hv
  exact cg_X5_7 hC hi hd kk
theorem cg_X9_270 {i : Int} (hC : CR E A S h) (hi : (0 ≤ i ∧ i < 4) ∧ 0 ≤ S 43 i) (hd : decode cc pc = .ok (.getfield 270, 3)) (kk : Ev E RX9 cc nL ret mn Q d kc ks (pc + 3) L (vI (S 43 i) :: st) h) : Ev E RX9 cc nL ret mn Q d kc ks pc L (.ref (A 23 i) :: st) h := g_X9_270_5 hd (hC.k23 hi) rfl kk
theorem cgE_X9_270 {i : Int} {v : Int} (hC : CR E A S h) (hi : (0 ≤ i ∧ i < 4) ∧ 0 ≤ S 43 i) (hv : S 43 i = v) (hd : decode cc pc = .ok (.getfield 270, 3)) (kk : Ev E RX9 cc nL ret mn Q d kc ks (pc + 3) L (vI v :: st) h) : Ev E RX9 cc nL ret mn Q d kc ks pc L (.ref (A 23 i) :: st) h := by
  subst hv
  exact cg_X9_270 hC hi hd kk
theorem cg_X5_13 {i : Int} (hC : CR E A S h) (hi : (0 ≤ i ∧ i < 4) ∧ 0 ≤ S 43 i) (hd : decode cc pc = .ok (.getfield 13, 3)) (kk : Ev E RX5 cc nL ret mn Q d kc ks (pc + 3) L (.ref (A 24 i) :: st) h) : Ev E RX5 cc nL ret mn Q d kc ks pc L (.ref (A 23 i) :: st) h := g_X5_13_5 hd (hC.k23 hi) rfl kk
theorem cg_X9_267 {i : Int} (hC : CR E A S h) (hi : (0 ≤ i ∧ i < 4) ∧ 0 ≤ S 43 i) (hd : decode cc pc = .ok (.getfield 267, 3)) (kk : Ev E RX9 cc nL ret mn Q d kc ks (pc + 3) L (.ref (A 24 i) :: st) h) : Ev E RX9 cc nL ret mn Q d kc ks pc L (.ref (A 23 i) :: st) h := g_X9_267_5 hd (hC.k23 hi) rfl kk
theorem cio_X9_105 {i : Int} (hC : CR E A S h) (hI : Inv S) (hi : SG S i) (hd : decode cc pc = .ok (.instanceof 105, 3)) (ky : S 8 i ≠ 0 → Ev E RX9 cc nL ret mn Q d kc ks (pc + 3) L (vI 1 :: st) h) (kn : S 8 i = 0 → Ev E RX9 cc nL ret mn Q d kc ks (pc + 3) L (vI 0 :: st) h) : Ev E RX9 cc nL ret mn Q d kc ks pc L (.ref (A 21 i) :: st) h := by
  rcases kinds hI hi with e | e | e
  · exact ev_instNo (ci := 3) (r := (RX3, TX3, 5)) (C := RX0) rfl (by decide) (List.mem_filter.mpr ⟨List.mem_of_getElem? (i := 317) (by decide +kernel), by decide +kernel⟩) hd (hC.s3 hi e) (kn e)
  · exact ev_instS (ci := 0) (r := (RX0, TX0, 8)) rfl (List.mem_filter.mpr ⟨List.mem_of_getElem? (i := 317) (by decide +kernel), by decide +kernel⟩) hd (hC.s0 hi e) (ky (by omega))
  · exact ev_instY (ci := 4) (r := (RX4, TX4, 9)) (C := RX0) rfl (by decide) (List.mem_filter.mpr ⟨List.mem_of_getElem? (i := 317) (by decide +kernel), by decide +kernel⟩) hd (hC.s4 hi e) (ky (by omega))
theorem ccs_X9_105 {i : Int} (hC : CR E A S h) (hI : Inv S) (hi : SG S i) (h8 : S 8 i ≠ 0) (hd : decode cc pc = .ok (.checkcast 105, 3)) (kk : Ev E RX9 cc nL ret mn Q d kc ks (pc + 3) L (.ref (A 21 i) :: st) h) : Ev E RX9 cc nL ret mn Q d kc ks pc L (.ref (A 21 i) :: st) h := by
  rcases kinds hI hi with e | e | e
  · exact absurd e h8
  · exact ev_castS (ci := 0) (r := (RX0, TX0, 8)) rfl (List.mem_filter.mpr ⟨List.mem_of_getElem? (i := 317) (by decide +kernel), by decide +kernel⟩) hd (hC.s0 hi e) kk
  · exact ev_castY (ci := 4) (r := (RX4, TX4, 9)) (C := RX0) rfl (by decide) (List.mem_filter.mpr ⟨List.mem_of_getElem? (i := 317) (by decide +kernel), by decide +kernel⟩) hd (hC.s4 hi e) kk
theorem cio_X6_17 {i : Int} (hC : CR E A S h) (hI : Inv S) (hi : SG S i) (hd : decode cc pc = .ok (.instanceof 17, 3)) (ky : S 8 i ≠ 0 → Ev E RX6 cc nL ret mn Q d kc ks (pc + 3) L (vI 1 :: st) h) (kn : S 8 i = 0 → Ev E RX6 cc nL ret mn Q d kc ks (pc + 3) L (vI 0 :: st) h) : Ev E RX6 cc nL ret mn Q d kc ks pc L (.ref (A 21 i) :: st) h := by
  rcases kinds hI hi with e | e | e
  · exact ev_instNo (ci := 3) (r := (RX3, TX3, 5)) (C := RX0) rfl (by decide) (List.mem_filter.mpr ⟨List.mem_of_getElem? (i := 94) (by decide +kernel), by decide +kernel⟩) hd (hC.s3 hi e) (kn e)
  · exact ev_instS (ci := 0) (r := (RX0, TX0, 8)) rfl (List.mem_filter.mpr ⟨List.mem_of_getElem? (i := 94) (by decide +kernel), by decide +kernel⟩) hd (hC.s0 hi e) (ky (by omega))
  · exact ev_instY (ci := 4) (r := (RX4, TX4, 9)) (C := RX0) rfl (by decide) (List.mem_filter.mpr ⟨List.mem_of_getElem? (i := 94) (by decide +kernel), by decide +kernel⟩) hd (hC.s4 hi e) (ky (by omega))
theorem ccs_X6_17 {i : Int} (hC : CR E A S h) (hI : Inv S) (hi : SG S i) (h8 : S 8 i ≠ 0) (hd : decode cc pc = .ok (.checkcast 17, 3)) (kk : Ev E RX6 cc nL ret mn Q d kc ks (pc + 3) L (.ref (A 21 i) :: st) h) : Ev E RX6 cc nL ret mn Q d kc ks pc L (.ref (A 21 i) :: st) h := by
  rcases kinds hI hi with e | e | e
  · exact absurd e h8
  · exact ev_castS (ci := 0) (r := (RX0, TX0, 8)) rfl (List.mem_filter.mpr ⟨List.mem_of_getElem? (i := 94) (by decide +kernel), by decide +kernel⟩) hd (hC.s0 hi e) kk
  · exact ev_castY (ci := 4) (r := (RX4, TX4, 9)) (C := RX0) rfl (by decide) (List.mem_filter.mpr ⟨List.mem_of_getElem? (i := 94) (by decide +kernel), by decide +kernel⟩) hd (hC.s4 hi e) kk
theorem cio_X9_110 {i : Int} (hC : CR E A S h) (hI : Inv S) (hi : SG S i) (hd : decode cc pc = .ok (.instanceof 110, 3)) (ky : S 8 i = 2 → Ev E RX9 cc nL ret mn Q d kc ks (pc + 3) L (vI 1 :: st) h) (kn : S 8 i < 2 → Ev E RX9 cc nL ret mn Q d kc ks (pc + 3) L (vI 0 :: st) h) : Ev E RX9 cc nL ret mn Q d kc ks pc L (.ref (A 21 i) :: st) h := by
  rcases kinds hI hi with e | e | e
  · exact ev_instNo (ci := 3) (r := (RX3, TX3, 5)) (C := RX4) rfl (by decide) (List.mem_filter.mpr ⟨List.mem_of_getElem? (i := 357) (by decide +kernel), by decide +kernel⟩) hd (hC.s3 hi e) (kn (by omega))
  · exact ev_instNo (ci := 0) (r := (RX0, TX0, 8)) (C := RX4) rfl (by decide) (List.mem_filter.mpr ⟨List.mem_of_getElem? (i := 357) (by decide +kernel), by decide +kernel⟩) hd (hC.s0 hi e) (kn (by omega))
  · exact ev_instS (ci := 4) (r := (RX4, TX4, 9)) rfl (List.mem_filter.mpr ⟨List.mem_of_getElem? (i := 357) (by decide +kernel), by decide +kernel⟩) hd (hC.s4 hi e) (ky e)
theorem ccs_X9_110 {i : Int} (hC : CR E A S h) (hI : Inv S) (hi : SG S i) (h8 : S 8 i = 2) (hd : decode cc pc = .ok (.checkcast 110, 3)) (kk : Ev E RX9 cc nL ret mn Q d kc ks (pc + 3) L (.ref (A 21 i) :: st) h) : Ev E RX9 cc nL ret mn Q d kc ks pc L (.ref (A 21 i) :: st) h := ev_castS (ci := 4) (r := (RX4, TX4, 9)) rfl (List.mem_filter.mpr ⟨List.mem_of_getElem? (i := 357) (by decide +kernel), by decide +kernel⟩) hd (hC.s4 hi h8) kk
theorem cn_X9_9 (hd : decode cc pc = .ok (.new 9, 3)) (kk : ∀ q, h q = none → Ev E RX9 cc nL ret mn Q d kc ks (pc + 3) L (.ref q :: st) (ah_up h q (ob 7 [vI 0, vI 0, vI 0, vI 0, vI 0]))) : Ev E RX9 cc nL ret mn Q d (kc + 1) (ks + 5) pc L st h := ev_new inX7 tyX7 tyX7_ok (List.mem_filter.mpr ⟨List.mem_of_getElem? (i := 65) (by decide +kernel), by decide +kernel⟩) inst_X7 ini_X7 (ci := 7) rfl (by decide) hd kk
theorem cn_X9_15 (hd : decode cc pc = .ok (.new 15, 3)) (kk : ∀ q, h q = none → Ev E RX9 cc nL ret mn Q d kc ks (pc + 3) L (.ref q :: st) (ah_up h q (ob 3 [.null, vI 0, vI 0, vI 0, vI 0]))) : Ev E RX9 cc nL ret mn Q d (kc + 1) (ks + 5) pc L st h := ev_new inX3 tyX3 tyX3_ok (List.mem_filter.mpr ⟨List.mem_of_getElem? (i := 67) (by decide +kernel), by decide +kernel⟩) inst_X3 ini_X3 (ci := 3) rfl (by decide) hd kk
theorem cn_X9_21 (hd : decode cc pc = .ok (.new 21, 3)) (kk : ∀ q, h q = none → Ev E RX9 cc nL ret mn Q d kc ks (pc + 3) L (.ref q :: st) (ah_up h q (ob 8 [.null, vI 0, vI 0, vI 0]))) : Ev E RX9 cc nL ret mn Q d (kc + 1) (ks + 4) pc L st h := ev_new inX8 tyX8 tyX8_ok (List.mem_filter.mpr ⟨List.mem_of_getElem? (i := 69) (by decide +kernel), by decide +kernel⟩) inst_X8 ini_X8 (ci := 8) rfl (by decide) hd kk
theorem cn_X9_40 (hd : decode cc pc = .ok (.new 40, 3)) (kk : ∀ q, h q = none → Ev E RX9 cc nL ret mn Q d kc ks (pc + 3) L (.ref q :: st) (ah_up h q (ob 5 [vI 0, .null]))) : Ev E RX9 cc nL ret mn Q d (kc + 1) (ks + 2) pc L st h := ev_new inX5 tyX5 tyX5_ok (List.mem_filter.mpr ⟨List.mem_of_getElem? (i := 71) (by decide +kernel), by decide +kernel⟩) inst_X5 ini_X5 (ci := 5) rfl (by decide) hd kk
theorem cn_X9_46 (hd : decode cc pc = .ok (.new 46, 3)) (kk : ∀ q, h q = none → Ev E RX9 cc nL ret mn Q d kc ks (pc + 3) L (.ref q :: st) (ah_up h q (ob 1 [.null]))) : Ev E RX9 cc nL ret mn Q d (kc + 1) (ks + 1) pc L st h := ev_new inX1 tyX1 tyX1_ok (List.mem_filter.mpr ⟨List.mem_of_getElem? (i := 73) (by decide +kernel), by decide +kernel⟩) inst_X1 ini_X1 (ci := 1) rfl (by decide) hd kk
theorem cn_X9_53 (hd : decode cc pc = .ok (.new 53, 3)) (kk : ∀ q, h q = none → Ev E RX9 cc nL ret mn Q d kc ks (pc + 3) L (.ref q :: st) (ah_up h q (ob 6 [.null, .null, .null, .null, .null, .null, .null, vI 0, vI 0]))) : Ev E RX9 cc nL ret mn Q d (kc + 1) (ks + 9) pc L st h := ev_new inX6 tyX6 tyX6_ok (List.mem_filter.mpr ⟨List.mem_of_getElem? (i := 86) (by decide +kernel), by decide +kernel⟩) inst_X6 ini_X6 (ci := 6) rfl (by decide) hd kk
theorem cn_X6_9 (hd : decode cc pc = .ok (.new 9, 3)) (kk : ∀ q, h q = none → Ev E RX6 cc nL ret mn Q d kc ks (pc + 3) L (.ref q :: st) (ah_up h q (ob 2 [vI 0, vI 0, vI 0, vI 0, vI 0, vI 0, vI 0, vI 0, vI 0, vI 0]))) : Ev E RX6 cc nL ret mn Q d (kc + 1) (ks + 10) pc L st h := ev_new inX2 tyX2 tyX2_ok (List.mem_filter.mpr ⟨List.mem_of_getElem? (i := 92) (by decide +kernel), by decide +kernel⟩) inst_X2 ini_X2 (ci := 2) rfl (by decide) hd kk
theorem cn_X9_105 (hd : decode cc pc = .ok (.new 105, 3)) (kk : ∀ q, h q = none → Ev E RX9 cc nL ret mn Q d kc ks (pc + 3) L (.ref q :: st) (ah_up h q (ob 0 [.null, vI 0, vI 0, vI 0, vI 0, vI 0, vI 0, vI 0]))) : Ev E RX9 cc nL ret mn Q d (kc + 1) (ks + 8) pc L st h := ev_new inX0 tyX0 tyX0_ok (List.mem_filter.mpr ⟨List.mem_of_getElem? (i := 317) (by decide +kernel), by decide +kernel⟩) inst_X0 ini_X0 (ci := 0) rfl (by decide) hd kk
theorem cn_X9_110 (hd : decode cc pc = .ok (.new 110, 3)) (kk : ∀ q, h q = none → Ev E RX9 cc nL ret mn Q d kc ks (pc + 3) L (.ref q :: st) (ah_up h q (ob 4 [vI 0, vI 0, vI 0, .null, vI 0, vI 0, vI 0, vI 0, vI 0]))) : Ev E RX9 cc nL ret mn Q d (kc + 1) (ks + 9) pc L st h := ev_new inX4 tyX4 tyX4_ok (List.mem_filter.mpr ⟨List.mem_of_getElem? (i := 357) (by decide +kernel), by decide +kernel⟩) inst_X4 ini_X4 (ci := 4) rfl (by decide) hd kk
theorem cna_X9_9 {n : Nat} (hn : n < 65536) (hd : decode cc pc = .ok (.anewarray 9, 3)) (kk : ∀ q, h q = none → Ev E RX9 cc nL ret mn Q d kc ks (pc + 3) L (.ref q :: st) (ah_up h q (arR E 1 n (fun _ => none)))) : Ev E RX9 cc nL ret mn Q d (kc + 1) (ks + n) pc L (vI (n : Int) :: st) h := ev_newR (C := RX7) rfl (List.mem_filter.mpr ⟨List.mem_of_getElem? (i := 65) (by decide +kernel), by decide +kernel⟩) (by decide) hn hd kk
theorem cna_X9_15 {n : Nat} (hn : n < 65536) (hd : decode cc pc = .ok (.anewarray 15, 3)) (kk : ∀ q, h q = none → Ev E RX9 cc nL ret mn Q d kc ks (pc + 3) L (.ref q :: st) (ah_up h q (arR E 2 n (fun _ => none)))) : Ev E RX9 cc nL ret mn Q d (kc + 1) (ks + n) pc L (vI (n : Int) :: st) h := ev_newR (C := RX3) rfl (List.mem_filter.mpr ⟨List.mem_of_getElem? (i := 67) (by decide +kernel), by decide +kernel⟩) (by decide) hn hd kk
theorem cna_X9_21 {n : Nat} (hn : n < 65536) (hd : decode cc pc = .ok (.anewarray 21, 3)) (kk : ∀ q, h q = none → Ev E RX9 cc nL ret mn Q d kc ks (pc + 3) L (.ref q :: st) (ah_up h q (arR E 3 n (fun _ => none)))) : Ev E RX9 cc nL ret mn Q d (kc + 1) (ks + n) pc L (vI (n : Int) :: st) h := ev_newR (C := RX8) rfl (List.mem_filter.mpr ⟨List.mem_of_getElem? (i := 69) (by decide +kernel), by decide +kernel⟩) (by decide) hn hd kk
theorem cna_X9_40 {n : Nat} (hn : n < 65536) (hd : decode cc pc = .ok (.anewarray 40, 3)) (kk : ∀ q, h q = none → Ev E RX9 cc nL ret mn Q d kc ks (pc + 3) L (.ref q :: st) (ah_up h q (arR E 4 n (fun _ => none)))) : Ev E RX9 cc nL ret mn Q d (kc + 1) (ks + n) pc L (vI (n : Int) :: st) h := ev_newR (C := RX5) rfl (List.mem_filter.mpr ⟨List.mem_of_getElem? (i := 71) (by decide +kernel), by decide +kernel⟩) (by decide) hn hd kk
theorem cna_X6_9 {n : Nat} (hn : n < 65536) (hd : decode cc pc = .ok (.anewarray 9, 3)) (kk : ∀ q, h q = none → Ev E RX6 cc nL ret mn Q d kc ks (pc + 3) L (.ref q :: st) (ah_up h q (arR E 5 n (fun _ => none)))) : Ev E RX6 cc nL ret mn Q d (kc + 1) (ks + n) pc L (vI (n : Int) :: st) h := ev_newR (C := RX2) rfl (List.mem_filter.mpr ⟨List.mem_of_getElem? (i := 92) (by decide +kernel), by decide +kernel⟩) (by decide) hn hd kk
theorem cna_X6_17 {n : Nat} (hn : n < 65536) (hd : decode cc pc = .ok (.anewarray 17, 3)) (kk : ∀ q, h q = none → Ev E RX6 cc nL ret mn Q d kc ks (pc + 3) L (.ref q :: st) (ah_up h q (arR E 6 n (fun _ => none)))) : Ev E RX6 cc nL ret mn Q d (kc + 1) (ks + n) pc L (vI (n : Int) :: st) h := ev_newR (C := RX0) rfl (List.mem_filter.mpr ⟨List.mem_of_getElem? (i := 94) (by decide +kernel), by decide +kernel⟩) (by decide) hn hd kk
end CRULES
