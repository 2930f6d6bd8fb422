/-! bounds of what is told of a set -/
theorem dnI_b {op : Int → Int → Int} {e a b n : Int} {f : Int → Int} (he : a ≤ e ∧ e ≤ b) (hs : ∀ i x, 0 ≤ i → i < n → a ≤ x → x ≤ b → a ≤ op x (f i) ∧ op x (f i) ≤ b) : ∀ i, i ≤ n → 0 ≤ i → a ≤ dnI op e f n i ∧ dnI op e f n i ≤ b := by
  refine up_ind (fun i ih hi i0 => ?_)
  by_cases q : i < n
  · rw [dnI_s q]
    have := ih (i + 1) (by omega) (by omega) (by omega)
    exact hs i _ i0 q this.1 this.2
  · rw [dnI_e (by omega)]
    exact he
theorem sum_cmp {f g : Int → Int} {B n : Int} (hn : 0 ≤ n) (h : ∀ j, 0 ≤ j → j < n → -(B * g j) ≤ f j ∧ f j ≤ B * g j) : -(B * sumI g n) ≤ sumI f n ∧ sumI f n ≤ B * sumI g n := by
  have key : ∀ m : Nat, (m : Int) ≤ n → -(B * sumI g m) ≤ sumI f m ∧ sumI f m ≤ B * sumI g m := by
    intro m
    induction m with
    | zero =>
      intro _
      have e1 : sumI f ((0 : Nat) : Int) = 0 := rfl
      have e2 : sumI g ((0 : Nat) : Int) = 0 := rfl
      rw [e1, e2]
      omega
    | succ m ih =>
      intro hm
      have h1 := ih (by omega)
      have h2 := h m (by omega) (by omega)
      rw [show ((m + 1 : Nat) : Int) = (m : Int) + 1 by omega, sumI_s _ (by omega), sumI_s _ (by omega), Int.mul_add]
      omega
  have := key n.toNat (by omega)
  rw [Int.toNat_of_nonneg hn] at this
  exact this
theorem dn_cmp {f g : Int → Int} {B n : Int} (h : ∀ j, 0 ≤ j → j < n → -(B * g j) ≤ f j ∧ f j ≤ B * g j) : ∀ i, i ≤ n → 0 ≤ i → -(B * dnI ad2 0 g n i) ≤ dnI ad2 0 f n i ∧ dnI ad2 0 f n i ≤ B * dnI ad2 0 g n i := by
  refine up_ind (fun i ih hi i0 => ?_)
  by_cases q : i < n
  · rw [dnI_s q, dnI_s q]
    have h1 := ih (i + 1) (by omega) (by omega) (by omega)
    have h2 := h i i0 q
    unfold ad2 at h1 ⊢
    rw [Int.mul_add]
    omega
  · rw [dnI_e (by omega), dnI_e (by omega)]
    omega
theorem tdiv_B {x p B : Int} (hp : 0 < p) (hB : 0 ≤ B) (h : -(B * p) ≤ x ∧ x ≤ B * p) : -B ≤ x.tdiv p ∧ x.tdiv p ≤ B := by
  have h1 : (x.tdiv p).natAbs ≤ B.natAbs := by
    rw [Int.natAbs_tdiv]
    have h2 : x.natAbs ≤ B.natAbs * p.natAbs := by
      rw [← Int.natAbs_mul]
      omega
    exact Nat.div_le_of_le_mul (by rw [Nat.mul_comm]; exact h2)
  omega
/-- what is asked of a NIGHT's list and its sets -/
def Okl (S : MS) (l r : List Int) (n : Int) : Prop := (0 ≤ n ∧ n ≤ 10) ∧ (∀ j, 0 ≤ j → j < n → SG S (at0 l j)) ∧ ∀ i j : Int, 0 ≤ i → i < j → j < n → at0 r i = at0 r j → CrP S (at0 l i) (at0 l j)
theorem fr_b {S : MS} {a : Int} (hI : Inv S) (ha : SG S a) : (-60 ≤ frZ S a ∧ frZ S a ≤ 1500) ∧ -60 ≤ laZ S a ∧ laZ S a ≤ 1500 := by
  obtain ⟨i1, i2, i3, i4, i5, i6, iSt, iSi, iWa, iSh, iLa, iS0, iS1, iZe⟩ := hI
  have si := iSi _ ha.1 ha.2
  have sti := iSt _ si.2.1.1 si.2.1.2
  unfold frZ laZ
  omega
theorem tiK_b {S : MS} {l r : List Int} {n k : Int} (hI : Inv S) (h : Okl S l r n) : -10000 ≤ tiK S l r k n ∧ tiK S l r k n ≤ 10000 := by
  have h1 : -10000 ≤ frK S l r k n ∧ frK S l r k n ≤ 1500 := by
    refine dnI_b (by omega) (fun i x i0 i1 x0 x1 => ?_) 0 h.1.1 (by omega)
    have := (fr_b hI (h.2.1 i i0 i1)).1
    unfold mx plF
    try dsimp only
    by_cases q : at0 r i = k
    · simp only [if_pos q]
      split <;> omega
    · simp only [if_neg q]
      split <;> omega
  have h2 : -60 ≤ toK S l r k n ∧ toK S l r k n ≤ 10000 := by
    refine dnI_b (by omega) (fun i x i0 i1 x0 x1 => ?_) 0 h.1.1 (by omega)
    have := (fr_b hI (h.2.1 i i0 i1)).2
    unfold mn plT
    try dsimp only
    by_cases q : at0 r i = k
    · simp only [if_pos q]
      split <;> omega
    · simp only [if_neg q]
      split <;> omega
  unfold tiK
  omega
theorem meK_b {r : List Int} {n k : Int} (hn : 0 ≤ n) : 0 ≤ meK r k n ∧ meK r k n ≤ n := by
  have key : ∀ i, i ≤ n → 0 ≤ i → 0 ≤ dnI ad2 0 (plM r k) n i ∧ dnI ad2 0 (plM r k) n i ≤ n - i := by
    refine up_ind (fun i ih hi i0 => ?_)
    by_cases q : i < n
    · rw [dnI_s q]
      have := ih (i + 1) (by omega) (by omega) (by omega)
      unfold ad2 plM at this ⊢
      try dsimp only at this ⊢
      split <;> omega
    · rw [dnI_e (by omega)]
      omega
  have := key 0 hn (by omega)
  unfold meK
  omega
theorem avK_b {S : MS} {l r : List Int} {n k w : Int} (hI : Inv S) (h : Okl S l r n) : -1600000 ≤ avK S l r k w n ∧ avK S l r k w n ≤ 1600000 := by
  have hpn : ∀ i, i ≤ n → 0 ≤ i → 0 ≤ dnI ad2 0 (plP r k n) n i ∧ dnI ad2 0 (plP r k n) n i ≤ 100000 := by
    have hq : ∀ i, 0 ≤ sumI (rwP r k i) n ∧ sumI (rwP r k i) n ≤ n := fun i => by
      have := sumI_b (f := rwP r k i) (a := 0) (b := 1) h.1.1 (fun j _ _ => by unfold rwP; (try dsimp only); split <;> omega)
      omega
    have key : ∀ i, i ≤ n → 0 ≤ i → 0 ≤ dnI ad2 0 (plP r k n) n i ∧ dnI ad2 0 (plP r k n) n i ≤ 10 * (n - i) := by
      refine up_ind (fun i ih hi i0 => ?_)
      by_cases q : i < n
      · rw [dnI_s q]
        have := ih (i + 1) (by omega) (by omega) (by omega)
        have h3 := hq i
        have h4 := h.1
        unfold ad2 plP at this ⊢
        try dsimp only at this ⊢
        split <;> omega
      · rw [dnI_e (by omega)]
        omega
    intro i hi i0
    have := key i hi i0
    have h4 := h.1
    omega
  have hp := hpn 0 h.1.1 (by omega)
  have hs : -(1600000 * prK r k n) ≤ suK S l r k w n ∧ suK S l r k w n ≤ 1600000 * prK r k n := by
    refine dn_cmp (fun i i0 i1 => ?_) 0 h.1.1 (by omega)
    unfold plX plP
    try dsimp only
    by_cases q : at0 r i = k
    · rw [if_pos q, if_pos q]
      refine sum_cmp h.1.1 (fun j j0 j1 => ?_)
      unfold rwX rwP
      try dsimp only
      by_cases q2 : i < j ∧ at0 r j = k
      · rw [if_pos q2, if_pos q2]
        have := partZ_b (w := w) hI (h.2.1 i i0 i1) (h.2.2 i j i0 q2.1 j1 (by omega))
        omega
      · rw [if_neg q2, if_neg q2]
        omega
    · rw [if_neg q, if_neg q]
      omega
  unfold avK
  split
  · omega
  · next hne =>
    refine tdiv_B ?_ (by omega) hs
    unfold prK at hne ⊢
    omega
/-! WAYS -/
def fbest (p : Int → Bool) (g : Int → Int) (e : Int) : Nat → Int
  | 0 => e
  | b + 1 => if p (b : Int) = true ∧ fbest p g e b < g (b : Int) then g (b : Int) else fbest p g e b
theorem fbest_s {p : Int → Bool} {g : Int → Int} {e b : Int} (h : 0 ≤ b) : fbest p g e (b + 1).toNat = if p b = true ∧ fbest p g e b.toNat < g b then g b else fbest p g e b.toNat := by
  rw [show (b + 1).toNat = b.toNat + 1 by omega, fbest, Int.toNat_of_nonneg h]
theorem fbest_b {p : Int → Bool} {g : Int → Int} {e A B : Int} (he : A ≤ e ∧ e ≤ B) (hg : ∀ b, 0 ≤ b → p b = true → A ≤ g b ∧ g b ≤ B) : ∀ m : Nat, A ≤ fbest p g e m ∧ fbest p g e m ≤ B := by
  intro m
  induction m with
  | zero => exact he
  | succ m ih =>
    unfold fbest
    split
    · next hc => exact hg m (by omega) hc.1
    · exact ih
theorem fbest_or {p : Int → Bool} {g : Int → Int} {e : Int} : ∀ m : Nat, fbest p g e m = e ∨ ∃ b : Int, 0 ≤ b ∧ b < m ∧ p b = true ∧ fbest p g e m = g b := by
  intro m
  induction m with
  | zero => exact Or.inl rfl
  | succ m ih =>
    unfold fbest
    split
    · next hc => exact Or.inr ⟨m, by omega, by omega, hc.1, rfl⟩
    · rcases ih with h | ⟨b, b0, b1, b2, b3⟩
      · exact Or.inl h
      · exact Or.inr ⟨b, b0, by omega, b2, b3⟩
def mL (F : Int → Int → Bool) (c : Int) : Nat → Int → Int
  | 0, _ => 0
  | m + 1, t => fbest (fun b => !tb t b && F (c - 1 - m) b) (fun b => 1 + mL F c m (orZ t (shlZ 1 b))) (mL F c m t) c.toNat
theorem mL_b {F : Int → Int → Bool} {c : Int} : ∀ (m : Nat) (t : Int), 0 ≤ mL F c m t ∧ mL F c m t ≤ m := by
  intro m
  induction m with
  | zero => intro t; unfold mL; omega
  | succ m ih =>
    intro t
    unfold mL
    refine fbest_b ?_ (fun b _ _ => ?_) _
    · have := ih t; omega
    · have := ih (orZ t (shlZ 1 b)); (try dsimp only); omega
theorem mL_s {F : Int → Int → Bool} {c k t : Int} (hk : k < c) : mL F c (c - k).toNat t = fbest (fun b => !tb t b && F k b) (fun b => 1 + mL F c (c - 1 - k).toNat (orZ t (shlZ 1 b))) (mL F c (c - 1 - k).toNat t) c.toNat := by
  rw [show (c - k).toNat = (c - 1 - k).toNat + 1 by omega, mL, show c - 1 - ((c - 1 - k).toNat : Int) = k by omega]
def nbB (F : Int → Int → Bool) (c k t : Int) : Int → Bool := fun b => !tb t b && F k b && decide (1 + mL F c (c - 1 - k).toNat (orZ t (shlZ 1 b)) = mL F c (c - k).toNat t)
def nbZ (F : Int → Int → Bool) (c k t : Int) : Int := scanI (nbB F c k t) 0 c
def tkN (F : Int → Int → Bool) (c : Int) : Nat → Int
  | 0 => 0
  | k + 1 => if nbZ F c k (tkN F c k) < 0 then tkN F c k else orZ (tkN F c k) (shlZ 1 (nbZ F c k (tkN F c k)))
def tkZ (F : Int → Int → Bool) (c k : Int) : Int := tkN F c k.toNat
theorem tkZ_s {F : Int → Int → Bool} {c k : Int} (h : 0 ≤ k) : tkZ F c (k + 1) = if nbZ F c k (tkZ F c k) < 0 then tkZ F c k else orZ (tkZ F c k) (shlZ 1 (nbZ F c k (tkZ F c k))) := by
  unfold tkZ
  rw [show (k + 1).toNat = k.toNat + 1 by omega, tkN, Int.toNat_of_nonneg h]
def nxA (F : Int → Int → Bool) (c k : Int) : Int := if nbZ F c k (tkZ F c k) < 0 then -4 else nbZ F c k (tkZ F c k)
/-- 2 to the c -/
def p2 (c : Int) : Int := ((2 ^ c.toNat : Nat) : Int)
theorem p2_b {c : Int} (h : c ≤ 10) : 1 ≤ p2 c ∧ p2 c ≤ 1024 := by
  unfold p2
  have h1 : 2 ^ c.toNat ≤ 2 ^ 10 := Nat.pow_le_pow_right (by decide) (by omega)
  have h2 : 1 ≤ 2 ^ c.toNat := Nat.one_le_two_pow
  have h3 : (2 : Nat) ^ 10 = 1024 := by decide
  omega
theorem orZ_p {t b c : Int} (t0 : 0 ≤ t) (t1 : t < p2 c) (b0 : 0 ≤ b) (b1 : b < c) (c1 : c ≤ 10) : 0 ≤ orZ t (shlZ 1 b) ∧ orZ t (shlZ 1 b) < p2 c := by
  have hp := p2_b c1
  have h2 : 2 ^ b.toNat < 2 ^ c.toNat := Nat.pow_lt_pow_right (by decide) (by omega)
  have h5 : 2 ^ c.toNat ≤ 2 ^ 10 := Nat.pow_le_pow_right (by decide) (by omega)
  have h4 : ((2 ^ b.toNat : Nat) : Int) < 2147483648 := Int.ofNat_lt.mpr (Nat.lt_of_lt_of_le h2 (Nat.le_trans h5 (by decide)))
  rw [shlZ_1 b0 (by omega), orZ_n t0 (by omega) (Int.natCast_nonneg _) h4, Int.toNat_natCast]
  have h3 : t.toNat < 2 ^ c.toNat := by unfold p2 at t1; omega
  have h6 : t.toNat ||| 2 ^ b.toNat < 2 ^ c.toNat := Nat.or_lt_two_pow h3 h2
  refine ⟨Int.natCast_nonneg _, ?_⟩
  unfold p2
  exact Int.ofNat_lt.mpr h6
def folQ (v : Int) (me ti px py : Int → Int) (a b : Int) : Prop := 2 ≤ me a ∧ 2 ≤ me b ∧ ti a < ti b ∧ (px b - px a) * (px b - px a) + (py b - py a) * (py b - py a) ≤ (v * (ti b - ti a)) * (v * (ti b - ti a))
def plc (me : Int → Int) : Int → Int := fun k => if 1 < me k then 1 else 0
theorem mL_plc {F : Int → Int → Bool} {c : Int} {me : Int → Int} (hc : 0 ≤ c) (hF : ∀ a b, 0 ≤ a → a < c → 0 ≤ b → b < c → F a b = true → 2 ≤ me a) : ∀ (m : Nat) (t : Int), (m : Int) ≤ c → mL F c m t ≤ sumI (plc me) c - sumI (plc me) (c - m) := by
  intro m
  induction m with
  | zero =>
    intro t _
    rw [show c - ((0 : Nat) : Int) = c by omega]
    unfold mL
    omega
  | succ m ih =>
    intro t hm
    have hs : sumI (plc me) (c - m) = sumI (plc me) (c - ((m + 1 : Nat) : Int)) + plc me (c - ((m + 1 : Nat) : Int)) := by
      rw [← sumI_s _ (by omega)]
      congr 1
      omega
    have hp : 0 ≤ plc me (c - ((m + 1 : Nat) : Int)) := by unfold plc; (try dsimp only); split <;> omega
    have h1 := ih t (by omega)
    unfold mL
    rcases fbest_or (p := fun b => !tb t b && F (c - 1 - m) b) (g := fun b => 1 + mL F c m (orZ t (shlZ 1 b))) (e := mL F c m t) c.toNat with h | ⟨b, b0, b1, b2, b3⟩
    · rw [h]
      omega
    · rw [b3]
      have h2 := ih (orZ t (shlZ 1 b)) (by omega)
      rw [Bool.and_eq_true] at b2
      have h3 := hF (c - 1 - m) b (by omega) (by omega) b0 (by omega) b2.2
      have h4 : plc me (c - ((m + 1 : Nat) : Int)) = 1 := if_pos (by rw [show c - ((m + 1 : Nat) : Int) = c - 1 - m by omega]; omega)
      try dsimp only
      omega
