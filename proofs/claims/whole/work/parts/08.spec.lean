/-! induction for loops -/
theorem up_ind {P : Int → Prop} {N : Int} (step : ∀ i, (∀ j, i < j → j ≤ N → P j) → i ≤ N → P i) : ∀ i, i ≤ N → P i := by
  have key : ∀ (n : Nat) (i : Int), i ≤ N → (N - i).toNat ≤ n → P i := by
    intro n
    induction n with
    | zero => intro i h1 h2; exact step i (fun j h3 h4 => absurd h3 (by omega)) h1
    | succ n ih => intro i h1 h2; exact step i (fun j h3 h4 => ih j h4 (by omega)) h1
  exact fun i hi => key _ i hi (Nat.le_refl _)
theorem dn_ind {P : Int → Prop} {N : Int} (step : ∀ i, (∀ j, j < i → N ≤ j → P j) → N ≤ i → P i) : ∀ i, N ≤ i → P i := by
  have key : ∀ (n : Nat) (i : Int), N ≤ i → (i - N).toNat ≤ n → P i := by
    intro n
    induction n with
    | zero => intro i h1 h2; exact step i (fun j h3 h4 => absurd h3 (by omega)) h1
    | succ n ih => intro i h1 h2; exact step i (fun j h3 h4 => ih j h4 (by omega)) h1
  exact fun i hi => key _ i hi (Nat.le_refl _)
/-! sums and searches over whole numbers -/
def sumN (f : Int → Int) : Nat → Int
  | 0 => 0
  | n + 1 => sumN f n + f (n : Int)
def sumI (f : Int → Int) (i : Int) : Int := sumN f i.toNat
theorem sumI_0 (f : Int → Int) : sumI f 0 = 0 := rfl
theorem sumI_s (f : Int → Int) {i : Int} (h : 0 ≤ i) : sumI f (i + 1) = sumI f i + f i := by
  unfold sumI
  rw [show (i + 1).toNat = i.toNat + 1 by omega, sumN, Int.toNat_of_nonneg h]
theorem sumN_b {f : Int → Int} {a b : Int} : ∀ n : Nat, (∀ k : Int, 0 ≤ k → k < n → a ≤ f k ∧ f k ≤ b) → n * a ≤ sumN f n ∧ sumN f n ≤ n * b := by
  intro n
  induction n with
  | zero => intro _; simp [sumN]
  | succ n ih =>
    intro h
    have h1 := ih (fun k h2 h3 => h k h2 (by omega))
    have h2 := h n (by omega) (by omega)
    unfold sumN
    rw [show ((n + 1 : Nat) : Int) = (n : Int) + 1 from rfl, Int.add_mul, Int.add_mul]
    omega
theorem sumI_b {f : Int → Int} {i a b : Int} (hi : 0 ≤ i) (h : ∀ k : Int, 0 ≤ k → k < i → a ≤ f k ∧ f k ≤ b) : i * a ≤ sumI f i ∧ sumI f i ≤ i * b := by
  have := sumN_b (f := f) (a := a) (b := b) i.toNat (fun k h1 h2 => h k h1 (by omega))
  rw [Int.toNat_of_nonneg hi] at this
  exact this
def scanN (p : Int → Bool) : Nat → Int → Int
  | 0, _ => -1
  | n + 1, i => if p i = true then i else scanN p n (i + 1)
def scanI (p : Int → Bool) (i N : Int) : Int := scanN p (N - i).toNat i
theorem scanI_end (p : Int → Bool) {i N : Int} (h : N ≤ i) : scanI p i N = -1 := by
  unfold scanI
  rw [show (N - i).toNat = 0 by omega]
  rfl
theorem scanI_s (p : Int → Bool) {i N : Int} (h : i < N) : scanI p i N = if p i = true then i else scanI p (i + 1) N := by
  unfold scanI
  rw [show (N - i).toNat = (N - (i + 1)).toNat + 1 by omega, scanN]
theorem scanI_b (p : Int → Bool) {N : Int} : ∀ i, i ≤ N → scanI p i N = -1 ∨ (i ≤ scanI p i N ∧ scanI p i N < N ∧ p (scanI p i N) = true) := by
  refine up_ind (fun i ih hi => ?_)
  by_cases h : i < N
  · rw [scanI_s p h]
    split
    · next h1 => exact Or.inr ⟨by omega, h, h1⟩
    · rcases ih (i + 1) (by omega) (by omega) with h2 | h2
      · exact Or.inl h2
      · exact Or.inr ⟨by omega, h2.2⟩
  · exact Or.inl (scanI_end p (by omega))
/-! what the calls answer, and the state behind them, over the persons' numbers -/
abbrev TO (S : MS) (a1 a2 a3 a4 a5 : Int) : Prop := (0 ≤ a1 ∧ a1 < S 2 0) ∧ (0 ≤ a2 ∧ a2 < 400) ∧ (0 ≤ a3 ∧ a3 ≤ 1439) ∧ (0 ≤ a4 ∧ a4 ≤ 359) ∧ 2 ≤ a5 ∧ a5 ≤ 88
def sp_station (S : MS) (x y : Int) : Int := if ¬ ((0 ≤ x ∧ x ≤ 2000) ∧ 0 ≤ y ∧ y ≤ 2000) then -1 else if S 2 0 = 8 then -3 else S 2 0
def nx_station (S : MS) (x y : Int) : MS := if ((0 ≤ x ∧ x ≤ 2000) ∧ 0 ≤ y ∧ y ≤ 2000) ∧ S 2 0 ≠ 8 then upS (upS (upS S 3 (S 2 0) x) 4 (S 2 0) y) 2 0 (S 2 0 + 1) else S
def sp_clock (S : MS) (a lo hi : Int) : Int := if (0 ≤ a ∧ a < S 2 0) ∧ -60 ≤ lo ∧ lo ≤ hi ∧ hi ≤ 60 then 1 else -1
def nx_clock (S : MS) (a lo hi : Int) : MS := if (0 ≤ a ∧ a < S 2 0) ∧ -60 ≤ lo ∧ lo ≤ hi ∧ hi ≤ 60 then upS (upS S 5 a lo) 6 a hi else S
def nx_put (S : MS) (k a1 a2 a3 a4 a5 c l : Int) : MS := upS (upS (upS (upS (upS (upS (upS (upS (upS S 8 (S 7 0) k) 9 (S 7 0) a1) 10 (S 7 0) a2) 11 (S 7 0) a3) 12 (S 7 0) a4) 13 (S 7 0) a5) 14 (S 7 0) c) 15 (S 7 0) l) 7 0 (S 7 0 + 1)
def sp_add (S : MS) : Int := if S 7 0 = 40 then -3 else S 7 0
def nx_add (S : MS) (k a1 a2 a3 a4 a5 c l : Int) : MS := if S 7 0 ≠ 40 then nx_put S k a1 a2 a3 a4 a5 c l else S
def sp_glow (S : MS) (a1 a2 a3 a4 a5 : Int) : Int := if TO S a1 a2 a3 a4 a5 then sp_add S else -1
def nx_glow (S : MS) (a1 a2 a3 a4 a5 : Int) : MS := if TO S a1 a2 a3 a4 a5 then nx_add S 0 a1 a2 a3 a4 a5 0 0 else S
def sp_arc (S : MS) (a1 a2 a3 a4 a5 a6 : Int) : Int := if TO S a1 a2 a3 a4 a5 ∧ 0 ≤ a6 ∧ a6 ≤ 4 then sp_add S else -1
def nx_arc (S : MS) (a1 a2 a3 a4 a5 a6 : Int) : MS := if TO S a1 a2 a3 a4 a5 ∧ 0 ≤ a6 ∧ a6 ≤ 4 then nx_add S 1 a1 a2 a3 a4 a5 a6 0 else S
def sp_ray (S : MS) (a1 a2 a3 a4 a5 a6 a7 : Int) : Int := if TO S a1 a2 a3 a4 a5 ∧ (0 ≤ a6 ∧ a6 ≤ 4) ∧ -45 ≤ a7 ∧ a7 ≤ 45 then sp_add S else -1
def nx_ray (S : MS) (a1 a2 a3 a4 a5 a6 a7 : Int) : MS := if TO S a1 a2 a3 a4 a5 ∧ (0 ≤ a6 ∧ a6 ≤ 4) ∧ -45 ≤ a7 ∧ a7 ≤ 45 then nx_add S 2 a1 a2 a3 a4 a5 a6 a7 else S
def frZ (S : MS) (a : Int) : Int := S 11 a - S 6 (S 9 a)
def laZ (S : MS) (a : Int) : Int := S 11 a - S 5 (S 9 a)
def sp_told (S : MS) (a w : Int) : Int := if ¬ (0 ≤ a ∧ a < S 7 0) then -1001 else if w = 0 then S 8 a else if w = 1 then S 9 a else if w = 2 then S 10 a else if w = 3 then S 11 a else if w = 4 then S 12 a else if w = 5 then S 13 a else if w = 6 then frZ S a else if w = 7 then laZ S a else -1001
def sp_colour (S : MS) (a : Int) : Int := if ¬ (0 ≤ a ∧ a < S 7 0) then -1 else if S 8 a = 0 then -12 else S 14 a
def sp_lean (S : MS) (a : Int) : Int := if ¬ (0 ≤ a ∧ a < S 7 0) then -101 else if S 8 a < 2 then -112 else S 15 a
def sp_thick (S : MS) (n : Int) : Int := if 0 ≤ n ∧ n ≤ 200 then S 16 0 else -1
def nx_thick (S : MS) (n : Int) : MS := if 0 ≤ n ∧ n ≤ 200 then upS S 16 0 n else S
def sp_speed (S : MS) (n : Int) : Int := if 1 ≤ n ∧ n ≤ 60 then S 31 0 else -1
def nx_speed (S : MS) (n : Int) : MS := if 1 ≤ n ∧ n ≤ 60 then upS S 31 0 n else S
def sinZ (d : Int) : Int := if d ≤ 90 then tabS d else if d ≤ 180 then tabS (180 - d) else if d ≤ 270 then -tabS (d - 180) else -tabS (360 - d)
def cosZ (d : Int) : Int := sinZ ((d + 90).tmod 360)
def riseZ (f t : Int) : Int := (f * tabT t).tdiv 1000
def sp_table (w d : Int) : Int := if w = 0 ∧ 0 ≤ d ∧ d ≤ 359 then sinZ d else if w = 1 ∧ 0 ≤ d ∧ d ≤ 359 then cosZ d else if w = 2 ∧ 1 ≤ d ∧ d ≤ 89 then tabT d else -100001
/-! crossing -/
def dZ (S : MS) (a b : Int) : Int := sinZ (S 12 a) * cosZ (S 12 b) - cosZ (S 12 a) * sinZ (S 12 b)
def rZ (S : MS) (a b : Int) : Int := (1000 * ((S 3 (S 9 b) - S 3 (S 9 a)) * cosZ (S 12 b) - (S 4 (S 9 b) - S 4 (S 9 a)) * sinZ (S 12 b))).tdiv (dZ S a b)
def sZ (S : MS) (a b : Int) : Int := (1000 * ((S 3 (S 9 b) - S 3 (S 9 a)) * cosZ (S 12 a) - (S 4 (S 9 b) - S 4 (S 9 a)) * sinZ (S 12 a))).tdiv (dZ S a b)
def CrP (S : MS) (a b : Int) : Prop := S 9 a ≠ S 9 b ∧ S 8 a ≠ 0 ∧ S 8 b ≠ 0 ∧ ¬ (-49999 ≤ dZ S a b ∧ dZ S a b ≤ 49999) ∧ (1 ≤ rZ S a b ∧ rZ S a b ≤ 1500) ∧ (1 ≤ sZ S a b ∧ sZ S a b ≤ 1500) ∧ (-S 16 0 ≤ riseZ (rZ S a b) (S 13 a) - riseZ (sZ S a b) (S 13 b) ∧ riseZ (rZ S a b) (S 13 a) - riseZ (sZ S a b) (S 13 b) ≤ S 16 0)
def MeP (S : MS) (a b : Int) : Prop := CrP S a b ∧ S 10 a = S 10 b ∧ frZ S a ≤ laZ S b ∧ frZ S b ≤ laZ S a
/-! bounds of the tables -/
theorem tabS_b (z : Int) : 0 ≤ tabS z ∧ tabS z ≤ 1000 := by
  unfold tabS
  have h : ∀ j : Nat, j < 91 → 0 ≤ tabS (j : Int) ∧ tabS (j : Int) ≤ 1000 := by decide +kernel
  by_cases hz : z.toNat < 91
  · have := h z.toNat hz
    unfold tabS at this
    rw [Int.toNat_natCast] at this
    exact this
  · rw [List.getD_eq_getElem?_getD, List.getElem?_eq_none (by simp; omega)]
    decide
theorem tabT_b (z : Int) : 0 ≤ tabT z ∧ tabT z ≤ 57290 := by
  unfold tabT
  have h : ∀ j : Nat, j < 90 → 0 ≤ tabT (j : Int) ∧ tabT (j : Int) ≤ 57290 := by decide +kernel
  by_cases hz : z.toNat < 90
  · have := h z.toNat hz
    unfold tabT at this
    rw [Int.toNat_natCast] at this
    exact this
  · rw [List.getD_eq_getElem?_getD, List.getElem?_eq_none (by simp; omega)]
    decide
theorem sinZ_b (d : Int) : -1000 ≤ sinZ d ∧ sinZ d ≤ 1000 := by
  unfold sinZ
  have h1 := tabS_b d
  have h2 := tabS_b (180 - d)
  have h3 := tabS_b (d - 180)
  have h4 := tabS_b (360 - d)
  repeat' split
  all_goals omega
theorem cosZ_b (d : Int) : -1000 ≤ cosZ d ∧ cosZ d ≤ 1000 := sinZ_b _
/-! products within bounds -/
theorem mul_b {a b A B : Int} (ha : -A ≤ a ∧ a ≤ A) (hb : -B ≤ b ∧ b ≤ B) (hA : 0 ≤ A) : -(A * B) ≤ a * b ∧ a * b ≤ A * B := by
  have h1 : (a.natAbs : Int) ≤ A := by omega
  have h2 : (b.natAbs : Int) ≤ B := by omega
  have h3 : ((a * b).natAbs : Int) = a.natAbs * b.natAbs := by rw [Int.natAbs_mul]; rfl
  have h4 : (a.natAbs : Int) * b.natAbs ≤ A * B := Int.mul_le_mul h1 h2 (by omega) hA
  omega
theorem tdiv_b {a b A : Int} (ha : -A ≤ a ∧ a ≤ A) : -A ≤ a.tdiv b ∧ a.tdiv b ≤ A := by
  have h1 : (a.tdiv b).natAbs ≤ a.natAbs := by
    rw [Int.natAbs_tdiv]
    exact Nat.div_le_self _ _
  omega
