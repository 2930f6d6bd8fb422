noncomputable def iteP (P : Prop) (a b : Int) : Int := @ite Int P (Classical.propDecidable P) a b
theorem iteP_pos {P : Prop} {a b : Int} (h : P) : iteP P a b = a := by unfold iteP; rw [if_pos h]
theorem iteP_neg {P : Prop} {a b : Int} (h : ¬ P) : iteP P a b = b := by unfold iteP; rw [if_neg h]
theorem iteP_iff {P P' : Prop} {a b : Int} (h : P ↔ P') : iteP P a b = iteP P' a b := by rw [propext h]
def xZ (S : MS) (a b : Int) : Int := S 3 (S 9 a) + (rZ S a b * sinZ (S 12 a)).tdiv 1000
def yZ (S : MS) (a b : Int) : Int := S 4 (S 9 a) + (rZ S a b * cosZ (S 12 a)).tdiv 1000
def hZ (S : MS) (a b : Int) : Int := (riseZ (rZ S a b) (S 13 a) + riseZ (sZ S a b) (S 13 b)).tdiv 2
def partZ (S : MS) (a b w : Int) : Int := if w = 0 then xZ S a b else if w = 1 then yZ S a b else hZ S a b
abbrev SG (S : MS) (a : Int) : Prop := 0 ≤ a ∧ a < S 7 0
noncomputable def sp_meets (S : MS) (a b : Int) : Int := if ¬ (SG S a ∧ SG S b ∧ a ≠ b) then -1 else if S 8 a = 0 ∨ S 8 b = 0 then -12 else iteP (MeP S a b) 2 (iteP (CrP S a b) 1 0)
def loZ (S : MS) (a b : Int) : Int := if riseZ (sZ S a b) (S 13 b - 1) < riseZ (rZ S a b) (S 13 a - 1) then riseZ (rZ S a b) (S 13 a - 1) else riseZ (sZ S a b) (S 13 b - 1)
def upZ (S : MS) (a b : Int) : Int := if riseZ (rZ S a b) (S 13 a + 1) < riseZ (sZ S a b) (S 13 b + 1) then riseZ (rZ S a b) (S 13 a + 1) else riseZ (sZ S a b) (S 13 b + 1)
noncomputable def sp_cross (S : MS) (a b w : Int) : Int := if ¬ (SG S a ∧ SG S b ∧ a ≠ b ∧ 0 ≤ w ∧ w ≤ 6) then -100001 else if S 8 a = 0 ∨ S 8 b = 0 then -100012 else iteP (CrP S a b) (if w = 3 then loZ S a b else if w = 4 then upZ S a b else if w = 5 then rZ S a b else if w = 6 then sZ S a b else partZ S a b w) (-100004)
def sp_count5 (S : MS) (w n : Int) : Int := if w = 0 then S 2 0 else if w = 1 then S 7 0 else if w = 2 then S 34 0 else if w = 3 then S 40 0 else if w = 4 then n else -1
/-! nights -/
def WaB (S : MS) (a n : Int) : Int → Bool := fun k => decide (S 35 k = a ∧ S 36 k = n)
def watchZ (S : MS) (a n : Int) : Int := scanI (WaB S a n) 0 (S 34 0)
def SeenP (S : MS) (a n : Int) : Prop := ∃ k, 0 ≤ k ∧ k < S 7 0 ∧ S 10 k = n ∧ (a < 0 ∨ S 9 k = a)
abbrev ST (S : MS) (a : Int) : Prop := 0 ≤ a ∧ a < S 2 0
abbrev NI (n : Int) : Prop := 0 ≤ n ∧ n < 400
abbrev WaP (S : MS) (a n hrs cl mo : Int) : Prop := ST S a ∧ NI n ∧ (0 ≤ hrs ∧ hrs ≤ 24) ∧ (0 ≤ cl ∧ cl ≤ hrs) ∧ 0 ≤ mo ∧ mo ≤ hrs - cl
def sp_watch (S : MS) (a n hrs cl mo : Int) : Int := if ¬ WaP S a n hrs cl mo then -1 else if 0 ≤ watchZ S a n then -2 else if S 34 0 = 60 then -3 else hrs - cl
def nx_watch (S : MS) (a n hrs cl mo : Int) : MS := if WaP S a n hrs cl mo ∧ ¬ 0 ≤ watchZ S a n ∧ S 34 0 ≠ 60 then upS (upS (upS (upS (upS S 35 (S 34 0) a) 36 (S 34 0) n) 37 (S 34 0) (hrs - cl)) 38 (S 34 0) (hrs - cl - mo)) 34 0 (S 34 0 + 1) else S
noncomputable def sp_seen (S : MS) (a n : Int) : Int := if ¬ (ST S a ∧ NI n) then -1 else iteP (SeenP S a n) 1 (if watchZ S a n < 0 then -4 else if 0 < S 38 (watchZ S a n) then 0 else -2)
abbrev RaP (S : MS) (a f t k : Int) : Prop := (a < 0 ∨ S 35 k = a) ∧ (f ≤ S 36 k ∧ S 36 k ≤ t) ∧ 0 < S 37 k
def raM (S : MS) (a f t : Int) : Int → Int := fun k => if RaP S a f t k then 1 else 0
noncomputable def raS (S : MS) (a f t : Int) : Int → Int := fun k => if RaP S a f t k then iteP (SeenP S (S 35 k) (S 36 k)) 1 0 else 0
def raH (S : MS) (a f t : Int) : Int → Int := fun k => if RaP S a f t k then S 37 k else 0
noncomputable def sp_rate (S : MS) (a f t w : Int) : Int := if ¬ ((a = -1 ∨ ST S a) ∧ NI f ∧ NI t ∧ f ≤ t ∧ 0 ≤ w ∧ w ≤ 3) then -1 else if w = 0 then sumI (raM S a f t) (S 34 0) else if w = 1 then sumI (raS S a f t) (S 34 0) else if w = 2 then sumI (raH S a f t) (S 34 0) else if sumI (raH S a f t) (S 34 0) = 0 then 0 else (1000 * sumI (raS S a f t) (S 34 0)).tdiv (sumI (raH S a f t) (S 34 0))
noncomputable def seen1 (S : MS) : Int → Int := fun n => iteP (SeenP S (-1) n) 1 0
/-- how many NIGHTS before m, seen by any, have the rest k by p -/
noncomputable def restZ (S : MS) (p m k : Int) : Int := sumI (fun n => if n.tmod p = k then seen1 S n else 0) m
noncomputable def roundZ (S : MS) (p : Int) : Int := p * sumI (fun k => restZ S p 400 k * restZ S p 400 k) p
noncomputable def sp_round (S : MS) (p : Int) : Int := if 20 ≤ p ∧ p ≤ 40 then roundZ S p else -1
noncomputable def nightsZ (S : MS) : Int := sumI (seen1 S) 400
noncomputable def bestN (S : MS) : Nat → Int
  | 0 => 20
  | n + 1 => if roundZ S (bestN S n) < roundZ S (21 + (n : Int)) then 21 + (n : Int) else bestN S n
noncomputable def sp_best (S : MS) : Int := if nightsZ S < 3 then -4 else bestN S 20
/-! shares -/
abbrev ShP (S : MS) (a b k : Int) : Prop := (S 41 k = a ∧ S 42 k = b) ∨ (S 41 k = b ∧ S 42 k = a)
def ShB (S : MS) (a b : Int) : Int → Bool := fun k => decide (ShP S a b k)
def sp_share (S : MS) (a b : Int) : Int := if ¬ (SG S a ∧ SG S b ∧ S 9 a ≠ S 9 b) then -1 else if 0 ≤ scanI (ShB S a b) 0 (S 40 0) then -2 else if S 40 0 = 20 then -3 else S 40 0 + 1
def nx_share (S : MS) (a b : Int) : MS := if (SG S a ∧ SG S b ∧ S 9 a ≠ S 9 b) ∧ ¬ 0 ≤ scanI (ShB S a b) 0 (S 40 0) ∧ S 40 0 ≠ 20 then upS (upS (upS S 41 (S 40 0) a) 42 (S 40 0) b) 40 0 (S 40 0 + 1) else S
/-- the pair k seen from a station: which of it is the station's, which the other's -/
def mA (S : MS) (a k : Int) : Int := if S 9 (S 41 k) = a then S 41 k else S 42 k
def mB (S : MS) (a k : Int) : Int := if S 9 (S 41 k) = a then S 42 k else S 41 k
def mLo (S : MS) (a : Int) : Nat → Int
  | 0 => S 5 a
  | n + 1 => if S 9 (mA S a n) = a then (if mLo S a n < S 11 (mA S a n) - S 11 (mB S a n) + S 5 (S 9 (mB S a n)) then S 11 (mA S a n) - S 11 (mB S a n) + S 5 (S 9 (mB S a n)) else mLo S a n) else mLo S a n
def mHi (S : MS) (a : Int) : Nat → Int
  | 0 => S 6 a
  | n + 1 => if S 9 (mA S a n) = a then (if S 11 (mA S a n) - S 11 (mB S a n) + S 6 (S 9 (mB S a n)) < mHi S a n then S 11 (mA S a n) - S 11 (mB S a n) + S 6 (S 9 (mB S a n)) else mHi S a n) else mHi S a n
def sp_mended (S : MS) (a w : Int) : Int := if ¬ (ST S a ∧ 0 ≤ w ∧ w ≤ 1) then -10001 else if mHi S a (S 40 0).toNat < mLo S a (S 40 0).toNat then -10004 else if w = 0 then mLo S a (S 40 0).toNat else mHi S a (S 40 0).toNat
abbrev MvP (S : MS) (a k : Int) : Prop := (S 9 (S 41 k) = a ∨ S 9 (S 42 k) = a) ∧ 0 < S 8 (S 41 k) ∧ 0 < S 8 (S 42 k)
def mvM (S : MS) (a : Int) : Int → Int := fun k => if MvP S a k then 1 else 0
noncomputable def mvN (S : MS) (a : Int) : Int → Int := fun k => if MvP S a k then iteP (CrP S (S 41 k) (S 42 k)) 0 1 else 0
noncomputable def sp_moved (S : MS) (a : Int) : Int := if ¬ ST S a then -1 else if sumI (mvM S a) (S 40 0) < 2 then -4 else if sumI (mvM S a) (S 40 0) < 2 * sumI (mvN S a) (S 40 0) then 1 else 0
/-! sheets -/
abbrev SH (s l : Int) : Prop := (0 ≤ s ∧ s ≤ 3) ∧ 0 ≤ l ∧ l ≤ 2
def sp_sheet (s l n : Int) : Int := if ¬ (SH s l ∧ n ≤ 36) then -1 else if n < 0 then -14 else n
def nx_sheet (S : MS) (s l n : Int) : MS := if SH s l ∧ n ≤ 36 ∧ 0 ≤ n then fun k z => if k = 43 then (if z = s then l else S 43 z) else if k = 44 then (if z = s then n else S 44 z) else if k = 45 then (if 36 * s ≤ z ∧ z < 36 * s + 36 then 0 else S 45 z) else S k z else S
def sp_drop (S : MS) (s : Int) : Int := if ¬ (0 ≤ s ∧ s ≤ 3) then -1 else if S 43 s < 0 then -11 else S 44 s
def nx_drop (S : MS) (s : Int) : MS := if (0 ≤ s ∧ s ≤ 3) ∧ ¬ S 43 s < 0 then upS S 43 s (-1) else S
def sp_item (S : MS) (s l i : Int) : Int := if ¬ SH s l then -1 else if S 43 s ≠ l then (if S 43 s < 0 then -11 else -12) else if ¬ (0 ≤ i ∧ i < S 44 s) then -13 else 1
def itV (l v : Int) : Int := if l = 0 then i2sZ v else v
def nx_item (S : MS) (s l i v : Int) : MS := if SH s l ∧ S 43 s = l ∧ 0 ≤ i ∧ i < S 44 s then upS S 45 (36 * s + i) (itV l v) else S
abbrev AtP (S : MS) (k : Int) : Prop := TO S (S 45 k) (S 45 (k + 1)) (S 45 (k + 2)) (S 45 (k + 3)) (S 45 (k + 4)) ∧ 0 ≤ S 45 (k + 5) ∧ S 45 (k + 5) ≤ 4
def arN (S : MS) (t : Int) : Nat → MS
  | 0 => S
  | n + 1 => nx_put (arN S t n) 1 (S 45 (t + 6 * n)) (S 45 (t + 6 * n + 1)) (S 45 (t + 6 * n + 2)) (S 45 (t + 6 * n + 3)) (S 45 (t + 6 * n + 4)) (S 45 (t + 6 * n + 5)) 0
def AB (S : MS) (t : Int) : Int → Bool := fun k => decide (¬ AtP S (t + 6 * k))
def sp_arcs (S : MS) (s l f n : Int) : Int := if ¬ (SH s l ∧ 0 ≤ n ∧ n ≤ 6) then -1 else if S 43 s ≠ l then (if S 43 s < 0 then -11 else -12) else if ¬ (0 ≤ f ∧ f ≤ S 44 s - 6 * n) then -13 else if 0 ≤ scanI (AB S (36 * s + f)) 0 n then -2 else if 40 < S 7 0 + n then -3 else S 7 0 + n
def nx_arcs (S : MS) (s l f n : Int) : MS := if (SH s l ∧ 0 ≤ n ∧ n ≤ 6) ∧ S 43 s = l ∧ (0 ≤ f ∧ f ≤ S 44 s - 6 * n) ∧ ¬ 0 ≤ scanI (AB S (36 * s + f)) 0 n ∧ ¬ 40 < S 7 0 + n then arN S (36 * s + f) n.toNat else S
