/-! what is told of a set: folds from the last to the first -/
def dnN (op : Int → Int → Int) (e : Int) (f : Int → Int) (n : Int) : Nat → Int
  | 0 => e
  | m + 1 => op (dnN op e f n m) (f (n - 1 - m))
def dnI (op : Int → Int → Int) (e : Int) (f : Int → Int) (n i : Int) : Int := dnN op e f n (n - i).toNat
theorem dnI_e {op : Int → Int → Int} {e : Int} {f : Int → Int} {n i : Int} (h : n ≤ i) : dnI op e f n i = e := by
  unfold dnI
  rw [show (n - i).toNat = 0 by omega]
  rfl
theorem dnI_s {op : Int → Int → Int} {e : Int} {f : Int → Int} {n i : Int} (h : i < n) : dnI op e f n i = op (dnI op e f n (i + 1)) (f i) := by
  unfold dnI
  rw [show (n - i).toNat = (n - (i + 1)).toNat + 1 by omega, dnN, show n - 1 - ((n - (i + 1)).toNat : Int) = i by omega]
def mx (a b : Int) : Int := if a < b then b else a
def mn (a b : Int) : Int := if b < a then b else a
def ad2 (a b : Int) : Int := a + b
def fst2 (a b : Int) : Int := if b < 0 then a else b
def plF (S : MS) (l r : List Int) (k : Int) : Int → Int := fun i => if at0 r i = k then frZ S (at0 l i) else -10000
def plT (S : MS) (l r : List Int) (k : Int) : Int → Int := fun i => if at0 r i = k then laZ S (at0 l i) else 10000
def plM (r : List Int) (k : Int) : Int → Int := fun i => if at0 r i = k then 1 else 0
def plB (l r : List Int) (k : Int) : Int → Int := fun i => if at0 r i = k then at0 l i else -1
def rwP (r : List Int) (k i : Int) : Int → Int := fun j => if i < j ∧ at0 r j = k then 1 else 0
def rwX (S : MS) (l r : List Int) (k w i : Int) : Int → Int := fun j => if i < j ∧ at0 r j = k then partZ S (at0 l i) (at0 l j) w else 0
def plP (r : List Int) (k n : Int) : Int → Int := fun i => if at0 r i = k then sumI (rwP r k i) n else 0
def plX (S : MS) (l r : List Int) (k w n : Int) : Int → Int := fun i => if at0 r i = k then sumI (rwX S l r k w i) n else 0
def frK (S : MS) (l r : List Int) (k n : Int) : Int := dnI mx (-10000) (plF S l r k) n 0
def toK (S : MS) (l r : List Int) (k n : Int) : Int := dnI mn 10000 (plT S l r k) n 0
def meK (r : List Int) (k n : Int) : Int := dnI ad2 0 (plM r k) n 0
def fiK (l r : List Int) (k n : Int) : Int := dnI fst2 (-1) (plB l r k) n 0
def prK (r : List Int) (k n : Int) : Int := dnI ad2 0 (plP r k n) n 0
def suK (S : MS) (l r : List Int) (k w n : Int) : Int := dnI ad2 0 (plX S l r k w n) n 0
def tiK (S : MS) (l r : List Int) (k n : Int) : Int := (frK S l r k n + toK S l r k n) / 2
def avK (S : MS) (l r : List Int) (k w n : Int) : Int := if prK r k n = 0 then 0 else (suK S l r k w n).tdiv (prK r k n)
theorem sumI_zero {f : Int → Int} {i : Int} (h0 : 0 ≤ i) (h : ∀ k : Int, 0 ≤ k → k < i → f k = 0) : sumI f i = 0 := by
  have := sumI_b (f := f) (a := 0) (b := 0) h0 (fun k h1 h2 => by rw [h k h1 h2]; omega)
  omega
theorem shr1 {x : Int} (hx : InR x) : shrZ x 1 = x / 2 := by
  unfold shrZ
  have e1 : (iI 1 &&& 31 : Int32) = 1 := by decide
  rw [e1, pk_shr _ 1 1 (by decide), iI_toInt hx, Int.shiftRight_eq_div_pow]
  rfl
theorem partZ_b {S : MS} {a b w : Int} (hI : Inv S) (ha : SG S a) (hc : CrP S a b) : -1600000 ≤ partZ S a b w ∧ partZ S a b w ≤ 1600000 := by
  obtain ⟨i1, i2, i3, i4, i5, i6, iSt, iSi, iWa, iSh, iLa, iS0, iS1, iZe⟩ := hI
  obtain ⟨s1, s2, s3, s4, s5, s6, s7, s8⟩ := iSi a ha.1 ha.2
  obtain ⟨t1, t2, t3⟩ := iSt _ s2.1 s2.2
  obtain ⟨_, _, _, _, x1, x2, _⟩ := hc
  have w5 := cosZ_b (S 12 a)
  have w6 := sinZ_b (S 12 a)
  have y1 := mul_b (a := rZ S a b) (b := sinZ (S 12 a)) (A := 1500) (B := 1000) (by omega) (by omega) (by decide)
  have y2 := mul_b (a := rZ S a b) (b := cosZ (S 12 a)) (A := 1500) (B := 1000) (by omega) (by omega) (by decide)
  have y3 := tdiv_b (b := 1000) y1
  have y4 := tdiv_b (b := 1000) y2
  have v0 := riseZ_b (f := rZ S a b) (t := S 13 a) (by omega)
  have v1 := riseZ_b (f := sZ S a b) (t := S 13 b) (by omega)
  have y5 := tdiv_b (a := riseZ (rZ S a b) (S 13 a) + riseZ (sZ S a b) (S 13 b)) (b := 2) (A := 171870) (by omega)
  unfold partZ xZ yZ hZ
  repeat' split
  all_goals omega
