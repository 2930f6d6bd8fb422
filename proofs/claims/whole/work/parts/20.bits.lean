/-! bits of small numbers -/
def tb (x i : Int) : Bool := x.toNat.testBit i.toNat
theorem iI_ofNat (n : Nat) : iI (n : Int) = nI n := Int32.ofInt_eq_ofNat
theorem iI_nI {x : Int} (h : 0 ≤ x) : iI x = nI x.toNat := by
  rw [← iI_ofNat, Int.toNat_of_nonneg h]
theorem nI_z {n : Nat} (h : n < 2 ^ 31) : (nI n).toInt = (n : Int) := nI_toInt h
theorem sh_m : ∀ k, k < 31 → ((nI k &&& 31).toBitVec.smod 32).toNat = k := by decide +kernel
theorem shlZ_1 {k : Int} (h0 : 0 ≤ k) (h1 : k < 31) : shlZ 1 k = ((2 ^ k.toNat : Nat) : Int) := by
  unfold shlZ
  have hk : k.toNat < 31 := by omega
  have h2 : 1 * 2 ^ k.toNat < 2 ^ 31 := by
    rw [Nat.one_mul]
    exact Nat.pow_lt_pow_right (by decide) hk
  have e1 : iI 1 = nI 1 := by decide
  rw [iI_nI h0, e1, pk_shlN _ k.toNat (sh_m _ hk) (by omega), nI_z h2, Nat.one_mul]
theorem shrZ_n {x k : Int} (hx : 0 ≤ x) (hx1 : x < 2147483648) (h0 : 0 ≤ k) (h1 : k < 31) : shrZ x k = ((x.toNat / 2 ^ k.toNat : Nat) : Int) := by
  unfold shrZ
  have hk : k.toNat < 31 := by omega
  have h2 : x.toNat < 2 ^ 31 := by omega
  rw [iI_nI h0, iI_nI hx, pk_shrN h2 _ k.toNat (sh_m _ hk), nI_z (Nat.lt_of_le_of_lt (Nat.div_le_self _ _) h2)]
theorem andZ_n {x y : Int} (hx : 0 ≤ x) (hx1 : x < 2147483648) (hy : 0 ≤ y) : andZ x y = ((x.toNat &&& y.toNat : Nat) : Int) := by
  unfold andZ
  have h2 : x.toNat < 2 ^ 31 := by omega
  have e : nI x.toNat &&& nI y.toNat = nI (x.toNat &&& y.toNat) := by
    apply Int32.toBitVec_inj.mp
    show BitVec.ofNat 32 _ &&& BitVec.ofNat 32 _ = BitVec.ofNat 32 _
    apply BitVec.eq_of_toNat_eq
    rw [BitVec.toNat_and, BitVec.toNat_ofNat, BitVec.toNat_ofNat, BitVec.toNat_ofNat, ← Nat.and_mod_two_pow]
  rw [iI_nI hx, iI_nI hy, e, nI_z (Nat.lt_of_le_of_lt Nat.and_le_left h2)]
theorem orZ_n {x y : Int} (hx : 0 ≤ x) (hx1 : x < 2147483648) (hy : 0 ≤ y) (hy1 : y < 2147483648) : orZ x y = ((x.toNat ||| y.toNat : Nat) : Int) := by
  unfold orZ
  have h2 : x.toNat < 2 ^ 31 := by omega
  have h3 : y.toNat < 2 ^ 31 := by omega
  have e : nI x.toNat ||| nI y.toNat = nI (x.toNat ||| y.toNat) := by
    apply Int32.toBitVec_inj.mp
    show BitVec.ofNat 32 _ ||| BitVec.ofNat 32 _ = BitVec.ofNat 32 _
    apply BitVec.eq_of_toNat_eq
    rw [BitVec.toNat_or, BitVec.toNat_ofNat, BitVec.toNat_ofNat, BitVec.toNat_ofNat, ← Nat.or_mod_two_pow]
  rw [iI_nI hx, iI_nI hy, e, nI_z (Nat.or_lt_two_pow h2 h3)]
theorem bit_1 {x i : Int} (hx : 0 ≤ x) (hx1 : x < 2147483648) (h0 : 0 ≤ i) (h1 : i < 31) : andZ (shrZ x i) 1 = if tb x i = true then 1 else 0 := by
  rw [shrZ_n hx hx1 h0 h1]
  have h5 : x.toNat < 2147483648 := by omega
  have h2 : x.toNat / 2 ^ i.toNat ≤ x.toNat := Nat.div_le_self _ _
  have h4 : ((x.toNat / 2 ^ i.toNat : Nat) : Int) < 2147483648 := Int.ofNat_lt.mpr (Nat.lt_of_le_of_lt h2 h5)
  rw [andZ_n (Int.natCast_nonneg _) h4 (by decide), Int.toNat_natCast]
  unfold tb
  rw [Nat.testBit_eq_decide_div_mod_eq]
  show (((x.toNat / 2 ^ i.toNat) &&& 1 : Nat) : Int) = _
  rw [Nat.and_one_is_mod]
  have h3 := Nat.mod_two_eq_zero_or_one (x.toNat / 2 ^ i.toNat)
  rcases h3 with h3 | h3 <;> simp [h3]
theorem orZ_b {x k : Int} (hx : 0 ≤ x) (hx1 : x < 1024) (h0 : 0 ≤ k) (h1 : k < 10) : (0 ≤ orZ x (shlZ 1 k) ∧ orZ x (shlZ 1 k) < 1024) ∧ ∀ i : Int, 0 ≤ i → tb (orZ x (shlZ 1 k)) i = (tb x i || decide (i = k)) := by
  have h2 : 2 ^ k.toNat < 2 ^ 10 := Nat.pow_lt_pow_right (by decide) (by omega)
  have h4 : ((2 ^ k.toNat : Nat) : Int) < 2147483648 := Int.ofNat_lt.mpr (Nat.lt_of_lt_of_le h2 (by decide))
  rw [shlZ_1 h0 (by omega), orZ_n hx (by omega) (Int.natCast_nonneg _) h4, Int.toNat_natCast]
  have h3 : x.toNat ||| 2 ^ k.toNat < 2 ^ 10 := Nat.or_lt_two_pow (by omega) h2
  refine ⟨⟨Int.natCast_nonneg _, Int.ofNat_lt.mpr h3⟩, fun i hi => ?_⟩
  unfold tb
  rw [Int.toNat_natCast, Nat.testBit_or, Nat.testBit_two_pow]
  congr 1
  by_cases e : i = k
  · simp [e]
  · have : ¬ k.toNat = i.toNat := by omega
    simp [e, this]
theorem orZ_0 {x : Int} (hx : 0 ≤ x) (hx1 : x < 2147483648) : orZ x 0 = x := by
  rw [orZ_n hx hx1 (by decide) (by decide)]
  show ((x.toNat ||| 0 : Nat) : Int) = x
  rw [Nat.or_zero]
  omega
theorem tb_0 (i : Int) : tb 0 i = false := by unfold tb; simp
