section WRAP
variable {E : EV} {own : String} {cc : ByteArray} {nL : Nat} {ret : Option FieldType} {mn : String} {Q : Option Value → AH → Prop} {d kc ks pc : Nat} {L : List (Nat × Value)} {rest : List Value} {h : AH}
/-! a callee's ends -/
abbrev qI (q : Int → AH → Prop) : Option Value → AH → Prop := fun r h' => ∃ z : Int, r = some (vI z) ∧ q z h'
abbrev qL (q : Int → AH → Prop) : Option Value → AH → Prop := fun r h' => ∃ z : Int, r = some (vL z) ∧ q z h'
abbrev qV (q : AH → Prop) : Option Value → AH → Prop := fun r h' => r = none ∧ q h'
abbrev qB (P : Prop) (h : AH) : Option Value → AH → Prop := fun r h' => h' = h ∧ ((r = some (vI 1) ∧ P) ∨ (r = some (vI 0) ∧ ¬ P))
abbrev qP (e : Int) (h : AH) : Option Value → AH → Prop := fun r h' => h' = h ∧ r = some (vI e)
abbrev qPL (e : Int) (h : AH) : Option Value → AH → Prop := fun r h' => h' = h ∧ r = some (vL e)
abbrev qR (x : Option Nat) (h : AH) : Option Value → AH → Prop := fun r h' => h' = h ∧ r = some (va_rf x)
theorem kI {q : Int → AH → Prop} (k : ∀ z h', q z h' → Ev E own cc nL ret mn Q d kc ks pc L (vI z :: rest) h') : ∀ r h', qI q r h' → Ev E own cc nL ret mn Q d kc ks pc L (r.toList ++ rest) h' := by
  rintro _ h' ⟨z, rfl, hq⟩
  exact k z h' hq
theorem kL {q : Int → AH → Prop} (k : ∀ z h', q z h' → Ev E own cc nL ret mn Q d kc ks pc L (vL z :: rest) h') : ∀ r h', qL q r h' → Ev E own cc nL ret mn Q d kc ks pc L (r.toList ++ rest) h' := by
  rintro _ h' ⟨z, rfl, hq⟩
  exact k z h' hq
theorem kV {q : AH → Prop} (k : ∀ h', q h' → Ev E own cc nL ret mn Q d kc ks pc L rest h') : ∀ r h', qV q r h' → Ev E own cc nL ret mn Q d kc ks pc L (r.toList ++ rest) h' := by
  rintro _ h' ⟨rfl, hq⟩
  exact k h' hq
theorem kB {P : Prop} (kt : P → Ev E own cc nL ret mn Q d kc ks pc L (vI 1 :: rest) h) (kf : ¬ P → Ev E own cc nL ret mn Q d kc ks pc L (vI 0 :: rest) h) : ∀ r h', qB P h r h' → Ev E own cc nL ret mn Q d kc ks pc L (r.toList ++ rest) h' := by
  rintro _ _ ⟨rfl, ⟨rfl, hq⟩ | ⟨rfl, hq⟩⟩
  · exact kt hq
  · exact kf hq
theorem kP {e : Int} (k : Ev E own cc nL ret mn Q d kc ks pc L (vI e :: rest) h) : ∀ r h', qP e h r h' → Ev E own cc nL ret mn Q d kc ks pc L (r.toList ++ rest) h' := by
  rintro _ _ ⟨rfl, rfl⟩
  exact k
theorem kPL {e : Int} (k : Ev E own cc nL ret mn Q d kc ks pc L (vL e :: rest) h) : ∀ r h', qPL e h r h' → Ev E own cc nL ret mn Q d kc ks pc L (r.toList ++ rest) h' := by
  rintro _ _ ⟨rfl, rfl⟩
  exact k
theorem kR {x : Option Nat} (k : Ev E own cc nL ret mn Q d kc ks pc L (va_rf x :: rest) h) : ∀ r h', qR x h r h' → Ev E own cc nL ret mn Q d kc ks pc L (r.toList ++ rest) h' := by
  rintro _ _ ⟨rfl, rfl⟩
  exact k
end WRAP
/-! the reference's object: S k z is place z of the row that its field k holds, S k 0 the int field k -/
abbrev MS : Type := Nat → Int → Int
def upS (S : MS) (k : Nat) (z w : Int) : MS := fun k' z' => if k' = k then (if z' = z then w else S k' z') else S k' z'
theorem upS_k {S : MS} {k : Nat} {z w : Int} : upS S k z w k = updZ (S k) z w := by funext j; unfold upS updZ; rw [if_pos rfl]
theorem upS_ne {S : MS} {k k' : Nat} {z w : Int} (hk : k' ≠ k) : upS S k z w k' = S k' := by funext j; unfold upS; rw [if_neg hk]
theorem upS_at {S : MS} {k : Nat} {z w : Int} : upS S k z w k z = w := by unfold upS; rw [if_pos rfl, if_pos rfl]
theorem upS_nz {S : MS} {k : Nat} {z z' w : Int} (hz : z' ≠ z) : upS S k z w k z' = S k z' := by unfold upS; rw [if_pos rfl, if_neg hz]

def mlen (k : Nat) : Nat := ([91, 90, 0, 8, 8, 8, 8, 0, 40, 40, 40, 40, 40, 40, 40, 40, 0, 0, 0, 0, 40, 0, 10, 10, 10, 10, 10, 10, 10, 10, 10, 0, 11264, 10, 0, 60, 60, 60, 60, 40, 0, 20, 20, 4, 4, 144] : List Nat).getD k 0
def mfs (ad : Nat → Nat) (S : MS) : List Value := [.ref (ad 0), .ref (ad 1), vI (S 2 0), .ref (ad 3), .ref (ad 4), .ref (ad 5), .ref (ad 6), vI (S 7 0), .ref (ad 8), .ref (ad 9), .ref (ad 10), .ref (ad 11), .ref (ad 12), .ref (ad 13), .ref (ad 14), .ref (ad 15), vI (S 16 0), vI (S 17 0), vI (S 18 0), vI (S 19 0), .ref (ad 20), vI (S 21 0), .ref (ad 22), .ref (ad 23), .ref (ad 24), .ref (ad 25), .ref (ad 26), .ref (ad 27), .ref (ad 28), .ref (ad 29), .ref (ad 30), vI (S 31 0), .ref (ad 32), .ref (ad 33), vI (S 34 0), .ref (ad 35), .ref (ad 36), .ref (ad 37), .ref (ad 38), .ref (ad 39), vI (S 40 0), .ref (ad 41), .ref (ad 42), .ref (ad 43), .ref (ad 44), .ref (ad 45)]
def MR (E : EV) (o : Nat) (ad : Nat → Nat) (S : MS) (h : AH) : Prop :=
  h o = some (ob 10 (mfs ad S)) ∧ (∀ k, 0 < mlen k → h (ad k) = some (arI E (mlen k) (S k))) ∧ (∀ j k, 0 < mlen j → 0 < mlen k → ad j = ad k → j = k) ∧ (∀ k, 0 < mlen k → ad k ≠ o) ∧ (∀ k z, InR (S k z))
theorem mlen_lt (k : Nat) : mlen k < 2 ^ 31 := by
  by_cases hk : k < 46
  · have : ∀ j, j < 46 → mlen j < 2 ^ 31 := by decide +kernel
    exact this k hk
  · unfold mlen
    rw [List.getD_eq_getElem?_getD, List.getElem?_eq_none (by simp; omega)]
    decide
theorem upS_in {S : MS} {k : Nat} {z w : Int} (hR : ∀ k z, InR (S k z)) (hw : InR w) : ∀ k' z', InR (upS S k z w k' z') := by
  intro k' z'
  unfold upS
  split
  · split
    · exact hw
    · exact hR _ _
  · exact hR _ _
theorem mfs_arr {ad : Nat → Nat} {S : MS} {k : Nat} {z w : Int} (hk : 0 < mlen k) : mfs ad (upS S k z w) = mfs ad S := by
  have key : ∀ j, mlen j = 0 → upS S k z w j = S j := fun j hj => upS_ne (fun e => by rw [e] at hj; omega)
  unfold mfs
  rw [key 2 rfl, key 7 rfl, key 16 rfl, key 17 rfl, key 18 rfl, key 19 rfl, key 21 rfl, key 31 rfl, key 34 rfl, key 40 rfl]
theorem MR.arr {E : EV} {o : Nat} {ad : Nat → Nat} {S : MS} {h : AH} (hM : MR E o ad S h) {k : Nat} {z w : Int} (hk : 0 < mlen k) (hw : InR w) : MR E o ad (upS S k z w) (ah_up h (ad k) (arI E (mlen k) (updZ (S k) z w))) := by
  obtain ⟨h1, h2, h3, h4, h5⟩ := hM
  refine ⟨?_, fun j hj => ?_, h3, h4, upS_in h5 hw⟩
  · unfold ah_up
    rw [if_neg (fun e => h4 k hk e.symm), mfs_arr hk]
    exact h1
  · unfold ah_up
    by_cases e : j = k
    · subst e
      rw [if_pos rfl, upS_k]
    · rw [if_neg (fun q => e (h3 j k hj hk q)), upS_ne e]
      exact h2 j hj

theorem MR.int {E : EV} {o : Nat} {ad : Nat → Nat} {S : MS} {h : AH} (hM : MR E o ad S h) {k : Nat} {w : Int} (hk : mlen k = 0) (hw : InR w) (hf : (mfs ad S).set k (vI w) = mfs ad (upS S k 0 w)) : MR E o ad (upS S k 0 w) (ah_up h o (ob 10 ((mfs ad S).set k (vI w)))) := by
  obtain ⟨h1, h2, h3, h4, h5⟩ := hM
  refine ⟨?_, fun j hj => ?_, h3, h4, upS_in h5 hw⟩
  · unfold ah_up
    rw [if_pos rfl, hf]
  · unfold ah_up
    have e : j ≠ k := fun e => by rw [e] at hj; omega
    rw [if_neg (h4 j hj), upS_ne e]
    exact h2 j hj

section MRULES
variable {E : EV} {cc : ByteArray} {nL : Nat} {ret : Option FieldType} {mn : String} {Q : Option Value → AH → Prop} {d kc ks pc : Nat} {L : List (Nat × Value)} {st : List Value} {h : AH} {o : Nat} {ad : Nat → Nat} {S : MS}
theorem m_ld {k : Nat} {z : Int} (hM : MR E o ad S h) (hk : 0 < mlen k) (hd : decode cc pc = .ok (.iaload, 1)) (h0 : 0 ≤ z) (h1 : z < (mlen k : Int)) (kk : Ev E RX10 cc nL ret mn Q d kc ks (pc + 1) L (vI (S k z) :: st) h) : Ev E RX10 cc nL ret mn Q d kc ks pc L (vI z :: .ref (ad k) :: st) h := ev_iaload hd (hM.2.1 k hk) (mlen_lt k) h0 h1 kk
theorem m_ldE {k : Nat} {z v : Int} (hM : MR E o ad S h) (hk : 0 < mlen k) (hv : S k z = v) (hd : decode cc pc = .ok (.iaload, 1)) (h0 : 0 ≤ z) (h1 : z < (mlen k : Int)) (kk : Ev E RX10 cc nL ret mn Q d kc ks (pc + 1) L (vI v :: st) h) : Ev E RX10 cc nL ret mn Q d kc ks pc L (vI z :: .ref (ad k) :: st) h := by subst hv; exact m_ld hM hk hd h0 h1 kk
theorem m_st {k : Nat} {z w : Int} (hM : MR E o ad S h) (hk : 0 < mlen k) (hd : decode cc pc = .ok (.iastore, 1)) (h0 : 0 ≤ z) (h1 : z < (mlen k : Int)) (hw : InR w) (kk : ∀ S' h', S' = upS S k z w → MR E o ad S' h' → Ev E RX10 cc nL ret mn Q d kc ks (pc + 1) L st h') : Ev E RX10 cc nL ret mn Q d kc ks pc L (vI w :: vI z :: .ref (ad k) :: st) h := ev_iastore hd (hM.2.1 k hk) (mlen_lt k) h0 h1 (kk _ _ rfl (hM.arr hk hw))
theorem mg_7 (hM : MR E o ad S h) (hd : decode cc pc = .ok (.getfield 7, 3)) (kk : Ev E RX10 cc nL ret mn Q d kc ks (pc + 3) L (.ref (ad 0) :: st) h) : Ev E RX10 cc nL ret mn Q d kc ks pc L (.ref o :: st) h := g_X10_7_10 hd hM.1 rfl kk
theorem mg_13 (hM : MR E o ad S h) (hd : decode cc pc = .ok (.getfield 13, 3)) (kk : Ev E RX10 cc nL ret mn Q d kc ks (pc + 3) L (.ref (ad 1) :: st) h) : Ev E RX10 cc nL ret mn Q d kc ks pc L (.ref o :: st) h := g_X10_13_10 hd hM.1 rfl kk
theorem mg_155 (hM : MR E o ad S h) (hd : decode cc pc = .ok (.getfield 155, 3)) (kk : Ev E RX10 cc nL ret mn Q d kc ks (pc + 3) L (vI (S 2 0) :: st) h) : Ev E RX10 cc nL ret mn Q d kc ks pc L (.ref o :: st) h := g_X10_155_10 hd hM.1 rfl kk
theorem mgE_155 {v : Int} (hM : MR E o ad S h) (hv : S 2 0 = v) (hd : decode cc pc = .ok (.getfield 155, 3)) (kk : Ev E RX10 cc nL ret mn Q d kc ks (pc + 3) L (vI v :: st) h) : Ev E RX10 cc nL ret mn Q d kc ks pc L (.ref o :: st) h := by subst hv; exact mg_155 hM hd kk
theorem mp_155 {w : Int} (hM : MR E o ad S h) (hw : InR w) (hd : decode cc pc = .ok (.putfield 155, 3)) (kk : ∀ S' h', S' = upS S 2 0 w → MR E o ad S' h' → Ev E RX10 cc nL ret mn Q d kc ks (pc + 3) L st h') : Ev E RX10 cc nL ret mn Q d kc ks pc L (vI w :: .ref o :: st) h := p_X10_155_10 hd hM.1 (Nat.le_of_ble_eq_true rfl) (kk _ _ rfl (hM.int rfl hw (by rfl)))
theorem mg_16 (hM : MR E o ad S h) (hd : decode cc pc = .ok (.getfield 16, 3)) (kk : Ev E RX10 cc nL ret mn Q d kc ks (pc + 3) L (.ref (ad 3) :: st) h) : Ev E RX10 cc nL ret mn Q d kc ks pc L (.ref o :: st) h := g_X10_16_10 hd hM.1 rfl kk
theorem mg_19 (hM : MR E o ad S h) (hd : decode cc pc = .ok (.getfield 19, 3)) (kk : Ev E RX10 cc nL ret mn Q d kc ks (pc + 3) L (.ref (ad 4) :: st) h) : Ev E RX10 cc nL ret mn Q d kc ks pc L (.ref o :: st) h := g_X10_19_10 hd hM.1 rfl kk
theorem mg_22 (hM : MR E o ad S h) (hd : decode cc pc = .ok (.getfield 22, 3)) (kk : Ev E RX10 cc nL ret mn Q d kc ks (pc + 3) L (.ref (ad 5) :: st) h) : Ev E RX10 cc nL ret mn Q d kc ks pc L (.ref o :: st) h := g_X10_22_10 hd hM.1 rfl kk
theorem mg_25 (hM : MR E o ad S h) (hd : decode cc pc = .ok (.getfield 25, 3)) (kk : Ev E RX10 cc nL ret mn Q d kc ks (pc + 3) L (.ref (ad 6) :: st) h) : Ev E RX10 cc nL ret mn Q d kc ks pc L (.ref o :: st) h := g_X10_25_10 hd hM.1 rfl kk
theorem mg_177 (hM : MR E o ad S h) (hd : decode cc pc = .ok (.getfield 177, 3)) (kk : Ev E RX10 cc nL ret mn Q d kc ks (pc + 3) L (vI (S 7 0) :: st) h) : Ev E RX10 cc nL ret mn Q d kc ks pc L (.ref o :: st) h := g_X10_177_10 hd hM.1 rfl kk
theorem mgE_177 {v : Int} (hM : MR E o ad S h) (hv : S 7 0 = v) (hd : decode cc pc = .ok (.getfield 177, 3)) (kk : Ev E RX10 cc nL ret mn Q d kc ks (pc + 3) L (vI v :: st) h) : Ev E RX10 cc nL ret mn Q d kc ks pc L (.ref o :: st) h := by subst hv; exact mg_177 hM hd kk
theorem mp_177 {w : Int} (hM : MR E o ad S h) (hw : InR w) (hd : decode cc pc = .ok (.putfield 177, 3)) (kk : ∀ S' h', S' = upS S 7 0 w → MR E o ad S' h' → Ev E RX10 cc nL ret mn Q d kc ks (pc + 3) L st h') : Ev E RX10 cc nL ret mn Q d kc ks pc L (vI w :: .ref o :: st) h := p_X10_177_10 hd hM.1 (Nat.le_of_ble_eq_true rfl) (kk _ _ rfl (hM.int rfl hw (by rfl)))
theorem mg_28 (hM : MR E o ad S h) (hd : decode cc pc = .ok (.getfield 28, 3)) (kk : Ev E RX10 cc nL ret mn Q d kc ks (pc + 3) L (.ref (ad 8) :: st) h) : Ev E RX10 cc nL ret mn Q d kc ks pc L (.ref o :: st) h := g_X10_28_10 hd hM.1 rfl kk
theorem mg_31 (hM : MR E o ad S h) (hd : decode cc pc = .ok (.getfield 31, 3)) (kk : Ev E RX10 cc nL ret mn Q d kc ks (pc + 3) L (.ref (ad 9) :: st) h) : Ev E RX10 cc nL ret mn Q d kc ks pc L (.ref o :: st) h := g_X10_31_10 hd hM.1 rfl kk
theorem mg_34 (hM : MR E o ad S h) (hd : decode cc pc = .ok (.getfield 34, 3)) (kk : Ev E RX10 cc nL ret mn Q d kc ks (pc + 3) L (.ref (ad 10) :: st) h) : Ev E RX10 cc nL ret mn Q d kc ks pc L (.ref o :: st) h := g_X10_34_10 hd hM.1 rfl kk
theorem mg_37 (hM : MR E o ad S h) (hd : decode cc pc = .ok (.getfield 37, 3)) (kk : Ev E RX10 cc nL ret mn Q d kc ks (pc + 3) L (.ref (ad 11) :: st) h) : Ev E RX10 cc nL ret mn Q d kc ks pc L (.ref o :: st) h := g_X10_37_10 hd hM.1 rfl kk
theorem mg_40 (hM : MR E o ad S h) (hd : decode cc pc = .ok (.getfield 40, 3)) (kk : Ev E RX10 cc nL ret mn Q d kc ks (pc + 3) L (.ref (ad 12) :: st) h) : Ev E RX10 cc nL ret mn Q d kc ks pc L (.ref o :: st) h := g_X10_40_10 hd hM.1 rfl kk
theorem mg_43 (hM : MR E o ad S h) (hd : decode cc pc = .ok (.getfield 43, 3)) (kk : Ev E RX10 cc nL ret mn Q d kc ks (pc + 3) L (.ref (ad 13) :: st) h) : Ev E RX10 cc nL ret mn Q d kc ks pc L (.ref o :: st) h := g_X10_43_10 hd hM.1 rfl kk
theorem mg_46 (hM : MR E o ad S h) (hd : decode cc pc = .ok (.getfield 46, 3)) (kk : Ev E RX10 cc nL ret mn Q d kc ks (pc + 3) L (.ref (ad 14) :: st) h) : Ev E RX10 cc nL ret mn Q d kc ks pc L (.ref o :: st) h := g_X10_46_10 hd hM.1 rfl kk
theorem mg_49 (hM : MR E o ad S h) (hd : decode cc pc = .ok (.getfield 49, 3)) (kk : Ev E RX10 cc nL ret mn Q d kc ks (pc + 3) L (.ref (ad 15) :: st) h) : Ev E RX10 cc nL ret mn Q d kc ks pc L (.ref o :: st) h := g_X10_49_10 hd hM.1 rfl kk
theorem mg_52 (hM : MR E o ad S h) (hd : decode cc pc = .ok (.getfield 52, 3)) (kk : Ev E RX10 cc nL ret mn Q d kc ks (pc + 3) L (vI (S 16 0) :: st) h) : Ev E RX10 cc nL ret mn Q d kc ks pc L (.ref o :: st) h := g_X10_52_10 hd hM.1 rfl kk
theorem mgE_52 {v : Int} (hM : MR E o ad S h) (hv : S 16 0 = v) (hd : decode cc pc = .ok (.getfield 52, 3)) (kk : Ev E RX10 cc nL ret mn Q d kc ks (pc + 3) L (vI v :: st) h) : Ev E RX10 cc nL ret mn Q d kc ks pc L (.ref o :: st) h := by subst hv; exact mg_52 hM hd kk
theorem mp_52 {w : Int} (hM : MR E o ad S h) (hw : InR w) (hd : decode cc pc = .ok (.putfield 52, 3)) (kk : ∀ S' h', S' = upS S 16 0 w → MR E o ad S' h' → Ev E RX10 cc nL ret mn Q d kc ks (pc + 3) L st h') : Ev E RX10 cc nL ret mn Q d kc ks pc L (vI w :: .ref o :: st) h := p_X10_52_10 hd hM.1 (Nat.le_of_ble_eq_true rfl) (kk _ _ rfl (hM.int rfl hw (by rfl)))
theorem mg_213 (hM : MR E o ad S h) (hd : decode cc pc = .ok (.getfield 213, 3)) (kk : Ev E RX10 cc nL ret mn Q d kc ks (pc + 3) L (vI (S 17 0) :: st) h) : Ev E RX10 cc nL ret mn Q d kc ks pc L (.ref o :: st) h := g_X10_213_10 hd hM.1 rfl kk
theorem mgE_213 {v : Int} (hM : MR E o ad S h) (hv : S 17 0 = v) (hd : decode cc pc = .ok (.getfield 213, 3)) (kk : Ev E RX10 cc nL ret mn Q d kc ks (pc + 3) L (vI v :: st) h) : Ev E RX10 cc nL ret mn Q d kc ks pc L (.ref o :: st) h := by subst hv; exact mg_213 hM hd kk
theorem mp_213 {w : Int} (hM : MR E o ad S h) (hw : InR w) (hd : decode cc pc = .ok (.putfield 213, 3)) (kk : ∀ S' h', S' = upS S 17 0 w → MR E o ad S' h' → Ev E RX10 cc nL ret mn Q d kc ks (pc + 3) L st h') : Ev E RX10 cc nL ret mn Q d kc ks pc L (vI w :: .ref o :: st) h := p_X10_213_10 hd hM.1 (Nat.le_of_ble_eq_true rfl) (kk _ _ rfl (hM.int rfl hw (by rfl)))
theorem mg_216 (hM : MR E o ad S h) (hd : decode cc pc = .ok (.getfield 216, 3)) (kk : Ev E RX10 cc nL ret mn Q d kc ks (pc + 3) L (vI (S 18 0) :: st) h) : Ev E RX10 cc nL ret mn Q d kc ks pc L (.ref o :: st) h := g_X10_216_10 hd hM.1 rfl kk
theorem mgE_216 {v : Int} (hM : MR E o ad S h) (hv : S 18 0 = v) (hd : decode cc pc = .ok (.getfield 216, 3)) (kk : Ev E RX10 cc nL ret mn Q d kc ks (pc + 3) L (vI v :: st) h) : Ev E RX10 cc nL ret mn Q d kc ks pc L (.ref o :: st) h := by subst hv; exact mg_216 hM hd kk
theorem mp_216 {w : Int} (hM : MR E o ad S h) (hw : InR w) (hd : decode cc pc = .ok (.putfield 216, 3)) (kk : ∀ S' h', S' = upS S 18 0 w → MR E o ad S' h' → Ev E RX10 cc nL ret mn Q d kc ks (pc + 3) L st h') : Ev E RX10 cc nL ret mn Q d kc ks pc L (vI w :: .ref o :: st) h := p_X10_216_10 hd hM.1 (Nat.le_of_ble_eq_true rfl) (kk _ _ rfl (hM.int rfl hw (by rfl)))
theorem mg_238 (hM : MR E o ad S h) (hd : decode cc pc = .ok (.getfield 238, 3)) (kk : Ev E RX10 cc nL ret mn Q d kc ks (pc + 3) L (vI (S 19 0) :: st) h) : Ev E RX10 cc nL ret mn Q d kc ks pc L (.ref o :: st) h := g_X10_238_10 hd hM.1 rfl kk
theorem mgE_238 {v : Int} (hM : MR E o ad S h) (hv : S 19 0 = v) (hd : decode cc pc = .ok (.getfield 238, 3)) (kk : Ev E RX10 cc nL ret mn Q d kc ks (pc + 3) L (vI v :: st) h) : Ev E RX10 cc nL ret mn Q d kc ks pc L (.ref o :: st) h := by subst hv; exact mg_238 hM hd kk
theorem mp_238 {w : Int} (hM : MR E o ad S h) (hw : InR w) (hd : decode cc pc = .ok (.putfield 238, 3)) (kk : ∀ S' h', S' = upS S 19 0 w → MR E o ad S' h' → Ev E RX10 cc nL ret mn Q d kc ks (pc + 3) L st h') : Ev E RX10 cc nL ret mn Q d kc ks pc L (vI w :: .ref o :: st) h := p_X10_238_10 hd hM.1 (Nat.le_of_ble_eq_true rfl) (kk _ _ rfl (hM.int rfl hw (by rfl)))
theorem mg_56 (hM : MR E o ad S h) (hd : decode cc pc = .ok (.getfield 56, 3)) (kk : Ev E RX10 cc nL ret mn Q d kc ks (pc + 3) L (.ref (ad 20) :: st) h) : Ev E RX10 cc nL ret mn Q d kc ks pc L (.ref o :: st) h := g_X10_56_10 hd hM.1 rfl kk
theorem mg_254 (hM : MR E o ad S h) (hd : decode cc pc = .ok (.getfield 254, 3)) (kk : Ev E RX10 cc nL ret mn Q d kc ks (pc + 3) L (vI (S 21 0) :: st) h) : Ev E RX10 cc nL ret mn Q d kc ks pc L (.ref o :: st) h := g_X10_254_10 hd hM.1 rfl kk
theorem mgE_254 {v : Int} (hM : MR E o ad S h) (hv : S 21 0 = v) (hd : decode cc pc = .ok (.getfield 254, 3)) (kk : Ev E RX10 cc nL ret mn Q d kc ks (pc + 3) L (vI v :: st) h) : Ev E RX10 cc nL ret mn Q d kc ks pc L (.ref o :: st) h := by subst hv; exact mg_254 hM hd kk
theorem mp_254 {w : Int} (hM : MR E o ad S h) (hw : InR w) (hd : decode cc pc = .ok (.putfield 254, 3)) (kk : ∀ S' h', S' = upS S 21 0 w → MR E o ad S' h' → Ev E RX10 cc nL ret mn Q d kc ks (pc + 3) L st h') : Ev E RX10 cc nL ret mn Q d kc ks pc L (vI w :: .ref o :: st) h := p_X10_254_10 hd hM.1 (Nat.le_of_ble_eq_true rfl) (kk _ _ rfl (hM.int rfl hw (by rfl)))
theorem mg_59 (hM : MR E o ad S h) (hd : decode cc pc = .ok (.getfield 59, 3)) (kk : Ev E RX10 cc nL ret mn Q d kc ks (pc + 3) L (.ref (ad 22) :: st) h) : Ev E RX10 cc nL ret mn Q d kc ks pc L (.ref o :: st) h := g_X10_59_10 hd hM.1 rfl kk
theorem mg_62 (hM : MR E o ad S h) (hd : decode cc pc = .ok (.getfield 62, 3)) (kk : Ev E RX10 cc nL ret mn Q d kc ks (pc + 3) L (.ref (ad 23) :: st) h) : Ev E RX10 cc nL ret mn Q d kc ks pc L (.ref o :: st) h := g_X10_62_10 hd hM.1 rfl kk
theorem mg_65 (hM : MR E o ad S h) (hd : decode cc pc = .ok (.getfield 65, 3)) (kk : Ev E RX10 cc nL ret mn Q d kc ks (pc + 3) L (.ref (ad 24) :: st) h) : Ev E RX10 cc nL ret mn Q d kc ks pc L (.ref o :: st) h := g_X10_65_10 hd hM.1 rfl kk
theorem mg_68 (hM : MR E o ad S h) (hd : decode cc pc = .ok (.getfield 68, 3)) (kk : Ev E RX10 cc nL ret mn Q d kc ks (pc + 3) L (.ref (ad 25) :: st) h) : Ev E RX10 cc nL ret mn Q d kc ks pc L (.ref o :: st) h := g_X10_68_10 hd hM.1 rfl kk
theorem mg_71 (hM : MR E o ad S h) (hd : decode cc pc = .ok (.getfield 71, 3)) (kk : Ev E RX10 cc nL ret mn Q d kc ks (pc + 3) L (.ref (ad 26) :: st) h) : Ev E RX10 cc nL ret mn Q d kc ks pc L (.ref o :: st) h := g_X10_71_10 hd hM.1 rfl kk
theorem mg_74 (hM : MR E o ad S h) (hd : decode cc pc = .ok (.getfield 74, 3)) (kk : Ev E RX10 cc nL ret mn Q d kc ks (pc + 3) L (.ref (ad 27) :: st) h) : Ev E RX10 cc nL ret mn Q d kc ks pc L (.ref o :: st) h := g_X10_74_10 hd hM.1 rfl kk
theorem mg_77 (hM : MR E o ad S h) (hd : decode cc pc = .ok (.getfield 77, 3)) (kk : Ev E RX10 cc nL ret mn Q d kc ks (pc + 3) L (.ref (ad 28) :: st) h) : Ev E RX10 cc nL ret mn Q d kc ks pc L (.ref o :: st) h := g_X10_77_10 hd hM.1 rfl kk
theorem mg_80 (hM : MR E o ad S h) (hd : decode cc pc = .ok (.getfield 80, 3)) (kk : Ev E RX10 cc nL ret mn Q d kc ks (pc + 3) L (.ref (ad 29) :: st) h) : Ev E RX10 cc nL ret mn Q d kc ks pc L (.ref o :: st) h := g_X10_80_10 hd hM.1 rfl kk
theorem mg_83 (hM : MR E o ad S h) (hd : decode cc pc = .ok (.getfield 83, 3)) (kk : Ev E RX10 cc nL ret mn Q d kc ks (pc + 3) L (.ref (ad 30) :: st) h) : Ev E RX10 cc nL ret mn Q d kc ks pc L (.ref o :: st) h := g_X10_83_10 hd hM.1 rfl kk
theorem mg_86 (hM : MR E o ad S h) (hd : decode cc pc = .ok (.getfield 86, 3)) (kk : Ev E RX10 cc nL ret mn Q d kc ks (pc + 3) L (vI (S 31 0) :: st) h) : Ev E RX10 cc nL ret mn Q d kc ks pc L (.ref o :: st) h := g_X10_86_10 hd hM.1 rfl kk
theorem mgE_86 {v : Int} (hM : MR E o ad S h) (hv : S 31 0 = v) (hd : decode cc pc = .ok (.getfield 86, 3)) (kk : Ev E RX10 cc nL ret mn Q d kc ks (pc + 3) L (vI v :: st) h) : Ev E RX10 cc nL ret mn Q d kc ks pc L (.ref o :: st) h := by subst hv; exact mg_86 hM hd kk
theorem mp_86 {w : Int} (hM : MR E o ad S h) (hw : InR w) (hd : decode cc pc = .ok (.putfield 86, 3)) (kk : ∀ S' h', S' = upS S 31 0 w → MR E o ad S' h' → Ev E RX10 cc nL ret mn Q d kc ks (pc + 3) L st h') : Ev E RX10 cc nL ret mn Q d kc ks pc L (vI w :: .ref o :: st) h := p_X10_86_10 hd hM.1 (Nat.le_of_ble_eq_true rfl) (kk _ _ rfl (hM.int rfl hw (by rfl)))
theorem mg_89 (hM : MR E o ad S h) (hd : decode cc pc = .ok (.getfield 89, 3)) (kk : Ev E RX10 cc nL ret mn Q d kc ks (pc + 3) L (.ref (ad 32) :: st) h) : Ev E RX10 cc nL ret mn Q d kc ks pc L (.ref o :: st) h := g_X10_89_10 hd hM.1 rfl kk
theorem mg_92 (hM : MR E o ad S h) (hd : decode cc pc = .ok (.getfield 92, 3)) (kk : Ev E RX10 cc nL ret mn Q d kc ks (pc + 3) L (.ref (ad 33) :: st) h) : Ev E RX10 cc nL ret mn Q d kc ks pc L (.ref o :: st) h := g_X10_92_10 hd hM.1 rfl kk
theorem mg_278 (hM : MR E o ad S h) (hd : decode cc pc = .ok (.getfield 278, 3)) (kk : Ev E RX10 cc nL ret mn Q d kc ks (pc + 3) L (vI (S 34 0) :: st) h) : Ev E RX10 cc nL ret mn Q d kc ks pc L (.ref o :: st) h := g_X10_278_10 hd hM.1 rfl kk
theorem mgE_278 {v : Int} (hM : MR E o ad S h) (hv : S 34 0 = v) (hd : decode cc pc = .ok (.getfield 278, 3)) (kk : Ev E RX10 cc nL ret mn Q d kc ks (pc + 3) L (vI v :: st) h) : Ev E RX10 cc nL ret mn Q d kc ks pc L (.ref o :: st) h := by subst hv; exact mg_278 hM hd kk
theorem mp_278 {w : Int} (hM : MR E o ad S h) (hw : InR w) (hd : decode cc pc = .ok (.putfield 278, 3)) (kk : ∀ S' h', S' = upS S 34 0 w → MR E o ad S' h' → Ev E RX10 cc nL ret mn Q d kc ks (pc + 3) L st h') : Ev E RX10 cc nL ret mn Q d kc ks pc L (vI w :: .ref o :: st) h := p_X10_278_10 hd hM.1 (Nat.le_of_ble_eq_true rfl) (kk _ _ rfl (hM.int rfl hw (by rfl)))
theorem mg_95 (hM : MR E o ad S h) (hd : decode cc pc = .ok (.getfield 95, 3)) (kk : Ev E RX10 cc nL ret mn Q d kc ks (pc + 3) L (.ref (ad 35) :: st) h) : Ev E RX10 cc nL ret mn Q d kc ks pc L (.ref o :: st) h := g_X10_95_10 hd hM.1 rfl kk
theorem mg_98 (hM : MR E o ad S h) (hd : decode cc pc = .ok (.getfield 98, 3)) (kk : Ev E RX10 cc nL ret mn Q d kc ks (pc + 3) L (.ref (ad 36) :: st) h) : Ev E RX10 cc nL ret mn Q d kc ks pc L (.ref o :: st) h := g_X10_98_10 hd hM.1 rfl kk
theorem mg_101 (hM : MR E o ad S h) (hd : decode cc pc = .ok (.getfield 101, 3)) (kk : Ev E RX10 cc nL ret mn Q d kc ks (pc + 3) L (.ref (ad 37) :: st) h) : Ev E RX10 cc nL ret mn Q d kc ks pc L (.ref o :: st) h := g_X10_101_10 hd hM.1 rfl kk
theorem mg_104 (hM : MR E o ad S h) (hd : decode cc pc = .ok (.getfield 104, 3)) (kk : Ev E RX10 cc nL ret mn Q d kc ks (pc + 3) L (.ref (ad 38) :: st) h) : Ev E RX10 cc nL ret mn Q d kc ks pc L (.ref o :: st) h := g_X10_104_10 hd hM.1 rfl kk
theorem mg_107 (hM : MR E o ad S h) (hd : decode cc pc = .ok (.getfield 107, 3)) (kk : Ev E RX10 cc nL ret mn Q d kc ks (pc + 3) L (.ref (ad 39) :: st) h) : Ev E RX10 cc nL ret mn Q d kc ks pc L (.ref o :: st) h := g_X10_107_10 hd hM.1 rfl kk
theorem mg_301 (hM : MR E o ad S h) (hd : decode cc pc = .ok (.getfield 301, 3)) (kk : Ev E RX10 cc nL ret mn Q d kc ks (pc + 3) L (vI (S 40 0) :: st) h) : Ev E RX10 cc nL ret mn Q d kc ks pc L (.ref o :: st) h := g_X10_301_10 hd hM.1 rfl kk
theorem mgE_301 {v : Int} (hM : MR E o ad S h) (hv : S 40 0 = v) (hd : decode cc pc = .ok (.getfield 301, 3)) (kk : Ev E RX10 cc nL ret mn Q d kc ks (pc + 3) L (vI v :: st) h) : Ev E RX10 cc nL ret mn Q d kc ks pc L (.ref o :: st) h := by subst hv; exact mg_301 hM hd kk
theorem mp_301 {w : Int} (hM : MR E o ad S h) (hw : InR w) (hd : decode cc pc = .ok (.putfield 301, 3)) (kk : ∀ S' h', S' = upS S 40 0 w → MR E o ad S' h' → Ev E RX10 cc nL ret mn Q d kc ks (pc + 3) L st h') : Ev E RX10 cc nL ret mn Q d kc ks pc L (vI w :: .ref o :: st) h := p_X10_301_10 hd hM.1 (Nat.le_of_ble_eq_true rfl) (kk _ _ rfl (hM.int rfl hw (by rfl)))
theorem mg_110 (hM : MR E o ad S h) (hd : decode cc pc = .ok (.getfield 110, 3)) (kk : Ev E RX10 cc nL ret mn Q d kc ks (pc + 3) L (.ref (ad 41) :: st) h) : Ev E RX10 cc nL ret mn Q d kc ks pc L (.ref o :: st) h := g_X10_110_10 hd hM.1 rfl kk
theorem mg_113 (hM : MR E o ad S h) (hd : decode cc pc = .ok (.getfield 113, 3)) (kk : Ev E RX10 cc nL ret mn Q d kc ks (pc + 3) L (.ref (ad 42) :: st) h) : Ev E RX10 cc nL ret mn Q d kc ks pc L (.ref o :: st) h := g_X10_113_10 hd hM.1 rfl kk
theorem mg_116 (hM : MR E o ad S h) (hd : decode cc pc = .ok (.getfield 116, 3)) (kk : Ev E RX10 cc nL ret mn Q d kc ks (pc + 3) L (.ref (ad 43) :: st) h) : Ev E RX10 cc nL ret mn Q d kc ks pc L (.ref o :: st) h := g_X10_116_10 hd hM.1 rfl kk
theorem mg_119 (hM : MR E o ad S h) (hd : decode cc pc = .ok (.getfield 119, 3)) (kk : Ev E RX10 cc nL ret mn Q d kc ks (pc + 3) L (.ref (ad 44) :: st) h) : Ev E RX10 cc nL ret mn Q d kc ks pc L (.ref o :: st) h := g_X10_119_10 hd hM.1 rfl kk
theorem mg_122 (hM : MR E o ad S h) (hd : decode cc pc = .ok (.getfield 122, 3)) (kk : Ev E RX10 cc nL ret mn Q d kc ks (pc + 3) L (.ref (ad 45) :: st) h) : Ev E RX10 cc nL ret mn Q d kc ks pc L (.ref o :: st) h := g_X10_122_10 hd hM.1 rfl kk
end MRULES
/-- all slots but those of l are as they were -/
def eqx (l : List Nat) (S S' : MS) : Prop := ∀ k, k ∉ l → S' k = S k
theorem eqx.rf {l : List Nat} {S : MS} : eqx l S S := fun _ _ => rfl
theorem eqx.up {l : List Nat} {S S' : MS} {k : Nat} {z w : Int} (h : eqx l S S') (hk : k ∈ l) : eqx l S (upS S' k z w) := fun j hj => (upS_ne (fun e : j = k => hj (by rw [e]; exact hk))).trans (h j hj)
theorem eqx.tr {l l1 l2 : List Nat} {S S1 S2 : MS} (h1 : eqx l1 S S1) (h2 : eqx l2 S1 S2) (e1 : ∀ x ∈ l1, x ∈ l) (e2 : ∀ x ∈ l2, x ∈ l) : eqx l S S2 := fun j hj => by rw [h2 j (fun q => hj (e2 j q)), h1 j (fun q => hj (e1 j q))]
/-- what holds of every state of the persons' numbers -/
def Inv (S : MS) : Prop :=
  (0 ≤ S 2 0 ∧ S 2 0 ≤ 8) ∧ (0 ≤ S 7 0 ∧ S 7 0 ≤ 40) ∧ (0 ≤ S 34 0 ∧ S 34 0 ≤ 60) ∧ (0 ≤ S 40 0 ∧ S 40 0 ≤ 20) ∧ (0 ≤ S 16 0 ∧ S 16 0 ≤ 200) ∧ (1 ≤ S 31 0 ∧ S 31 0 ≤ 60) ∧
  (∀ i, 0 ≤ i → i < S 2 0 → (0 ≤ S 3 i ∧ S 3 i ≤ 2000) ∧ (0 ≤ S 4 i ∧ S 4 i ≤ 2000) ∧ -60 ≤ S 5 i ∧ S 5 i ≤ S 6 i ∧ S 6 i ≤ 60) ∧
  (∀ i, 0 ≤ i → i < S 7 0 → (0 ≤ S 8 i ∧ S 8 i ≤ 2) ∧ (0 ≤ S 9 i ∧ S 9 i < S 2 0) ∧ (0 ≤ S 10 i ∧ S 10 i < 400) ∧ (0 ≤ S 11 i ∧ S 11 i < 1440) ∧ (0 ≤ S 12 i ∧ S 12 i < 360) ∧ (2 ≤ S 13 i ∧ S 13 i ≤ 88) ∧ (0 ≤ S 14 i ∧ S 14 i ≤ 4) ∧ -45 ≤ S 15 i ∧ S 15 i ≤ 45) ∧
  (∀ i, 0 ≤ i → i < S 34 0 → (0 ≤ S 35 i ∧ S 35 i < S 2 0) ∧ (0 ≤ S 36 i ∧ S 36 i < 400) ∧ (0 ≤ S 37 i ∧ S 37 i ≤ 24) ∧ 0 ≤ S 38 i ∧ S 38 i ≤ S 37 i) ∧
  (∀ i, 0 ≤ i → i < S 40 0 → (0 ≤ S 41 i ∧ S 41 i < S 7 0) ∧ (0 ≤ S 42 i ∧ S 42 i < S 7 0) ∧ S 9 (S 41 i) ≠ S 9 (S 42 i)) ∧
  (∀ i, 0 ≤ i → i < 4 → (-1 ≤ S 43 i ∧ S 43 i ≤ 2) ∧ 0 ≤ S 44 i ∧ S 44 i ≤ 36) ∧
  (∀ z, 0 ≤ z → z ≤ 90 → S 0 z = tabS z) ∧ (∀ z, 1 ≤ z → z ≤ 89 → S 1 z = tabT z) ∧ (∀ i, S 2 0 ≤ i → S 5 i = 0 ∧ S 6 i = 0)

