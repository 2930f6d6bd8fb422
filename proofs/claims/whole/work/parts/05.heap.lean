section HEAP
variable {E : EV} {own : String} {cc : ByteArray} {nL : Nat} {ret : Option FieldType} {mn : String} {Q : Option Value → AH → Prop} {d kc ks pc : Nat} {L : List (Nat × Value)} {st : List Value} {h : AH}
abbrev arI (E : EV) (n : Nat) (f : Int → Int) : va_E := .inl (E.2.1 0, n, .inl (fun j => iI (f (j : Int))))
abbrev arR (E : EV) (t n : Nat) (f : Int → Option Nat) : va_E := .inl (E.2.1 t, n, .inr (.inr (.inr (.inr (fun j => f (j : Int))))))
abbrev ob (ci : Nat) (fs : List Value) : va_E := .inr (ci, fs)
theorem tysA_get {E : EV} {t : Nat} {ty : FieldType} (h : (tysA E.2.1)[t]? = some (E.2.1 t, ty)) : (tysA E.2.1)[t]? = some (E.2.1 t, ty) := h

theorem ev_get {q ci N idx k : Nat} {C : String} {T : u_T} {fs : List Value} {v : Value} (hin : ∀ w ∈ u_ws C T N, w ∈ TB) (hc : vwCl[ci]? = some (C, T, N)) (hk : k < N) (hlink : Cond.fieldLink own idx (T k).1 (T k).2.1 (T k).2.2.1 ∈ TB) (hd : decode cc pc = .ok (.getfield idx, 3)) (hq : h q = some (ob ci fs)) (hv : fs[k]? = some v) (kk : Ev E own cc nL ret mn Q d kc ks (pc + 3) L (v :: st) h) : Ev E own cc nL ret mn Q d kc ks pc L (.ref q :: st) h := by
  intro p l e s m args below meth c H locs cells slots mc ms A ls hC
  have hC0 := hC
  obtain ⟨hx, hb, hr, hml, hown, hnm, hlk, hts, hK, hG, hA, hH, hS, hl, hc1, hc2⟩ := hC
  obtain ⟨ws, hP, hD, hh⟩ := hH
  obtain ⟨k0, hk0⟩ := (hh q _).mp hq
  exact va_get hx hb hts hin hown hK hP k0 hk0 hc k hk (hts _ hlink) (fun _ h9 => h9) hv hd (kk p l e s m args below meth c H locs cells slots mc ms A ls hC0)

theorem ev_getS {q ci N idx k : Nat} {C : String} {T : u_T} {fs : List Value} {v : Value} {ref : String} (hin : ∀ w ∈ u_ws C T N, w ∈ TB) (hc : vwCl[ci]? = some (C, T, N)) (hk : k < N) (hlink : Cond.fieldLink own idx ref (T k).2.1 (T k).2.2.1 ∈ TB) (hsm : Cond.sameField ref (T k).1 (T k).2.1 (T k).2.2.1 ∈ TB) (hd : decode cc pc = .ok (.getfield idx, 3)) (hq : h q = some (ob ci fs)) (hv : fs[k]? = some v) (kk : Ev E own cc nL ret mn Q d kc ks (pc + 3) L (v :: st) h) : Ev E own cc nL ret mn Q d kc ks pc L (.ref q :: st) h := by
  intro p l e s m args below meth c H locs cells slots mc ms A ls hC
  have hC0 := hC
  obtain ⟨hx, hb, hr, hml, hown, hnm, hlk, hts, hK, hG, hA, hH, hS, hl, hc1, hc2⟩ := hC
  obtain ⟨ws, hP, hD, hh⟩ := hH
  obtain ⟨k0, hk0⟩ := (hh q _).mp hq
  exact va_get hx hb hts hin hown hK hP k0 hk0 hc k hk (hts _ hlink) (fun x9 h9 => u_same (hts _ hsm) x9 h9) hv hd (kk p l e s m args below meth c H locs cells slots mc ms A ls hC0)

theorem ev_put {q ci N idx k : Nat} {C : String} {T : u_T} {fs : List Value} {v : Value} (hin : ∀ w ∈ u_ws C T N, w ∈ TB) (hc : vwCl[ci]? = some (C, T, N)) (hk : k < N) (ty0 : Nat → FieldType) (hty : ∀ k, k < N → parseFieldDescriptor (T k).2.2.1 = some (ty0 k)) (hnm0 : ∀ a, a < N → ∀ b, b < N → a ≠ b → (T a).2.1 ≠ (T b).2.1) (hlink : Cond.fieldLink own idx (T k).1 (T k).2.1 (T k).2.2.1 ∈ TB) (hfin : (T k).2.2.2 = false) (hn : narrow (ty0 k) v = v) (hfit : fits (ty0 k) v = true) (hd : decode cc pc = .ok (.putfield idx, 3)) (hq : h q = some (ob ci fs)) (hl0 : k < fs.length) (kk : Ev E own cc nL ret mn Q d kc ks (pc + 3) L st (ah_up h q (ob ci (fs.set k v)))) : Ev E own cc nL ret mn Q d kc ks pc L (v :: .ref q :: st) h := by
  intro p l e s m args below meth c H locs cells slots mc ms A ls hC
  have hC0 := hC
  obtain ⟨hx, hb, hr, hml, hown, hnm, hlk, hts, hK, hG, hA, hH, hS, hl, hc1, hc2⟩ := hC
  obtain ⟨ws, hP, hD, hh⟩ := hH
  obtain ⟨k0, hk0⟩ := (hh q _).mp hq
  exact va_put hx hb hts hin ty0 hty hnm0 hown hK hP hD hS k0 hk0 hc k hk (hts _ hlink) (fun _ h9 => h9) hfin (hty k hk) hn hfit hl0 hd (fun H1 locs1 hP1 hD1 hS1 => kk p l e s m args below meth c H1 locs1 cells slots mc ms A ls (hC0.heap' ⟨_, hP1, hD1, Hold.set (D := E.1) hD hh hk0⟩ hS1))

theorem ev_putF {q ci N idx k : Nat} {C : String} {T : u_T} {fs : List Value} {v : Value} (hin : ∀ w ∈ u_ws C T N, w ∈ TB) (hc : vwCl[ci]? = some (C, T, N)) (hk : k < N) (ty0 : Nat → FieldType) (hty : ∀ k, k < N → parseFieldDescriptor (T k).2.2.1 = some (ty0 k)) (hnm0 : ∀ a, a < N → ∀ b, b < N → a ≠ b → (T a).2.1 ≠ (T b).2.1) (hlink : Cond.fieldLink own idx (T k).1 (T k).2.1 (T k).2.2.1 ∈ TB) (hfin : (T k).2.2.2 = true) (hmn : mn = "<init>") (hown0 : (T k).1 = own) (hn : narrow (ty0 k) v = v) (hfit : fits (ty0 k) v = true) (hd : decode cc pc = .ok (.putfield idx, 3)) (hq : h q = some (ob ci fs)) (hl0 : k < fs.length) (kk : Ev E own cc nL ret mn Q d kc ks (pc + 3) L st (ah_up h q (ob ci (fs.set k v)))) : Ev E own cc nL ret mn Q d kc ks pc L (v :: .ref q :: st) h := by
  intro p l e s m args below meth c H locs cells slots mc ms A ls hC
  have hC0 := hC
  obtain ⟨hx, hb, hr, hml, hown, hnm, hlk, hts, hK, hG, hA, hH, hS, hl, hc1, hc2⟩ := hC
  obtain ⟨ws, hP, hD, hh⟩ := hH
  obtain ⟨k0, hk0⟩ := (hh q _).mp hq
  exact va_putF hx hb hts hin ty0 hty hnm0 hown hK hP hD hS k0 hk0 hc k hk (hts _ hlink) (fun _ h9 => h9) hfin (hnm.trans hmn) hown0 (hty k hk) hn hfit hl0 hd (fun H1 locs1 hP1 hD1 hS1 => kk p l e s m args below meth c H1 locs1 cells slots mc ms A ls (hC0.heap' ⟨_, hP1, hD1, Hold.set (D := E.1) hD hh hk0⟩ hS1))

theorem ev_iaload {q n : Nat} {f : Int → Int} {z : Int} (hd : decode cc pc = .ok (.iaload, 1)) (hq : h q = some (arI E n f)) (hn : n < 2 ^ 31) (h0 : 0 ≤ z) (h1 : z < n) (kk : Ev E own cc nL ret mn Q d kc ks (pc + 1) L (vI (f z) :: st) h) : Ev E own cc nL ret mn Q d kc ks pc L (vI z :: .ref q :: st) h := by
  intro p l e s m args below meth c H locs cells slots mc ms A ls hC
  have hC0 := hC
  obtain ⟨hx, hb, hr, hml, hown, hnm, hlk, hts, hK, hG, hA, hH, hS, hl, hc1, hc2⟩ := hC
  obtain ⟨ws, hP, hD, hh⟩ := hH
  obtain ⟨k0, hk0⟩ := (hh q _).mp hq
  have hz : InR z := by unfold InR; omega
  refine va_iald hx hb hK hP k0 0 hk0 rfl (vp_in_iI h0 h1 hn) hd ?_
  rw [iI_nat h0 hz, Int.toNat_of_nonneg h0]
  exact kk p l e s m args below meth c H locs cells slots mc ms A ls hC0

theorem ev_iastore {q n : Nat} {f : Int → Int} {z w : Int} (hd : decode cc pc = .ok (.iastore, 1)) (hq : h q = some (arI E n f)) (hn : n < 2 ^ 31) (h0 : 0 ≤ z) (h1 : z < n) (kk : Ev E own cc nL ret mn Q d kc ks (pc + 1) L st (ah_up h q (arI E n (updZ f z w)))) : Ev E own cc nL ret mn Q d kc ks pc L (vI w :: vI z :: .ref q :: st) h := by
  intro p l e s m args below meth c H locs cells slots mc ms A ls hC
  have hC0 := hC
  obtain ⟨hx, hb, hr, hml, hown, hnm, hlk, hts, hK, hG, hA, hH, hS, hl, hc1, hc2⟩ := hC
  obtain ⟨ws, hP, hD, hh⟩ := hH
  obtain ⟨k0, hk0⟩ := (hh q _).mp hq
  have hz : InR z := by unfold InR; omega
  have e1 : upd (fun j => iI (f (j : Int))) (iI z).toNatClampNeg (iI w) = fun j : Nat => iI (updZ f z w (j : Int)) := by
    funext j
    unfold upd updZ
    rw [iI_nat h0 hz]
    by_cases hj : j = z.toNat
    · rw [if_pos hj, if_pos (by omega)]
    · rw [if_neg hj, if_neg (by omega)]
  refine va_iast hx hb hK hP hD hS k0 0 hk0 rfl (vp_in_iI h0 h1 hn) hd (fun H1 locs1 hP1 hD1 hS1 => ?_)
  rw [e1] at hP1 hD1
  exact kk p l e s m args below meth c H1 locs1 cells slots mc ms A ls (hC0.heap' ⟨_, hP1, hD1, Hold.set (D := E.1) hD hh hk0⟩ hS1)

theorem ev_aaload {q n t : Nat} {C : String} {f : Int → Option Nat} {z : Int} (ht : (tysA E.2.1)[t]? = some (E.2.1 t, .object C)) (hd : decode cc pc = .ok (.aaload, 1)) (hq : h q = some (arR E t n f)) (hn : n < 2 ^ 31) (h0 : 0 ≤ z) (h1 : z < n) (kk : Ev E own cc nL ret mn Q d kc ks (pc + 1) L (va_rf (f z) :: st) h) : Ev E own cc nL ret mn Q d kc ks pc L (vI z :: .ref q :: st) h := by
  intro p l e s m args below meth c H locs cells slots mc ms A ls hC
  have hC0 := hC
  obtain ⟨hx, hb, hr, hml, hown, hnm, hlk, hts, hK, hG, hA, hH, hS, hl, hc1, hc2⟩ := hC
  obtain ⟨ws, hP, hD, hh⟩ := hH
  obtain ⟨k0, hk0⟩ := (hh q _).mp hq
  have hz : InR z := by unfold InR; omega
  refine va_aldq hx hb hK hP k0 t hk0 ht (vp_in_iI h0 h1 hn) hd ?_
  rw [iI_nat h0 hz, Int.toNat_of_nonneg h0]
  exact kk p l e s m args below meth c H locs cells slots mc ms A ls hC0

theorem ev_aastoreN {q n t : Nat} {C : String} {f : Int → Option Nat} {z : Int} (ht : (tysA E.2.1)[t]? = some (E.2.1 t, .object C)) (hd : decode cc pc = .ok (.aastore, 1)) (hq : h q = some (arR E t n f)) (hn : n < 2 ^ 31) (h0 : 0 ≤ z) (h1 : z < n) (kk : Ev E own cc nL ret mn Q d kc ks (pc + 1) L st (ah_up h q (arR E t n (updR f z none)))) : Ev E own cc nL ret mn Q d kc ks pc L (.null :: vI z :: .ref q :: st) h := by
  intro p l e s m args below meth c H locs cells slots mc ms A ls hC
  have hC0 := hC
  obtain ⟨hx, hb, hr, hml, hown, hnm, hlk, hts, hK, hG, hA, hH, hS, hl, hc1, hc2⟩ := hC
  obtain ⟨ws, hP, hD, hh⟩ := hH
  obtain ⟨k0, hk0⟩ := (hh q _).mp hq
  have hz : InR z := by unfold InR; omega
  have e1 : va_up (fun j : Nat => f (j : Int)) (iI z).toNatClampNeg none = fun j : Nat => updR f z none (j : Int) := by
    funext j
    unfold va_up updR
    rw [iI_nat h0 hz]
    by_cases hj : j = z.toNat
    · rw [if_pos hj, if_pos (by omega)]
    · rw [if_neg hj, if_neg (by omega)]
  refine va_astqN hx hb hK hP hD hS k0 t hk0 ht (vp_in_iI h0 h1 hn) hd (fun H1 locs1 hP1 hD1 hS1 => ?_)
  rw [e1] at hP1 hD1
  exact kk p l e s m args below meth c H1 locs1 cells slots mc ms A ls (hC0.heap' ⟨_, hP1, hD1, Hold.set (D := E.1) hD hh hk0⟩ hS1)

theorem ev_aastore {q n t v ci : Nat} {r : vw_C} {vs : List Value} {f : Int → Option Nat} {z : Int} (hc : vwCl[ci]? = some r) (ht : (tysA E.2.1)[t]? = some (E.2.1 t, .object r.1)) (hd : decode cc pc = .ok (.aastore, 1)) (hq : h q = some (arR E t n f)) (hv : h v = some (ob ci vs)) (hn : n < 2 ^ 31) (h0 : 0 ≤ z) (h1 : z < n) (kk : Ev E own cc nL ret mn Q d kc ks (pc + 1) L st (ah_up h q (arR E t n (updR f z (some v))))) : Ev E own cc nL ret mn Q d kc ks pc L (.ref v :: vI z :: .ref q :: st) h := by
  intro p l e s m args below meth c H locs cells slots mc ms A ls hC
  have hC0 := hC
  obtain ⟨hx, hb, hr, hml, hown, hnm, hlk, hts, hK, hG, hA, hH, hS, hl, hc1, hc2⟩ := hC
  obtain ⟨ws, hP, hD, hh⟩ := hH
  obtain ⟨k0, hk0⟩ := (hh q _).mp hq
  have hz : InR z := by unfold InR; omega
  have e1 : va_up (fun j : Nat => f (j : Int)) (iI z).toNatClampNeg (some v) = fun j : Nat => updR f z (some v) (j : Int) := by
    funext j
    unfold va_up updR
    rw [iI_nat h0 hz]
    by_cases hj : j = z.toNat
    · rw [if_pos hj, if_pos (by omega)]
    · rw [if_neg hj, if_neg (by omega)]
  obtain ⟨k1, hk1⟩ := (hh v _).mp hv
  refine va_astq hx hb hK hP hD hS k0 t k1 ci hk0 ht hk1 hc (vp_in_iI h0 h1 hn) hd (fun H1 locs1 hP1 hD1 hS1 => ?_)
  rw [e1] at hP1 hD1
  exact kk p l e s m args below meth c H1 locs1 cells slots mc ms A ls (hC0.heap' ⟨_, hP1, hD1, Hold.set (D := E.1) hD hh hk0⟩ hS1)

theorem ev_aastoreO {q n t v ci : Nat} {r : vw_C} {C : String} {vs : List Value} {f : Int → Option Nat} {z : Int} (hc : vwCl[ci]? = some r) (hca : (r.1, C) ∈ glC) (ht : (tysA E.2.1)[t]? = some (E.2.1 t, .object C)) (hd : decode cc pc = .ok (.aastore, 1)) (hq : h q = some (arR E t n f)) (hv : h v = some (ob ci vs)) (hn : n < 2 ^ 31) (h0 : 0 ≤ z) (h1 : z < n) (kk : Ev E own cc nL ret mn Q d kc ks (pc + 1) L st (ah_up h q (arR E t n (updR f z (some v))))) : Ev E own cc nL ret mn Q d kc ks pc L (.ref v :: vI z :: .ref q :: st) h := by
  intro p l e s m args below meth c H locs cells slots mc ms A ls hC
  have hC0 := hC
  obtain ⟨hx, hb, hr, hml, hown, hnm, hlk, hts, hK, hG, hA, hH, hS, hl, hc1, hc2⟩ := hC
  obtain ⟨ws, hP, hD, hh⟩ := hH
  obtain ⟨k0, hk0⟩ := (hh q _).mp hq
  have hz : InR z := by unfold InR; omega
  have e1 : va_up (fun j : Nat => f (j : Int)) (iI z).toNatClampNeg (some v) = fun j : Nat => updR f z (some v) (j : Int) := by
    funext j
    unfold va_up updR
    rw [iI_nat h0 hz]
    by_cases hj : j = z.toNat
    · rw [if_pos hj, if_pos (by omega)]
    · rw [if_neg hj, if_neg (by omega)]
  obtain ⟨k1, hk1⟩ := (hh v _).mp hv
  refine va_astqO hx hb hK hP hD hS k0 t k1 ci hk0 ht (hG.2.1 _ hca) hk1 hc (vp_in_iI h0 h1 hn) hd (fun H1 locs1 hP1 hD1 hS1 => ?_)
  rw [e1] at hP1 hD1
  exact kk p l e s m args below meth c H1 locs1 cells slots mc ms A ls (hC0.heap' ⟨_, hP1, hD1, Hold.set (D := E.1) hD hh hk0⟩ hS1)

theorem ev_alen {q n : Nat} {f : Int → Int} (hd : decode cc pc = .ok (.arraylength, 1)) (hq : h q = some (arI E n f)) (kk : Ev E own cc nL ret mn Q d kc ks (pc + 1) L (vI (n : Int) :: st) h) : Ev E own cc nL ret mn Q d kc ks pc L (.ref q :: st) h := by
  intro p l e s m args below meth c H locs cells slots mc ms A ls hC
  have hC0 := hC
  obtain ⟨hx, hb, hr, hml, hown, hnm, hlk, hts, hK, hG, hA, hH, hS, hl, hc1, hc2⟩ := hC
  obtain ⟨ws, hP, hD, hh⟩ := hH
  obtain ⟨k0, hk0⟩ := (hh q _).mp hq
  exact va_alen hx hb hK hP k0 0 hk0 rfl (v := iI (n : Int)) (Int32.ofInt_eq_ofNat).symm hd (kk p l e s m args below meth c H locs cells slots mc ms A ls hC0)

theorem ev_gets {C n : String} {a idx : Nat} (hlink : Cond.fieldLink own idx C n "[I" ∈ TB) (hd : decode cc pc = .ok (.getstatic idx, 3)) (hz : ∀ A U H, Gl E A U H → va_Z C n "[I" (.ref a) A U H) (kk : Ev E own cc nL ret mn Q d kc ks (pc + 3) L (.ref a :: st) h) : Ev E own cc nL ret mn Q d kc ks pc L st h := by
  intro p l e s m args below meth c H locs cells slots mc ms A ls hC
  have hC0 := hC
  obtain ⟨hx, hb, hr, hml, hown, hnm, hlk, hts, hK, hG, hA, hH, hS, hl, hc1, hc2⟩ := hC
  exact va_gets hx hb (hz _ _ _ hG) hS hown (hts _ hlink) (fun _ h9 => h9) hd (kk p l e s m args below meth c H locs cells slots mc ms A ls hC0)

theorem ev_getsN {C n host : String} {a idx : Nat} (hlink : ∀ A U H, Gl E A U H → va_Nw (.fieldLinkNest own idx C n "[I" host) U) (hd : decode cc pc = .ok (.getstatic idx, 3)) (hz : ∀ A U H, Gl E A U H → va_Z C n "[I" (.ref a) A U H) (kk : Ev E own cc nL ret mn Q d kc ks (pc + 3) L (.ref a :: st) h) : Ev E own cc nL ret mn Q d kc ks pc L st h := by
  intro p l e s m args below meth c H locs cells slots mc ms A ls hC
  have hC0 := hC
  obtain ⟨hx, hb, hr, hml, hown, hnm, hlk, hts, hK, hG, hA, hH, hS, hl, hc1, hc2⟩ := hC
  exact va_getsN hx hb (hz _ _ _ hG) hS hown ((hlink _ _ _ hG).use rfl) (fun _ h9 => h9) hd (kk p l e s m args below meth c H locs cells slots mc ms A ls hC0)

theorem ev_tload {t n : Nat} {f : Int → Int} {z : Int} (hd : decode cc pc = .ok (.iaload, 1)) (hT : ∀ A U H, Gl E A U H → va_T .int t n (fun j => vI (f (j : Int))) A U H) (hn : n < 2 ^ 31) (h0 : 0 ≤ z) (h1 : z < n) (kk : Ev E own cc nL ret mn Q d kc ks (pc + 1) L (vI (f z) :: st) h) : Ev E own cc nL ret mn Q d kc ks pc L (vI z :: .ref t :: st) h := by
  intro p l e s m args below meth c H locs cells slots mc ms A ls hC
  have hC0 := hC
  obtain ⟨hx, hb, hr, hml, hown, hnm, hlk, hts, hK, hG, hA, hH, hS, hl, hc1, hc2⟩ := hC
  have hz : InR z := by unfold InR; omega
  exact va_ti hx hb (hT _ _ _ hG) hS (vp_in_iI h0 h1 hn) (by rw [iI_nat h0 hz, Int.toNat_of_nonneg h0]) hd (kk p l e s m args below meth c H locs cells slots mc ms A ls hC0)

theorem ev_new {ci N idx : Nat} {C : String} {T : u_T} {fs : List Value} (hin : ∀ w ∈ u_ws C T N, w ∈ TB) (ty0 : Nat → FieldType) (hty : ∀ k, k < N → parseFieldDescriptor (T k).2.2.1 = some (ty0 k)) (hcl : Cond.classLink own idx C ∈ TB) (hinst : Cond.instantiable C N ∈ TB) (hini : Cond.initialized C ∈ TB) (hc : vwCl[ci]? = some (C, T, N)) (hfs : ∀ j, j < N → defaultValue (ty0 j) = vp_V fs j) (hd : decode cc pc = .ok (.new idx, 3)) (kk : ∀ q, h q = none → Ev E own cc nL ret mn Q d kc ks (pc + 3) L (.ref q :: st) (ah_up h q (ob ci fs))) : Ev E own cc nL ret mn Q d (kc + 1) (ks + N) pc L st h := by
  intro p l e s m args below meth c H locs cells slots mc ms A ls hC
  have hC0 := hC
  obtain ⟨hx, hb, hr, hml, hown, hnm, hlk, hts, hK, hG, hA, hH, hS, hl, hc1, hc2⟩ := hC
  obtain ⟨ws, hP, hD, hh⟩ := hH
  refine va_new hx hb hts hin ty0 hty hown (hts _ hcl) (hts _ hinst) (hts _ hini) hK hP hD hS hA hc hfs (by show cells + 1 ≤ mc; omega) (by show slots + N ≤ ms; omega) hd (fun q H1 hP1 hD1 hS1 => ?_)
  obtain ⟨e1, e2⟩ := Hold.push (D := E.1) hD1 hh
  exact kk q e1 p l e s m args below meth c H1 locs (cells + 1) (slots + N) mc ms A ls (hC0.grow' rfl rfl ⟨_, hP1, hD1, e2⟩ hS1)

theorem va_K.cls {D : va_G} {cl : List vw_C} {G : Nat → ClassId} {s : State} {cA : ClassId} (hK : va_K D cl (tysA G) s) {tys' : List (ClassId × FieldType)} (hK2 : va_K D cl (tys' ++ [(cA, .int)]) s) : cA = G 0 := by
  have h1 := (hK.2 0 _ rfl).2
  have h2 := (hK2.2 tys'.length (cA, .int) (by simp)).2
  have h3 : s.vm.findClass ("[" ++ FieldType.int.toString) = some (G 0) := h1
  have h4 : s.vm.findClass ("[" ++ FieldType.int.toString) = some cA := h2
  rw [h3] at h4
  cases h4
  rfl
theorem va_K.clsO {D : va_G} {cl : List vw_C} {G : Nat → ClassId} {s : State} {cA : ClassId} {t : Nat} {C : String} (hK : va_K D cl (tysA G) s) (ht : (tysA G)[t]? = some (G t, .object C)) {tys' : List (ClassId × FieldType)} (hK2 : va_K D cl (tys' ++ [(cA, .object C)]) s) : cA = G t := by
  obtain ⟨_, _, _, _, _, h3⟩ := (hK.2 t _ ht).2
  obtain ⟨_, _, _, _, _, h4⟩ := (hK2.2 tys'.length (cA, .object C) (by simp)).2
  rw [h3] at h4
  cases h4
  rfl

theorem ev_newI {n : Nat} (ha : Cond.arrayClass .int ∈ TB) (hn : n < 65536) (hd : decode cc pc = .ok (.newarray .int, 2)) (kk : ∀ q, h q = none → Ev E own cc nL ret mn Q d kc ks (pc + 2) L (.ref q :: st) (ah_up h q (arI E n (fun _ => 0)))) : Ev E own cc nL ret mn Q d (kc + 1) (ks + n) pc L (vI (n : Int) :: st) h := by
  intro p l e s m args below meth c H locs cells slots mc ms A ls hC
  have hC0 := hC
  obtain ⟨hx, hb, hr, hml, hown, hnm, hlk, hts, hK, hG, hA, hH, hS, hl, hc1, hc2⟩ := hC
  obtain ⟨ws, hP, hD, hh⟩ := hH
  have hz : InR (n : Int) := by unfold InR; omega
  have hnn : ¬ iI (n : Int) < 0 := fun z => by have := (iI_lt hz (by decide : InR 0)).mp z; omega
  refine va_newa (atype := .int) (N' := n) (a0 := (n, .inl (fun _ => iI 0))) hx hb (hts _ ha) rfl hK hP hD hS hA (fun cA => rfl) hnn (by rw [iI_nat (by omega) hz]; exact Int.toNat_natCast n) (by have e4 : componentBytes (newarray.typeOf ArrayType.int) = 4 := rfl; rw [e4]; omega) (by show cells + 1 ≤ mc; omega) (by show slots + n ≤ ms; omega) hd (fun q cA H1 hK1 hP1 hD1 hS1 => ?_)
  have e0 := hK.cls hK1
  subst e0
  obtain ⟨e1, e2⟩ := Hold.push (D := E.1) hD1 hh
  exact kk q e1 p l e s m args below meth c H1 locs (cells + 1) (slots + n) mc ms A ls (hC0.grow' rfl rfl ⟨_, hP1, hD1, e2⟩ hS1)

theorem ev_newR {n t idx : Nat} {C : String} (ht : (tysA E.2.1)[t]? = some (E.2.1 t, .object C)) (hcl : Cond.classLink own idx C ∈ TB) (ho : C ∈ glO) (hn : n < 65536) (hd : decode cc pc = .ok (.anewarray idx, 3)) (kk : ∀ q, h q = none → Ev E own cc nL ret mn Q d kc ks (pc + 3) L (.ref q :: st) (ah_up h q (arR E t n (fun _ => none)))) : Ev E own cc nL ret mn Q d (kc + 1) (ks + n) pc L (vI (n : Int) :: st) h := by
  intro p l e s m args below meth c H locs cells slots mc ms A ls hC
  have hC0 := hC
  obtain ⟨hx, hb, hr, hml, hown, hnm, hlk, hts, hK, hG, hA, hH, hS, hl, hc1, hc2⟩ := hC
  obtain ⟨ws, hP, hD, hh⟩ := hH
  have hz : InR (n : Int) := by unfold InR; omega
  have hnn : ¬ iI (n : Int) < 0 := fun z => by have := (iI_lt hz (by decide : InR 0)).mp z; omega
  refine va_newq (N' := n) hx hb hown (hts _ hcl) (hG.2.2.2.1 _ ho) hK hP hD hS hA hnn (by rw [iI_nat (by omega) hz]; exact Int.toNat_natCast n) (by omega) (by show cells + 1 ≤ mc; omega) (by show slots + n ≤ ms; omega) hd (fun q cA H1 hK1 hP1 hD1 hS1 => ?_)
  have e0 := hK.clsO ht hK1
  subst e0
  obtain ⟨e1, e2⟩ := Hold.push (D := E.1) hD1 hh
  exact kk q e1 p l e s m args below meth c H1 locs (cells + 1) (slots + n) mc ms A ls (hC0.grow' rfl rfl ⟨_, hP1, hD1, e2⟩ hS1)

theorem ev_instY {q ci idx : Nat} {r : vw_C} {C : String} {fs : List Value} (hc : vwCl[ci]? = some r) (hca : (r.1, C) ∈ glC) (hcl : Cond.classLink own idx C ∈ TB) (hd : decode cc pc = .ok (.instanceof idx, 3)) (hq : h q = some (ob ci fs)) (kk : Ev E own cc nL ret mn Q d kc ks (pc + 3) L (vI 1 :: st) h) : Ev E own cc nL ret mn Q d kc ks pc L (.ref q :: st) h := by
  intro p l e s m args below meth c H locs cells slots mc ms A ls hC
  have hC0 := hC
  obtain ⟨hx, hb, hr, hml, hown, hnm, hlk, hts, hK, hG, hA, hH, hS, hl, hc1, hc2⟩ := hC
  obtain ⟨ws, hP, hD, hh⟩ := hH
  obtain ⟨k0, hk0⟩ := (hh q _).mp hq
  have hrv := va_recv hK hP hc hk0
  exact va_instY hx hb hown (hts _ hcl) (hG.2.1 _ hca) hrv hd (kk p l e s m args below meth c H locs cells slots mc ms A ls hC0)

theorem ev_instNo {q ci idx : Nat} {r : vw_C} {C : String} {fs : List Value} (hc : vwCl[ci]? = some r) (hca : (r.1, C) ∈ glN) (hcl : Cond.classLink own idx C ∈ TB) (hd : decode cc pc = .ok (.instanceof idx, 3)) (hq : h q = some (ob ci fs)) (kk : Ev E own cc nL ret mn Q d kc ks (pc + 3) L (vI 0 :: st) h) : Ev E own cc nL ret mn Q d kc ks pc L (.ref q :: st) h := by
  intro p l e s m args below meth c H locs cells slots mc ms A ls hC
  have hC0 := hC
  obtain ⟨hx, hb, hr, hml, hown, hnm, hlk, hts, hK, hG, hA, hH, hS, hl, hc1, hc2⟩ := hC
  obtain ⟨ws, hP, hD, hh⟩ := hH
  obtain ⟨k0, hk0⟩ := (hh q _).mp hq
  have hrv := va_recv hK hP hc hk0
  exact va_instNo hx hb hown (hts _ hcl) (hG.2.2.1 _ hca) hrv hd (kk p l e s m args below meth c H locs cells slots mc ms A ls hC0)

theorem ev_castY {q ci idx : Nat} {r : vw_C} {C : String} {fs : List Value} (hc : vwCl[ci]? = some r) (hca : (r.1, C) ∈ glC) (hcl : Cond.classLink own idx C ∈ TB) (hd : decode cc pc = .ok (.checkcast idx, 3)) (hq : h q = some (ob ci fs)) (kk : Ev E own cc nL ret mn Q d kc ks (pc + 3) L (.ref q :: st) h) : Ev E own cc nL ret mn Q d kc ks pc L (.ref q :: st) h := by
  intro p l e s m args below meth c H locs cells slots mc ms A ls hC
  have hC0 := hC
  obtain ⟨hx, hb, hr, hml, hown, hnm, hlk, hts, hK, hG, hA, hH, hS, hl, hc1, hc2⟩ := hC
  obtain ⟨ws, hP, hD, hh⟩ := hH
  obtain ⟨k0, hk0⟩ := (hh q _).mp hq
  have hrv := va_recv hK hP hc hk0
  exact va_castY hx hb hown (hts _ hcl) (hG.2.1 _ hca) hrv hd (kk p l e s m args below meth c H locs cells slots mc ms A ls hC0)

theorem ev_instS {q ci idx : Nat} {r : vw_C} {fs : List Value} (hc : vwCl[ci]? = some r) (hcl : Cond.classLink own idx r.1 ∈ TB) (hd : decode cc pc = .ok (.instanceof idx, 3)) (hq : h q = some (ob ci fs)) (kk : Ev E own cc nL ret mn Q d kc ks (pc + 3) L (vI 1 :: st) h) : Ev E own cc nL ret mn Q d kc ks pc L (.ref q :: st) h := by
  intro p l e s m args below meth c H locs cells slots mc ms A ls hC
  have hC0 := hC
  obtain ⟨hx, hb, hr, hml, hown, hnm, hlk, hts, hK, hG, hA, hH, hS, hl, hc1, hc2⟩ := hC
  obtain ⟨ws, hP, hD, hh⟩ := hH
  obtain ⟨k0, hk0⟩ := (hh q _).mp hq
  have hrv := va_recv hK hP hc hk0
  exact va_instS hx hb hown (hts _ hcl) (hK.1 ci _ hc).2 hrv hd (kk p l e s m args below meth c H locs cells slots mc ms A ls hC0)

theorem ev_castS {q ci idx : Nat} {r : vw_C} {fs : List Value} (hc : vwCl[ci]? = some r) (hcl : Cond.classLink own idx r.1 ∈ TB) (hd : decode cc pc = .ok (.checkcast idx, 3)) (hq : h q = some (ob ci fs)) (kk : Ev E own cc nL ret mn Q d kc ks (pc + 3) L (.ref q :: st) h) : Ev E own cc nL ret mn Q d kc ks pc L (.ref q :: st) h := by
  intro p l e s m args below meth c H locs cells slots mc ms A ls hC
  have hC0 := hC
  obtain ⟨hx, hb, hr, hml, hown, hnm, hlk, hts, hK, hG, hA, hH, hS, hl, hc1, hc2⟩ := hC
  obtain ⟨ws, hP, hD, hh⟩ := hH
  obtain ⟨k0, hk0⟩ := (hh q _).mp hq
  have hrv := va_recv hK hP hc hk0
  exact va_castS hx hb hown (hts _ hcl) (hK.1 ci _ hc).2 hrv hd (kk p l e s m args below meth c H locs cells slots mc ms A ls hC0)

theorem ev_ireturn {z : Int} (hd : decode cc pc = .ok (.ireturn, 1)) (hq : Q (some (vI z)) h) : Ev E own cc nL (some .int) mn Q d kc ks pc L [vI z] h := by
  intro p l e s m args below meth c H locs cells slots mc ms A ls hC
  have hC0 := hC
  obtain ⟨hx, hb, hr, hml, hown, hnm, hlk, hts, hK, hG, hA, hH, hS, hl, hc1, hc2⟩ := hC
  refine W.widen (k := mc) (n := ms) (by omega) (by omega) ?_
  exact W.iret hx hb hr (fun t ht hW => ⟨⟨_, h, rfl, hq, by rw [ht]; exact hH, va_K.moved hW.alike hK⟩, hS.F ht⟩) hS.2.2 hd

theorem ev_lreturn {z : Int} (hd : decode cc pc = .ok (.lreturn, 1)) (hq : Q (some (vL z)) h) : Ev E own cc nL (some .long) mn Q d kc ks pc L [vL z] h := by
  intro p l e s m args below meth c H locs cells slots mc ms A ls hC
  have hC0 := hC
  obtain ⟨hx, hb, hr, hml, hown, hnm, hlk, hts, hK, hG, hA, hH, hS, hl, hc1, hc2⟩ := hC
  refine W.widen (k := mc) (n := ms) (by omega) (by omega) ?_
  exact W.lret hx hb hr (fun t ht hW => ⟨⟨_, h, rfl, hq, by rw [ht]; exact hH, va_K.moved hW.alike hK⟩, hS.F ht⟩) hS.2.2 hd

theorem ev_dreturn {x : UInt64} (hd : decode cc pc = .ok (.dreturn, 1)) (hq : Q (some (.double x)) h) : Ev E own cc nL (some .double) mn Q d kc ks pc L [.double x] h := by
  intro p l e s m args below meth c H locs cells slots mc ms A ls hC
  have hC0 := hC
  obtain ⟨hx, hb, hr, hml, hown, hnm, hlk, hts, hK, hG, hA, hH, hS, hl, hc1, hc2⟩ := hC
  refine W.widen (k := mc) (n := ms) (by omega) (by omega) ?_
  exact W.dret hx hb hr (fun t ht hW => ⟨⟨_, h, rfl, hq, by rw [ht]; exact hH, va_K.moved hW.alike hK⟩, hS.F ht⟩) hS.2.2 hd

theorem ev_return  (hd : decode cc pc = .ok (.return_, 1)) (hq : Q (none) h) : Ev E own cc nL (none) mn Q d kc ks pc L [] h := by
  intro p l e s m args below meth c H locs cells slots mc ms A ls hC
  have hC0 := hC
  obtain ⟨hx, hb, hr, hml, hown, hnm, hlk, hts, hK, hG, hA, hH, hS, hl, hc1, hc2⟩ := hC
  refine W.widen (k := mc) (n := ms) (by omega) (by omega) ?_
  exact W.vret hx hb hr (fun t ht hW => ⟨⟨_, h, rfl, hq, by rw [ht]; exact hH, va_K.moved hW.alike hK⟩, hS.F ht⟩) hS.2.2 hd

theorem ev_zreturn {z : Int} (hz : z = 0 ∨ z = 1) (hd : decode cc pc = .ok (.ireturn, 1)) (hq : Q (some (vI z)) h) : Ev E own cc nL (some .boolean) mn Q d kc ks pc L [vI z] h := by
  intro p l e s m args below meth c H locs cells slots mc ms A ls hC
  have hC0 := hC
  obtain ⟨hx, hb, hr, hml, hown, hnm, hlk, hts, hK, hG, hA, hH, hS, hl, hc1, hc2⟩ := hC
  refine W.widen (k := mc) (n := ms) (by omega) (by omega) ?_
  have hnw : narrow .boolean (.int (iI z)) = .int (iI z) := by rcases hz with rfl | rfl <;> rfl
  exact W.zret hx hb hr hnw (fun t ht hW => ⟨⟨_, h, rfl, hq, by rw [ht]; exact hH, va_K.moved hW.alike hK⟩, hS.F ht⟩) hS.2.2 hd

theorem ev_areturn {v : Value} {rt : FieldType} (hrt : (∃ n, rt = .object n) ∨ ∃ t, rt = .array t) (hv : v = .null ∨ ∃ a, v = .ref a) (hd : decode cc pc = .ok (.areturn, 1)) (hq : Q (some v) h) : Ev E own cc nL (some rt) mn Q d kc ks pc L [v] h := by
  intro p l e s m args below meth c H locs cells slots mc ms A ls hC
  have hC0 := hC
  obtain ⟨hx, hb, hr, hml, hown, hnm, hlk, hts, hK, hG, hA, hH, hS, hl, hc1, hc2⟩ := hC
  refine W.widen (k := mc) (n := ms) (by omega) (by omega) ?_
  exact W.aret hx hb hr hrt hv (fun t ht hW => ⟨⟨_, h, rfl, hq, by rw [ht]; exact hH, va_K.moved hW.alike hK⟩, hS.F ht⟩) hS.2.2 hd

theorem ev_objInit {q idx : Nat} (hlink : Cond.methodLink own idx objectInit ∈ TB) (hinst : Cond.instanceMethod objectInit ∈ TB) (hcode : Cond.code objectInit ⟨#[0xb1]⟩ 1 none ∈ TB) (hd : decode cc pc = .ok (.invokespecial idx, 3)) (h1 : 1 ≤ d) (hst : (st.map fun v => v.category).sum ≤ 8) (kk : Ev E own cc nL ret mn Q d kc ks (pc + 3) L st h) : Ev E own cc nL ret mn Q d kc ks pc L (.ref q :: st) h := by
  intro p l e s m args below meth c H locs cells slots mc ms A ls hC
  have hC0 := hC
  obtain ⟨hx, hb, hr, hml, hown, hnm, hlk, hts, hK, hG, hA, hH, hS, hl, hc1, hc2⟩ := hC
  refine W.objInit (g := F0 m pc ls (.ref q :: st)) hx hb hown (hts _ hlink) (hts _ hinst) (hts _ hcode) rfl (by rw [hml]; exact hl.1) rfl hd h1 (by have := lv_room (m := m) (pc := pc) (ls := ls) (rest := .ref q :: st) hst; show _ ≤ 64 * d; omega) ?_
  exact kk p l e s m args below meth c H locs cells slots mc ms A ls hC0

theorem Cx.pre {E : EV} {own : String} {cc : ByteArray} {nL : Nat} {ret : Option FieldType} {mn : String} {kc ks : Nat} {L : List (Nat × Value)} {h : AH} {p : Program} {s : State} {m : MethodId} {args : Array Value} {meth : Method} {c : Code} {H : Heap} {locs : List Loc} {cells slots mc ms : Nat} {A : Nat → Prop} {ls : Array Slot} (hC : Cx E own cc nL ret mn kc ks L h p s m args meth c H locs cells slots mc ms A ls) (av : List Value) : PreS s H (va_Pc av (fun U => U.heap.size = H.size ∧ va_K E.1 vwCl (tysA E.2.1) U ∧ Gl E (Fr h H.size) U U.heap ∧ Hold E.1 (Fr h H.size) h U.heap)) av := by
  obtain ⟨hx, hb, hr, hml, hown, hnm, hlk, hts, hK, hG, hA, hH, hS, hl, hc1, hc2⟩ := hC
  refine ⟨fun a U g mk q => ?_, fun U hU hW => ?_⟩
  · obtain ⟨q0, q1, qK, qG, qH⟩ := q
    exact ⟨q0, q1, va_K.moved (u := U) (U := U.calling g mk a) (Vm.Alike.refl U.vm) qK, Gl.same (s := U) (U := U.calling g mk a) rfl qG, qH⟩
  · refine ⟨rfl, by rw [hU], va_K.moved hW.alike hK, ?_, ?_⟩
    · rw [hU]
      refine Gl.warm hW (Gl.kept (A := A) (fun a h1 h2 => hS.2.1 a h1 h2) (fun q hq => ?_) hG)
      rcases hq with hq | hq
      · exact (hH.dom hq).1
      · exact hA q (Nat.le_trans hS.1 hq)
    · rw [hU]
      exact hH.weaken (fun q h1 _ => Or.inl h1)
theorem ev_back {E : EV} {own : String} {cc : ByteArray} {nL : Nat} {ret : Option FieldType} {mn : String} {Q Q1 : Option Value → AH → Prop} {d kc ks kc' ks' kc0 ks0 pc : Nat} {L : List (Nat × Value)} {st0 rest : List Value} {h : AH} {p : Program} {l : Launch} {e : Env} {s : State} {m : MethodId} {args a : Array Value} {below : List Frame} {meth : Method} {c : Code} {H : Heap} {locs : List Loc} {cells slots mc ms : Nat} {A : Nat → Prop} {ls : Array Slot} (hC : Cx E own cc nL ret mn kc0 ks0 L h p s m args meth c H locs cells slots mc ms A ls) (h1 : kc + kc' = kc0) (h2 : ks + ks' = ks0)
    (hr : va_Run p l e (rmD d mc ms) s m args below meth c H locs cells slots kc' ks' (F0 m pc ls st0) rest (QC E (Fr h H.size) Q1 a) (Fr h H.size)) (kk : ∀ r h', Q1 r h' → Ev E own cc nL ret mn Q d kc ks (pc + 3) L (r.toList ++ rest) h') : W p l e (rmD d mc ms) s m args below meth c H locs cells slots (MQ below (QC E A Q) args s mc ms A) (F0 m pc ls st0) := by
  have hC0 := hC
  obtain ⟨hx, hb, hr0, hml, hown, hnm, hlk, hts, hK, hG, hA, hH, hS, hl, hc1, hc2⟩ := hC
  have hF : ∀ q, Fr h H.size q → A q := fun q hq => by
    rcases hq with hq | hq
    · exact (hH.dom hq).1
    · exact hA q (Nat.le_trans hS.1 hq)
  intro T hT X
  obtain ⟨v, st₀, t, T', L', h0, X', hL, e1, e2, ⟨⟨r, h', hv, hq, hH', hK'⟩, hz, hk⟩, stp⟩ := hr T hT X
  cases hv
  rw [h0] at hz hk
  obtain ⟨t2, a1, b1⟩ := kk v h' hq p l e s m args below meth c T'.heap (locs ++ L') (cells + kc') (slots + ks') mc ms A ls (hC0.grow' h1 h2 (by rw [e1]; exact hH'.weaken (fun q _ h3 => hF q h3))
    ⟨Nat.le_trans hS.1 (by rw [e1]; exact hz), fun q g1 g2 => by rw [e1, hk q (Nat.lt_of_lt_of_le g1 hS.1) (fun z => g2 (hF q z))]; exact hS.2.1 q g1 g2, fun q hq => by
      rcases List.mem_append.mp hq with g | g
      · exact hS.2.2 q g
      · exact hF _ (hL q g)⟩) T' rfl X'
  exact ⟨t2, stp t2 a1, b1⟩

theorem ev_callS {y : MethodName} {bc : ByteArray} {maxL n idx kc' ks' d' : Nat} {rt : Option FieldType} {Q1 : Option Value → AH → Prop} {As rest : List Value} {st0 : List Value} (hM : CM E y bc maxL rt d' kc' ks' As h Q1) (hcode : Cond.code y bc maxL rt ∈ TB) (hini : Cond.initialized y.cls ∈ TB) (hlink : Cond.methodLink own idx y ∈ TB) (hstc : Cond.static y ∈ TB) (hdec : y.cls ≠ "java/lang/invoke/MethodHandle" ∧ y.cls ≠ "java/lang/invoke/VarHandle" ∧ (parseMethodDescriptor y.desc).map (fun d => d.parameters.length) = some n) (hlen : As.length = n) (hst : st0 = As.reverse ++ rest) (hrm : (rest.map fun v => v.category).sum ≤ 8) (hd1 : d' + 1 ≤ d) (hmx : maxL ≤ 45) (hd : decode cc pc = .ok (.invokestatic idx, 3)) (kk : ∀ r h', Q1 r h' → Ev E own cc nL ret mn Q d kc ks (pc + 3) L (r.toList ++ rest) h') : Ev E own cc nL ret mn Q d (kc + kc') (ks + ks') pc L st0 h := by
  intro p l e s m args below meth c H locs cells slots mc ms A ls hC
  have hC0 := hC
  obtain ⟨hx, hb, hr, hml, hown, hnm, hlk, hts, hK, hG, hA, hH, hS, hl, hc1, hc2⟩ := hC
  exact ev_back hC0 rfl rfl (va_runS (Ts := TB) (As := As) (rest := rest) ⟨hx, hb, hml, hown, hts⟩ (hM l H.size) ⟨callB_of n hts (TB_good hcode) rfl rfl rfl (hts _ hini) (hts _ hlink) hdec ⟨by show d' + 1 ≤ d; exact hd1, by show 8 + (maxL + 11) + 64 * d' ≤ 64 * d; omega⟩, hts _ hstc⟩ (hC0.pre As) rfl hlen hl.1 hst (lv_room hrm) hd ⟨by show cells + kc' ≤ mc; omega, by show slots + ks' ≤ ms; omega⟩) kk

theorem ev_callSN {y : MethodName} {bc : ByteArray} {maxL n idx kc' ks' d' : Nat} {rt : Option FieldType} {Q1 : Option Value → AH → Prop} {As rest : List Value} {st0 : List Value} (hM : CM E y bc maxL rt d' kc' ks' As h Q1) (hcode : Cond.code y bc maxL rt ∈ TB) (hini : Cond.initialized y.cls ∈ TB) (hlink : (own, idx, y) ∈ glM) (hstc : Cond.static y ∈ TB) (hdec : y.cls ≠ "java/lang/invoke/MethodHandle" ∧ y.cls ≠ "java/lang/invoke/VarHandle" ∧ (parseMethodDescriptor y.desc).map (fun d => d.parameters.length) = some n) (hlen : As.length = n) (hst : st0 = As.reverse ++ rest) (hrm : (rest.map fun v => v.category).sum ≤ 8) (hd1 : d' + 1 ≤ d) (hmx : maxL ≤ 45) (hd : decode cc pc = .ok (.invokestatic idx, 3)) (kk : ∀ r h', Q1 r h' → Ev E own cc nL ret mn Q d kc ks (pc + 3) L (r.toList ++ rest) h') : Ev E own cc nL ret mn Q d (kc + kc') (ks + ks') pc L st0 h := by
  intro p l e s m args below meth c H locs cells slots mc ms A ls hC
  have hC0 := hC
  obtain ⟨hx, hb, hr, hml, hown, hnm, hlk, hts, hK, hG, hA, hH, hS, hl, hc1, hc2⟩ := hC
  exact ev_back hC0 rfl rfl (va_runSN (Ts := TB) (As := As) (rest := rest) ⟨hx, hb, hml, hown, hts⟩ (hM l H.size) ⟨va_cnB (own := own) (index := idx) n hts (TB_good hcode) rfl rfl rfl (hG.1.1 (own, idx, y) hlink) (hts _ hini) hdec ⟨by show d' + 1 ≤ d; exact hd1, by show 8 + (maxL + 11) + 64 * d' ≤ 64 * d; omega⟩, hts _ hstc, trivial⟩ (hC0.pre As) rfl hlen hl.1 hst (lv_room hrm) hd ⟨by show cells + kc' ≤ mc; omega, by show slots + ks' ≤ ms; omega⟩) kk

theorem ev_callI {y : MethodName} {bc : ByteArray} {maxL n idx kc' ks' d' : Nat} {Q1 : Option Value → AH → Prop} {b : Nat} {As rest : List Value} {st0 : List Value} (hM : CM E y bc maxL none d' kc' ks' (.ref b :: As) h Q1) (hcode : Cond.code y bc maxL none ∈ TB) (hini : Cond.initialized y.cls ∈ TB) (hlink : Cond.methodLink own idx y ∈ TB) (hinst : Cond.instanceMethod y ∈ TB) (hyn : y.name = "<init>") (hdec : y.cls ≠ "java/lang/invoke/MethodHandle" ∧ y.cls ≠ "java/lang/invoke/VarHandle" ∧ (parseMethodDescriptor y.desc).map (fun d => d.parameters.length) = some n) (hlen : As.length = n) (hst : st0 = As.reverse ++ .ref b :: rest) (hrm : (rest.map fun v => v.category).sum ≤ 8) (hd1 : d' + 1 ≤ d) (hmx : maxL ≤ 45) (hd : decode cc pc = .ok (.invokespecial idx, 3)) (kk : ∀ r h', Q1 r h' → Ev E own cc nL ret mn Q d kc ks (pc + 3) L (r.toList ++ rest) h') : Ev E own cc nL ret mn Q d (kc + kc') (ks + ks') pc L st0 h := by
  intro p l e s m args below meth c H locs cells slots mc ms A ls hC
  have hC0 := hC
  obtain ⟨hx, hb, hr, hml, hown, hnm, hlk, hts, hK, hG, hA, hH, hS, hl, hc1, hc2⟩ := hC
  exact ev_back hC0 rfl rfl (va_runI (Ts := TB) (As := As) (rest := rest) ⟨hx, hb, hml, hown, hts⟩ (hM l H.size) ⟨callB_of n hts (TB_good hcode) rfl rfl rfl (hts _ hini) (hts _ hlink) hdec ⟨by show d' + 1 ≤ d; exact hd1, by show 8 + (maxL + 11) + 64 * d' ≤ 64 * d; omega⟩, hyn, hts _ hinst⟩ (hC0.pre (.ref b :: As)) rfl hlen hl.1 hst (lv_room hrm) hd ⟨by show cells + kc' ≤ mc; omega, by show slots + ks' ≤ ms; omega⟩) kk

theorem ev_callIN {y : MethodName} {bc : ByteArray} {maxL n idx kc' ks' d' : Nat} {Q1 : Option Value → AH → Prop} {b : Nat} {As rest : List Value} {st0 : List Value} (hM : CM E y bc maxL none d' kc' ks' (.ref b :: As) h Q1) (hcode : Cond.code y bc maxL none ∈ TB) (hini : Cond.initialized y.cls ∈ TB) (hlink : (own, idx, y) ∈ glM) (hinst : Cond.instanceMethod y ∈ TB) (hyn : y.name = "<init>") (hdec : y.cls ≠ "java/lang/invoke/MethodHandle" ∧ y.cls ≠ "java/lang/invoke/VarHandle" ∧ (parseMethodDescriptor y.desc).map (fun d => d.parameters.length) = some n) (hlen : As.length = n) (hst : st0 = As.reverse ++ .ref b :: rest) (hrm : (rest.map fun v => v.category).sum ≤ 8) (hd1 : d' + 1 ≤ d) (hmx : maxL ≤ 45) (hd : decode cc pc = .ok (.invokespecial idx, 3)) (kk : ∀ r h', Q1 r h' → Ev E own cc nL ret mn Q d kc ks (pc + 3) L (r.toList ++ rest) h') : Ev E own cc nL ret mn Q d (kc + kc') (ks + ks') pc L st0 h := by
  intro p l e s m args below meth c H locs cells slots mc ms A ls hC
  have hC0 := hC
  obtain ⟨hx, hb, hr, hml, hown, hnm, hlk, hts, hK, hG, hA, hH, hS, hl, hc1, hc2⟩ := hC
  exact ev_back hC0 rfl rfl (va_runIN (Ts := TB) (As := As) (rest := rest) ⟨hx, hb, hml, hown, hts⟩ (hM l H.size) ⟨va_cnB (own := own) (index := idx) n hts (TB_good hcode) rfl rfl rfl (hG.1.1 (own, idx, y) hlink) (hts _ hini) hdec ⟨by show d' + 1 ≤ d; exact hd1, by show 8 + (maxL + 11) + 64 * d' ≤ 64 * d; omega⟩, hyn, hts _ hinst⟩ (hC0.pre (.ref b :: As)) rfl hlen hl.1 hst (lv_room hrm) hd ⟨by show cells + kc' ≤ mc; omega, by show slots + ks' ≤ ms; omega⟩) kk

theorem ev_callV {y : MethodName} {bc : ByteArray} {maxL n idx kc' ks' d' : Nat} {rt : Option FieldType} {Q1 : Option Value → AH → Prop} {b ci : Nat} {r : vw_C} {fs : List Value} {As rest : List Value} {st0 : List Value} (hM : CM E y bc maxL rt d' kc' ks' (.ref b :: As) h Q1) (hc : vwCl[ci]? = some r) (hq : h b = some (ob ci fs)) (hcode : Cond.code y bc maxL rt ∈ TB) (hini : Cond.initialized y.cls ∈ TB) (hlink : Cond.methodLink own idx y ∈ TB) (hinst : Cond.instanceMethod y ∈ TB) (hsel : Cond.selects r.1 y y ∈ TB) (hdec : y.cls ≠ "java/lang/invoke/MethodHandle" ∧ y.cls ≠ "java/lang/invoke/VarHandle" ∧ (parseMethodDescriptor y.desc).map (fun d => d.parameters.length) = some n) (hlen : As.length = n) (hst : st0 = As.reverse ++ .ref b :: rest) (hrm : (rest.map fun v => v.category).sum ≤ 8) (hd1 : d' + 1 ≤ d) (hmx : maxL ≤ 45) (hd : decode cc pc = .ok (.invokevirtual idx, 3)) (kk : ∀ r h', Q1 r h' → Ev E own cc nL ret mn Q d kc ks (pc + 3) L (r.toList ++ rest) h') : Ev E own cc nL ret mn Q d (kc + kc') (ks + ks') pc L st0 h := by
  intro p l e s m args below meth c H locs cells slots mc ms A ls hC
  have hC0 := hC
  obtain ⟨hx, hb, hr, hml, hown, hnm, hlk, hts, hK, hG, hA, hH, hS, hl, hc1, hc2⟩ := hC
  obtain ⟨ws, hP, hD, hh⟩ := hH
  obtain ⟨k0, hk0⟩ := (hh b _).mp hq
  have hrv := va_recv hK hP hc hk0
  have hpre := hC0.pre (.ref b :: As)
  exact ev_back hC0 rfl rfl (va_runV (Ts := TB) (C := r.1) (As := As) (rest := rest) ⟨hx, hb, hml, hown, hts⟩ (hM l H.size) ⟨callB_of n hts (TB_good hcode) rfl rfl rfl (hts _ hini) (hts _ hlink) hdec ⟨by show d' + 1 ≤ d; exact hd1, by show 8 + (maxL + 11) + 64 * d' ≤ 64 * d; omega⟩, hts _ hinst, hts _ hsel⟩ ⟨hpre.1, hrv, hpre.2⟩ rfl hlen hl.1 hst (lv_room hrm) hd ⟨by show cells + kc' ≤ mc; omega, by show slots + ks' ≤ ms; omega⟩) kk

theorem ev_callU {y : MethodName} {bc : ByteArray} {maxL n idx kc' ks' d' : Nat} {rt : Option FieldType} {Q1 : Option Value → AH → Prop} {x : MethodName} {owner : String} {b0 : ByteArray} {m0 : Nat} {r0 : Option FieldType} {b ci : Nat} {r : vw_C} {fs : List Value} {As rest : List Value} {st0 : List Value} (hM : CM E y bc maxL rt d' kc' ks' (.ref b :: As) h Q1) (hc : vwCl[ci]? = some r) (hq : h b = some (ob ci fs)) (hcode : Cond.code y bc maxL rt ∈ TB) (hini : Cond.initialized y.cls ∈ TB) (hlink : Cond.methodLink own idx x ∈ TB) (hsame : Cond.sameMethod x.cls owner x.name x.desc ∈ TB) (hinst : Cond.instanceMethod y ∈ TB) (hsel : Cond.selects r.1 x y ∈ TB) (hdi : Cond.instanceMethod ⟨owner, x.name, x.desc⟩ ∈ TB) (hdc : Cond.code ⟨owner, x.name, x.desc⟩ b0 m0 r0 ∈ TB) (hdec : owner ≠ "java/lang/invoke/MethodHandle" ∧ owner ≠ "java/lang/invoke/VarHandle" ∧ (parseMethodDescriptor x.desc).map (fun d => d.parameters.length) = some n) (hlen : As.length = n) (hst : st0 = As.reverse ++ .ref b :: rest) (hrm : (rest.map fun v => v.category).sum ≤ 8) (hd1 : d' + 1 ≤ d) (hmx : maxL ≤ 45) (hd : decode cc pc = .ok (.invokevirtual idx, 3)) (kk : ∀ r h', Q1 r h' → Ev E own cc nL ret mn Q d kc ks (pc + 3) L (r.toList ++ rest) h') : Ev E own cc nL ret mn Q d (kc + kc') (ks + ks') pc L st0 h := by
  intro p l e s m args below meth c H locs cells slots mc ms A ls hC
  have hC0 := hC
  obtain ⟨hx, hb, hr, hml, hown, hnm, hlk, hts, hK, hG, hA, hH, hS, hl, hc1, hc2⟩ := hC
  obtain ⟨ws, hP, hD, hh⟩ := hH
  obtain ⟨k0, hk0⟩ := (hh b _).mp hq
  have hrv := va_recv hK hP hc hk0
  have hpre := hC0.pre (.ref b :: As)
  have hlen2 : ∀ sig, parseMethodDescriptor x.desc = some sig → n = sig.parameters.length := fun sig hs => by
    have h2 := hdec.2.2
    rw [hs] at h2
    exact (Option.some.inj h2).symm
  have hcu : va_CU (rmD d mc ms) s args own r.1 owner idx x y bc maxL rt (Cond.code y bc maxL rt :: TB) (rmD d' kc' ks') kc' ks' n := ⟨⟨rfl, rfl, by show d' + 1 ≤ d; exact hd1, by show 8 + (maxL + 11) + 64 * d' ≤ 64 * d; omega, pay_in hts (TB_good hcode), List.mem_cons_self⟩, hts _ hcode, hts _ hini, ⟨hdec.1, hdec.2.1⟩, hlen2, hts _ hlink, hts _ hsame, va_Decl.of (hts _ hdi) (hts _ hdc), hts _ hsel, hts _ hinst⟩
  exact ev_back hC0 rfl rfl (va_runU (Ts := TB) (C := r.1) (As := As) (rest := rest) ⟨hx, hb, hml, hown, hts⟩ (hM l H.size) hcu ⟨hpre.1, hrv, hpre.2⟩ rfl hlen hl.1 hst (lv_room hrm) hd ⟨by show cells + kc' ≤ mc; omega, by show slots + ks' ≤ ms; omega⟩) kk

end HEAP
