/-! numbers: every int on the abstract stack is iI of a whole number, every long lI of one -/
def iI (z : Int) : Int32 := Int32.ofInt z
def lI (z : Int) : Int64 := Int64.ofInt z
abbrev vI (z : Int) : Value := .int (iI z)
abbrev vL (z : Int) : Value := .long (lI z)
abbrev InR (z : Int) : Prop := -2147483648 ≤ z ∧ z ≤ 2147483647
abbrev InL (z : Int) : Prop := -9223372036854775808 ≤ z ∧ z ≤ 9223372036854775807
theorem InR.l {z : Int} (h : InR z) : InL z := by unfold InR at h; unfold InL; omega
theorem iI_toInt {z : Int} (h : InR z) : (iI z).toInt = z := by
  unfold InR at h
  exact Int32.toInt_ofInt_of_le (by omega) (by omega)
theorem lI_toInt {z : Int} (h : InL z) : (lI z).toInt = z := by
  unfold InL at h
  exact Int64.toInt_ofInt_of_le (by omega) (by omega)
theorem iI_of (x : Int32) : iI x.toInt = x := Int32.ofInt_toInt x
theorem iI_in (x : Int32) : InR x.toInt := by
  have h1 := Int32.le_toInt x
  have h2 := Int32.toInt_lt x
  unfold InR
  omega
theorem iI_add (a b : Int) : iI a + iI b = iI (a + b) := (Int32.ofInt_add a b).symm
theorem iI_sub (a b : Int) : iI a - iI b = iI (a - b) := (Int32.ofInt_sub a b).symm
theorem iI_mul (a b : Int) : iI a * iI b = iI (a * b) := (Int32.ofInt_mul a b).symm
theorem iI_neg (a : Int) : - iI a = iI (-a) := (Int32.ofInt_neg a).symm
theorem lI_add (a b : Int) : lI a + lI b = lI (a + b) := (Int64.ofInt_add a b).symm
theorem lI_sub (a b : Int) : lI a - lI b = lI (a - b) := (Int64.ofInt_sub a b).symm
theorem lI_mul (a b : Int) : lI a * lI b = lI (a * b) := (Int64.ofInt_mul a b).symm
theorem iI_lt {a b : Int} (ha : InR a) (hb : InR b) : iI a < iI b ↔ a < b := by
  rw [Int32.lt_iff_toInt_lt, iI_toInt ha, iI_toInt hb]
theorem iI_le {a b : Int} (ha : InR a) (hb : InR b) : iI a ≤ iI b ↔ a ≤ b := by
  rw [Int32.le_iff_toInt_le, iI_toInt ha, iI_toInt hb]
theorem iI_eq {a b : Int} (ha : InR a) (hb : InR b) : iI a = iI b ↔ a = b := by
  rw [← Int32.toInt_inj, iI_toInt ha, iI_toInt hb]
theorem lI_lt {a b : Int} (ha : InL a) (hb : InL b) : lI a < lI b ↔ a < b := by
  rw [Int64.lt_iff_toInt_lt, lI_toInt ha, lI_toInt hb]
theorem lI_eq {a b : Int} (ha : InL a) (hb : InL b) : lI a = lI b ↔ a = b := by
  rw [← Int64.toInt_inj, lI_toInt ha, lI_toInt hb]
theorem iI_0 : iI 0 = 0 := rfl
theorem iI_l {a : Int} (ha : InR a) : (iI a).toInt64 = lI a := by
  rw [← Int64.toInt_inj, Int32.toInt_toInt64, iI_toInt ha, lI_toInt ha.l]
theorem lI_i (a : Int) : (lI a).toInt32 = iI a := Int64.toInt32_ofInt
theorem iI_div {a b : Int} (ha : InR a) (hb : InR b) (h : InR (a.tdiv b)) : iI a / iI b = iI (a.tdiv b) := by
  rw [← Int32.toInt_inj, Int32.toInt_div, iI_toInt ha, iI_toInt hb, iI_toInt h]
  unfold InR at h
  exact Int.bmod_eq_of_le (by omega) (by omega)
theorem lI_div {a b : Int} (ha : InL a) (hb : InL b) (h : InL (a.tdiv b)) : lI a / lI b = lI (a.tdiv b) := by
  rw [← Int64.toInt_inj, Int64.toInt_div, lI_toInt ha, lI_toInt hb, lI_toInt h]
  unfold InL at h
  exact Int.bmod_eq_of_le (by omega) (by omega)
theorem vp_in_iI {z : Int} {n : Nat} (h0 : 0 ≤ z) (h1 : z < n) (hn : n < 2 ^ 31) : vp_in (iI z) n := by
  rw [vp_in_iff, iI_toInt (by unfold InR; omega)]
  exact ⟨h0, h1⟩
theorem iI_nat {z : Int} (h0 : 0 ≤ z) (h : InR z) : (iI z).toNatClampNeg = z.toNat := by
  have h2 : (iI z).toNatClampNeg = (iI z).toInt.toNat := rfl
  rw [h2, iI_toInt h]

/-! the abstract heap: what is at an address -/
abbrev AH : Type := Nat → Option va_E
def ah_up (h : AH) (q : Nat) (e : va_E) : AH := fun x => if x = q then some e else h x
def Hold (D : va_G) (A : Nat → Prop) (h : AH) (H : Heap) : Prop := ∃ ws : va_W, va_P D vwCl ws H ∧ va_D A ws ∧ ∀ (q : Nat) (e : va_E), h q = some e ↔ ∃ k : Nat, ws[k]? = some (q, e)
theorem Hold.set {D : va_G} {A : Nat → Prop} {h : AH} {ws : va_W} (hD : va_D A ws) (hh : ∀ (q : Nat) (e : va_E), h q = some e ↔ ∃ k : Nat, ws[k]? = some (q, e)) {k a : Nat} {e0 e1 : va_E} (hk : ws[k]? = some (a, e0)) : ∀ (q : Nat) (e : va_E), ah_up h a e1 q = some e ↔ ∃ j : Nat, (ws.set k (a, e1))[j]? = some (q, e) := by
  have hlt : k < ws.length := (List.getElem?_eq_some_iff.mp hk).1
  intro q e
  unfold ah_up
  constructor
  · intro hq
    split at hq
    · next h1 =>
      subst h1
      cases hq
      exact ⟨k, by simp [List.getElem?_set, hlt]⟩
    · next h1 =>
      obtain ⟨j, hj⟩ := (hh q e).mp hq
      refine ⟨j, ?_⟩
      have hne : ¬ k = j := fun e2 => by
        subst e2
        rw [hk] at hj
        cases hj
        exact h1 rfl
      simp [List.getElem?_set, hne, hj]
  · intro ⟨j, hj⟩
    by_cases hjk : k = j
    · subst hjk
      simp [List.getElem?_set, hlt] at hj
      simp [hj.1.symm, hj.2]
    · have hj2 : ws[j]? = some (q, e) := by simpa [List.getElem?_set, hjk] using hj
      have hne : ¬ q = a := fun e2 => hjk (hD.1 k j _ _ hk hj2 e2.symm)
      rw [if_neg hne]
      exact (hh q e).mpr ⟨j, hj2⟩
theorem Hold.push {D : va_G} {A : Nat → Prop} {h : AH} {ws : va_W} {a : Nat} {e1 : va_E} (hD : va_D A (ws ++ [(a, e1)])) (hh : ∀ (q : Nat) (e : va_E), h q = some e ↔ ∃ k : Nat, ws[k]? = some (q, e)) : h a = none ∧ ∀ (q : Nat) (e : va_E), ah_up h a e1 q = some e ↔ ∃ j : Nat, (ws ++ [(a, e1)])[j]? = some (q, e) := by
  have hlast : (ws ++ [(a, e1)])[ws.length]? = some (a, e1) := by simp
  have key : ∀ (e : va_E) (k : Nat), ¬ ws[k]? = some (a, e) := fun e k hk => by
    have hlt : k < ws.length := (List.getElem?_eq_some_iff.mp hk).1
    have h2 : (ws ++ [(a, e1)])[k]? = some (a, e) := by rw [List.getElem?_append_left hlt]; exact hk
    have := hD.1 k ws.length _ _ h2 hlast rfl
    omega
  refine ⟨?_, fun q e => ?_⟩
  · cases hq : h a with
    | none => rfl
    | some e =>
      obtain ⟨k, hk⟩ := (hh a e).mp hq
      exact absurd hk (key e k)
  · unfold ah_up
    constructor
    · intro hq
      split at hq
      · next h1 =>
        subst h1
        cases hq
        exact ⟨ws.length, hlast⟩
      · obtain ⟨j, hj⟩ := (hh q e).mp hq
        exact ⟨j, by rw [List.getElem?_append_left (List.getElem?_eq_some_iff.mp hj).1]; exact hj⟩
    · intro ⟨j, hj⟩
      by_cases hl : j < ws.length
      · rw [List.getElem?_append_left hl] at hj
        have hne : ¬ q = a := fun e2 => key e j (e2 ▸ hj)
        rw [if_neg hne]
        exact (hh q e).mpr ⟨j, hj⟩
      · rw [List.getElem?_append_right (by omega)] at hj
        have hz : j - ws.length < 1 := (List.getElem?_eq_some_iff.mp hj).1
        rw [show j - ws.length = 0 by omega] at hj
        cases hj
        rw [if_pos rfl]
theorem Hold.weaken {D : va_G} {A B : Nat → Prop} {h : AH} {H : Heap} (x : Hold D A h H) (hAB : ∀ q, h q ≠ none → A q → B q) : Hold D B h H := by
  obtain ⟨ws, hP, hD, hh⟩ := x
  exact ⟨ws, hP, hD.weaken (fun k q hk ha => hAB q.1 (by rw [(hh q.1 q.2).mpr ⟨k, hk⟩]; exact fun z => by cases z) ha), hh⟩
theorem Hold.dom {D : va_G} {A : Nat → Prop} {h : AH} {H : Heap} (x : Hold D A h H) {q : Nat} (hq : h q ≠ none) : A q ∧ q < H.size := by
  obtain ⟨ws, hP, hD, hh⟩ := x
  cases he : h q with
  | none => exact absurd he hq
  | some e =>
    obtain ⟨k, hk⟩ := (hh q e).mp he
    exact ⟨hD.2 k _ hk, (hP k _ hk).lt⟩
/-- which cells a method that owns h may change -/
def Fr (h : AH) (sz : Nat) : Nat → Prop := fun q => h q ≠ none ∨ sz ≤ q
/-! what stands in every state: nest mates' links, castable pairs, arrays' classes, the two static rows -/
def tysA (G : Nat → ClassId) : List (ClassId × FieldType) := [(G 0, .int), (G 1, .object RX7), (G 2, .object RX3), (G 3, .object RX8), (G 4, .object RX5), (G 5, .object RX2), (G 6, .object RX0)]
def glO : List String := [RX7, RX3, RX8, RX5, RX2, RX0]
def glM : List (String × Nat × MethodName) := [(RX9, 48, yX1_init), (RX6, 39, yX2_init), (RX0, 13, yX9_sine), (RX0, 22, yX9_cosine)]
abbrev glF : Cond := .fieldLinkNest RX1 65 RX9 "TANGENTS" "[I" RX9
def glC : List (String × String) := [(RX0, RX3), (RX4, RX3), (RX4, RX0)]
def glN : List (String × String) := [(RX3, RX0), (RX3, RX4), (RX0, RX4)]
def tabS (z : Int) : Int := ([0, 17, 35, 52, 70, 87, 105, 122, 139, 156, 174, 191, 208, 225, 242, 259, 276, 292, 309, 326, 342, 358, 375, 391, 407, 423, 438, 454, 469, 485, 500, 515, 530, 545, 559, 574, 588, 602, 616, 629, 643, 656, 669, 682, 695, 707, 719, 731, 743, 755, 766, 777, 788, 799, 809, 819, 829, 839, 848, 857, 866, 875, 883, 891, 899, 906, 914, 921, 927, 934, 940, 946, 951, 956, 961, 966, 970, 974, 978, 982, 985, 988, 990, 993, 995, 996, 998, 999, 999, 1000, 1000] : List Int).getD z.toNat 0
def tabT (z : Int) : Int := ([0, 17, 35, 52, 70, 87, 105, 123, 141, 158, 176, 194, 213, 231, 249, 268, 287, 306, 325, 344, 364, 384, 404, 424, 445, 466, 488, 510, 532, 554, 577, 601, 625, 649, 675, 700, 727, 754, 781, 810, 839, 869, 900, 933, 966, 1000, 1036, 1072, 1111, 1150, 1192, 1235, 1280, 1327, 1376, 1428, 1483, 1540, 1600, 1664, 1732, 1804, 1881, 1963, 2050, 2145, 2246, 2356, 2475, 2605, 2747, 2904, 3078, 3271, 3487, 3732, 4011, 4331, 4705, 5145, 5671, 6314, 7115, 8144, 9514, 11430, 14301, 19081, 28636, 57290] : List Int).getD z.toNat 0
abbrev EV : Type := va_G × (Nat → ClassId) × Nat × Nat
def Gl (E : EV) (A : Nat → Prop) (U : State) (H : Heap) : Prop :=
  ((∀ w ∈ glM, va_Nw (.methodLinkNest w.1 w.2.1 w.2.2 RX9) U) ∧ va_Nw glF U) ∧ (∀ w ∈ glC, va_Nw (.castable w.1 w.2) U) ∧ (∀ w ∈ glN, va_Nc w.1 w.2 U) ∧ (∀ w ∈ glO, va_AO w U) ∧
  va_Z RX9 "SINES" "[I" (.ref E.2.2.1) A U H ∧ va_T .int E.2.2.1 91 (fun j => vI (tabS (j : Int))) A U H ∧ va_Z RX9 "TANGENTS" "[I" (.ref E.2.2.2) A U H ∧ va_T .int E.2.2.2 90 (fun j => vI (tabT (j : Int))) A U H
theorem Gl.warm {E : EV} {A : Nat → Prop} {s U : State} {H : Heap} (hW : s.WarmedH U.vm) (h : Gl E A s H) : Gl E A U H := by
  obtain ⟨h1, h2, h3, h4, h5, h6, h7, h8⟩ := h
  exact ⟨⟨fun w hw => va_Nw.warmM hW (h1.1 w hw), va_Nw.warmF hW h1.2⟩, fun w hw => va_Nw.warmC hW (h2 w hw), fun w hw => (h3 w hw).moved hW.alike, fun w hw => va_AO.moved hW.alike (h4 w hw), h5.moved hW.alike, h6.moved hW.alike, h7.moved hW.alike, h8.moved hW.alike⟩
theorem Gl.same {E : EV} {A : Nat → Prop} {s U : State} {H : Heap} (hv : s.vm = U.vm) (h : Gl E A s H) : Gl E A U H := by
  obtain ⟨h1, h2, h3, h4, h5, h6, h7, h8⟩ := h
  have ha : s.vm.Alike U.vm := hv ▸ Vm.Alike.refl s.vm
  exact ⟨⟨fun w hw => va_Nw.same rfl hv (h1.1 w hw), va_Nw.same rfl hv h1.2⟩, fun w hw => va_Nw.same rfl hv (h2 w hw), fun w hw => (h3 w hw).moved ha, fun w hw => va_AO.moved ha (h4 w hw), h5.moved ha, h6.moved ha, h7.moved ha, h8.moved ha⟩
theorem Gl.kept {E : EV} {A B : Nat → Prop} {U : State} {H H1 : Heap} (hq : ∀ a : Nat, a < H.size → ¬ A a → H1[a]? = H[a]?) (hAB : ∀ q, B q → A q) (h : Gl E A U H) : Gl E B U H1 := by
  obtain ⟨h1, h2, h3, h4, h5, h6, h7, h8⟩ := h
  exact ⟨h1, h2, h3, h4, (h5.kept hq).narrow hAB, (h6.kept hq).narrow hAB, (h7.kept hq).narrow hAB, (h8.kept hq).narrow hAB⟩
/-! a method's end: the answer r, the heap h' -/
def QC (E : EV) (A : Nat → Prop) (Q : Option Value → AH → Prop) : Array Value → State → Outcome → State → Prop := fun _ st o t =>
  (∃ (r : Option Value) (h' : AH), o = .returned r ∧ Q r h' ∧ Hold E.1 A h' t.heap ∧ va_K E.1 vwCl (tysA E.2.1) t) ∧ va_F A st t
def rmD (d mc ms : Nat) : Room := { frames := d, cells := mc, slots := ms, locals := 64 * d }
/-- what is known within a method of class own, code cc, at the heap h -/
def Cx (E : EV) (own : String) (cc : ByteArray) (nL : Nat) (ret : Option FieldType) (mn : String) (kc ks : Nat) (L : List (Nat × Value)) (h : AH) (p : Program) (s : State) (m : MethodId) (args : Array Value) (meth : Method) (c : Code) (H : Heap) (locs : List Loc) (cells slots mc ms : Nat) (A : Nat → Prop) (ls : Array Slot) : Prop :=
  p.tables.exec = Jvm.exec ∧ c.code = cc ∧ meth.sig.returnType = ret ∧ c.maxLocals = nL ∧ s.vm.findClass own = some m.cls ∧ meth.name = mn ∧ meth.locks = false ∧ (∀ w ∈ TB, w.before args s = true) ∧ va_K E.1 vwCl (tysA E.2.1) s ∧ Gl E A s s.heap ∧ (∀ q : Nat, s.heap.size ≤ q → A q) ∧ Hold E.1 A h H ∧ va_S A s.heap H locs ∧ lv_has ls nL L ∧ cells + kc ≤ mc ∧ slots + ks ≤ ms
/-- from pc with locals L, stack st, heap h the method comes to its end with Q; kc cells and ks slots may yet be made, d frames opened -/
def Ev (E : EV) (own : String) (cc : ByteArray) (nL : Nat) (ret : Option FieldType) (mn : String) (Q : Option Value → AH → Prop) (d kc ks : Nat) (pc : Nat) (L : List (Nat × Value)) (st : List Value) (h : AH) : Prop :=
  ∀ (p : Program) (l : Launch) (e : Env) (s : State) (m : MethodId) (args : Array Value) (below : List Frame) (meth : Method) (c : Code) (H : Heap) (locs : List Loc) (cells slots mc ms : Nat) (A : Nat → Prop) (ls : Array Slot),
    Cx E own cc nL ret mn kc ks L h p s m args meth c H locs cells slots mc ms A ls → W p l e (rmD d mc ms) s m args below meth c H locs cells slots (MQ below (QC E A Q) args s mc ms A) (F0 m pc ls st)
/-- a method's contract -/
def CM (E : EV) (y : MethodName) (cc : ByteArray) (nL : Nat) (ret : Option FieldType) (d kc ks : Nat) (av : List Value) (h : AH) (Q : Option Value → AH → Prop) : Prop :=
  ∀ (l : Launch) (sz : Nat), Met l y (Cond.code y cc nL ret :: TB) (rmD d kc ks) (va_Pc av (fun U => U.heap.size = sz ∧ va_K E.1 vwCl (tysA E.2.1) U ∧ Gl E (Fr h sz) U U.heap ∧ Hold E.1 (Fr h sz) h U.heap)) (QC E (Fr h sz) Q) kc ks (Fr h sz)
theorem CM.of {E : EV} {y : MethodName} {cc : ByteArray} {nL : Nat} {ret : Option FieldType} {d kc ks : Nat} {av : List Value} {h : AH} {Q : Option Value → AH → Prop} (hy : plainName y.cls = true) (hn : (lg_sl av).length ≤ nL) {L : List (Nat × Value)} (hL : lv_args 0 av = L)
    (k : Ev E y.cls cc nL ret y.name Q d kc ks 0 L [] h) : CM E y cc nL ret d kc ks av h Q := by
  intro l sz
  refine Met.ofW (cc := cc) (maxL := nL) (ret := ret) hy rfl ?_
  intro p e s m args below meth c s₁ B hml hv
  obtain ⟨rfl, hsz, hK, hG, hH⟩ := hv
  subst hsz
  subst hL
  have hl := lv_entry av (n := nL) hn
  rw [lg_entry_eq]
  generalize (lg_sl av ++ List.replicate (nL - (lg_sl av).length) Slot.unset).toArray = ls at hl ⊢
  exact k p l e s m _ below meth c s.heap [] 0 0 kc ks (Fr h s.heap.size) ls ⟨B.exec, B.bytes, B.returns, hml, findClass_of_methodNamed B.named, (name_of_methodNamed B.named B.method).1, B.notSynchronized, fun w hw => atoms_spec (ws := Cond.code y cc nL ret :: TB) B.pre w (List.mem_cons_of_mem _ hw), hK, hG, fun q hq => Or.inr hq, hH, va_S.rf, hl, by omega, by omega⟩
