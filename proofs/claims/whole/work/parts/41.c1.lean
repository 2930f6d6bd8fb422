theorem cgR_X3_7 {E : EV} {cc : ByteArray} {nL : Nat} {ret : Option FieldType} {mn : String} {Q : Option Value → AH → Prop} {d kc ks pc : Nat} {L : List (Nat × Value)} {st : List Value} {h : AH} {A : AD} {S : MS} {i v : Int} (hC : CR E A S h) (hI : Inv S) (hi : SG S i) (hv : S 9 i = v) (hd : decode cc pc = .ok (.getfield 7, 3)) (kk : Ev E RX3 cc nL ret mn Q d kc ks (pc + 3) L (.ref (A 20 v) :: st) h) : Ev E RX3 cc nL ret mn Q d kc ks pc L (.ref (A 21 i) :: st) h := by
  subst hv
  exact cg_X3_7 hC hI hi hd kk
theorem cgR_X1_13 {E : EV} {cc : ByteArray} {nL : Nat} {ret : Option FieldType} {mn : String} {Q : Option Value → AH → Prop} {d kc ks pc : Nat} {L : List (Nat × Value)} {st : List Value} {h : AH} {A : AD} {S : MS} {i v : Int} (hC : CR E A S h) (hI : Inv S) (hi : SG S i) (h8 : S 8 i ≠ 0) (hv : S 9 i = v) (hd : decode cc pc = .ok (.getfield 13, 3)) (kk : Ev E RX1 cc nL ret mn Q d kc ks (pc + 3) L (.ref (A 20 v) :: st) h) : Ev E RX1 cc nL ret mn Q d kc ks pc L (.ref (A 21 i) :: st) h := by
  subst hv
  exact cg_X1_13 hC hI hi h8 hd kk
theorem cgR_X9_123 {E : EV} {cc : ByteArray} {nL : Nat} {ret : Option FieldType} {mn : String} {Q : Option Value → AH → Prop} {d kc ks pc : Nat} {L : List (Nat × Value)} {st : List Value} {h : AH} {A : AD} {S : MS} {i v : Int} (hC : CR E A S h) (hI : Inv S) (hi : SG S i) (hv : S 9 i = v) (hd : decode cc pc = .ok (.getfield 123, 3)) (kk : Ev E RX9 cc nL ret mn Q d kc ks (pc + 3) L (.ref (A 20 v) :: st) h) : Ev E RX9 cc nL ret mn Q d kc ks pc L (.ref (A 21 i) :: st) h := by
  subst hv
  exact cg_X9_123 hC hI hi hd kk
theorem cgR_X8_7 {E : EV} {cc : ByteArray} {nL : Nat} {ret : Option FieldType} {mn : String} {Q : Option Value → AH → Prop} {d kc ks pc : Nat} {L : List (Nat × Value)} {st : List Value} {h : AH} {A : AD} {S : MS} {i v : Int} (hC : CR E A S h) (hi : 0 ≤ i ∧ i < S 34 0) (hv : S 35 i = v) (hd : decode cc pc = .ok (.getfield 7, 3)) (kk : Ev E RX8 cc nL ret mn Q d kc ks (pc + 3) L (.ref (A 20 v) :: st) h) : Ev E RX8 cc nL ret mn Q d kc ks pc L (.ref (A 22 i) :: st) h := by
  subst hv
  exact cg_X8_7 hC hi hd kk
theorem cgR_X9_232 {E : EV} {cc : ByteArray} {nL : Nat} {ret : Option FieldType} {mn : String} {Q : Option Value → AH → Prop} {d kc ks pc : Nat} {L : List (Nat × Value)} {st : List Value} {h : AH} {A : AD} {S : MS} {i v : Int} (hC : CR E A S h) (hi : 0 ≤ i ∧ i < S 34 0) (hv : S 35 i = v) (hd : decode cc pc = .ok (.getfield 232, 3)) (kk : Ev E RX9 cc nL ret mn Q d kc ks (pc + 3) L (.ref (A 20 v) :: st) h) : Ev E RX9 cc nL ret mn Q d kc ks pc L (.ref (A 22 i) :: st) h := by
  subst hv
  exact cg_X9_232 hC hi hd kk
theorem cv_X9_142 {E : EV} {cc : ByteArray} {nL : Nat} {ret : Option FieldType} {mn : String} {Q : Option Value → AH → Prop} {d kc ks pc : Nat} {L : List (Nat × Value)} {h : AH} {A : AD} {S : MS} {i : Int} (hC : CR E A S h) (hI : Inv S) (hi : SG S i) {kc' ks' d' : Nat} {Q1 : Option Value → AH → Prop} {As rest st0 : List Value} (hM : CM E yX3_earliest cX3_earliest 1 (some .int) d' kc' ks' (.ref (A 21 i) :: As) h Q1) (hlen : As.length = 0) (hst : st0 = As.reverse ++ .ref (A 21 i) :: rest) (hrm : (rest.map fun v => v.category).sum ≤ 8) (hd1 : d' + 1 ≤ d) (hd : decode cc pc = .ok (.invokevirtual 142, 3)) (kk : ∀ r h', Q1 r h' → Ev E RX9 cc nL ret mn Q d kc ks (pc + 3) L (r.toList ++ rest) h') : Ev E RX9 cc nL ret mn Q d (kc + kc') (ks + ks') pc L st0 h := by
  rcases kinds hI hi with e | e | e
  · exact c_X9_142_3 hM (hC.s3 hi e) hlen hst hrm hd1 hd kk
  · exact c_X9_142_0 hM (hC.s0 hi e) hlen hst hrm hd1 hd kk
  · exact c_X9_142_4 hM (hC.s4 hi e) hlen hst hrm hd1 hd kk
theorem cv_X9_145 {E : EV} {cc : ByteArray} {nL : Nat} {ret : Option FieldType} {mn : String} {Q : Option Value → AH → Prop} {d kc ks pc : Nat} {L : List (Nat × Value)} {h : AH} {A : AD} {S : MS} {i : Int} (hC : CR E A S h) (hI : Inv S) (hi : SG S i) {kc' ks' d' : Nat} {Q1 : Option Value → AH → Prop} {As rest st0 : List Value} (hM : CM E yX3_latest cX3_latest 1 (some .int) d' kc' ks' (.ref (A 21 i) :: As) h Q1) (hlen : As.length = 0) (hst : st0 = As.reverse ++ .ref (A 21 i) :: rest) (hrm : (rest.map fun v => v.category).sum ≤ 8) (hd1 : d' + 1 ≤ d) (hd : decode cc pc = .ok (.invokevirtual 145, 3)) (kk : ∀ r h', Q1 r h' → Ev E RX9 cc nL ret mn Q d kc ks (pc + 3) L (r.toList ++ rest) h') : Ev E RX9 cc nL ret mn Q d (kc + kc') (ks + ks') pc L st0 h := by
  rcases kinds hI hi with e | e | e
  · exact c_X9_145_3 hM (hC.s3 hi e) hlen hst hrm hd1 hd kk
  · exact c_X9_145_0 hM (hC.s0 hi e) hlen hst hrm hd1 hd kk
  · exact c_X9_145_4 hM (hC.s4 hi e) hlen hst hrm hd1 hd kk
theorem cv_X9_169 {E : EV} {cc : ByteArray} {nL : Nat} {ret : Option FieldType} {mn : String} {Q : Option Value → AH → Prop} {d kc ks pc : Nat} {L : List (Nat × Value)} {h : AH} {A : AD} {S : MS} {i : Int} (hC : CR E A S h) (hI : Inv S) (hi : SG S i) (h8 : S 8 i ≠ 0) {kc' ks' d' : Nat} {Q1 : Option Value → AH → Prop} {As rest st0 : List Value} (hM : CM E yX0_mayBeAtOnceWith cX0_mayBeAtOnceWith 2 (some .boolean) d' kc' ks' (.ref (A 21 i) :: As) h Q1) (hlen : As.length = 1) (hst : st0 = As.reverse ++ .ref (A 21 i) :: rest) (hrm : (rest.map fun v => v.category).sum ≤ 8) (hd1 : d' + 1 ≤ d) (hd : decode cc pc = .ok (.invokevirtual 169, 3)) (kk : ∀ r h', Q1 r h' → Ev E RX9 cc nL ret mn Q d kc ks (pc + 3) L (r.toList ++ rest) h') : Ev E RX9 cc nL ret mn Q d (kc + kc') (ks + ks') pc L st0 h := by
  rcases kinds hI hi with e | e | e
  · exact absurd e h8
  · exact c_X9_169_0 hM (hC.s0 hi e) hlen hst hrm hd1 hd kk
  · exact c_X9_169_4 hM (hC.s4 hi e) hlen hst hrm hd1 hd kk
theorem cv_X0_31 {E : EV} {cc : ByteArray} {nL : Nat} {ret : Option FieldType} {mn : String} {Q : Option Value → AH → Prop} {d kc ks pc : Nat} {L : List (Nat × Value)} {h : AH} {A : AD} {S : MS} {i : Int} (hC : CR E A S h) (hI : Inv S) (hi : SG S i) (h8 : S 8 i ≠ 0) {kc' ks' d' : Nat} {Q1 : Option Value → AH → Prop} {As rest st0 : List Value} (hM : CM E yX3_earliest cX3_earliest 1 (some .int) d' kc' ks' (.ref (A 21 i) :: As) h Q1) (hlen : As.length = 0) (hst : st0 = As.reverse ++ .ref (A 21 i) :: rest) (hrm : (rest.map fun v => v.category).sum ≤ 8) (hd1 : d' + 1 ≤ d) (hd : decode cc pc = .ok (.invokevirtual 31, 3)) (kk : ∀ r h', Q1 r h' → Ev E RX0 cc nL ret mn Q d kc ks (pc + 3) L (r.toList ++ rest) h') : Ev E RX0 cc nL ret mn Q d (kc + kc') (ks + ks') pc L st0 h := by
  rcases kinds hI hi with e | e | e
  · exact absurd e h8
  · exact c_X0_31_0 hM (hC.s0 hi e) hlen hst hrm hd1 hd kk
  · exact c_X0_31_4 hM (hC.s4 hi e) hlen hst hrm hd1 hd kk
theorem cv_X0_35 {E : EV} {cc : ByteArray} {nL : Nat} {ret : Option FieldType} {mn : String} {Q : Option Value → AH → Prop} {d kc ks pc : Nat} {L : List (Nat × Value)} {h : AH} {A : AD} {S : MS} {i : Int} (hC : CR E A S h) (hI : Inv S) (hi : SG S i) (h8 : S 8 i ≠ 0) {kc' ks' d' : Nat} {Q1 : Option Value → AH → Prop} {As rest st0 : List Value} (hM : CM E yX3_latest cX3_latest 1 (some .int) d' kc' ks' (.ref (A 21 i) :: As) h Q1) (hlen : As.length = 0) (hst : st0 = As.reverse ++ .ref (A 21 i) :: rest) (hrm : (rest.map fun v => v.category).sum ≤ 8) (hd1 : d' + 1 ≤ d) (hd : decode cc pc = .ok (.invokevirtual 35, 3)) (kk : ∀ r h', Q1 r h' → Ev E RX0 cc nL ret mn Q d kc ks (pc + 3) L (r.toList ++ rest) h') : Ev E RX0 cc nL ret mn Q d (kc + kc') (ks + ks') pc L st0 h := by
  rcases kinds hI hi with e | e | e
  · exact absurd e h8
  · exact c_X0_35_0 hM (hC.s0 hi e) hlen hst hrm hd1 hd kk
  · exact c_X0_35_4 hM (hC.s4 hi e) hlen hst hrm hd1 hd kk
theorem cv_X6_77 {E : EV} {cc : ByteArray} {nL : Nat} {ret : Option FieldType} {mn : String} {Q : Option Value → AH → Prop} {d kc ks pc : Nat} {L : List (Nat × Value)} {h : AH} {A : AD} {S : MS} {i : Int} (hC : CR E A S h) (hI : Inv S) (hi : SG S i) (h8 : S 8 i ≠ 0) {kc' ks' d' : Nat} {Q1 : Option Value → AH → Prop} {As rest st0 : List Value} (hM : CM E yX0_mayBeAtOnceWith cX0_mayBeAtOnceWith 2 (some .boolean) d' kc' ks' (.ref (A 21 i) :: As) h Q1) (hlen : As.length = 1) (hst : st0 = As.reverse ++ .ref (A 21 i) :: rest) (hrm : (rest.map fun v => v.category).sum ≤ 8) (hd1 : d' + 1 ≤ d) (hd : decode cc pc = .ok (.invokevirtual 77, 3)) (kk : ∀ r h', Q1 r h' → Ev E RX6 cc nL ret mn Q d kc ks (pc + 3) L (r.toList ++ rest) h') : Ev E RX6 cc nL ret mn Q d (kc + kc') (ks + ks') pc L st0 h := by
  rcases kinds hI hi with e | e | e
  · exact absurd e h8
  · exact c_X6_77_0 hM (hC.s0 hi e) hlen hst hrm hd1 hd kk
  · exact c_X6_77_4 hM (hC.s4 hi e) hlen hst hrm hd1 hd kk
theorem cv_X2_33 {E : EV} {cc : ByteArray} {nL : Nat} {ret : Option FieldType} {mn : String} {Q : Option Value → AH → Prop} {d kc ks pc : Nat} {L : List (Nat × Value)} {h : AH} {A : AD} {S : MS} {i : Int} (hC : CR E A S h) (hI : Inv S) (hi : SG S i) (h8 : S 8 i ≠ 0) {kc' ks' d' : Nat} {Q1 : Option Value → AH → Prop} {As rest st0 : List Value} (hM : CM E yX3_earliest cX3_earliest 1 (some .int) d' kc' ks' (.ref (A 21 i) :: As) h Q1) (hlen : As.length = 0) (hst : st0 = As.reverse ++ .ref (A 21 i) :: rest) (hrm : (rest.map fun v => v.category).sum ≤ 8) (hd1 : d' + 1 ≤ d) (hd : decode cc pc = .ok (.invokevirtual 33, 3)) (kk : ∀ r h', Q1 r h' → Ev E RX2 cc nL ret mn Q d kc ks (pc + 3) L (r.toList ++ rest) h') : Ev E RX2 cc nL ret mn Q d (kc + kc') (ks + ks') pc L st0 h := by
  rcases kinds hI hi with e | e | e
  · exact absurd e h8
  · exact c_X2_33_0 hM (hC.s0 hi e) hlen hst hrm hd1 hd kk
  · exact c_X2_33_4 hM (hC.s4 hi e) hlen hst hrm hd1 hd kk
theorem cv_X2_48 {E : EV} {cc : ByteArray} {nL : Nat} {ret : Option FieldType} {mn : String} {Q : Option Value → AH → Prop} {d kc ks pc : Nat} {L : List (Nat × Value)} {h : AH} {A : AD} {S : MS} {i : Int} (hC : CR E A S h) (hI : Inv S) (hi : SG S i) (h8 : S 8 i ≠ 0) {kc' ks' d' : Nat} {Q1 : Option Value → AH → Prop} {As rest st0 : List Value} (hM : CM E yX3_latest cX3_latest 1 (some .int) d' kc' ks' (.ref (A 21 i) :: As) h Q1) (hlen : As.length = 0) (hst : st0 = As.reverse ++ .ref (A 21 i) :: rest) (hrm : (rest.map fun v => v.category).sum ≤ 8) (hd1 : d' + 1 ≤ d) (hd : decode cc pc = .ok (.invokevirtual 48, 3)) (kk : ∀ r h', Q1 r h' → Ev E RX2 cc nL ret mn Q d kc ks (pc + 3) L (r.toList ++ rest) h') : Ev E RX2 cc nL ret mn Q d (kc + kc') (ks + ks') pc L st0 h := by
  rcases kinds hI hi with e | e | e
  · exact absurd e h8
  · exact c_X2_48_0 hM (hC.s0 hi e) hlen hst hrm hd1 hd kk
  · exact c_X2_48_4 hM (hC.s4 hi e) hlen hst hrm hd1 hd kk
abbrev scc : List Nat := [50, 51, 52, 53, 54, 55, 56, 57, 58, 59, 60, 61, 62, 63, 64, 65, 66, 67, 68, 69, 70, 71]
theorem Inv.xc {S S' : MS} (hI : Inv S) (hx : eqx scc S S') : Inv S' := by
  unfold Inv at hI ⊢
  rw [hx 0 (by decide), hx 1 (by decide), hx 2 (by decide), hx 3 (by decide), hx 4 (by decide), hx 5 (by decide), hx 6 (by decide), hx 7 (by decide), hx 8 (by decide), hx 9 (by decide), hx 10 (by decide), hx 11 (by decide), hx 12 (by decide), hx 13 (by decide), hx 14 (by decide), hx 15 (by decide), hx 16 (by decide), hx 31 (by decide), hx 34 (by decide), hx 35 (by decide), hx 36 (by decide), hx 37 (by decide), hx 38 (by decide), hx 40 (by decide), hx 41 (by decide), hx 42 (by decide), hx 43 (by decide), hx 44 (by decide)]
  exact hI
/-- a reference, or nothing -/
abbrev qN (P : Prop) (q : Nat) (h : AH) : Option Value → AH → Prop := fun r h' => h' = h ∧ ((r = some (.ref q) ∧ P) ∨ (r = some .null ∧ ¬ P))
theorem kN {E : EV} {own : String} {cc : ByteArray} {nL : Nat} {ret : Option FieldType} {mn : String} {Q : Option Value → AH → Prop} {d kc ks pc : Nat} {L : List (Nat × Value)} {rest : List Value} {h : AH} {P : Prop} {q : Nat} (kt : P → Ev E own cc nL ret mn Q d kc ks pc L (.ref q :: rest) h) (kf : ¬ P → Ev E own cc nL ret mn Q d kc ks pc L (.null :: rest) h) : ∀ r h', qN P q h r h' → Ev E own cc nL ret mn Q d kc ks pc L (r.toList ++ rest) h' := by
  rintro _ _ ⟨rfl, ⟨rfl, hq⟩ | ⟨rfl, hq⟩⟩
  · exact kt hq
  · exact kf hq
theorem xorZ_neg {a b : Int} (ha : InR a) (hb : InR b) : xorZ a b < 0 ↔ (a < 0 ∧ 0 ≤ b) ∨ (0 ≤ a ∧ b < 0) := by
  unfold xorZ
  have h1 : ((iI a).toBitVec ^^^ (iI b).toBitVec).msb = ((iI a).toBitVec.msb ^^ (iI b).toBitVec.msb) := BitVec.msb_xor
  rw [BitVec.msb_eq_toInt, BitVec.msb_eq_toInt, BitVec.msb_eq_toInt] at h1
  have ea : (iI a).toBitVec.toInt = a := iI_toInt ha
  have eb : (iI b).toBitVec.toInt = b := iI_toInt hb
  rw [ea, eb] at h1
  have h2 : ((iI a ^^^ iI b).toInt < 0) ↔ (decide (a < 0) ^^ decide (b < 0)) = true := by
    rw [← h1, decide_eq_true_iff]
    exact Iff.rfl
  rw [h2]
  by_cases q1 : a < 0 <;> by_cases q2 : b < 0 <;> simp [q1, q2] <;> omega
theorem sin_A {t : Int} (h : t ≤ 90) : tabS t = sinZ t := by unfold sinZ; rw [if_pos h]
theorem sin_B {t : Int} (h : 90 < t) (h1 : t < 180) : tabS (180 - t) = sinZ t := by unfold sinZ; rw [if_neg (by omega), if_pos (by omega)]
theorem sin_C {t : Int} (h1 : 180 ≤ t) (h2 : t - 180 ≤ 90) : -tabS (t - 180) = sinZ t := by
  by_cases e : t = 180
  · subst e
    decide
  · unfold sinZ
    rw [if_neg (by omega), if_neg (by omega), if_pos (by omega)]
theorem sin_D {t : Int} (h1 : 180 ≤ t) (h2 : 90 < t - 180) : -tabS (180 - (t - 180)) = sinZ t := by
  unfold sinZ
  rw [if_neg (by omega), if_neg (by omega), if_neg (by omega), show 180 - (t - 180) = 360 - t by omega]
theorem CM.ofF {E : EV} {y : MethodName} {cc : ByteArray} {nL : Nat} {ret : Option FieldType} {d kc ks : Nat} {av : List Value} {h : AH} {Q : Option Value → AH → Prop} (hy : plainFor y = true) (hn : (lg_sl av).length ≤ nL) {L : List (Nat × Value)} (hL : lv_args 0 av = L) (k : Ev E y.cls cc nL ret y.name Q d kc ks 0 L [] h) : CM E y cc nL ret d kc ks av h Q := by
  intro l sz
  refine MetFree.of_bodySF (code := cc) (maxLocals := nL) (ret := ret) hy ?_ ?_
  · intro args s m h hn
    obtain ⟨meth, c, h1, h2, h3, h4, h5, h6, -, -⟩ := Cond.code_spec hn (atoms_spec (ws := Cond.code y cc nL ret :: TB) h _ List.mem_cons_self)
    exact ⟨meth, c, h1, h2, h3, h4, h5, h6⟩
  · intro p e s m args below meth c s₁ B hml hv _
    have hh0 : s₁.heap = s.heap := by rw [B.state]; rfl
    obtain ⟨rfl, hsz, hK, hG, hH⟩ := hv
    subst hsz
    subst hL
    have hl := lv_entry av (n := nL) hn
    have K : W p l e (rmD d kc ks) s m av.toArray below meth c s.heap [] 0 0 (MQ below (QC E (Fr h s.heap.size) Q) av.toArray s kc ks (Fr h s.heap.size)) (entryFrame m av.toArray nL) := by
      rw [lg_entry_eq]
      generalize (lg_sl av ++ List.replicate (nL - (lg_sl av).length) Slot.unset).toArray = ls at hl ⊢
      exact k p l e s m _ below meth c s.heap [] 0 0 kc ks (Fr h s.heap.size) ls ⟨B.exec, B.bytes, B.returns, hml, findClass_of_methodNamed B.named, (name_of_methodNamed B.named B.method).1, B.notSynchronized, fun w hw => atoms_spec (ws := Cond.code y cc nL ret :: TB) B.pre w (List.mem_cons_of_mem _ hw), hK, hG, fun q hq => Or.inr hq, hH, va_S.rf, hl, by omega, by omega⟩
    obtain ⟨t, a1, o, b1, b2, b3⟩ := K s₁ hh0 (Stand.of_body B)
    exact ⟨t, o, a1, b1, b2, ⟨b3.1, b3.2⟩⟩
set_option maxHeartbeats 4000000 in
set_option maxRecDepth 100000 in
theorem j_max (E : EV) {h : AH} {a b : Int} (ha : InR a) (hb : InR b) : CM E yJ9_max_7cf53 cJ9_max_7cf53 2 (some .int) 0 0 0 [vI (a), vI (b)] h (qP (max a b) h) := by
  refine CM.ofF (by decide +kernel) (Nat.le_of_ble_eq_true rfl) (L := [(0, vI (a)), (1, vI (b))]) rfl ?_
  refine ev_iload_n 0 rfl dJ9_max_7cf53_0 ?_
  refine ev_iload_n 1 rfl dJ9_max_7cf53_1 ?_
  refine ev_icmp_lt (tgt := 9) dJ9_max_7cf53_2 (by first | assumption | exact hR _ _ | decide | (simp only [InR]; omega)) (by first | assumption | exact hR _ _ | decide | (simp only [InR]; omega)) (by decide) (fun c2 => ?_) (fun c2 => ?_)
  · refine ev_iload_n 1 rfl dJ9_max_7cf53_9 ?_
    refine ev_ireturn dJ9_max_7cf53_10 ?_
    exact ⟨rfl, congrArg (fun z => some (vI z)) (show b = max a b from by omega)⟩
  · refine ev_iload_n 0 rfl dJ9_max_7cf53_5 ?_
    refine ev_goto (tgt := 10) dJ9_max_7cf53_6 (by decide) ?_
    refine ev_ireturn dJ9_max_7cf53_10 ?_
    exact ⟨rfl, congrArg (fun z => some (vI z)) (show a = max a b from by omega)⟩

set_option maxHeartbeats 4000000 in
set_option maxRecDepth 100000 in
theorem j_min (E : EV) {h : AH} {a b : Int} (ha : InR a) (hb : InR b) : CM E yJ9_min_7cf53 cJ9_min_7cf53 2 (some .int) 0 0 0 [vI (a), vI (b)] h (qP (min a b) h) := by
  refine CM.ofF (by decide +kernel) (Nat.le_of_ble_eq_true rfl) (L := [(0, vI (a)), (1, vI (b))]) rfl ?_
  refine ev_iload_n 0 rfl dJ9_min_7cf53_0 ?_
  refine ev_iload_n 1 rfl dJ9_min_7cf53_1 ?_
  refine ev_icmp_gt (tgt := 9) dJ9_min_7cf53_2 (by first | assumption | exact hR _ _ | decide | (simp only [InR]; omega)) (by first | assumption | exact hR _ _ | decide | (simp only [InR]; omega)) (by decide) (fun c2 => ?_) (fun c2 => ?_)
  · refine ev_iload_n 1 rfl dJ9_min_7cf53_9 ?_
    refine ev_ireturn dJ9_min_7cf53_10 ?_
    exact ⟨rfl, congrArg (fun z => some (vI z)) (show b = min a b from by omega)⟩
  · refine ev_iload_n 0 rfl dJ9_min_7cf53_5 ?_
    refine ev_goto (tgt := 10) dJ9_min_7cf53_6 (by decide) ?_
    refine ev_ireturn dJ9_min_7cf53_10 ?_
    exact ⟨rfl, congrArg (fun z => some (vI z)) (show a = min a b from by omega)⟩

set_option maxHeartbeats 4000000 in
set_option maxRecDepth 100000 in
theorem j_abs (E : EV) {h : AH} {a : Int} (ha : InR a) : CM E yJ9_abs_0f7a4 cJ9_abs_0f7a4 1 (some .int) 0 0 0 [vI (a)] h (qP (a.natAbs : Int) h) := by
  refine CM.ofF (by decide +kernel) (Nat.le_of_ble_eq_true rfl) (L := [(0, vI (a))]) rfl ?_
  refine ev_iload_n 0 rfl dJ9_abs_0f7a4_0 ?_
  refine ev_if_ge (tgt := 9) dJ9_abs_0f7a4_1 (by first | assumption | exact hR _ _ | decide | (simp only [InR]; omega)) (by decide) (fun c1 => ?_) (fun c1 => ?_)
  · refine ev_iload_n 0 rfl dJ9_abs_0f7a4_9 ?_
    refine ev_ireturn dJ9_abs_0f7a4_10 ?_
    exact ⟨rfl, congrArg (fun z => some (vI z)) (show a = (a.natAbs : Int) from by omega)⟩
  · refine ev_iload_n 0 rfl dJ9_abs_0f7a4_4 ?_
    refine ev_ineg dJ9_abs_0f7a4_5 ?_
    refine ev_goto (tgt := 10) dJ9_abs_0f7a4_6 (by decide) ?_
    refine ev_ireturn dJ9_abs_0f7a4_10 ?_
    exact ⟨rfl, congrArg (fun z => some (vI z)) (show -a = (a.natAbs : Int) from by omega)⟩

set_option maxHeartbeats 4000000 in
set_option maxRecDepth 100000 in
theorem j_floorMod (E : EV) {h : AH} {a b : Int} (ga : 0 ≤ a ∧ a ≤ 1000000) (gb : 0 < b ∧ b ≤ 1000000) : CM E yJ9_floorMod_7cf53 cJ9_floorMod_7cf53 3 (some .int) 0 0 0 [vI (a), vI (b)] h (qP (a.tmod b) h) := by
  have ha : InR a := by simp only [InR]; omega
  have hb : InR b := by simp only [InR]; omega
  have hx := xorZ_neg ha hb
  have hxr : InR (xorZ a b) := iI_in _
  have m1 := Int.tmod_nonneg b ga.1
  have m2 := Int.tmod_lt_of_pos a gb.1
  have m3 := tdiv_b (a := a) (b := b) (A := 1000000) (by omega)
  refine CM.ofF (by decide +kernel) (Nat.le_of_ble_eq_true rfl) (L := [(0, vI (a)), (1, vI (b))]) rfl ?_
  refine ev_iload_n 0 rfl dJ9_floorMod_7cf53_0 ?_
  refine ev_iload_n 1 rfl dJ9_floorMod_7cf53_1 ?_
  refine ev_irem dJ9_floorMod_7cf53_2 (by first | assumption | exact hR _ _ | decide | (simp only [InR]; omega)) (by first | assumption | exact hR _ _ | decide | (simp only [InR]; omega)) (by omega) (by first | assumption | exact hR _ _ | decide | (simp only [InR]; omega)) ?_
  refine ev_istore_n (L' := [(2, vI (a.tmod b)), (0, vI (a)), (1, vI (b))]) dJ9_floorMod_7cf53_3 (by decide) rfl ?_
  refine ev_iload_n 1 rfl dJ9_floorMod_7cf53_4 ?_
  refine ev_iload_n 2 rfl dJ9_floorMod_7cf53_5 ?_
  refine ev_ixor dJ9_floorMod_7cf53_6 ?_
  refine ev_if_ge (tgt := 18) dJ9_floorMod_7cf53_7 (by first | assumption | exact hR _ _ | decide | (simp only [InR]; omega)) (by decide) (fun c7 => ?_) (fun c7 => ?_)
  · refine ev_iload_n 0 rfl dJ9_floorMod_7cf53_18 ?_
    refine ev_ireturn dJ9_floorMod_7cf53_19 ?_
    exact ⟨rfl, congrArg (fun z => some (vI z)) (show a.tmod b = a.tmod b from rfl)⟩
  · exact absurd (show xorZ a b < 0 by omega) (by rw [hx]; omega)

set_option maxHeartbeats 4000000 in
set_option maxRecDepth 100000 in
theorem j_floorDiv (E : EV) {h : AH} {a : Int} (ga : -1000000 ≤ a ∧ a ≤ 1000000) : CM E yJ9_floorDiv_7cf53 cJ9_floorDiv_7cf53 3 (some .int) 0 0 0 [vI (a), vI (2)] h (qP (a / 2) h) := by
  have ha : InR a := by simp only [InR]; omega
  have hx := xorZ_neg ha (show InR 2 by decide)
  have hxr : InR (xorZ a 2) := iI_in _
  have m3 := tdiv_b (a := a) (b := 2) (A := 1000000) (by omega)
  have m4 : a.tdiv 2 = if 0 ≤ a then a / 2 else -((-a) / 2) := by
    split
    · next q => exact Int.tdiv_eq_ediv_of_nonneg q
    · next q => rw [show a = -(-a) by omega, Int.neg_tdiv, Int.tdiv_eq_ediv_of_nonneg (by omega)]; omega
  refine CM.ofF (by decide +kernel) (Nat.le_of_ble_eq_true rfl) (L := [(0, vI (a)), (1, vI (2))]) rfl ?_
  refine ev_iload_n 0 rfl dJ9_floorDiv_7cf53_0 ?_
  refine ev_iload_n 1 rfl dJ9_floorDiv_7cf53_1 ?_
  refine ev_idiv dJ9_floorDiv_7cf53_2 (by first | assumption | exact hR _ _ | decide | (simp only [InR]; omega)) (by first | assumption | exact hR _ _ | decide | (simp only [InR]; omega)) (by omega) (by first | assumption | exact hR _ _ | decide | (simp only [InR]; omega)) ?_
  refine ev_istore_n (L' := [(2, vI (a.tdiv 2)), (0, vI (a)), (1, vI (2))]) dJ9_floorDiv_7cf53_3 (by decide) rfl ?_
  refine ev_iload_n 1 rfl dJ9_floorDiv_7cf53_4 ?_
  refine ev_iload_n 2 rfl dJ9_floorDiv_7cf53_5 ?_
  refine ev_ixor dJ9_floorDiv_7cf53_6 ?_
  refine ev_if_ge (tgt := 21) dJ9_floorDiv_7cf53_7 (by first | assumption | exact hR _ _ | decide | (simp only [InR]; omega)) (by decide) (fun c7 => ?_) (fun c7 => ?_)
  · refine ev_iload_n 0 rfl dJ9_floorDiv_7cf53_21 ?_
    refine ev_ireturn dJ9_floorDiv_7cf53_22 ?_
    exact ⟨rfl, congrArg (fun z => some (vI z)) (show a.tdiv 2 = a / 2 from by split at m4 <;> omega)⟩
  · refine ev_iload_n 0 rfl dJ9_floorDiv_7cf53_10 ?_
    refine ev_iload_n 2 rfl dJ9_floorDiv_7cf53_11 ?_
    refine ev_imul dJ9_floorDiv_7cf53_12 ?_
    refine ev_iload_n 1 rfl dJ9_floorDiv_7cf53_13 ?_
    refine ev_icmp_eq (tgt := 21) dJ9_floorDiv_7cf53_14 (by first | assumption | exact hR _ _ | decide | (simp only [InR]; omega)) (by first | assumption | exact hR _ _ | decide | (simp only [InR]; omega)) (by decide) (fun c14 => ?_) (fun c14 => ?_)
    · refine ev_iload_n 0 rfl dJ9_floorDiv_7cf53_21 ?_
      refine ev_ireturn dJ9_floorDiv_7cf53_22 ?_
      exact ⟨rfl, congrArg (fun z => some (vI z)) (show a.tdiv 2 = a / 2 from by split at m4 <;> omega)⟩
    · refine ev_iload_n 0 rfl dJ9_floorDiv_7cf53_17 ?_
      refine ev_iconst dJ9_floorDiv_7cf53_18 ?_
      refine ev_isub dJ9_floorDiv_7cf53_19 ?_
      refine ev_ireturn dJ9_floorDiv_7cf53_20 ?_
      exact ⟨rfl, congrArg (fun z => some (vI z)) (show (a.tdiv 2) - 1 = a / 2 from by split at m4 <;> omega)⟩

set_option maxHeartbeats 4000000 in
set_option maxRecDepth 100000 in
theorem k_isWithin (E : EV) {h : AH} {v a b : Int} (hv : InR v) (ha : InR a) (hb : InR b) : CM E yX9_isWithin cX9_isWithin 3 (some .boolean) 0 0 0 [vI (v), vI (a), vI (b)] h (qB (a ≤ v ∧ v ≤ b) h) := by
  refine CM.of (by decide) (Nat.le_of_ble_eq_true rfl) (L := [(0, vI (v)), (1, vI (a)), (2, vI (b))]) rfl ?_
  refine ev_iload_n 0 rfl dX9_isWithin_0 ?_
  refine ev_iload_n 1 rfl dX9_isWithin_1 ?_
  refine ev_icmp_lt (tgt := 14) dX9_isWithin_2 (by first | assumption | exact hR _ _ | decide | (simp only [InR]; omega)) (by first | assumption | exact hR _ _ | decide | (simp only [InR]; omega)) (by decide) (fun c2 => ?_) (fun c2 => ?_)
  · refine ev_iconst dX9_isWithin_14 ?_
    refine ev_zreturn (by decide) dX9_isWithin_15 ?_
    first | exact ⟨rfl, Or.inl ⟨rfl, by omega⟩⟩ | exact ⟨rfl, Or.inr ⟨rfl, by omega⟩⟩
  · refine ev_iload_n 0 rfl dX9_isWithin_5 ?_
    refine ev_iload_n 2 rfl dX9_isWithin_6 ?_
    refine ev_icmp_gt (tgt := 14) dX9_isWithin_7 (by first | assumption | exact hR _ _ | decide | (simp only [InR]; omega)) (by first | assumption | exact hR _ _ | decide | (simp only [InR]; omega)) (by decide) (fun c7 => ?_) (fun c7 => ?_)
    · refine ev_iconst dX9_isWithin_14 ?_
      refine ev_zreturn (by decide) dX9_isWithin_15 ?_
      first | exact ⟨rfl, Or.inl ⟨rfl, by omega⟩⟩ | exact ⟨rfl, Or.inr ⟨rfl, by omega⟩⟩
    · refine ev_iconst dX9_isWithin_10 ?_
      refine ev_goto (tgt := 15) dX9_isWithin_11 (by decide) ?_
      refine ev_zreturn (by decide) dX9_isWithin_15 ?_
      first | exact ⟨rfl, Or.inl ⟨rfl, by omega⟩⟩ | exact ⟨rfl, Or.inr ⟨rfl, by omega⟩⟩

set_option maxHeartbeats 4000000 in
set_option maxRecDepth 100000 in
theorem k_isNight (E : EV) {h : AH} {n : Int} (hn : InR n) : CM E yX9_isNight cX9_isNight 1 (some .boolean) 1 0 0 [vI (n)] h (qB (0 ≤ n ∧ n < 400) h) := by
  refine CM.of (by decide) (Nat.le_of_ble_eq_true rfl) (L := [(0, vI (n))]) rfl ?_
  refine ev_iload_n 0 rfl dX9_isNight_0 ?_
  refine ev_iconst dX9_isNight_1 ?_
  refine ev_sipush dX9_isNight_2 (by decide) ?_
  refine c_X9_67 (k_isWithin E (v := n) (a := 0) (b := 399) (by first | assumption | exact hR _ _ | decide | (simp only [InR]; omega)) (by decide) (by decide)) rfl rfl (Nat.le_of_ble_eq_true rfl) (by decide) dX9_isNight_5 (kB (fun b5 => ?_) (fun b5 => ?_))
  · refine ev_zreturn (by decide) dX9_isNight_8 ?_
    first | exact ⟨rfl, Or.inl ⟨rfl, by omega⟩⟩ | exact ⟨rfl, Or.inr ⟨rfl, by omega⟩⟩
  · refine ev_zreturn (by decide) dX9_isNight_8 ?_
    first | exact ⟨rfl, Or.inl ⟨rfl, by omega⟩⟩ | exact ⟨rfl, Or.inr ⟨rfl, by omega⟩⟩

set_option maxHeartbeats 4000000 in
set_option maxRecDepth 100000 in
theorem k_isColour (E : EV) {h : AH} {n : Int} (hn : InR n) : CM E yX9_isColour cX9_isColour 1 (some .boolean) 1 0 0 [vI (n)] h (qB (0 ≤ n ∧ n ≤ 4) h) := by
  refine CM.of (by decide) (Nat.le_of_ble_eq_true rfl) (L := [(0, vI (n))]) rfl ?_
  refine ev_iload_n 0 rfl dX9_isColour_0 ?_
  refine ev_iconst dX9_isColour_1 ?_
  refine ev_iconst dX9_isColour_2 ?_
  refine c_X9_67 (k_isWithin E (v := n) (a := 0) (b := 4) (by first | assumption | exact hR _ _ | decide | (simp only [InR]; omega)) (by decide) (by decide)) rfl rfl (Nat.le_of_ble_eq_true rfl) (by decide) dX9_isColour_3 (kB (fun b3 => ?_) (fun b3 => ?_))
  · refine ev_zreturn (by decide) dX9_isColour_6 ?_
    first | exact ⟨rfl, Or.inl ⟨rfl, by omega⟩⟩ | exact ⟨rfl, Or.inr ⟨rfl, by omega⟩⟩
  · refine ev_zreturn (by decide) dX9_isColour_6 ?_
    first | exact ⟨rfl, Or.inl ⟨rfl, by omega⟩⟩ | exact ⟨rfl, Or.inr ⟨rfl, by omega⟩⟩

set_option maxHeartbeats 4000000 in
set_option maxRecDepth 100000 in
theorem k_isSheet (E : EV) {h : AH} {n : Int} (hn : InR n) : CM E yX9_isSheet cX9_isSheet 1 (some .boolean) 1 0 0 [vI (n)] h (qB (0 ≤ n ∧ n ≤ 3) h) := by
  refine CM.of (by decide) (Nat.le_of_ble_eq_true rfl) (L := [(0, vI (n))]) rfl ?_
  refine ev_iload_n 0 rfl dX9_isSheet_0 ?_
  refine ev_iconst dX9_isSheet_1 ?_
  refine ev_iconst dX9_isSheet_2 ?_
  refine c_X9_67 (k_isWithin E (v := n) (a := 0) (b := 3) (by first | assumption | exact hR _ _ | decide | (simp only [InR]; omega)) (by decide) (by decide)) rfl rfl (Nat.le_of_ble_eq_true rfl) (by decide) dX9_isSheet_3 (kB (fun b3 => ?_) (fun b3 => ?_))
  · refine ev_zreturn (by decide) dX9_isSheet_6 ?_
    first | exact ⟨rfl, Or.inl ⟨rfl, by omega⟩⟩ | exact ⟨rfl, Or.inr ⟨rfl, by omega⟩⟩
  · refine ev_zreturn (by decide) dX9_isSheet_6 ?_
    first | exact ⟨rfl, Or.inl ⟨rfl, by omega⟩⟩ | exact ⟨rfl, Or.inr ⟨rfl, by omega⟩⟩

set_option maxHeartbeats 4000000 in
set_option maxRecDepth 100000 in
theorem k_isLane (E : EV) {h : AH} {n : Int} (hn : InR n) : CM E yX9_isLane cX9_isLane 1 (some .boolean) 1 0 0 [vI (n)] h (qB (0 ≤ n ∧ n ≤ 2) h) := by
  refine CM.of (by decide) (Nat.le_of_ble_eq_true rfl) (L := [(0, vI (n))]) rfl ?_
  refine ev_iload_n 0 rfl dX9_isLane_0 ?_
  refine ev_iconst dX9_isLane_1 ?_
  refine ev_iconst dX9_isLane_2 ?_
  refine c_X9_67 (k_isWithin E (v := n) (a := 0) (b := 2) (by first | assumption | exact hR _ _ | decide | (simp only [InR]; omega)) (by decide) (by decide)) rfl rfl (Nat.le_of_ble_eq_true rfl) (by decide) dX9_isLane_3 (kB (fun b3 => ?_) (fun b3 => ?_))
  · refine ev_zreturn (by decide) dX9_isLane_6 ?_
    first | exact ⟨rfl, Or.inl ⟨rfl, by omega⟩⟩ | exact ⟨rfl, Or.inr ⟨rfl, by omega⟩⟩
  · refine ev_zreturn (by decide) dX9_isLane_6 ?_
    first | exact ⟨rfl, Or.inl ⟨rfl, by omega⟩⟩ | exact ⟨rfl, Or.inr ⟨rfl, by omega⟩⟩

set_option maxHeartbeats 4000000 in
set_option maxRecDepth 100000 in
theorem k_isInSky (E : EV) {h : AH} {a2 a3 a4 a5 : Int} (g2 : InR a2) (g3 : InR a3) (g4 : InR a4) (g5 : InR a5) : CM E yX9_isInSky cX9_isInSky 4 (some .boolean) 2 0 0 [vI (a2), vI (a3), vI (a4), vI (a5)] h (qB ((0 ≤ a2 ∧ a2 < 400) ∧ (0 ≤ a3 ∧ a3 ≤ 1439) ∧ (0 ≤ a4 ∧ a4 ≤ 359) ∧ 2 ≤ a5 ∧ a5 ≤ 88) h) := by
  refine CM.of (by decide) (Nat.le_of_ble_eq_true rfl) (L := [(0, vI (a2)), (1, vI (a3)), (2, vI (a4)), (3, vI (a5))]) rfl ?_
  refine ev_iload_n 0 rfl dX9_isInSky_0 ?_
  refine c_X9_178 (k_isNight E (n := a2) (by first | assumption | exact hR _ _ | decide | (simp only [InR]; omega))) rfl rfl (Nat.le_of_ble_eq_true rfl) (by decide) dX9_isInSky_1 (kB (fun b1 => ?_) (fun b1 => ?_))
  · refine ev_if_eq (tgt := 43) dX9_isInSky_4 (by decide) (by decide) (fun c => absurd c (by decide)) (fun _ => ?_)
    refine ev_iload_n 1 rfl dX9_isInSky_7 ?_
    refine ev_iconst dX9_isInSky_8 ?_
    refine ev_sipush dX9_isInSky_9 (by decide) ?_
    refine c_X9_67 (k_isWithin E (v := a3) (a := 0) (b := 1439) (by first | assumption | exact hR _ _ | decide | (simp only [InR]; omega)) (by decide) (by decide)) rfl rfl (Nat.le_of_ble_eq_true rfl) (by decide) dX9_isInSky_12 (kB (fun b12 => ?_) (fun b12 => ?_))
    · refine ev_if_eq (tgt := 43) dX9_isInSky_15 (by decide) (by decide) (fun c => absurd c (by decide)) (fun _ => ?_)
      refine ev_iload_n 2 rfl dX9_isInSky_18 ?_
      refine ev_iconst dX9_isInSky_19 ?_
      refine ev_sipush dX9_isInSky_20 (by decide) ?_
      refine c_X9_67 (k_isWithin E (v := a4) (a := 0) (b := 359) (by first | assumption | exact hR _ _ | decide | (simp only [InR]; omega)) (by decide) (by decide)) rfl rfl (Nat.le_of_ble_eq_true rfl) (by decide) dX9_isInSky_23 (kB (fun b23 => ?_) (fun b23 => ?_))
      · refine ev_if_eq (tgt := 43) dX9_isInSky_26 (by decide) (by decide) (fun c => absurd c (by decide)) (fun _ => ?_)
        refine ev_iload_n 3 rfl dX9_isInSky_29 ?_
        refine ev_iconst dX9_isInSky_30 ?_
        refine ev_bipush dX9_isInSky_31 (by decide) ?_
        refine c_X9_67 (k_isWithin E (v := a5) (a := 2) (b := 88) (by first | assumption | exact hR _ _ | decide | (simp only [InR]; omega)) (by decide) (by decide)) rfl rfl (Nat.le_of_ble_eq_true rfl) (by decide) dX9_isInSky_33 (kB (fun b33 => ?_) (fun b33 => ?_))
        · refine ev_if_eq (tgt := 43) dX9_isInSky_36 (by decide) (by decide) (fun c => absurd c (by decide)) (fun _ => ?_)
          refine ev_iconst dX9_isInSky_39 ?_
          refine ev_goto (tgt := 44) dX9_isInSky_40 (by decide) ?_
          refine ev_zreturn (by decide) dX9_isInSky_44 ?_
          first | exact ⟨rfl, Or.inl ⟨rfl, by omega⟩⟩ | exact ⟨rfl, Or.inr ⟨rfl, by omega⟩⟩
        · refine ev_if_eq (tgt := 43) dX9_isInSky_36 (by decide) (by decide) (fun _ => ?_) (fun c => absurd c (by decide))
          refine ev_iconst dX9_isInSky_43 ?_
          refine ev_zreturn (by decide) dX9_isInSky_44 ?_
          first | exact ⟨rfl, Or.inl ⟨rfl, by omega⟩⟩ | exact ⟨rfl, Or.inr ⟨rfl, by omega⟩⟩
      · refine ev_if_eq (tgt := 43) dX9_isInSky_26 (by decide) (by decide) (fun _ => ?_) (fun c => absurd c (by decide))
        refine ev_iconst dX9_isInSky_43 ?_
        refine ev_zreturn (by decide) dX9_isInSky_44 ?_
        first | exact ⟨rfl, Or.inl ⟨rfl, by omega⟩⟩ | exact ⟨rfl, Or.inr ⟨rfl, by omega⟩⟩
    · refine ev_if_eq (tgt := 43) dX9_isInSky_15 (by decide) (by decide) (fun _ => ?_) (fun c => absurd c (by decide))
      refine ev_iconst dX9_isInSky_43 ?_
      refine ev_zreturn (by decide) dX9_isInSky_44 ?_
      first | exact ⟨rfl, Or.inl ⟨rfl, by omega⟩⟩ | exact ⟨rfl, Or.inr ⟨rfl, by omega⟩⟩
  · refine ev_if_eq (tgt := 43) dX9_isInSky_4 (by decide) (by decide) (fun _ => ?_) (fun c => absurd c (by decide))
    refine ev_iconst dX9_isInSky_43 ?_
    refine ev_zreturn (by decide) dX9_isInSky_44 ?_
    first | exact ⟨rfl, Or.inl ⟨rfl, by omega⟩⟩ | exact ⟨rfl, Or.inr ⟨rfl, by omega⟩⟩

set_option maxHeartbeats 4000000 in
set_option maxRecDepth 100000 in
theorem k_sine (E : EV) {h : AH} {d : Int} (gd : 0 ≤ d ∧ d ≤ 449) : CM E yX9_sine cX9_sine 4 (some .int) 1 0 0 [vI (d)] h (qP (sinZ (d.tmod 360)) h) := by
  have m1 := Int.tmod_nonneg 360 gd.1
  have m2 := Int.tmod_lt_of_pos d (show (0 : Int) < 360 by decide)
  refine CM.of (by decide) (Nat.le_of_ble_eq_true rfl) (L := [(0, vI (d))]) rfl ?_
  refine ev_iload_n 0 rfl dX9_sine_0 ?_
  refine ev_sipush dX9_sine_1 (by decide) ?_
  refine c_X9_280 (j_floorMod E (a := d) (b := 360) (by omega) (by omega)) rfl rfl (Nat.le_of_ble_eq_true rfl) (by decide) dX9_sine_4 (kP ?_)
  refine ev_istore_n (L' := [(1, vI ((d).tmod 360)), (0, vI (d))]) dX9_sine_7 (by decide) rfl ?_
  refine ev_iload_n 0 rfl dX9_sine_8 ?_
  refine ev_sipush dX9_sine_9 (by decide) ?_
  refine ev_icmp_lt (tgt := 23) dX9_sine_12 (by first | assumption | exact hR _ _ | decide | (simp only [InR]; omega)) (by decide) (by decide) (fun c12 => ?_) (fun c12 => ?_)
  · refine ev_iload_n 0 rfl dX9_sine_23 ?_
    refine ev_istore_n (L' := [(2, vI ((d).tmod 360)), (1, vI ((d).tmod 360)), (0, vI (d))]) dX9_sine_24 (by decide) rfl ?_
    refine gs_SINES dX9_sine_25 ?_
    refine ev_iload_n 0 rfl dX9_sine_28 ?_
    refine ev_bipush dX9_sine_29 (by decide) ?_
    refine ev_icmp_le (tgt := 42) dX9_sine_31 (by first | assumption | exact hR _ _ | decide | (simp only [InR]; omega)) (by decide) (by decide) (fun c31 => ?_) (fun c31 => ?_)
    · refine ev_iload_n 0 rfl dX9_sine_42 ?_
      have tb1 := tabS_b ((d).tmod 360)
      refine tl_SINES dX9_sine_43 (by omega) (by omega) ?_
      refine ev_istore_n (L' := [(3, vI (tabS ((d).tmod 360))), (2, vI ((d).tmod 360)), (1, vI ((d).tmod 360)), (0, vI (d))]) dX9_sine_44 (by decide) rfl ?_
      refine ev_iload_n 2 rfl dX9_sine_45 ?_
      refine ev_sipush dX9_sine_46 (by decide) ?_
      refine ev_icmp_lt (tgt := 57) dX9_sine_49 (by first | assumption | exact hR _ _ | decide | (simp only [InR]; omega)) (by decide) (by decide) (fun c49 => ?_) (fun c49 => ?_)
      · refine ev_iload_n 0 rfl dX9_sine_57 ?_
        refine ev_ireturn dX9_sine_58 ?_
        exact ⟨rfl, congrArg (fun z => some (vI z)) (sin_A (by omega))⟩
      · exact absurd c12 c49
    · refine ev_sipush dX9_sine_34 (by decide) ?_
      refine ev_iload_n 0 rfl dX9_sine_37 ?_
      refine ev_isub dX9_sine_38 ?_
      refine ev_goto (tgt := 43) dX9_sine_39 (by decide) ?_
      have tb1 := tabS_b (180 - ((d).tmod 360))
      refine tl_SINES dX9_sine_43 (by omega) (by omega) ?_
      refine ev_istore_n (L' := [(3, vI (tabS (180 - ((d).tmod 360)))), (2, vI ((d).tmod 360)), (1, vI ((d).tmod 360)), (0, vI (d))]) dX9_sine_44 (by decide) rfl ?_
      refine ev_iload_n 2 rfl dX9_sine_45 ?_
      refine ev_sipush dX9_sine_46 (by decide) ?_
      refine ev_icmp_lt (tgt := 57) dX9_sine_49 (by first | assumption | exact hR _ _ | decide | (simp only [InR]; omega)) (by decide) (by decide) (fun c49 => ?_) (fun c49 => ?_)
      · refine ev_iload_n 0 rfl dX9_sine_57 ?_
        refine ev_ireturn dX9_sine_58 ?_
        exact ⟨rfl, congrArg (fun z => some (vI z)) (sin_B (by omega) (by omega))⟩
      · exact absurd c12 c49
  · refine ev_iload_n 0 rfl dX9_sine_15 ?_
    refine ev_sipush dX9_sine_16 (by decide) ?_
    refine ev_isub dX9_sine_19 ?_
    refine ev_goto (tgt := 24) dX9_sine_20 (by decide) ?_
    refine ev_istore_n (L' := [(2, vI (((d).tmod 360) - 180)), (1, vI ((d).tmod 360)), (0, vI (d))]) dX9_sine_24 (by decide) rfl ?_
    refine gs_SINES dX9_sine_25 ?_
    refine ev_iload_n 0 rfl dX9_sine_28 ?_
    refine ev_bipush dX9_sine_29 (by decide) ?_
    refine ev_icmp_le (tgt := 42) dX9_sine_31 (by first | assumption | exact hR _ _ | decide | (simp only [InR]; omega)) (by decide) (by decide) (fun c31 => ?_) (fun c31 => ?_)
    · refine ev_iload_n 0 rfl dX9_sine_42 ?_
      have tb1 := tabS_b (((d).tmod 360) - 180)
      refine tl_SINES dX9_sine_43 (by omega) (by omega) ?_
      refine ev_istore_n (L' := [(3, vI (tabS (((d).tmod 360) - 180))), (2, vI (((d).tmod 360) - 180)), (1, vI ((d).tmod 360)), (0, vI (d))]) dX9_sine_44 (by decide) rfl ?_
      refine ev_iload_n 2 rfl dX9_sine_45 ?_
      refine ev_sipush dX9_sine_46 (by decide) ?_
      refine ev_icmp_lt (tgt := 57) dX9_sine_49 (by first | assumption | exact hR _ _ | decide | (simp only [InR]; omega)) (by decide) (by decide) (fun c49 => ?_) (fun c49 => ?_)
      · exact absurd c49 c12
      · refine ev_iload_n 0 rfl dX9_sine_52 ?_
        refine ev_ineg dX9_sine_53 ?_
        refine ev_goto (tgt := 58) dX9_sine_54 (by decide) ?_
        refine ev_ireturn dX9_sine_58 ?_
        exact ⟨rfl, congrArg (fun z => some (vI z)) (sin_C (by omega) (by omega))⟩
    · refine ev_sipush dX9_sine_34 (by decide) ?_
      refine ev_iload_n 0 rfl dX9_sine_37 ?_
      refine ev_isub dX9_sine_38 ?_
      refine ev_goto (tgt := 43) dX9_sine_39 (by decide) ?_
      have tb1 := tabS_b (180 - (((d).tmod 360) - 180))
      refine tl_SINES dX9_sine_43 (by omega) (by omega) ?_
      refine ev_istore_n (L' := [(3, vI (tabS (180 - (((d).tmod 360) - 180)))), (2, vI (((d).tmod 360) - 180)), (1, vI ((d).tmod 360)), (0, vI (d))]) dX9_sine_44 (by decide) rfl ?_
      refine ev_iload_n 2 rfl dX9_sine_45 ?_
      refine ev_sipush dX9_sine_46 (by decide) ?_
      refine ev_icmp_lt (tgt := 57) dX9_sine_49 (by first | assumption | exact hR _ _ | decide | (simp only [InR]; omega)) (by decide) (by decide) (fun c49 => ?_) (fun c49 => ?_)
      · exact absurd c49 c12
      · refine ev_iload_n 0 rfl dX9_sine_52 ?_
        refine ev_ineg dX9_sine_53 ?_
        refine ev_goto (tgt := 58) dX9_sine_54 (by decide) ?_
        refine ev_ireturn dX9_sine_58 ?_
        exact ⟨rfl, congrArg (fun z => some (vI z)) (sin_D (by omega) (by omega))⟩

theorem k_sineB (E : EV) {h : AH} {d : Int} (gd : 0 ≤ d ∧ d ≤ 359) : CM E yX9_sine cX9_sine 4 (some .int) 1 0 0 [vI (d)] h (qP (sinZ d) h) := by
  have := k_sine E (h := h) (d := d) (by omega)
  rw [show d.tmod 360 = d from Int.tmod_eq_of_lt gd.1 (by omega)] at this
  exact this

set_option maxHeartbeats 4000000 in
set_option maxRecDepth 100000 in
theorem k_cosine (E : EV) {h : AH} {d : Int} (gd : 0 ≤ d ∧ d ≤ 359) : CM E yX9_cosine cX9_cosine 1 (some .int) 2 0 0 [vI (d)] h (qP (cosZ d) h) := by
  refine CM.of (by decide) (Nat.le_of_ble_eq_true rfl) (L := [(0, vI (d))]) rfl ?_
  refine ev_iload_n 0 rfl dX9_cosine_0 ?_
  refine ev_bipush dX9_cosine_1 (by decide) ?_
  refine ev_iadd dX9_cosine_3 ?_
  refine c_X9_154 (k_sine E (d := d + 90) (by omega)) rfl rfl (Nat.le_of_ble_eq_true rfl) (by decide) dX9_cosine_4 (kP ?_)
  refine ev_ireturn dX9_cosine_7 ?_
  exact ⟨rfl, rfl⟩

set_option maxHeartbeats 4000000 in
set_option maxRecDepth 100000 in
theorem k_stationAt {E : EV} {h : AH} {A : AD} {S : MS} {a : Int} (hC : CR E A S h) (hI : Inv S) (ga : InR a) : CM E yX9_stationAt cX9_stationAt 2 (some (.object "NorthCurtains$Station")) 1 0 0 [.ref (A 0 0), vI (a)] h (qN (0 ≤ a ∧ a < S 2 0) (A 20 a) h) := by
  have hR := hC.2.2
  have hJ := hI
  obtain ⟨i1, i2, i3, i4, i5, i6, iSt, iSi, iWa, iSh, iLa, iS0, iS1, iZe⟩ := hJ
  refine CM.of (by decide) (Nat.le_of_ble_eq_true rfl) (L := [(0, .ref (A 0 0)), (1, vI (a))]) rfl ?_
  refine ev_iload_n 1 rfl dX9_stationAt_0 ?_
  refine ev_iconst dX9_stationAt_1 ?_
  refine ev_aload_n 0 rfl dX9_stationAt_2 ?_
  refine cg_X9_71 hC dX9_stationAt_3 ?_
  refine ev_iconst dX9_stationAt_6 ?_
  refine ev_isub dX9_stationAt_7 ?_
  refine c_X9_67 (k_isWithin E (v := a) (a := 0) (b := (S 2 0) - 1) (by first | assumption | exact hR _ _ | decide | (simp only [InR]; omega)) (by decide) (by first | assumption | exact hR _ _ | decide | (simp only [InR]; omega))) rfl rfl (Nat.le_of_ble_eq_true rfl) (by decide) dX9_stationAt_8 (kB (fun b8 => ?_) (fun b8 => ?_))
  · refine ev_if_eq (tgt := 23) dX9_stationAt_11 (by decide) (by decide) (fun c => absurd c (by decide)) (fun _ => ?_)
    refine ev_aload_n 0 rfl dX9_stationAt_14 ?_
    refine cg_X9_11 hC dX9_stationAt_15 ?_
    refine ev_iload_n 1 rfl dX9_stationAt_18 ?_
    refine c_aa1 hC dX9_stationAt_19 (by omega) (by omega) (by omega) ?_
    refine ev_goto (tgt := 24) dX9_stationAt_20 (by decide) ?_
    refine ev_areturn (by first | exact Or.inl ⟨_, rfl⟩ | exact Or.inr ⟨_, rfl⟩) (by first | exact Or.inl rfl | exact Or.inr ⟨_, rfl⟩) dX9_stationAt_24 ?_
    first | exact ⟨rfl, Or.inl ⟨rfl, by omega⟩⟩ | exact ⟨rfl, Or.inr ⟨rfl, by omega⟩⟩
  · refine ev_if_eq (tgt := 23) dX9_stationAt_11 (by decide) (by decide) (fun _ => ?_) (fun c => absurd c (by decide))
    refine ev_null dX9_stationAt_23 ?_
    refine ev_areturn (by first | exact Or.inl ⟨_, rfl⟩ | exact Or.inr ⟨_, rfl⟩) (by first | exact Or.inl rfl | exact Or.inr ⟨_, rfl⟩) dX9_stationAt_24 ?_
    first | exact ⟨rfl, Or.inl ⟨rfl, by omega⟩⟩ | exact ⟨rfl, Or.inr ⟨rfl, by omega⟩⟩

set_option maxHeartbeats 4000000 in
set_option maxRecDepth 100000 in
theorem k_sightingAt {E : EV} {h : AH} {A : AD} {S : MS} {a : Int} (hC : CR E A S h) (hI : Inv S) (ga : InR a) : CM E yX9_sightingAt cX9_sightingAt 2 (some (.object "NorthCurtains$Glow")) 1 0 0 [.ref (A 0 0), vI (a)] h (qN (SG S a) (A 21 a) h) := by
  have hR := hC.2.2
  have hJ := hI
  obtain ⟨i1, i2, i3, i4, i5, i6, iSt, iSi, iWa, iSh, iLa, iS0, iS1, iZe⟩ := hJ
  refine CM.of (by decide) (Nat.le_of_ble_eq_true rfl) (L := [(0, .ref (A 0 0)), (1, vI (a))]) rfl ?_
  refine ev_iload_n 1 rfl dX9_sightingAt_0 ?_
  refine ev_iconst dX9_sightingAt_1 ?_
  refine ev_aload_n 0 rfl dX9_sightingAt_2 ?_
  refine cg_X9_91 hC dX9_sightingAt_3 ?_
  refine ev_iconst dX9_sightingAt_6 ?_
  refine ev_isub dX9_sightingAt_7 ?_
  refine c_X9_67 (k_isWithin E (v := a) (a := 0) (b := (S 7 0) - 1) (by first | assumption | exact hR _ _ | decide | (simp only [InR]; omega)) (by decide) (by first | assumption | exact hR _ _ | decide | (simp only [InR]; omega))) rfl rfl (Nat.le_of_ble_eq_true rfl) (by decide) dX9_sightingAt_8 (kB (fun b8 => ?_) (fun b8 => ?_))
  · refine ev_if_eq (tgt := 23) dX9_sightingAt_11 (by decide) (by decide) (fun c => absurd c (by decide)) (fun _ => ?_)
    refine ev_aload_n 0 rfl dX9_sightingAt_14 ?_
    refine cg_X9_17 hC dX9_sightingAt_15 ?_
    refine ev_iload_n 1 rfl dX9_sightingAt_18 ?_
    refine c_aa2 hC dX9_sightingAt_19 (by omega) (by omega) (by omega) ?_
    refine ev_goto (tgt := 24) dX9_sightingAt_20 (by decide) ?_
    refine ev_areturn (by first | exact Or.inl ⟨_, rfl⟩ | exact Or.inr ⟨_, rfl⟩) (by first | exact Or.inl rfl | exact Or.inr ⟨_, rfl⟩) dX9_sightingAt_24 ?_
    first | exact ⟨rfl, Or.inl ⟨rfl, by omega⟩⟩ | exact ⟨rfl, Or.inr ⟨rfl, by omega⟩⟩
  · refine ev_if_eq (tgt := 23) dX9_sightingAt_11 (by decide) (by decide) (fun _ => ?_) (fun c => absurd c (by decide))
    refine ev_null dX9_sightingAt_23 ?_
    refine ev_areturn (by first | exact Or.inl ⟨_, rfl⟩ | exact Or.inr ⟨_, rfl⟩) (by first | exact Or.inl rfl | exact Or.inr ⟨_, rfl⟩) dX9_sightingAt_24 ?_
    first | exact ⟨rfl, Or.inl ⟨rfl, by omega⟩⟩ | exact ⟨rfl, Or.inr ⟨rfl, by omega⟩⟩

set_option maxHeartbeats 4000000 in
set_option maxRecDepth 100000 in
theorem k_earliest {E : EV} {h : AH} {A : AD} {S : MS} {a : Int} (hC : CR E A S h) (hI : Inv S) (ga : SG S a) : CM E yX3_earliest cX3_earliest 1 (some .int) 0 0 0 [.ref (A 21 a)] h (qP (frZ S a) h) := by
  have hR := hC.2.2
  have hJ := hI
  obtain ⟨i1, i2, i3, i4, i5, i6, iSt, iSi, iWa, iSh, iLa, iS0, iS1, iZe⟩ := hJ
  obtain ⟨s1, s2, s3, s4, s5, s6, s7, s8⟩ := iSi a ga.1 ga.2
  obtain ⟨t1, t2, t3⟩ := iSt _ s2.1 s2.2
  refine CM.of (by decide) (Nat.le_of_ble_eq_true rfl) (L := [(0, .ref (A 21 a))]) rfl ?_
  refine ev_aload_n 0 rfl dX3_earliest_0 ?_
  refine cg_X3_17 hC hI (by unfold SG; omega) dX3_earliest_1 ?_
  refine ev_aload_n 0 rfl dX3_earliest_4 ?_
  refine cgR_X3_7 (i := a) (v := S 9 a) hC hI (by unfold SG; omega) rfl dX3_earliest_5 ?_
  refine cg_X3_26 hC (by omega) dX3_earliest_8 ?_
  refine ev_isub dX3_earliest_11 ?_
  refine ev_ireturn dX3_earliest_12 ?_
  exact ⟨rfl, rfl⟩

set_option maxHeartbeats 4000000 in
set_option maxRecDepth 100000 in
theorem k_latest {E : EV} {h : AH} {A : AD} {S : MS} {a : Int} (hC : CR E A S h) (hI : Inv S) (ga : SG S a) : CM E yX3_latest cX3_latest 1 (some .int) 0 0 0 [.ref (A 21 a)] h (qP (laZ S a) h) := by
  have hR := hC.2.2
  have hJ := hI
  obtain ⟨i1, i2, i3, i4, i5, i6, iSt, iSi, iWa, iSh, iLa, iS0, iS1, iZe⟩ := hJ
  obtain ⟨s1, s2, s3, s4, s5, s6, s7, s8⟩ := iSi a ga.1 ga.2
  obtain ⟨t1, t2, t3⟩ := iSt _ s2.1 s2.2
  refine CM.of (by decide) (Nat.le_of_ble_eq_true rfl) (L := [(0, .ref (A 21 a))]) rfl ?_
  refine ev_aload_n 0 rfl dX3_latest_0 ?_
  refine cg_X3_17 hC hI (by unfold SG; omega) dX3_latest_1 ?_
  refine ev_aload_n 0 rfl dX3_latest_4 ?_
  refine cgR_X3_7 (i := a) (v := S 9 a) hC hI (by unfold SG; omega) rfl dX3_latest_5 ?_
  refine cg_X3_31 hC (by omega) dX3_latest_8 ?_
  refine ev_isub dX3_latest_11 ?_
  refine ev_ireturn dX3_latest_12 ?_
  exact ⟨rfl, rfl⟩

set_option maxHeartbeats 4000000 in
set_option maxRecDepth 100000 in
theorem k_kind_X3 (E : EV) {h : AH} {q : Nat}  : CM E yX3_kind cX3_kind 1 (some .int) 0 0 0 [.ref (q)] h (qP 0 h) := by
  refine CM.of (by decide) (Nat.le_of_ble_eq_true rfl) (L := [(0, .ref (q))]) rfl ?_
  refine ev_iconst dX3_kind_0 ?_
  refine ev_ireturn dX3_kind_1 ?_
  exact ⟨rfl, rfl⟩

set_option maxHeartbeats 4000000 in
set_option maxRecDepth 100000 in
theorem k_kind_X0 (E : EV) {h : AH} {q : Nat}  : CM E yX0_kind cX0_kind 1 (some .int) 0 0 0 [.ref (q)] h (qP 1 h) := by
  refine CM.of (by decide) (Nat.le_of_ble_eq_true rfl) (L := [(0, .ref (q))]) rfl ?_
  refine ev_iconst dX0_kind_0 ?_
  refine ev_ireturn dX0_kind_1 ?_
  exact ⟨rfl, rfl⟩

set_option maxHeartbeats 4000000 in
set_option maxRecDepth 100000 in
theorem k_kind_X4 (E : EV) {h : AH} {q : Nat}  : CM E yX4_kind cX4_kind 1 (some .int) 0 0 0 [.ref (q)] h (qP 2 h) := by
  refine CM.of (by decide) (Nat.le_of_ble_eq_true rfl) (L := [(0, .ref (q))]) rfl ?_
  refine ev_iconst dX4_kind_0 ?_
  refine ev_ireturn dX4_kind_1 ?_
  exact ⟨rfl, rfl⟩

theorem cv_kind {E : EV} {cc : ByteArray} {nL : Nat} {ret : Option FieldType} {mn : String} {Q : Option Value → AH → Prop} {d kc ks pc : Nat} {L : List (Nat × Value)} {h : AH} {A : AD} {S : MS} {i : Int} {rest : List Value} (hC : CR E A S h) (hI : Inv S) (hi : SG S i) (hrm : (rest.map fun v => v.category).sum ≤ 8) (hd1 : 1 ≤ d) (hd : decode cc pc = .ok (.invokevirtual 119, 3)) (kk : Ev E RX9 cc nL ret mn Q d kc ks (pc + 3) L (vI (S 8 i) :: rest) h) : Ev E RX9 cc nL ret mn Q d kc ks pc L (.ref (A 21 i) :: rest) h := by
  rcases kinds hI hi with e | e | e
  · exact c_X9_119_3 (As := []) (k_kind_X3 E) (hC.s3 hi e) rfl rfl hrm hd1 hd (kP (by rw [e] at kk; exact kk))
  · exact c_X9_119_0 (As := []) (k_kind_X0 E) (hC.s0 hi e) rfl rfl hrm hd1 hd (kP (by rw [e] at kk; exact kk))
  · exact c_X9_119_4 (As := []) (k_kind_X4 E) (hC.s4 hi e) rfl rfl hrm hd1 hd (kP (by rw [e] at kk; exact kk))
theorem frZ_xc {S S' : MS} {a : Int} (hx : eqx scc S S') : frZ S' a = frZ S a := by unfold frZ; rw [hx 11 (by decide), hx 6 (by decide), hx 9 (by decide)]
theorem laZ_xc {S S' : MS} {a : Int} (hx : eqx scc S S') : laZ S' a = laZ S a := by unfold laZ; rw [hx 11 (by decide), hx 5 (by decide), hx 9 (by decide)]
theorem dZ_xc {S S' : MS} {a b : Int} (hx : eqx scc S S') : dZ S' a b = dZ S a b := by unfold dZ; rw [hx 12 (by decide)]
theorem rZ_xc {S S' : MS} {a b : Int} (hx : eqx scc S S') : rZ S' a b = rZ S a b := by unfold rZ; rw [dZ_xc hx, hx 3 (by decide), hx 4 (by decide), hx 9 (by decide), hx 12 (by decide)]
theorem sZ_xc {S S' : MS} {a b : Int} (hx : eqx scc S S') : sZ S' a b = sZ S a b := by unfold sZ; rw [dZ_xc hx, hx 3 (by decide), hx 4 (by decide), hx 9 (by decide), hx 12 (by decide)]
theorem CrP_xc {S S' : MS} {a b : Int} (hx : eqx scc S S') : CrP S' a b ↔ CrP S a b := by unfold CrP; rw [dZ_xc hx, rZ_xc hx, sZ_xc hx, hx 8 (by decide), hx 9 (by decide), hx 13 (by decide), hx 16 (by decide)]
theorem partZ_xc {S S' : MS} {a b w : Int} (hx : eqx scc S S') : partZ S' a b w = partZ S a b w := by
  unfold partZ xZ yZ hZ
  rw [rZ_xc hx, sZ_xc hx, hx 3 (by decide), hx 4 (by decide), hx 9 (by decide), hx 12 (by decide), hx 13 (by decide)]
set_option maxHeartbeats 4000000 in
set_option maxRecDepth 100000 in
theorem k_atOnce {E : EV} {h : AH} {A : AD} {S : MS} {a b : Int} (hC : CR E A S h) (hI : Inv S) (ga : SG S a) (gb : SG S b) (ka : S 8 a ≠ 0) (kb : S 8 b ≠ 0) : CM E yX0_mayBeAtOnceWith cX0_mayBeAtOnceWith 2 (some .boolean) 1 0 0 [.ref (A 21 a), .ref (A 21 b)] h (qB (S 10 a = S 10 b ∧ frZ S a ≤ laZ S b ∧ frZ S b ≤ laZ S a) h) := by
  have hR := hC.2.2
  have hJ := hI
  obtain ⟨i1, i2, i3, i4, i5, i6, iSt, iSi, iWa, iSh, iLa, iS0, iS1, iZe⟩ := hJ
  have f1 := fr_b hI ga
  have f2 := fr_b hI gb
  refine CM.of (by decide) (Nat.le_of_ble_eq_true rfl) (L := [(0, .ref (A 21 a)), (1, .ref (A 21 b))]) rfl ?_
  refine ev_aload_n 0 rfl dX0_mayBeAtOnceWith_0 ?_
  refine cg_X0_28 hC hI (by unfold SG; omega) (by first | assumption | omega) dX0_mayBeAtOnceWith_1 ?_
  refine ev_aload_n 1 rfl dX0_mayBeAtOnceWith_4 ?_
  refine cg_X0_28 hC hI (by unfold SG; omega) (by first | assumption | omega) dX0_mayBeAtOnceWith_5 ?_
  refine ev_icmp_ne (tgt := 37) dX0_mayBeAtOnceWith_8 (by first | assumption | exact hR _ _ | decide | (simp only [InR]; omega)) (by first | assumption | exact hR _ _ | decide | (simp only [InR]; omega)) (by decide) (fun c8 => ?_) (fun c8 => ?_)
  · refine ev_iconst dX0_mayBeAtOnceWith_37 ?_
    refine ev_zreturn (by decide) dX0_mayBeAtOnceWith_38 ?_
    first | exact ⟨rfl, Or.inl ⟨rfl, by omega⟩⟩ | exact ⟨rfl, Or.inr ⟨rfl, by omega⟩⟩
  · refine ev_aload_n 0 rfl dX0_mayBeAtOnceWith_11 ?_
    refine cv_X0_31 hC hI (by unfold SG; omega) (by first | assumption | omega) (k_earliest (a := a) hC hI (by unfold SG; omega)) rfl rfl (Nat.le_of_ble_eq_true rfl) (by decide) dX0_mayBeAtOnceWith_12 (kP ?_)
    refine ev_aload_n 1 rfl dX0_mayBeAtOnceWith_15 ?_
    refine cv_X0_35 hC hI (by unfold SG; omega) (by first | assumption | omega) (k_latest (a := b) hC hI (by unfold SG; omega)) rfl rfl (Nat.le_of_ble_eq_true rfl) (by decide) dX0_mayBeAtOnceWith_16 (kP ?_)
    refine ev_icmp_gt (tgt := 37) dX0_mayBeAtOnceWith_19 (by first | assumption | exact hR _ _ | decide | (simp only [InR]; omega)) (by first | assumption | exact hR _ _ | decide | (simp only [InR]; omega)) (by decide) (fun c19 => ?_) (fun c19 => ?_)
    · refine ev_iconst dX0_mayBeAtOnceWith_37 ?_
      refine ev_zreturn (by decide) dX0_mayBeAtOnceWith_38 ?_
      first | exact ⟨rfl, Or.inl ⟨rfl, by omega⟩⟩ | exact ⟨rfl, Or.inr ⟨rfl, by omega⟩⟩
    · refine ev_aload_n 1 rfl dX0_mayBeAtOnceWith_22 ?_
      refine cv_X0_31 hC hI (by unfold SG; omega) (by first | assumption | omega) (k_earliest (a := b) hC hI (by unfold SG; omega)) rfl rfl (Nat.le_of_ble_eq_true rfl) (by decide) dX0_mayBeAtOnceWith_23 (kP ?_)
      refine ev_aload_n 0 rfl dX0_mayBeAtOnceWith_26 ?_
      refine cv_X0_35 hC hI (by unfold SG; omega) (by first | assumption | omega) (k_latest (a := a) hC hI (by unfold SG; omega)) rfl rfl (Nat.le_of_ble_eq_true rfl) (by decide) dX0_mayBeAtOnceWith_27 (kP ?_)
      refine ev_icmp_gt (tgt := 37) dX0_mayBeAtOnceWith_30 (by first | assumption | exact hR _ _ | decide | (simp only [InR]; omega)) (by first | assumption | exact hR _ _ | decide | (simp only [InR]; omega)) (by decide) (fun c30 => ?_) (fun c30 => ?_)
      · refine ev_iconst dX0_mayBeAtOnceWith_37 ?_
        refine ev_zreturn (by decide) dX0_mayBeAtOnceWith_38 ?_
        first | exact ⟨rfl, Or.inl ⟨rfl, by omega⟩⟩ | exact ⟨rfl, Or.inr ⟨rfl, by omega⟩⟩
      · refine ev_iconst dX0_mayBeAtOnceWith_33 ?_
        refine ev_goto (tgt := 38) dX0_mayBeAtOnceWith_34 (by decide) ?_
        refine ev_zreturn (by decide) dX0_mayBeAtOnceWith_38 ?_
        first | exact ⟨rfl, Or.inl ⟨rfl, by omega⟩⟩ | exact ⟨rfl, Or.inr ⟨rfl, by omega⟩⟩

set_option maxHeartbeats 4000000 in
set_option maxRecDepth 100000 in
theorem k_told {E : EV} {h : AH} {A : AD} {S : MS} {a w : Int} (hC : CR E A S h) (hI : Inv S) (g1 : InR a) (g2 : InR w) : CM E yX9_told cX9_told 4 (some .int) 2 0 0 [.ref (A 0 0), vI (a), vI (w)] h (qI (fun z h' => z = sp_told S a w ∧ CR E A (S) h')) := by
  have hR := hC.2.2
  have hJ := hI
  obtain ⟨i1, i2, i3, i4, i5, i6, iSt, iSi, iWa, iSh, iLa, iS0, iS1, iZe⟩ := hJ
  refine CM.of (by decide) (Nat.le_of_ble_eq_true rfl) (L := [(0, .ref (A 0 0)), (1, vI (a)), (2, vI (w))]) rfl ?_
  refine ev_aload_n 0 rfl dX9_told_0 ?_
  refine ev_iload_n 1 rfl dX9_told_1 ?_
  refine c_X9_115 (k_sightingAt (a := a) hC hI (by first | assumption | exact hR _ _ | decide | (simp only [InR]; omega))) hC.k0 rfl rfl (Nat.le_of_ble_eq_true rfl) (by decide) dX9_told_2 (kN (fun b2 => ?_) (fun b2 => ?_))
  · refine ev_astore_n (L' := [(3, .ref (A 21 a)), (0, .ref (A 0 0)), (1, vI (a)), (2, vI (w))]) dX9_told_5 (by decide) rfl ?_
    refine ev_aload_n 0 rfl dX9_told_6 ?_
    refine ev_ifnonnull (tgt := 14) dX9_told_7 (by decide) ?_
    refine ev_iload_n 3 rfl dX9_told_14 ?_
    rcases (show (w < 0 ∨ 7 < w) ∨ w = 0 ∨ w = 1 ∨ w = 2 ∨ w = 3 ∨ w = 4 ∨ w = 5 ∨ w = 6 ∨ w = 7 by omega) with q | q | q | q | q | q | q | q | q
    · refine ev_tableOut (tgt := 103) dX9_told_15 (by first | assumption | exact hR _ _ | decide | (simp only [InR]; omega)) q (by decide) ?_
      refine ev_sipush dX9_told_103 (by decide) ?_
      refine ev_ireturn dX9_told_106 ?_
      refine ⟨_, rfl, ?_, hC⟩
      simp only [sp_told]; first | (rw [if_neg (by omega)]; rfl) | (rw [if_pos (by omega)]; done) | ((repeat' split) <;> first | rfl | omega)
    · subst q
      refine ev_tableIn (tgt := 60) (off := 45) dX9_told_15 (by decide) (by decide) (by decide) (by decide) (by decide) ?_
      refine ev_aload_n 0 rfl dX9_told_60 ?_
      refine cv_kind (i := a) hC hI (by unfold SG; omega) (Nat.le_of_ble_eq_true rfl) (by decide) dX9_told_61 ?_
      refine ev_ireturn dX9_told_64 ?_
      refine ⟨_, rfl, ?_, hC⟩
      simp only [sp_told]; first | (rw [if_neg (by omega)]; rfl) | (rw [if_pos (by omega)]; done) | ((repeat' split) <;> first | rfl | omega)
    · subst q
      refine ev_tableIn (tgt := 65) (off := 50) dX9_told_15 (by decide) (by decide) (by decide) (by decide) (by decide) ?_
      have s9 := iSi a (by omega) (by omega)
      refine ev_aload_n 0 rfl dX9_told_65 ?_
      refine cgR_X9_123 (i := a) (v := S 9 a) hC hI (by unfold SG; omega) rfl dX9_told_66 ?_
      refine cg_X9_127 hC (by omega) dX9_told_69 ?_
      refine ev_ireturn dX9_told_72 ?_
      refine ⟨_, rfl, ?_, hC⟩
      simp only [sp_told]; first | (rw [if_neg (by omega)]; rfl) | (rw [if_pos (by omega)]; done) | ((repeat' split) <;> first | rfl | omega)
    · subst q
      refine ev_tableIn (tgt := 73) (off := 58) dX9_told_15 (by decide) (by decide) (by decide) (by decide) (by decide) ?_
      refine ev_aload_n 0 rfl dX9_told_73 ?_
      refine cg_X9_130 hC hI (by unfold SG; omega) dX9_told_74 ?_
      refine ev_ireturn dX9_told_77 ?_
      refine ⟨_, rfl, ?_, hC⟩
      simp only [sp_told]; first | (rw [if_neg (by omega)]; rfl) | (rw [if_pos (by omega)]; done) | ((repeat' split) <;> first | rfl | omega)
    · subst q
      refine ev_tableIn (tgt := 78) (off := 63) dX9_told_15 (by decide) (by decide) (by decide) (by decide) (by decide) ?_
      refine ev_aload_n 0 rfl dX9_told_78 ?_
      refine cg_X9_133 hC hI (by unfold SG; omega) dX9_told_79 ?_
      refine ev_ireturn dX9_told_82 ?_
      refine ⟨_, rfl, ?_, hC⟩
      simp only [sp_told]; first | (rw [if_neg (by omega)]; rfl) | (rw [if_pos (by omega)]; done) | ((repeat' split) <;> first | rfl | omega)
    · subst q
      refine ev_tableIn (tgt := 83) (off := 68) dX9_told_15 (by decide) (by decide) (by decide) (by decide) (by decide) ?_
      refine ev_aload_n 0 rfl dX9_told_83 ?_
      refine cg_X9_136 hC hI (by unfold SG; omega) dX9_told_84 ?_
      refine ev_ireturn dX9_told_87 ?_
      refine ⟨_, rfl, ?_, hC⟩
      simp only [sp_told]; first | (rw [if_neg (by omega)]; rfl) | (rw [if_pos (by omega)]; done) | ((repeat' split) <;> first | rfl | omega)
    · subst q
      refine ev_tableIn (tgt := 88) (off := 73) dX9_told_15 (by decide) (by decide) (by decide) (by decide) (by decide) ?_
      refine ev_aload_n 0 rfl dX9_told_88 ?_
      refine cg_X9_139 hC hI (by unfold SG; omega) dX9_told_89 ?_
      refine ev_ireturn dX9_told_92 ?_
      refine ⟨_, rfl, ?_, hC⟩
      simp only [sp_told]; first | (rw [if_neg (by omega)]; rfl) | (rw [if_pos (by omega)]; done) | ((repeat' split) <;> first | rfl | omega)
    · subst q
      refine ev_tableIn (tgt := 93) (off := 78) dX9_told_15 (by decide) (by decide) (by decide) (by decide) (by decide) ?_
      refine ev_aload_n 0 rfl dX9_told_93 ?_
      refine cv_X9_142 hC hI (by unfold SG; omega) (k_earliest (a := a) hC hI (by unfold SG; omega)) rfl rfl (Nat.le_of_ble_eq_true rfl) (by decide) dX9_told_94 (kP ?_)
      refine ev_ireturn dX9_told_97 ?_
      refine ⟨_, rfl, ?_, hC⟩
      simp only [sp_told]; first | (rw [if_neg (by omega)]; rfl) | (rw [if_pos (by omega)]; done) | ((repeat' split) <;> first | rfl | omega)
    · subst q
      refine ev_tableIn (tgt := 98) (off := 83) dX9_told_15 (by decide) (by decide) (by decide) (by decide) (by decide) ?_
      refine ev_aload_n 0 rfl dX9_told_98 ?_
      refine cv_X9_145 hC hI (by unfold SG; omega) (k_latest (a := a) hC hI (by unfold SG; omega)) rfl rfl (Nat.le_of_ble_eq_true rfl) (by decide) dX9_told_99 (kP ?_)
      refine ev_ireturn dX9_told_102 ?_
      refine ⟨_, rfl, ?_, hC⟩
      simp only [sp_told]; first | (rw [if_neg (by omega)]; rfl) | (rw [if_pos (by omega)]; done) | ((repeat' split) <;> first | rfl | omega)
  · refine ev_astore_nN (L' := [(3, .null), (0, .ref (A 0 0)), (1, vI (a)), (2, vI (w))]) dX9_told_5 (by decide) rfl ?_
    refine ev_aload_nN 0 rfl dX9_told_6 ?_
    refine ev_ifnonnullN dX9_told_7 ?_
    refine ev_sipush dX9_told_10 (by decide) ?_
    refine ev_ireturn dX9_told_13 ?_
    refine ⟨_, rfl, ?_, hC⟩
    simp only [sp_told]; first | (rw [if_neg (by omega)]; rfl) | (rw [if_pos (by omega)]; done) | ((repeat' split) <;> first | rfl | omega)

set_option maxHeartbeats 4000000 in
set_option maxRecDepth 100000 in
theorem k_colour {E : EV} {h : AH} {A : AD} {S : MS} {a : Int} (hC : CR E A S h) (hI : Inv S) (g1 : InR a) : CM E yX9_colour cX9_colour 4 (some .int) 2 0 0 [.ref (A 0 0), vI (a)] h (qI (fun z h' => z = sp_colour S a ∧ CR E A (S) h')) := by
  have hR := hC.2.2
  have hJ := hI
  obtain ⟨i1, i2, i3, i4, i5, i6, iSt, iSi, iWa, iSh, iLa, iS0, iS1, iZe⟩ := hJ
  refine CM.of (by decide) (Nat.le_of_ble_eq_true rfl) (L := [(0, .ref (A 0 0)), (1, vI (a))]) rfl ?_
  refine ev_aload_n 0 rfl dX9_colour_0 ?_
  refine ev_iload_n 1 rfl dX9_colour_1 ?_
  refine c_X9_115 (k_sightingAt (a := a) hC hI (by first | assumption | exact hR _ _ | decide | (simp only [InR]; omega))) hC.k0 rfl rfl (Nat.le_of_ble_eq_true rfl) (by decide) dX9_colour_2 (kN (fun b2 => ?_) (fun b2 => ?_))
  · refine ev_astore_n (L' := [(2, .ref (A 21 a)), (0, .ref (A 0 0)), (1, vI (a))]) dX9_colour_5 (by decide) rfl ?_
    refine ev_aload_n 0 rfl dX9_colour_6 ?_
    refine ev_ifnonnull (tgt := 12) dX9_colour_7 (by decide) ?_
    refine ev_aload_n 0 rfl dX9_colour_12 ?_
    refine cio_X9_105 (i := a) hC hI (by unfold SG; omega) dX9_colour_13 (fun c13 => ?_) (fun c13 => ?_)
    · refine ev_if_eq (tgt := 29) dX9_colour_16 (by decide) (by decide) (fun c => absurd c (by decide)) (fun _ => ?_)
      refine ev_aload_n 0 rfl dX9_colour_19 ?_
      refine ccs_X9_105 (i := a) hC hI (by unfold SG; omega) (by first | assumption | omega) dX9_colour_20 ?_
      refine ev_astore_n (L' := [(3, .ref (A 21 a)), (2, .ref (A 21 a)), (0, .ref (A 0 0)), (1, vI (a))]) dX9_colour_23 (by decide) rfl ?_
      refine ev_aload_n 0 rfl dX9_colour_24 ?_
      refine cg_X9_148 hC hI (by unfold SG; omega) (by first | assumption | omega) dX9_colour_25 ?_
      refine ev_ireturn dX9_colour_28 ?_
      refine ⟨_, rfl, ?_, ?_⟩
      · simp only [sp_colour]; (repeat' split) <;> first | rfl | omega
      · exact hC
    · refine ev_if_eq (tgt := 29) dX9_colour_16 (by decide) (by decide) (fun _ => ?_) (fun c => absurd c (by decide))
      refine ev_bipush dX9_colour_29 (by decide) ?_
      refine ev_ireturn dX9_colour_31 ?_
      refine ⟨_, rfl, ?_, ?_⟩
      · simp only [sp_colour]; (repeat' split) <;> first | rfl | omega
      · exact hC
  · refine ev_astore_nN (L' := [(2, .null), (0, .ref (A 0 0)), (1, vI (a))]) dX9_colour_5 (by decide) rfl ?_
    refine ev_aload_nN 0 rfl dX9_colour_6 ?_
    refine ev_ifnonnullN dX9_colour_7 ?_
    refine ev_iconst dX9_colour_10 ?_
    refine ev_ireturn dX9_colour_11 ?_
    refine ⟨_, rfl, ?_, ?_⟩
    · simp only [sp_colour]; (repeat' split) <;> first | rfl | omega
    · exact hC

set_option maxHeartbeats 4000000 in
set_option maxRecDepth 100000 in
theorem k_lean {E : EV} {h : AH} {A : AD} {S : MS} {a : Int} (hC : CR E A S h) (hI : Inv S) (g1 : InR a) : CM E yX9_lean cX9_lean 4 (some .int) 2 0 0 [.ref (A 0 0), vI (a)] h (qI (fun z h' => z = sp_lean S a ∧ CR E A (S) h')) := by
  have hR := hC.2.2
  have hJ := hI
  obtain ⟨i1, i2, i3, i4, i5, i6, iSt, iSi, iWa, iSh, iLa, iS0, iS1, iZe⟩ := hJ
  refine CM.of (by decide) (Nat.le_of_ble_eq_true rfl) (L := [(0, .ref (A 0 0)), (1, vI (a))]) rfl ?_
  refine ev_aload_n 0 rfl dX9_lean_0 ?_
  refine ev_iload_n 1 rfl dX9_lean_1 ?_
  refine c_X9_115 (k_sightingAt (a := a) hC hI (by first | assumption | exact hR _ _ | decide | (simp only [InR]; omega))) hC.k0 rfl rfl (Nat.le_of_ble_eq_true rfl) (by decide) dX9_lean_2 (kN (fun b2 => ?_) (fun b2 => ?_))
  · refine ev_astore_n (L' := [(2, .ref (A 21 a)), (0, .ref (A 0 0)), (1, vI (a))]) dX9_lean_5 (by decide) rfl ?_
    refine ev_aload_n 0 rfl dX9_lean_6 ?_
    refine ev_ifnonnull (tgt := 13) dX9_lean_7 (by decide) ?_
    refine ev_aload_n 0 rfl dX9_lean_13 ?_
    refine cio_X9_110 (i := a) hC hI (by unfold SG; omega) dX9_lean_14 (fun c14 => ?_) (fun c14 => ?_)
    · refine ev_if_eq (tgt := 30) dX9_lean_17 (by decide) (by decide) (fun c => absurd c (by decide)) (fun _ => ?_)
      refine ev_aload_n 0 rfl dX9_lean_20 ?_
      refine ccs_X9_110 (i := a) hC hI (by unfold SG; omega) (by first | assumption | omega) dX9_lean_21 ?_
      refine ev_astore_n (L' := [(3, .ref (A 21 a)), (2, .ref (A 21 a)), (0, .ref (A 0 0)), (1, vI (a))]) dX9_lean_24 (by decide) rfl ?_
      refine ev_aload_n 0 rfl dX9_lean_25 ?_
      refine cg_X9_151 hC hI (by unfold SG; omega) (by first | assumption | omega) dX9_lean_26 ?_
      refine ev_ireturn dX9_lean_29 ?_
      refine ⟨_, rfl, ?_, ?_⟩
      · simp only [sp_lean]; (repeat' split) <;> first | rfl | omega
      · exact hC
    · refine ev_if_eq (tgt := 30) dX9_lean_17 (by decide) (by decide) (fun _ => ?_) (fun c => absurd c (by decide))
      refine ev_bipush dX9_lean_30 (by decide) ?_
      refine ev_ireturn dX9_lean_32 ?_
      refine ⟨_, rfl, ?_, ?_⟩
      · simp only [sp_lean]; (repeat' split) <;> first | rfl | omega
      · exact hC
  · refine ev_astore_nN (L' := [(2, .null), (0, .ref (A 0 0)), (1, vI (a))]) dX9_lean_5 (by decide) rfl ?_
    refine ev_aload_nN 0 rfl dX9_lean_6 ?_
    refine ev_ifnonnullN dX9_lean_7 ?_
    refine ev_bipush dX9_lean_10 (by decide) ?_
    refine ev_ireturn dX9_lean_12 ?_
    refine ⟨_, rfl, ?_, ?_⟩
    · simp only [sp_lean]; (repeat' split) <;> first | rfl | omega
    · exact hC

set_option maxHeartbeats 4000000 in
set_option maxRecDepth 100000 in
theorem k_thick {E : EV} {h : AH} {A : AD} {S : MS} {n : Int} (hC : CR E A S h) (hI : Inv S) (g1 : InR n) : CM E yX9_thick cX9_thick 3 (some .int) 1 0 0 [.ref (A 0 0), vI (n)] h (qI (fun z h' => z = sp_thick S n ∧ CR E A (nx_thick S n) h')) := by
  have hR := hC.2.2
  have hJ := hI
  obtain ⟨i1, i2, i3, i4, i5, i6, iSt, iSi, iWa, iSh, iLa, iS0, iS1, iZe⟩ := hJ
  refine CM.of (by decide) (Nat.le_of_ble_eq_true rfl) (L := [(0, .ref (A 0 0)), (1, vI (n))]) rfl ?_
  refine ev_iload_n 1 rfl dX9_thick_0 ?_
  refine ev_iconst dX9_thick_1 ?_
  refine ev_sipush dX9_thick_2 (by decide) ?_
  refine c_X9_67 (k_isWithin E (v := n) (a := 0) (b := 200) (by first | assumption | exact hR _ _ | decide | (simp only [InR]; omega)) (by decide) (by decide)) rfl rfl (Nat.le_of_ble_eq_true rfl) (by decide) dX9_thick_5 (kB (fun b5 => ?_) (fun b5 => ?_))
  · refine ev_if_ne (tgt := 13) dX9_thick_8 (by decide) (by decide) (fun _ => ?_) (fun c => absurd c (by decide))
    refine ev_aload_n 0 rfl dX9_thick_13 ?_
    refine cg_X9_60 hC dX9_thick_14 ?_
    refine ev_istore_n (L' := [(2, vI (S 16 0)), (0, .ref (A 0 0)), (1, vI (n))]) dX9_thick_17 (by decide) rfl ?_
    refine ev_aload_n 1 rfl dX9_thick_18 ?_
    refine ev_iload_n 2 rfl dX9_thick_19 ?_
    refine cp_X9_60 hC (by first | assumption | exact hR _ _ | decide | (simp only [InR]; omega)) dX9_thick_20 (fun S1 h2 eS3 hC4 => ?_)
    have hRS1 := hC4.2.2
    refine ev_iload_n 0 rfl dX9_thick_23 ?_
    refine ev_ireturn dX9_thick_24 ?_
    refine ⟨_, rfl, ?_, ?_⟩
    · simp only [sp_thick]; (repeat' split) <;> first | rfl | omega
    · subst eS3
      simp only [nx_thick]; first | (rw [if_pos (by omega)]; exact hC4) | (rw [if_neg (by omega)]; exact hC4)
  · refine ev_if_ne (tgt := 13) dX9_thick_8 (by decide) (by decide) (fun c => absurd c (by decide)) (fun _ => ?_)
    refine ev_iconst dX9_thick_11 ?_
    refine ev_ireturn dX9_thick_12 ?_
    refine ⟨_, rfl, ?_, ?_⟩
    · simp only [sp_thick]; (repeat' split) <;> first | rfl | omega
    · simp only [nx_thick]; first | (rw [if_pos (by omega)]; exact hC) | (rw [if_neg (by omega)]; exact hC)

set_option maxHeartbeats 4000000 in
set_option maxRecDepth 100000 in
theorem k_speed {E : EV} {h : AH} {A : AD} {S : MS} {n : Int} (hC : CR E A S h) (hI : Inv S) (g1 : InR n) : CM E yX9_speed cX9_speed 3 (some .int) 1 0 0 [.ref (A 0 0), vI (n)] h (qI (fun z h' => z = sp_speed S n ∧ CR E A (nx_speed S n) h')) := by
  have hR := hC.2.2
  have hJ := hI
  obtain ⟨i1, i2, i3, i4, i5, i6, iSt, iSi, iWa, iSh, iLa, iS0, iS1, iZe⟩ := hJ
  refine CM.of (by decide) (Nat.le_of_ble_eq_true rfl) (L := [(0, .ref (A 0 0)), (1, vI (n))]) rfl ?_
  refine ev_iload_n 1 rfl dX9_speed_0 ?_
  refine ev_iconst dX9_speed_1 ?_
  refine ev_bipush dX9_speed_2 (by decide) ?_
  refine c_X9_67 (k_isWithin E (v := n) (a := 1) (b := 60) (by first | assumption | exact hR _ _ | decide | (simp only [InR]; omega)) (by decide) (by decide)) rfl rfl (Nat.le_of_ble_eq_true rfl) (by decide) dX9_speed_4 (kB (fun b4 => ?_) (fun b4 => ?_))
  · refine ev_if_ne (tgt := 12) dX9_speed_7 (by decide) (by decide) (fun _ => ?_) (fun c => absurd c (by decide))
    refine ev_aload_n 0 rfl dX9_speed_12 ?_
    refine cg_X9_64 hC dX9_speed_13 ?_
    refine ev_istore_n (L' := [(2, vI (S 31 0)), (0, .ref (A 0 0)), (1, vI (n))]) dX9_speed_16 (by decide) rfl ?_
    refine ev_aload_n 1 rfl dX9_speed_17 ?_
    refine ev_iload_n 2 rfl dX9_speed_18 ?_
    refine cp_X9_64 hC (by first | assumption | exact hR _ _ | decide | (simp only [InR]; omega)) dX9_speed_19 (fun S1 h2 eS3 hC4 => ?_)
    have hRS1 := hC4.2.2
    refine ev_iload_n 0 rfl dX9_speed_22 ?_
    refine ev_ireturn dX9_speed_23 ?_
    refine ⟨_, rfl, ?_, ?_⟩
    · simp only [sp_speed]; (repeat' split) <;> first | rfl | omega
    · subst eS3
      simp only [nx_speed]; first | (rw [if_pos (by omega)]; exact hC4) | (rw [if_neg (by omega)]; exact hC4)
  · refine ev_if_ne (tgt := 12) dX9_speed_7 (by decide) (by decide) (fun c => absurd c (by decide)) (fun _ => ?_)
    refine ev_iconst dX9_speed_10 ?_
    refine ev_ireturn dX9_speed_11 ?_
    refine ⟨_, rfl, ?_, ?_⟩
    · simp only [sp_speed]; (repeat' split) <;> first | rfl | omega
    · simp only [nx_speed]; first | (rw [if_pos (by omega)]; exact hC) | (rw [if_neg (by omega)]; exact hC)

set_option maxHeartbeats 4000000 in
set_option maxRecDepth 100000 in
theorem k_clock {E : EV} {h : AH} {A : AD} {S : MS} {a lo hi : Int} (hC : CR E A S h) (hI : Inv S) (g1 : InR a) (g2 : InR lo) (g3 : InR hi) : CM E yX9_clock cX9_clock 5 (some .int) 2 0 0 [.ref (A 0 0), vI (a), vI (lo), vI (hi)] h (qI (fun z h' => z = sp_clock S a lo hi ∧ CR E A (nx_clock S a lo hi) h')) := by
  have hR := hC.2.2
  have hJ := hI
  obtain ⟨i1, i2, i3, i4, i5, i6, iSt, iSi, iWa, iSh, iLa, iS0, iS1, iZe⟩ := hJ
  refine CM.of (by decide) (Nat.le_of_ble_eq_true rfl) (L := [(0, .ref (A 0 0)), (1, vI (a)), (2, vI (lo)), (3, vI (hi))]) rfl ?_
  refine ev_aload_n 0 rfl dX9_clock_0 ?_
  refine ev_iload_n 1 rfl dX9_clock_1 ?_
  refine c_X9_77 (k_stationAt (a := a) hC hI (by first | assumption | exact hR _ _ | decide | (simp only [InR]; omega))) hC.k0 rfl rfl (Nat.le_of_ble_eq_true rfl) (by decide) dX9_clock_2 (kN (fun b2 => ?_) (fun b2 => ?_))
  · refine ev_astore (L' := [(4, .ref (A 20 a)), (0, .ref (A 0 0)), (1, vI (a)), (2, vI (lo)), (3, vI (hi))]) dX9_clock_5 (by decide) rfl ?_
    refine ev_aload 0 rfl dX9_clock_7 ?_
    refine ev_ifnull dX9_clock_9 ?_
    refine ev_iload_n 3 rfl dX9_clock_12 ?_
    refine ev_bipush dX9_clock_13 (by decide) ?_
    refine ev_bipush dX9_clock_15 (by decide) ?_
    refine c_X9_67 (k_isWithin E (v := lo) (a := -60) (b := 60) (by first | assumption | exact hR _ _ | decide | (simp only [InR]; omega)) (by decide) (by decide)) rfl rfl (Nat.le_of_ble_eq_true rfl) (by decide) dX9_clock_17 (kB (fun b17 => ?_) (fun b17 => ?_))
    · refine ev_if_eq (tgt := 33) dX9_clock_20 (by decide) (by decide) (fun c => absurd c (by decide)) (fun _ => ?_)
      refine ev_iload_n 4 rfl dX9_clock_23 ?_
      refine ev_iload_n 3 rfl dX9_clock_24 ?_
      refine ev_bipush dX9_clock_25 (by decide) ?_
      refine c_X9_67 (k_isWithin E (v := hi) (a := lo) (b := 60) (by first | assumption | exact hR _ _ | decide | (simp only [InR]; omega)) (by first | assumption | exact hR _ _ | decide | (simp only [InR]; omega)) (by decide)) rfl rfl (Nat.le_of_ble_eq_true rfl) (by decide) dX9_clock_27 (kB (fun b27 => ?_) (fun b27 => ?_))
      · refine ev_if_ne (tgt := 35) dX9_clock_30 (by decide) (by decide) (fun _ => ?_) (fun c => absurd c (by decide))
        refine ev_aload 0 rfl dX9_clock_35 ?_
        refine ev_iload_n 3 rfl dX9_clock_37 ?_
        refine cp_X9_81 hC (by omega) (by first | assumption | exact hR _ _ | decide | (simp only [InR]; omega)) dX9_clock_38 (fun S1 h2 eS3 hC4 => ?_)
        have hRS1 := hC4.2.2
        refine ev_aload 0 rfl dX9_clock_41 ?_
        refine ev_iload_n 4 rfl dX9_clock_43 ?_
        refine cp_X9_84 hC4 (by rw [eS3, upS_ne (by decide)]; omega) (by first | assumption | exact hR _ _ | exact hRS1 _ _ | decide | (simp only [InR]; omega)) dX9_clock_44 (fun S5 h6 eS7 hC8 => ?_)
        have hRS5 := hC8.2.2
        refine ev_iconst dX9_clock_47 ?_
        refine ev_ireturn dX9_clock_48 ?_
        refine ⟨_, rfl, ?_, ?_⟩
        · simp only [sp_clock]; (repeat' split) <;> first | rfl | omega
        · subst eS7 eS3
          simp only [nx_clock]; first | (rw [if_pos (by omega)]; exact hC8) | (rw [if_neg (by omega)]; exact hC8)
      · refine ev_if_ne (tgt := 35) dX9_clock_30 (by decide) (by decide) (fun c => absurd c (by decide)) (fun _ => ?_)
        refine ev_iconst dX9_clock_33 ?_
        refine ev_ireturn dX9_clock_34 ?_
        refine ⟨_, rfl, ?_, ?_⟩
        · simp only [sp_clock]; (repeat' split) <;> first | rfl | omega
        · simp only [nx_clock]; first | (rw [if_pos (by omega)]; exact hC) | (rw [if_neg (by omega)]; exact hC)
    · refine ev_if_eq (tgt := 33) dX9_clock_20 (by decide) (by decide) (fun _ => ?_) (fun c => absurd c (by decide))
      refine ev_iconst dX9_clock_33 ?_
      refine ev_ireturn dX9_clock_34 ?_
      refine ⟨_, rfl, ?_, ?_⟩
      · simp only [sp_clock]; (repeat' split) <;> first | rfl | omega
      · simp only [nx_clock]; first | (rw [if_pos (by omega)]; exact hC) | (rw [if_neg (by omega)]; exact hC)
  · refine ev_astoreN (L' := [(4, .null), (0, .ref (A 0 0)), (1, vI (a)), (2, vI (lo)), (3, vI (hi))]) dX9_clock_5 (by decide) rfl ?_
    refine ev_aloadN 0 rfl dX9_clock_7 ?_
    refine ev_ifnullN (tgt := 33) dX9_clock_9 (by decide) ?_
    refine ev_iconst dX9_clock_33 ?_
    refine ev_ireturn dX9_clock_34 ?_
    refine ⟨_, rfl, ?_, ?_⟩
    · simp only [sp_clock]; (repeat' split) <;> first | rfl | omega
    · simp only [nx_clock]; first | (rw [if_pos (by omega)]; exact hC) | (rw [if_neg (by omega)]; exact hC)

set_option maxHeartbeats 4000000 in
set_option maxRecDepth 100000 in
theorem k_table {E : EV} {h : AH} {A : AD} {S : MS} {w d : Int} (hC : CR E A S h) (hI : Inv S) (g1 : InR w) (g2 : InR d) : CM E yX9_table cX9_table 3 (some .int) 3 0 0 [.ref (A 0 0), vI (w), vI (d)] h (qI (fun z h' => z = sp_table w d ∧ CR E A S h')) := by
  have hR := hC.2.2
  have hJ := hI
  obtain ⟨i1, i2, i3, i4, i5, i6, iSt, iSi, iWa, iSh, iLa, iS0, iS1, iZe⟩ := hJ
  refine CM.of (by decide) (Nat.le_of_ble_eq_true rfl) (L := [(0, .ref (A 0 0)), (1, vI (w)), (2, vI (d))]) rfl ?_
  refine ev_iload_n 1 rfl dX9_table_0 ?_
  refine ev_if_ne (tgt := 20) dX9_table_1 (by first | assumption | exact hR _ _ | decide | (simp only [InR]; omega)) (by decide) (fun c1 => ?_) (fun c1 => ?_)
  · refine ev_iload_n 1 rfl dX9_table_20 ?_
    refine ev_iconst dX9_table_21 ?_
    refine ev_icmp_ne (tgt := 41) dX9_table_22 (by first | assumption | exact hR _ _ | decide | (simp only [InR]; omega)) (by decide) (by decide) (fun c22 => ?_) (fun c22 => ?_)
    · refine ev_iload_n 1 rfl dX9_table_41 ?_
      refine ev_iconst dX9_table_42 ?_
      refine ev_icmp_ne (tgt := 62) dX9_table_43 (by first | assumption | exact hR _ _ | decide | (simp only [InR]; omega)) (by decide) (by decide) (fun c43 => ?_) (fun c43 => ?_)
      · refine ev_ldc (z := -100001) dX9_table_62 k_X9_164 (by decide) ?_
        refine ev_ireturn dX9_table_64 ?_
        refine ⟨_, rfl, ?_, hC⟩
        simp only [sp_table]; (repeat' split) <;> first | rfl | omega
      · refine ev_iload_n 2 rfl dX9_table_46 ?_
        refine ev_iconst dX9_table_47 ?_
        refine ev_bipush dX9_table_48 (by decide) ?_
        refine c_X9_67 (k_isWithin E (v := d) (a := 1) (b := 89) (by first | assumption | exact hR _ _ | decide | (simp only [InR]; omega)) (by decide) (by decide)) rfl rfl (Nat.le_of_ble_eq_true rfl) (by decide) dX9_table_50 (kB (fun b50 => ?_) (fun b50 => ?_))
        · refine ev_if_eq (tgt := 62) dX9_table_53 (by decide) (by decide) (fun c => absurd c (by decide)) (fun _ => ?_)
          refine gs_TANGENTS dX9_table_56 ?_
          refine ev_iload_n 2 rfl dX9_table_59 ?_
          refine tl_TANGENTS dX9_table_60 (by omega) (by omega) ?_
          refine ev_ireturn dX9_table_61 ?_
          refine ⟨_, rfl, ?_, hC⟩
          simp only [sp_table]; (repeat' split) <;> first | rfl | omega
        · refine ev_if_eq (tgt := 62) dX9_table_53 (by decide) (by decide) (fun _ => ?_) (fun c => absurd c (by decide))
          refine ev_ldc (z := -100001) dX9_table_62 k_X9_164 (by decide) ?_
          refine ev_ireturn dX9_table_64 ?_
          refine ⟨_, rfl, ?_, hC⟩
          simp only [sp_table]; (repeat' split) <;> first | rfl | omega
    · refine ev_iload_n 2 rfl dX9_table_25 ?_
      refine ev_iconst dX9_table_26 ?_
      refine ev_sipush dX9_table_27 (by decide) ?_
      refine c_X9_67 (k_isWithin E (v := d) (a := 0) (b := 359) (by first | assumption | exact hR _ _ | decide | (simp only [InR]; omega)) (by decide) (by decide)) rfl rfl (Nat.le_of_ble_eq_true rfl) (by decide) dX9_table_30 (kB (fun b30 => ?_) (fun b30 => ?_))
      · refine ev_if_eq (tgt := 41) dX9_table_33 (by decide) (by decide) (fun c => absurd c (by decide)) (fun _ => ?_)
        refine ev_iload_n 2 rfl dX9_table_36 ?_
        refine c_X9_158 (k_cosine E (d := d) (by omega)) rfl rfl (Nat.le_of_ble_eq_true rfl) (by decide) dX9_table_37 (kP ?_)
        refine ev_ireturn dX9_table_40 ?_
        refine ⟨_, rfl, ?_, hC⟩
        simp only [sp_table]; (repeat' split) <;> first | rfl | omega
      · refine ev_if_eq (tgt := 41) dX9_table_33 (by decide) (by decide) (fun _ => ?_) (fun c => absurd c (by decide))
        refine ev_iload_n 1 rfl dX9_table_41 ?_
        refine ev_iconst dX9_table_42 ?_
        refine ev_icmp_ne (tgt := 62) dX9_table_43 (by first | assumption | exact hR _ _ | decide | (simp only [InR]; omega)) (by decide) (by decide) (fun c43 => ?_) (fun c43 => ?_)
        · refine ev_ldc (z := -100001) dX9_table_62 k_X9_164 (by decide) ?_
          refine ev_ireturn dX9_table_64 ?_
          refine ⟨_, rfl, ?_, hC⟩
          simp only [sp_table]; (repeat' split) <;> first | rfl | omega
        · refine ev_iload_n 2 rfl dX9_table_46 ?_
          refine ev_iconst dX9_table_47 ?_
          refine ev_bipush dX9_table_48 (by decide) ?_
          refine c_X9_67 (k_isWithin E (v := d) (a := 1) (b := 89) (by first | assumption | exact hR _ _ | decide | (simp only [InR]; omega)) (by decide) (by decide)) rfl rfl (Nat.le_of_ble_eq_true rfl) (by decide) dX9_table_50 (kB (fun b50 => ?_) (fun b50 => ?_))
          · refine ev_if_eq (tgt := 62) dX9_table_53 (by decide) (by decide) (fun c => absurd c (by decide)) (fun _ => ?_)
            refine gs_TANGENTS dX9_table_56 ?_
            refine ev_iload_n 2 rfl dX9_table_59 ?_
            refine tl_TANGENTS dX9_table_60 (by omega) (by omega) ?_
            refine ev_ireturn dX9_table_61 ?_
            refine ⟨_, rfl, ?_, hC⟩
            simp only [sp_table]; (repeat' split) <;> first | rfl | omega
          · refine ev_if_eq (tgt := 62) dX9_table_53 (by decide) (by decide) (fun _ => ?_) (fun c => absurd c (by decide))
            refine ev_ldc (z := -100001) dX9_table_62 k_X9_164 (by decide) ?_
            refine ev_ireturn dX9_table_64 ?_
            refine ⟨_, rfl, ?_, hC⟩
            simp only [sp_table]; (repeat' split) <;> first | rfl | omega
  · refine ev_iload_n 2 rfl dX9_table_4 ?_
    refine ev_iconst dX9_table_5 ?_
    refine ev_sipush dX9_table_6 (by decide) ?_
    refine c_X9_67 (k_isWithin E (v := d) (a := 0) (b := 359) (by first | assumption | exact hR _ _ | decide | (simp only [InR]; omega)) (by decide) (by decide)) rfl rfl (Nat.le_of_ble_eq_true rfl) (by decide) dX9_table_9 (kB (fun b9 => ?_) (fun b9 => ?_))
    · refine ev_if_eq (tgt := 20) dX9_table_12 (by decide) (by decide) (fun c => absurd c (by decide)) (fun _ => ?_)
      refine ev_iload_n 2 rfl dX9_table_15 ?_
      refine c_X9_154 (k_sineB E (d := d) (by omega)) rfl rfl (Nat.le_of_ble_eq_true rfl) (by decide) dX9_table_16 (kP ?_)
      refine ev_ireturn dX9_table_19 ?_
      refine ⟨_, rfl, ?_, hC⟩
      simp only [sp_table]; (repeat' split) <;> first | rfl | omega
    · refine ev_if_eq (tgt := 20) dX9_table_12 (by decide) (by decide) (fun _ => ?_) (fun c => absurd c (by decide))
      refine ev_iload_n 1 rfl dX9_table_20 ?_
      refine ev_iconst dX9_table_21 ?_
      refine ev_icmp_ne (tgt := 41) dX9_table_22 (by first | assumption | exact hR _ _ | decide | (simp only [InR]; omega)) (by decide) (by decide) (fun c22 => ?_) (fun c22 => ?_)
      · refine ev_iload_n 1 rfl dX9_table_41 ?_
        refine ev_iconst dX9_table_42 ?_
        refine ev_icmp_ne (tgt := 62) dX9_table_43 (by first | assumption | exact hR _ _ | decide | (simp only [InR]; omega)) (by decide) (by decide) (fun c43 => ?_) (fun c43 => ?_)
        · refine ev_ldc (z := -100001) dX9_table_62 k_X9_164 (by decide) ?_
          refine ev_ireturn dX9_table_64 ?_
          refine ⟨_, rfl, ?_, hC⟩
          simp only [sp_table]; (repeat' split) <;> first | rfl | omega
        · refine ev_iload_n 2 rfl dX9_table_46 ?_
          refine ev_iconst dX9_table_47 ?_
          refine ev_bipush dX9_table_48 (by decide) ?_
          refine c_X9_67 (k_isWithin E (v := d) (a := 1) (b := 89) (by first | assumption | exact hR _ _ | decide | (simp only [InR]; omega)) (by decide) (by decide)) rfl rfl (Nat.le_of_ble_eq_true rfl) (by decide) dX9_table_50 (kB (fun b50 => ?_) (fun b50 => ?_))
          · refine ev_if_eq (tgt := 62) dX9_table_53 (by decide) (by decide) (fun c => absurd c (by decide)) (fun _ => ?_)
            refine gs_TANGENTS dX9_table_56 ?_
            refine ev_iload_n 2 rfl dX9_table_59 ?_
            refine tl_TANGENTS dX9_table_60 (by omega) (by omega) ?_
            refine ev_ireturn dX9_table_61 ?_
            refine ⟨_, rfl, ?_, hC⟩
            simp only [sp_table]; (repeat' split) <;> first | rfl | omega
          · refine ev_if_eq (tgt := 62) dX9_table_53 (by decide) (by decide) (fun _ => ?_) (fun c => absurd c (by decide))
            refine ev_ldc (z := -100001) dX9_table_62 k_X9_164 (by decide) ?_
            refine ev_ireturn dX9_table_64 ?_
            refine ⟨_, rfl, ?_, hC⟩
            simp only [sp_table]; (repeat' split) <;> first | rfl | omega
      · refine ev_iload_n 2 rfl dX9_table_25 ?_
        refine ev_iconst dX9_table_26 ?_
        refine ev_sipush dX9_table_27 (by decide) ?_
        refine c_X9_67 (k_isWithin E (v := d) (a := 0) (b := 359) (by first | assumption | exact hR _ _ | decide | (simp only [InR]; omega)) (by decide) (by decide)) rfl rfl (Nat.le_of_ble_eq_true rfl) (by decide) dX9_table_30 (kB (fun b30 => ?_) (fun b30 => ?_))
        · refine ev_if_eq (tgt := 41) dX9_table_33 (by decide) (by decide) (fun c => absurd c (by decide)) (fun _ => ?_)
          refine ev_iload_n 2 rfl dX9_table_36 ?_
          refine c_X9_158 (k_cosine E (d := d) (by omega)) rfl rfl (Nat.le_of_ble_eq_true rfl) (by decide) dX9_table_37 (kP ?_)
          refine ev_ireturn dX9_table_40 ?_
          refine ⟨_, rfl, ?_, hC⟩
          simp only [sp_table]; (repeat' split) <;> first | rfl | omega
        · refine ev_if_eq (tgt := 41) dX9_table_33 (by decide) (by decide) (fun _ => ?_) (fun c => absurd c (by decide))
          refine ev_iload_n 1 rfl dX9_table_41 ?_
          refine ev_iconst dX9_table_42 ?_
          refine ev_icmp_ne (tgt := 62) dX9_table_43 (by first | assumption | exact hR _ _ | decide | (simp only [InR]; omega)) (by decide) (by decide) (fun c43 => ?_) (fun c43 => ?_)
          · refine ev_ldc (z := -100001) dX9_table_62 k_X9_164 (by decide) ?_
            refine ev_ireturn dX9_table_64 ?_
            refine ⟨_, rfl, ?_, hC⟩
            simp only [sp_table]; (repeat' split) <;> first | rfl | omega
          · refine ev_iload_n 2 rfl dX9_table_46 ?_
            refine ev_iconst dX9_table_47 ?_
            refine ev_bipush dX9_table_48 (by decide) ?_
            refine c_X9_67 (k_isWithin E (v := d) (a := 1) (b := 89) (by first | assumption | exact hR _ _ | decide | (simp only [InR]; omega)) (by decide) (by decide)) rfl rfl (Nat.le_of_ble_eq_true rfl) (by decide) dX9_table_50 (kB (fun b50 => ?_) (fun b50 => ?_))
            · refine ev_if_eq (tgt := 62) dX9_table_53 (by decide) (by decide) (fun c => absurd c (by decide)) (fun _ => ?_)
              refine gs_TANGENTS dX9_table_56 ?_
              refine ev_iload_n 2 rfl dX9_table_59 ?_
              refine tl_TANGENTS dX9_table_60 (by omega) (by omega) ?_
              refine ev_ireturn dX9_table_61 ?_
              refine ⟨_, rfl, ?_, hC⟩
              simp only [sp_table]; (repeat' split) <;> first | rfl | omega
            · refine ev_if_eq (tgt := 62) dX9_table_53 (by decide) (by decide) (fun _ => ?_) (fun c => absurd c (by decide))
              refine ev_ldc (z := -100001) dX9_table_62 k_X9_164 (by decide) ?_
              refine ev_ireturn dX9_table_64 ?_
              refine ⟨_, rfl, ?_, hC⟩
              simp only [sp_table]; (repeat' split) <;> first | rfl | omega

