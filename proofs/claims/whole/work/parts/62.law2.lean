def xI (xs : Nat → Int32) (z : Int) : Int := (xs z.toNat).toInt
theorem xI_in {xs : Nat → Int32} {z : Int} : InR (xI xs z) := by
  have h1 := Int32.le_toInt (xs z.toNat)
  have h2 := Int32.toInt_lt (xs z.toNat)
  unfold xI InR
  omega
/-- the script: known, and not of what may change -/
def Zs (b n : Nat) (xs : Nat → Int32) : State → (Nat → Prop) → Prop := fun s A => va_X b n xs s s.heap ∧ b < s.heap.size ∧ ¬ A b
section ZS
variable {b n : Nat} {xs : Nat → Int32} {E : EV} {own : String} {cc : ByteArray} {nL : Nat} {ret : Option FieldType} {mn : String} {Q : Option Value → AH → Prop} {d kc ks pc : Nat} {L : List (Nat × Value)} {st : List Value} {h : AH}
theorem ez_sld {z : Int} (hd : decode cc pc = .ok (.iaload, 1)) (hn : n < 2 ^ 31) (h0 : 0 ≤ z) (h1 : z < n) (kk : EvZ (Zs b n xs) E own cc nL ret mn Q d kc ks (pc + 1) L (vI (xI xs z) :: st) h) : EvZ (Zs b n xs) E own cc nL ret mn Q d kc ks pc L (vI z :: .ref b :: st) h := by
  intro p l e s m args below meth c H locs cells slots mc ms A ls hC hZ
  have hC0 := hC
  obtain ⟨hx, hb, hr, hml, hown, hnm, hlk, hts, hK, hG, hA, hH, hS, hl, hc1, hc2⟩ := hC
  have hz : InR z := by unfold InR; omega
  refine va_sld hx hb hZ.1 hZ.2.1 hZ.2.2 hS (vp_in_iI h0 h1 hn) hd ?_
  have k2 := kk p l e s m args below meth c H locs cells slots mc ms A ls hC0 hZ
  dsimp only [xI, vI] at k2
  rw [iI_of] at k2
  rw [iI_nat h0 hz]
  exact k2
theorem ez_slen (hd : decode cc pc = .ok (.arraylength, 1)) (kk : EvZ (Zs b n xs) E own cc nL ret mn Q d kc ks (pc + 1) L (vI (n : Int) :: st) h) : EvZ (Zs b n xs) E own cc nL ret mn Q d kc ks pc L (.ref b :: st) h := by
  intro p l e s m args below meth c H locs cells slots mc ms A ls hC hZ
  have hC0 := hC
  obtain ⟨hx, hb, hr, hml, hown, hnm, hlk, hts, hK, hG, hA, hH, hS, hl, hc1, hc2⟩ := hC
  refine va_slen hx hb hZ.1 hZ.2.1 hZ.2.2 hS hd ?_
  have k2 := kk p l e s m args below meth c H locs cells slots mc ms A ls hC0 hZ
  have e0 : iI (n : Int) = n.toInt32 := Int32.ofInt_eq_ofNat
  dsimp only [vI] at k2
  rw [e0] at k2
  exact k2
end ZS
section ZN
variable {Z : State → (Nat → Prop) → Prop} {E : EV} {own : String} {cc : ByteArray} {nL : Nat} {ret : Option FieldType} {mn : String} {Q : Option Value → AH → Prop} {d kc ks pc : Nat} {L : List (Nat × Value)} {st : List Value} {h : AH}
theorem ez_drop {kc0 ks0 : Nat} (h1 : kc ≤ kc0) (h2 : ks ≤ ks0) (k : EvZ Z E own cc nL ret mn Q d kc ks pc L st h) : EvZ Z E own cc nL ret mn Q d kc0 ks0 pc L st h := by
  intro p l e s m args below meth c H locs cells slots mc ms A ls hC hZ
  obtain ⟨hx, hb, hr, hml, hown, hnm, hlk, hts, hK, hG, hA, hH, hS, hl, hc1, hc2⟩ := hC
  exact k p l e s m args below meth c H locs cells slots mc ms A ls ⟨hx, hb, hr, hml, hown, hnm, hlk, hts, hK, hG, hA, hH, hS, hl, by omega, by omega⟩ hZ
theorem ez_same {off : Int} {tgt : Nat} {a : Int} (hd : decode cc pc = .ok (.if_icmp .eq off, 3)) (ht : (pc : Int) + off = (tgt : Int)) (kt : EvZ Z E own cc nL ret mn Q d kc ks tgt L st h) : EvZ Z E own cc nL ret mn Q d kc ks pc L (vI a :: vI a :: st) h := by
  intro p l e s m args below meth c H locs cells slots mc ms A ls hC hZ
  exact lv_icmp_eq hC.1 hC.2.1 hd ht (fun _ => kt p l e s m args below meth c H locs cells slots mc ms A ls hC hZ) (fun z => absurd rfl z)
theorem zn_L_7 (hd : decode cc pc = .ok (.new 7, 3)) (kk : ∀ q, h q = none → EvZ Z E RL cc nL ret mn Q d kc ks (pc + 3) L (.ref q :: st) (ah_up h q (ob 9 [.null, .null, .null, .null, .null, .null, .null, .null, .null, .null, vI 0, vI 0, vI 0, vI 0, vI 0, vI 0, vI 0]))) : EvZ Z E RL cc nL ret mn Q d (kc + 1) (ks + 17) pc L st h := ez_new inX9 tyX9 tyX9_ok (List.mem_filter.mpr ⟨List.mem_of_getElem? (i := 57) (by decide +kernel), by decide +kernel⟩) inst_X9 ini_X9 (ci := 9) rfl (by decide) hd kk
theorem zn_L_10 (hd : decode cc pc = .ok (.new 10, 3)) (kk : ∀ q, h q = none → EvZ Z E RL cc nL ret mn Q d kc ks (pc + 3) L (.ref q :: st) (ah_up h q (ob 10 [.null, .null, vI 0, .null, .null, .null, .null, vI 0, .null, .null, .null, .null, .null, .null, .null, .null, vI 0, vI 0, vI 0, vI 0, .null, vI 0, .null, .null, .null, .null, .null, .null, .null, .null, .null, vI 0, .null, .null, vI 0, .null, .null, .null, .null, .null, vI 0, .null, .null, .null, .null, .null]))) : EvZ Z E RL cc nL ret mn Q d (kc + 1) (ks + 46) pc L st h := ez_new inX10 tyX10 tyX10_ok (List.mem_filter.mpr ⟨List.mem_of_getElem? (i := 728) (by decide +kernel), by decide +kernel⟩) inst_X10 ini_X10 (ci := 10) rfl (by decide) hd kk
end ZN
theorem eqx.mono {l l1 : List Nat} {S S' : MS} (h : eqx l S S') (hs : ∀ x ∈ l, x ∈ l1) : eqx l1 S S' := fun k hk => h k (fun q => hk (hs k q))
theorem slo_apart : ∀ k, k < 25 → ∀ s ∈ slo k, s ∉ scr := by decide
/-- the two pictures made one -/
theorem comb {E : EV} {A : AD} {o : Nat} {ad : Nat → Nat} {S0 S1 S2 : MS} {hc hm : AH} (hC : CR E A S1 hc) (hM : MR E o ad S2 hm) (h1 : eqx scc S0 S1) (h2 : eqx scr S0 S2) (hI : Inv S0) (hJ : CJ S1) : ∃ S3, CR E A S3 hc ∧ MR E o ad S3 hm ∧ Inv S3 ∧ CJ S3 := by
  have hR1 := hC.2.2
  have hR2 := hM.2.2.2.2
  let S3 : MS := fun k => if k ∈ scc then S1 k else S2 k
  have e1 : ∀ k, k ∈ scc → S3 k = S1 k := fun k hk => if_pos hk
  have e2 : ∀ k, k ∉ scc → S3 k = S2 k := fun k hk => if_neg hk
  have e3 : ∀ k, k ∉ scr → S3 k = S1 k := fun k hk => by
    by_cases q : k ∈ scc
    · exact e1 k q
    · rw [e2 k q, h2 k hk, h1 k q]
  have hR : ∀ k z, InR (S3 k z) := fun k z => by
    by_cases q : k ∈ scc
    · rw [e1 k q]
      exact hR1 k z
    · rw [e2 k q]
      exact hR2 k z
  have hlt : ∀ k, k < 46 → k ∉ scc := by decide
  refine ⟨S3, hC.eqv (fun k hk s hs => e3 s (slo_apart k hk s hs)) hR, hM.cg (fun k hk => e2 k (hlt k hk)) hR, (hI.x h2).xc e2, hJ.x (l := scr) e3 (by decide) (by decide) (by decide) (by decide) (by decide)⟩
theorem andZ31 (a : Int) : 0 ≤ andZ a 31 ∧ andZ a 31 ≤ 31 := by
  unfold andZ
  have h : ((iI a &&& iI 31).toBitVec).toNat ≤ 31 := by
    rw [Int32.toBitVec_and, BitVec.toNat_and]
    exact Nat.le_trans Nat.and_le_right (by decide)
  have h2 : (iI a &&& iI 31).toInt = (((iI a &&& iI 31).toBitVec).toNat : Int) := by
    show (iI a &&& iI 31).toBitVec.toInt = _
    exact BitVec.toInt_eq_toNat_of_lt (by omega)
  omega
abbrev LL (b x o : Nat) (i : Int) : List (Nat × Value) := [(3, vI i), (2, .ref o), (1, .ref x), (0, .ref b)]
abbrev QLw : Option Value → AH → Prop := fun r _ => r = some (vI 1)
theorem CJ_thick {S : MS} {n : Int} (hJ : CJ S) : CJ (nx_thick S n) := by
  have h : eqx [16] S (nx_thick S n) := by
    unfold nx_thick
    split
    · exact eqx.rf.up (by decide)
    · exact eqx.rf
  exact hJ.x h (by decide) (by decide) (by decide) (by decide) (by decide)
theorem CJ_speed {S : MS} {n : Int} (hJ : CJ S) : CJ (nx_speed S n) := by
  have h : eqx [31] S (nx_speed S n) := by
    unfold nx_speed
    split
    · exact eqx.rf.up (by decide)
    · exact eqx.rf
  exact hJ.x h (by decide) (by decide) (by decide) (by decide) (by decide)
theorem CJ_clock {S : MS} {a lo hi : Int} (hJ : CJ S) : CJ (nx_clock S a lo hi) := by
  have h : eqx [5, 6] S (nx_clock S a lo hi) := by
    unfold nx_clock
    split
    · exact (eqx.rf.up (by decide)).up (by decide)
    · exact eqx.rf
  exact hJ.x h (by decide) (by decide) (by decide) (by decide) (by decide)
theorem CJ_share {S : MS} {a b : Int} (hJ : CJ S) : CJ (nx_share S a b) := by
  have h : eqx [40, 41, 42] S (nx_share S a b) := by
    unfold nx_share
    split
    · exact ((eqx.rf.up (by decide)).up (by decide)).up (by decide)
    · exact eqx.rf
  exact hJ.x h (by decide) (by decide) (by decide) (by decide) (by decide)
set_option maxHeartbeats 4000000 in
theorem zc_station {E : EV} {mn : String} {b n : Nat} {xs : Nat → Int32} {o : Nat} {A : AD} {ad : Nat → Nat} {S : MS} {hc hm : AH} {m : Nat} {i : Int} (hn : n ≤ 4096) (h0 : 0 ≤ i) (h1 : i + 8 ≤ n) (hC : CR E A S hc) (hM : MR E o ad S hm) (hI : Inv S) (hJ : CJ S) (dj : Dj hc hm) (kk : ∀ (A1 : AD) (S1 : MS) (hc1 hm1 : AH), A1 0 0 = A 0 0 → CR E A1 S1 hc1 → MR E o ad S1 hm1 → Inv S1 → CJ S1 → Dj hc1 hm1 → EvZ (Zs b n xs) E RL cL_law 4 (some .boolean) mn QLw 20 (6 * m) (48 * m) 1368 (LL b (A 0 0) o i) [] (jo hc1 hm1)) : EvZ (Zs b n xs) E RL cL_law 4 (some .boolean) mn QLw 20 (6 * m + 6) (48 * m + 48) 176 (LL b (A 0 0) o i) [] (jo hc hm) := by
  refine ez_drop (kc := 6 * m + 1) (ks := 48 * m + 5) (by omega) (by omega) ?_
  refine ez_aload_n 2 rfl dL_law_176 ?_
  refine ez_aload_n 3 rfl dL_law_177 ?_
  refine ez_iload_n 0 rfl dL_law_178 ?_
  refine ez_iconst dL_law_179 ?_
  refine ez_iadd dL_law_180 ?_
  refine ez_sld dL_law_181 (by omega) (by omega) (by omega) ?_
  refine ez_aload_n 3 rfl dL_law_182 ?_
  refine ez_iload_n 0 rfl dL_law_183 ?_
  refine ez_iconst dL_law_184 ?_
  refine ez_iadd dL_law_185 ?_
  refine ez_sld dL_law_186 (by omega) (by omega) (by omega) ?_
  refine z_L_13 (kc := 6 * m) (ks := 48 * m) (k_station hC hI hJ xI_in xI_in) (hC.1 0 0 ⟨by decide, rfl⟩) rfl rfl (by simp) (by decide) dL_law_187 dj (fun r1 hc1 q1 dj1 => ?_)
  obtain ⟨z1, rfl, ez1, A1, S1, hC1, hA1, hx1, hJ1⟩ := q1
  show EvZ _ _ _ _ _ _ _ _ _ _ _ _ _ [vI z1] _
  refine ez_aload_n 1 rfl dL_law_190 ?_
  refine ez_aload_n 3 rfl dL_law_191 ?_
  refine ez_iload_n 0 rfl dL_law_192 ?_
  refine ez_iconst dL_law_193 ?_
  refine ez_iadd dL_law_194 ?_
  refine ez_sld dL_law_195 (by omega) (by omega) (by omega) ?_
  refine ez_aload_n 3 rfl dL_law_196 ?_
  refine ez_iload_n 0 rfl dL_law_197 ?_
  refine ez_iconst dL_law_198 ?_
  refine ez_iadd dL_law_199 ?_
  refine ez_sld dL_law_200 (by omega) (by omega) (by omega) ?_
  rw [jo_comm dj1]
  refine z_L_17 (kc := 6 * m) (ks := 48 * m) (rest := [vI z1]) (m_station hM hI xI_in xI_in) hM.1 rfl rfl (by show (1 : Nat) ≤ 8; decide) (by decide) dL_law_201 dj1.symm (fun r2 hm1 q2 dj2 => ?_)
  obtain ⟨z2, rfl, ez2, hM1⟩ := q2
  have e12 : z1 = z2 := ez1.trans ez2.symm
  clear ez1 ez2
  subst e12
  refine ez_same (tgt := 1368) dL_law_204 (by decide) ?_
  rw [← jo_comm dj2.symm]
  obtain ⟨S3, c1, c2, c3, c4⟩ := comb (S0 := (nx_station S (xI xs (i + 1)) (xI xs (i + 2)))) hC1 hM1 (hx1.mono (by decide)) eqx.rf (Inv_station hI) hJ1
  exact kk A1 S3 hc1 hm1 hA1 c1 c2 c3 c4 dj2.symm
set_option maxHeartbeats 4000000 in
theorem zc_clock {E : EV} {mn : String} {b n : Nat} {xs : Nat → Int32} {o : Nat} {A : AD} {ad : Nat → Nat} {S : MS} {hc hm : AH} {m : Nat} {i : Int} (hn : n ≤ 4096) (h0 : 0 ≤ i) (h1 : i + 8 ≤ n) (hC : CR E A S hc) (hM : MR E o ad S hm) (hI : Inv S) (hJ : CJ S) (dj : Dj hc hm) (kk : ∀ (A1 : AD) (S1 : MS) (hc1 hm1 : AH), A1 0 0 = A 0 0 → CR E A1 S1 hc1 → MR E o ad S1 hm1 → Inv S1 → CJ S1 → Dj hc1 hm1 → EvZ (Zs b n xs) E RL cL_law 4 (some .boolean) mn QLw 20 (6 * m) (48 * m) 1368 (LL b (A 0 0) o i) [] (jo hc1 hm1)) : EvZ (Zs b n xs) E RL cL_law 4 (some .boolean) mn QLw 20 (6 * m + 6) (48 * m + 48) 209 (LL b (A 0 0) o i) [] (jo hc hm) := by
  refine ez_drop (kc := 6 * m + 0) (ks := 48 * m + 0) (by omega) (by omega) ?_
  refine ez_aload_n 2 rfl dL_law_209 ?_
  refine ez_aload_n 3 rfl dL_law_210 ?_
  refine ez_iload_n 0 rfl dL_law_211 ?_
  refine ez_iconst dL_law_212 ?_
  refine ez_iadd dL_law_213 ?_
  refine ez_sld dL_law_214 (by omega) (by omega) (by omega) ?_
  refine ez_aload_n 3 rfl dL_law_215 ?_
  refine ez_iload_n 0 rfl dL_law_216 ?_
  refine ez_iconst dL_law_217 ?_
  refine ez_iadd dL_law_218 ?_
  refine ez_sld dL_law_219 (by omega) (by omega) (by omega) ?_
  refine ez_aload_n 3 rfl dL_law_220 ?_
  refine ez_iload_n 0 rfl dL_law_221 ?_
  refine ez_iconst dL_law_222 ?_
  refine ez_iadd dL_law_223 ?_
  refine ez_sld dL_law_224 (by omega) (by omega) (by omega) ?_
  refine z_L_18 (kc := 6 * m) (ks := 48 * m) (k_clock hC hI  xI_in xI_in xI_in) (hC.1 0 0 ⟨by decide, rfl⟩) rfl rfl (by simp) (by decide) dL_law_225 dj (fun r1 hc1 q1 dj1 => ?_)
  obtain ⟨z1, rfl, ez1, hC1⟩ := q1
  show EvZ _ _ _ _ _ _ _ _ _ _ _ _ _ [vI z1] _
  refine ez_aload_n 1 rfl dL_law_228 ?_
  refine ez_aload_n 3 rfl dL_law_229 ?_
  refine ez_iload_n 0 rfl dL_law_230 ?_
  refine ez_iconst dL_law_231 ?_
  refine ez_iadd dL_law_232 ?_
  refine ez_sld dL_law_233 (by omega) (by omega) (by omega) ?_
  refine ez_aload_n 3 rfl dL_law_234 ?_
  refine ez_iload_n 0 rfl dL_law_235 ?_
  refine ez_iconst dL_law_236 ?_
  refine ez_iadd dL_law_237 ?_
  refine ez_sld dL_law_238 (by omega) (by omega) (by omega) ?_
  refine ez_aload_n 3 rfl dL_law_239 ?_
  refine ez_iload_n 0 rfl dL_law_240 ?_
  refine ez_iconst dL_law_241 ?_
  refine ez_iadd dL_law_242 ?_
  refine ez_sld dL_law_243 (by omega) (by omega) (by omega) ?_
  rw [jo_comm dj1]
  refine z_L_22 (kc := 6 * m) (ks := 48 * m) (rest := [vI z1]) (m_clock hM hI xI_in xI_in xI_in) hM.1 rfl rfl (by show (1 : Nat) ≤ 8; decide) (by decide) dL_law_244 dj1.symm (fun r2 hm1 q2 dj2 => ?_)
  obtain ⟨z2, rfl, ez2, hM1⟩ := q2
  have e12 : z1 = z2 := ez1.trans ez2.symm
  clear ez1 ez2
  subst e12
  refine ez_same (tgt := 1368) dL_law_247 (by decide) ?_
  rw [← jo_comm dj2.symm]
  obtain ⟨S3, c1, c2, c3, c4⟩ := comb (S0 := (nx_clock S (xI xs (i + 1)) (xI xs (i + 2)) (xI xs (i + 3)))) hC1 hM1 eqx.rf eqx.rf (Inv_clock hI) (CJ_clock hJ)
  exact kk A S3 hc1 hm1 rfl c1 c2 c3 c4 dj2.symm
set_option maxHeartbeats 4000000 in
theorem zc_glow {E : EV} {mn : String} {b n : Nat} {xs : Nat → Int32} {o : Nat} {A : AD} {ad : Nat → Nat} {S : MS} {hc hm : AH} {m : Nat} {i : Int} (hn : n ≤ 4096) (h0 : 0 ≤ i) (h1 : i + 8 ≤ n) (hC : CR E A S hc) (hM : MR E o ad S hm) (hI : Inv S) (hJ : CJ S) (dj : Dj hc hm) (kk : ∀ (A1 : AD) (S1 : MS) (hc1 hm1 : AH), A1 0 0 = A 0 0 → CR E A1 S1 hc1 → MR E o ad S1 hm1 → Inv S1 → CJ S1 → Dj hc1 hm1 → EvZ (Zs b n xs) E RL cL_law 4 (some .boolean) mn QLw 20 (6 * m) (48 * m) 1368 (LL b (A 0 0) o i) [] (jo hc1 hm1)) : EvZ (Zs b n xs) E RL cL_law 4 (some .boolean) mn QLw 20 (6 * m + 6) (48 * m + 48) 252 (LL b (A 0 0) o i) [] (jo hc hm) := by
  refine ez_drop (kc := 6 * m + 1) (ks := 48 * m + 5) (by omega) (by omega) ?_
  refine ez_aload_n 2 rfl dL_law_252 ?_
  refine ez_aload_n 3 rfl dL_law_253 ?_
  refine ez_iload_n 0 rfl dL_law_254 ?_
  refine ez_iconst dL_law_255 ?_
  refine ez_iadd dL_law_256 ?_
  refine ez_sld dL_law_257 (by omega) (by omega) (by omega) ?_
  refine ez_aload_n 3 rfl dL_law_258 ?_
  refine ez_iload_n 0 rfl dL_law_259 ?_
  refine ez_iconst dL_law_260 ?_
  refine ez_iadd dL_law_261 ?_
  refine ez_sld dL_law_262 (by omega) (by omega) (by omega) ?_
  refine ez_aload_n 3 rfl dL_law_263 ?_
  refine ez_iload_n 0 rfl dL_law_264 ?_
  refine ez_iconst dL_law_265 ?_
  refine ez_iadd dL_law_266 ?_
  refine ez_sld dL_law_267 (by omega) (by omega) (by omega) ?_
  refine ez_aload_n 3 rfl dL_law_268 ?_
  refine ez_iload_n 0 rfl dL_law_269 ?_
  refine ez_iconst dL_law_270 ?_
  refine ez_iadd dL_law_271 ?_
  refine ez_sld dL_law_272 (by omega) (by omega) (by omega) ?_
  refine ez_aload_n 3 rfl dL_law_273 ?_
  refine ez_iload_n 0 rfl dL_law_274 ?_
  refine ez_iconst dL_law_275 ?_
  refine ez_iadd dL_law_276 ?_
  refine ez_sld dL_law_277 (by omega) (by omega) (by omega) ?_
  refine z_L_23 (kc := 6 * m) (ks := 48 * m) (k_glow hC hI hJ xI_in xI_in xI_in xI_in xI_in) (hC.1 0 0 ⟨by decide, rfl⟩) rfl rfl (by simp) (by decide) dL_law_278 dj (fun r1 hc1 q1 dj1 => ?_)
  obtain ⟨z1, rfl, ez1, A1, S1, hC1, hA1, hx1, hJ1⟩ := q1
  show EvZ _ _ _ _ _ _ _ _ _ _ _ _ _ [vI z1] _
  refine ez_aload_n 1 rfl dL_law_281 ?_
  refine ez_aload_n 3 rfl dL_law_282 ?_
  refine ez_iload_n 0 rfl dL_law_283 ?_
  refine ez_iconst dL_law_284 ?_
  refine ez_iadd dL_law_285 ?_
  refine ez_sld dL_law_286 (by omega) (by omega) (by omega) ?_
  refine ez_aload_n 3 rfl dL_law_287 ?_
  refine ez_iload_n 0 rfl dL_law_288 ?_
  refine ez_iconst dL_law_289 ?_
  refine ez_iadd dL_law_290 ?_
  refine ez_sld dL_law_291 (by omega) (by omega) (by omega) ?_
  refine ez_aload_n 3 rfl dL_law_292 ?_
  refine ez_iload_n 0 rfl dL_law_293 ?_
  refine ez_iconst dL_law_294 ?_
  refine ez_iadd dL_law_295 ?_
  refine ez_sld dL_law_296 (by omega) (by omega) (by omega) ?_
  refine ez_aload_n 3 rfl dL_law_297 ?_
  refine ez_iload_n 0 rfl dL_law_298 ?_
  refine ez_iconst dL_law_299 ?_
  refine ez_iadd dL_law_300 ?_
  refine ez_sld dL_law_301 (by omega) (by omega) (by omega) ?_
  refine ez_aload_n 3 rfl dL_law_302 ?_
  refine ez_iload_n 0 rfl dL_law_303 ?_
  refine ez_iconst dL_law_304 ?_
  refine ez_iadd dL_law_305 ?_
  refine ez_sld dL_law_306 (by omega) (by omega) (by omega) ?_
  rw [jo_comm dj1]
  refine z_L_27 (kc := 6 * m) (ks := 48 * m) (rest := [vI z1]) (m_glow hM hI xI_in xI_in xI_in xI_in xI_in) hM.1 rfl rfl (by show (1 : Nat) ≤ 8; decide) (by decide) dL_law_307 dj1.symm (fun r2 hm1 q2 dj2 => ?_)
  obtain ⟨z2, rfl, ez2, hM1⟩ := q2
  have e12 : z1 = z2 := ez1.trans ez2.symm
  clear ez1 ez2
  subst e12
  refine ez_same (tgt := 1368) dL_law_310 (by decide) ?_
  rw [← jo_comm dj2.symm]
  obtain ⟨S3, c1, c2, c3, c4⟩ := comb (S0 := (nx_glow S (xI xs (i + 1)) (xI xs (i + 2)) (xI xs (i + 3)) (xI xs (i + 4)) (xI xs (i + 5)))) hC1 hM1 (hx1.mono (by decide)) eqx.rf (Inv_glow hI) hJ1
  exact kk A1 S3 hc1 hm1 hA1 c1 c2 c3 c4 dj2.symm
set_option maxHeartbeats 4000000 in
theorem zc_arc {E : EV} {mn : String} {b n : Nat} {xs : Nat → Int32} {o : Nat} {A : AD} {ad : Nat → Nat} {S : MS} {hc hm : AH} {m : Nat} {i : Int} (hn : n ≤ 4096) (h0 : 0 ≤ i) (h1 : i + 8 ≤ n) (hC : CR E A S hc) (hM : MR E o ad S hm) (hI : Inv S) (hJ : CJ S) (dj : Dj hc hm) (kk : ∀ (A1 : AD) (S1 : MS) (hc1 hm1 : AH), A1 0 0 = A 0 0 → CR E A1 S1 hc1 → MR E o ad S1 hm1 → Inv S1 → CJ S1 → Dj hc1 hm1 → EvZ (Zs b n xs) E RL cL_law 4 (some .boolean) mn QLw 20 (6 * m) (48 * m) 1368 (LL b (A 0 0) o i) [] (jo hc1 hm1)) : EvZ (Zs b n xs) E RL cL_law 4 (some .boolean) mn QLw 20 (6 * m + 6) (48 * m + 48) 315 (LL b (A 0 0) o i) [] (jo hc hm) := by
  refine ez_drop (kc := 6 * m + 1) (ks := 48 * m + 8) (by omega) (by omega) ?_
  refine ez_aload_n 2 rfl dL_law_315 ?_
  refine ez_aload_n 3 rfl dL_law_316 ?_
  refine ez_iload_n 0 rfl dL_law_317 ?_
  refine ez_iconst dL_law_318 ?_
  refine ez_iadd dL_law_319 ?_
  refine ez_sld dL_law_320 (by omega) (by omega) (by omega) ?_
  refine ez_aload_n 3 rfl dL_law_321 ?_
  refine ez_iload_n 0 rfl dL_law_322 ?_
  refine ez_iconst dL_law_323 ?_
  refine ez_iadd dL_law_324 ?_
  refine ez_sld dL_law_325 (by omega) (by omega) (by omega) ?_
  refine ez_aload_n 3 rfl dL_law_326 ?_
  refine ez_iload_n 0 rfl dL_law_327 ?_
  refine ez_iconst dL_law_328 ?_
  refine ez_iadd dL_law_329 ?_
  refine ez_sld dL_law_330 (by omega) (by omega) (by omega) ?_
  refine ez_aload_n 3 rfl dL_law_331 ?_
  refine ez_iload_n 0 rfl dL_law_332 ?_
  refine ez_iconst dL_law_333 ?_
  refine ez_iadd dL_law_334 ?_
  refine ez_sld dL_law_335 (by omega) (by omega) (by omega) ?_
  refine ez_aload_n 3 rfl dL_law_336 ?_
  refine ez_iload_n 0 rfl dL_law_337 ?_
  refine ez_iconst dL_law_338 ?_
  refine ez_iadd dL_law_339 ?_
  refine ez_sld dL_law_340 (by omega) (by omega) (by omega) ?_
  refine ez_aload_n 3 rfl dL_law_341 ?_
  refine ez_iload_n 0 rfl dL_law_342 ?_
  refine ez_bipush dL_law_343 (by decide) ?_
  refine ez_iadd dL_law_345 ?_
  refine ez_sld dL_law_346 (by omega) (by omega) (by omega) ?_
  refine z_L_28 (kc := 6 * m) (ks := 48 * m) (k_arc hC hI hJ xI_in xI_in xI_in xI_in xI_in xI_in) (hC.1 0 0 ⟨by decide, rfl⟩) rfl rfl (by simp) (by decide) dL_law_347 dj (fun r1 hc1 q1 dj1 => ?_)
  obtain ⟨z1, rfl, ez1, A1, S1, hC1, hA1, hx1, hJ1⟩ := q1
  show EvZ _ _ _ _ _ _ _ _ _ _ _ _ _ [vI z1] _
  refine ez_aload_n 1 rfl dL_law_350 ?_
  refine ez_aload_n 3 rfl dL_law_351 ?_
  refine ez_iload_n 0 rfl dL_law_352 ?_
  refine ez_iconst dL_law_353 ?_
  refine ez_iadd dL_law_354 ?_
  refine ez_sld dL_law_355 (by omega) (by omega) (by omega) ?_
  refine ez_aload_n 3 rfl dL_law_356 ?_
  refine ez_iload_n 0 rfl dL_law_357 ?_
  refine ez_iconst dL_law_358 ?_
  refine ez_iadd dL_law_359 ?_
  refine ez_sld dL_law_360 (by omega) (by omega) (by omega) ?_
  refine ez_aload_n 3 rfl dL_law_361 ?_
  refine ez_iload_n 0 rfl dL_law_362 ?_
  refine ez_iconst dL_law_363 ?_
  refine ez_iadd dL_law_364 ?_
  refine ez_sld dL_law_365 (by omega) (by omega) (by omega) ?_
  refine ez_aload_n 3 rfl dL_law_366 ?_
  refine ez_iload_n 0 rfl dL_law_367 ?_
  refine ez_iconst dL_law_368 ?_
  refine ez_iadd dL_law_369 ?_
  refine ez_sld dL_law_370 (by omega) (by omega) (by omega) ?_
  refine ez_aload_n 3 rfl dL_law_371 ?_
  refine ez_iload_n 0 rfl dL_law_372 ?_
  refine ez_iconst dL_law_373 ?_
  refine ez_iadd dL_law_374 ?_
  refine ez_sld dL_law_375 (by omega) (by omega) (by omega) ?_
  refine ez_aload_n 3 rfl dL_law_376 ?_
  refine ez_iload_n 0 rfl dL_law_377 ?_
  refine ez_bipush dL_law_378 (by decide) ?_
  refine ez_iadd dL_law_380 ?_
  refine ez_sld dL_law_381 (by omega) (by omega) (by omega) ?_
  rw [jo_comm dj1]
  refine z_L_32 (kc := 6 * m) (ks := 48 * m) (rest := [vI z1]) (m_arc hM hI xI_in xI_in xI_in xI_in xI_in xI_in) hM.1 rfl rfl (by show (1 : Nat) ≤ 8; decide) (by decide) dL_law_382 dj1.symm (fun r2 hm1 q2 dj2 => ?_)
  obtain ⟨z2, rfl, ez2, hM1⟩ := q2
  have e12 : z1 = z2 := ez1.trans ez2.symm
  clear ez1 ez2
  subst e12
  refine ez_same (tgt := 1368) dL_law_385 (by decide) ?_
  rw [← jo_comm dj2.symm]
  obtain ⟨S3, c1, c2, c3, c4⟩ := comb (S0 := (nx_arc S (xI xs (i + 1)) (xI xs (i + 2)) (xI xs (i + 3)) (xI xs (i + 4)) (xI xs (i + 5)) (xI xs (i + 6)))) hC1 hM1 (hx1.mono (by decide)) eqx.rf (Inv_arc hI) hJ1
  exact kk A1 S3 hc1 hm1 hA1 c1 c2 c3 c4 dj2.symm
set_option maxHeartbeats 4000000 in
theorem zc_ray {E : EV} {mn : String} {b n : Nat} {xs : Nat → Int32} {o : Nat} {A : AD} {ad : Nat → Nat} {S : MS} {hc hm : AH} {m : Nat} {i : Int} (hn : n ≤ 4096) (h0 : 0 ≤ i) (h1 : i + 8 ≤ n) (hC : CR E A S hc) (hM : MR E o ad S hm) (hI : Inv S) (hJ : CJ S) (dj : Dj hc hm) (kk : ∀ (A1 : AD) (S1 : MS) (hc1 hm1 : AH), A1 0 0 = A 0 0 → CR E A1 S1 hc1 → MR E o ad S1 hm1 → Inv S1 → CJ S1 → Dj hc1 hm1 → EvZ (Zs b n xs) E RL cL_law 4 (some .boolean) mn QLw 20 (6 * m) (48 * m) 1368 (LL b (A 0 0) o i) [] (jo hc1 hm1)) : EvZ (Zs b n xs) E RL cL_law 4 (some .boolean) mn QLw 20 (6 * m + 6) (48 * m + 48) 390 (LL b (A 0 0) o i) [] (jo hc hm) := by
  refine ez_drop (kc := 6 * m + 1) (ks := 48 * m + 9) (by omega) (by omega) ?_
  refine ez_aload_n 2 rfl dL_law_390 ?_
  refine ez_aload_n 3 rfl dL_law_391 ?_
  refine ez_iload_n 0 rfl dL_law_392 ?_
  refine ez_iconst dL_law_393 ?_
  refine ez_iadd dL_law_394 ?_
  refine ez_sld dL_law_395 (by omega) (by omega) (by omega) ?_
  refine ez_aload_n 3 rfl dL_law_396 ?_
  refine ez_iload_n 0 rfl dL_law_397 ?_
  refine ez_iconst dL_law_398 ?_
  refine ez_iadd dL_law_399 ?_
  refine ez_sld dL_law_400 (by omega) (by omega) (by omega) ?_
  refine ez_aload_n 3 rfl dL_law_401 ?_
  refine ez_iload_n 0 rfl dL_law_402 ?_
  refine ez_iconst dL_law_403 ?_
  refine ez_iadd dL_law_404 ?_
  refine ez_sld dL_law_405 (by omega) (by omega) (by omega) ?_
  refine ez_aload_n 3 rfl dL_law_406 ?_
  refine ez_iload_n 0 rfl dL_law_407 ?_
  refine ez_iconst dL_law_408 ?_
  refine ez_iadd dL_law_409 ?_
  refine ez_sld dL_law_410 (by omega) (by omega) (by omega) ?_
  refine ez_aload_n 3 rfl dL_law_411 ?_
  refine ez_iload_n 0 rfl dL_law_412 ?_
  refine ez_iconst dL_law_413 ?_
  refine ez_iadd dL_law_414 ?_
  refine ez_sld dL_law_415 (by omega) (by omega) (by omega) ?_
  refine ez_aload_n 3 rfl dL_law_416 ?_
  refine ez_iload_n 0 rfl dL_law_417 ?_
  refine ez_bipush dL_law_418 (by decide) ?_
  refine ez_iadd dL_law_420 ?_
  refine ez_sld dL_law_421 (by omega) (by omega) (by omega) ?_
  refine ez_aload_n 3 rfl dL_law_422 ?_
  refine ez_iload_n 0 rfl dL_law_423 ?_
  refine ez_bipush dL_law_424 (by decide) ?_
  refine ez_iadd dL_law_426 ?_
  refine ez_sld dL_law_427 (by omega) (by omega) (by omega) ?_
  refine z_L_33 (kc := 6 * m) (ks := 48 * m) (k_ray hC hI hJ xI_in xI_in xI_in xI_in xI_in xI_in xI_in) (hC.1 0 0 ⟨by decide, rfl⟩) rfl rfl (by simp) (by decide) dL_law_428 dj (fun r1 hc1 q1 dj1 => ?_)
  obtain ⟨z1, rfl, ez1, A1, S1, hC1, hA1, hx1, hJ1⟩ := q1
  show EvZ _ _ _ _ _ _ _ _ _ _ _ _ _ [vI z1] _
  refine ez_aload_n 1 rfl dL_law_431 ?_
  refine ez_aload_n 3 rfl dL_law_432 ?_
  refine ez_iload_n 0 rfl dL_law_433 ?_
  refine ez_iconst dL_law_434 ?_
  refine ez_iadd dL_law_435 ?_
  refine ez_sld dL_law_436 (by omega) (by omega) (by omega) ?_
  refine ez_aload_n 3 rfl dL_law_437 ?_
  refine ez_iload_n 0 rfl dL_law_438 ?_
  refine ez_iconst dL_law_439 ?_
  refine ez_iadd dL_law_440 ?_
  refine ez_sld dL_law_441 (by omega) (by omega) (by omega) ?_
  refine ez_aload_n 3 rfl dL_law_442 ?_
  refine ez_iload_n 0 rfl dL_law_443 ?_
  refine ez_iconst dL_law_444 ?_
  refine ez_iadd dL_law_445 ?_
  refine ez_sld dL_law_446 (by omega) (by omega) (by omega) ?_
  refine ez_aload_n 3 rfl dL_law_447 ?_
  refine ez_iload_n 0 rfl dL_law_448 ?_
  refine ez_iconst dL_law_449 ?_
  refine ez_iadd dL_law_450 ?_
  refine ez_sld dL_law_451 (by omega) (by omega) (by omega) ?_
  refine ez_aload_n 3 rfl dL_law_452 ?_
  refine ez_iload_n 0 rfl dL_law_453 ?_
  refine ez_iconst dL_law_454 ?_
  refine ez_iadd dL_law_455 ?_
  refine ez_sld dL_law_456 (by omega) (by omega) (by omega) ?_
  refine ez_aload_n 3 rfl dL_law_457 ?_
  refine ez_iload_n 0 rfl dL_law_458 ?_
  refine ez_bipush dL_law_459 (by decide) ?_
  refine ez_iadd dL_law_461 ?_
  refine ez_sld dL_law_462 (by omega) (by omega) (by omega) ?_
  refine ez_aload_n 3 rfl dL_law_463 ?_
  refine ez_iload_n 0 rfl dL_law_464 ?_
  refine ez_bipush dL_law_465 (by decide) ?_
  refine ez_iadd dL_law_467 ?_
  refine ez_sld dL_law_468 (by omega) (by omega) (by omega) ?_
  rw [jo_comm dj1]
  refine z_L_37 (kc := 6 * m) (ks := 48 * m) (rest := [vI z1]) (m_ray hM hI xI_in xI_in xI_in xI_in xI_in xI_in xI_in) hM.1 rfl rfl (by show (1 : Nat) ≤ 8; decide) (by decide) dL_law_469 dj1.symm (fun r2 hm1 q2 dj2 => ?_)
  obtain ⟨z2, rfl, ez2, hM1⟩ := q2
  have e12 : z1 = z2 := ez1.trans ez2.symm
  clear ez1 ez2
  subst e12
  refine ez_same (tgt := 1368) dL_law_472 (by decide) ?_
  rw [← jo_comm dj2.symm]
  obtain ⟨S3, c1, c2, c3, c4⟩ := comb (S0 := (nx_ray S (xI xs (i + 1)) (xI xs (i + 2)) (xI xs (i + 3)) (xI xs (i + 4)) (xI xs (i + 5)) (xI xs (i + 6)) (xI xs (i + 7)))) hC1 hM1 (hx1.mono (by decide)) eqx.rf (Inv_ray hI) hJ1
  exact kk A1 S3 hc1 hm1 hA1 c1 c2 c3 c4 dj2.symm
set_option maxHeartbeats 4000000 in
theorem zc_told {E : EV} {mn : String} {b n : Nat} {xs : Nat → Int32} {o : Nat} {A : AD} {ad : Nat → Nat} {S : MS} {hc hm : AH} {m : Nat} {i : Int} (hn : n ≤ 4096) (h0 : 0 ≤ i) (h1 : i + 8 ≤ n) (hC : CR E A S hc) (hM : MR E o ad S hm) (hI : Inv S) (hJ : CJ S) (dj : Dj hc hm) (kk : ∀ (A1 : AD) (S1 : MS) (hc1 hm1 : AH), A1 0 0 = A 0 0 → CR E A1 S1 hc1 → MR E o ad S1 hm1 → Inv S1 → CJ S1 → Dj hc1 hm1 → EvZ (Zs b n xs) E RL cL_law 4 (some .boolean) mn QLw 20 (6 * m) (48 * m) 1368 (LL b (A 0 0) o i) [] (jo hc1 hm1)) : EvZ (Zs b n xs) E RL cL_law 4 (some .boolean) mn QLw 20 (6 * m + 6) (48 * m + 48) 477 (LL b (A 0 0) o i) [] (jo hc hm) := by
  refine ez_drop (kc := 6 * m + 0) (ks := 48 * m + 0) (by omega) (by omega) ?_
  refine ez_aload_n 2 rfl dL_law_477 ?_
  refine ez_aload_n 3 rfl dL_law_478 ?_
  refine ez_iload_n 0 rfl dL_law_479 ?_
  refine ez_iconst dL_law_480 ?_
  refine ez_iadd dL_law_481 ?_
  refine ez_sld dL_law_482 (by omega) (by omega) (by omega) ?_
  refine ez_aload_n 3 rfl dL_law_483 ?_
  refine ez_iload_n 0 rfl dL_law_484 ?_
  refine ez_iconst dL_law_485 ?_
  refine ez_iadd dL_law_486 ?_
  refine ez_sld dL_law_487 (by omega) (by omega) (by omega) ?_
  refine z_L_38 (kc := 6 * m) (ks := 48 * m) (k_told hC hI  xI_in xI_in) (hC.1 0 0 ⟨by decide, rfl⟩) rfl rfl (by simp) (by decide) dL_law_488 dj (fun r1 hc1 q1 dj1 => ?_)
  obtain ⟨z1, rfl, ez1, hC1⟩ := q1
  show EvZ _ _ _ _ _ _ _ _ _ _ _ _ _ [vI z1] _
  refine ez_aload_n 1 rfl dL_law_491 ?_
  refine ez_aload_n 3 rfl dL_law_492 ?_
  refine ez_iload_n 0 rfl dL_law_493 ?_
  refine ez_iconst dL_law_494 ?_
  refine ez_iadd dL_law_495 ?_
  refine ez_sld dL_law_496 (by omega) (by omega) (by omega) ?_
  refine ez_aload_n 3 rfl dL_law_497 ?_
  refine ez_iload_n 0 rfl dL_law_498 ?_
  refine ez_iconst dL_law_499 ?_
  refine ez_iadd dL_law_500 ?_
  refine ez_sld dL_law_501 (by omega) (by omega) (by omega) ?_
  rw [jo_comm dj1]
  refine z_L_41 (kc := 6 * m) (ks := 48 * m) (rest := [vI z1]) (m_told hM hI xI_in xI_in) hM.1 rfl rfl (by show (1 : Nat) ≤ 8; decide) (by decide) dL_law_502 dj1.symm (fun r2 hm1 q2 dj2 => ?_)
  obtain ⟨z2, rfl, ez2, hM1⟩ := q2
  have e12 : z1 = z2 := ez1.trans ez2.symm
  clear ez1 ez2
  subst e12
  refine ez_same (tgt := 1368) dL_law_505 (by decide) ?_
  rw [← jo_comm dj2.symm]
  obtain ⟨S3, c1, c2, c3, c4⟩ := comb (S0 := S) hC1 hM1 eqx.rf eqx.rf hI hJ
  exact kk A S3 hc1 hm1 rfl c1 c2 c3 c4 dj2.symm
set_option maxHeartbeats 4000000 in
theorem zc_colour {E : EV} {mn : String} {b n : Nat} {xs : Nat → Int32} {o : Nat} {A : AD} {ad : Nat → Nat} {S : MS} {hc hm : AH} {m : Nat} {i : Int} (hn : n ≤ 4096) (h0 : 0 ≤ i) (h1 : i + 8 ≤ n) (hC : CR E A S hc) (hM : MR E o ad S hm) (hI : Inv S) (hJ : CJ S) (dj : Dj hc hm) (kk : ∀ (A1 : AD) (S1 : MS) (hc1 hm1 : AH), A1 0 0 = A 0 0 → CR E A1 S1 hc1 → MR E o ad S1 hm1 → Inv S1 → CJ S1 → Dj hc1 hm1 → EvZ (Zs b n xs) E RL cL_law 4 (some .boolean) mn QLw 20 (6 * m) (48 * m) 1368 (LL b (A 0 0) o i) [] (jo hc1 hm1)) : EvZ (Zs b n xs) E RL cL_law 4 (some .boolean) mn QLw 20 (6 * m + 6) (48 * m + 48) 510 (LL b (A 0 0) o i) [] (jo hc hm) := by
  refine ez_drop (kc := 6 * m + 0) (ks := 48 * m + 0) (by omega) (by omega) ?_
  refine ez_aload_n 2 rfl dL_law_510 ?_
  refine ez_aload_n 3 rfl dL_law_511 ?_
  refine ez_iload_n 0 rfl dL_law_512 ?_
  refine ez_iconst dL_law_513 ?_
  refine ez_iadd dL_law_514 ?_
  refine ez_sld dL_law_515 (by omega) (by omega) (by omega) ?_
  refine z_L_42 (kc := 6 * m) (ks := 48 * m) (k_colour hC hI  xI_in) (hC.1 0 0 ⟨by decide, rfl⟩) rfl rfl (by simp) (by decide) dL_law_516 dj (fun r1 hc1 q1 dj1 => ?_)
  obtain ⟨z1, rfl, ez1, hC1⟩ := q1
  show EvZ _ _ _ _ _ _ _ _ _ _ _ _ _ [vI z1] _
  refine ez_aload_n 1 rfl dL_law_519 ?_
  refine ez_aload_n 3 rfl dL_law_520 ?_
  refine ez_iload_n 0 rfl dL_law_521 ?_
  refine ez_iconst dL_law_522 ?_
  refine ez_iadd dL_law_523 ?_
  refine ez_sld dL_law_524 (by omega) (by omega) (by omega) ?_
  rw [jo_comm dj1]
  refine z_L_46 (kc := 6 * m) (ks := 48 * m) (rest := [vI z1]) (m_colour hM hI xI_in) hM.1 rfl rfl (by show (1 : Nat) ≤ 8; decide) (by decide) dL_law_525 dj1.symm (fun r2 hm1 q2 dj2 => ?_)
  obtain ⟨z2, rfl, ez2, hM1⟩ := q2
  have e12 : z1 = z2 := ez1.trans ez2.symm
  clear ez1 ez2
  subst e12
  refine ez_same (tgt := 1368) dL_law_528 (by decide) ?_
  rw [← jo_comm dj2.symm]
  obtain ⟨S3, c1, c2, c3, c4⟩ := comb (S0 := S) hC1 hM1 eqx.rf eqx.rf hI hJ
  exact kk A S3 hc1 hm1 rfl c1 c2 c3 c4 dj2.symm
set_option maxHeartbeats 4000000 in
theorem zc_lean {E : EV} {mn : String} {b n : Nat} {xs : Nat → Int32} {o : Nat} {A : AD} {ad : Nat → Nat} {S : MS} {hc hm : AH} {m : Nat} {i : Int} (hn : n ≤ 4096) (h0 : 0 ≤ i) (h1 : i + 8 ≤ n) (hC : CR E A S hc) (hM : MR E o ad S hm) (hI : Inv S) (hJ : CJ S) (dj : Dj hc hm) (kk : ∀ (A1 : AD) (S1 : MS) (hc1 hm1 : AH), A1 0 0 = A 0 0 → CR E A1 S1 hc1 → MR E o ad S1 hm1 → Inv S1 → CJ S1 → Dj hc1 hm1 → EvZ (Zs b n xs) E RL cL_law 4 (some .boolean) mn QLw 20 (6 * m) (48 * m) 1368 (LL b (A 0 0) o i) [] (jo hc1 hm1)) : EvZ (Zs b n xs) E RL cL_law 4 (some .boolean) mn QLw 20 (6 * m + 6) (48 * m + 48) 533 (LL b (A 0 0) o i) [] (jo hc hm) := by
  refine ez_drop (kc := 6 * m + 0) (ks := 48 * m + 0) (by omega) (by omega) ?_
  refine ez_aload_n 2 rfl dL_law_533 ?_
  refine ez_aload_n 3 rfl dL_law_534 ?_
  refine ez_iload_n 0 rfl dL_law_535 ?_
  refine ez_iconst dL_law_536 ?_
  refine ez_iadd dL_law_537 ?_
  refine ez_sld dL_law_538 (by omega) (by omega) (by omega) ?_
  refine z_L_47 (kc := 6 * m) (ks := 48 * m) (k_lean hC hI  xI_in) (hC.1 0 0 ⟨by decide, rfl⟩) rfl rfl (by simp) (by decide) dL_law_539 dj (fun r1 hc1 q1 dj1 => ?_)
  obtain ⟨z1, rfl, ez1, hC1⟩ := q1
  show EvZ _ _ _ _ _ _ _ _ _ _ _ _ _ [vI z1] _
  refine ez_aload_n 1 rfl dL_law_542 ?_
  refine ez_aload_n 3 rfl dL_law_543 ?_
  refine ez_iload_n 0 rfl dL_law_544 ?_
  refine ez_iconst dL_law_545 ?_
  refine ez_iadd dL_law_546 ?_
  refine ez_sld dL_law_547 (by omega) (by omega) (by omega) ?_
  rw [jo_comm dj1]
  refine z_L_50 (kc := 6 * m) (ks := 48 * m) (rest := [vI z1]) (m_lean hM hI xI_in) hM.1 rfl rfl (by show (1 : Nat) ≤ 8; decide) (by decide) dL_law_548 dj1.symm (fun r2 hm1 q2 dj2 => ?_)
  obtain ⟨z2, rfl, ez2, hM1⟩ := q2
  have e12 : z1 = z2 := ez1.trans ez2.symm
  clear ez1 ez2
  subst e12
  refine ez_same (tgt := 1368) dL_law_551 (by decide) ?_
  rw [← jo_comm dj2.symm]
  obtain ⟨S3, c1, c2, c3, c4⟩ := comb (S0 := S) hC1 hM1 eqx.rf eqx.rf hI hJ
  exact kk A S3 hc1 hm1 rfl c1 c2 c3 c4 dj2.symm
set_option maxHeartbeats 4000000 in
theorem zc_table {E : EV} {mn : String} {b n : Nat} {xs : Nat → Int32} {o : Nat} {A : AD} {ad : Nat → Nat} {S : MS} {hc hm : AH} {m : Nat} {i : Int} (hn : n ≤ 4096) (h0 : 0 ≤ i) (h1 : i + 8 ≤ n) (hC : CR E A S hc) (hM : MR E o ad S hm) (hI : Inv S) (hJ : CJ S) (dj : Dj hc hm) (kk : ∀ (A1 : AD) (S1 : MS) (hc1 hm1 : AH), A1 0 0 = A 0 0 → CR E A1 S1 hc1 → MR E o ad S1 hm1 → Inv S1 → CJ S1 → Dj hc1 hm1 → EvZ (Zs b n xs) E RL cL_law 4 (some .boolean) mn QLw 20 (6 * m) (48 * m) 1368 (LL b (A 0 0) o i) [] (jo hc1 hm1)) : EvZ (Zs b n xs) E RL cL_law 4 (some .boolean) mn QLw 20 (6 * m + 6) (48 * m + 48) 556 (LL b (A 0 0) o i) [] (jo hc hm) := by
  refine ez_drop (kc := 6 * m + 0) (ks := 48 * m + 0) (by omega) (by omega) ?_
  refine ez_aload_n 2 rfl dL_law_556 ?_
  refine ez_aload_n 3 rfl dL_law_557 ?_
  refine ez_iload_n 0 rfl dL_law_558 ?_
  refine ez_iconst dL_law_559 ?_
  refine ez_iadd dL_law_560 ?_
  refine ez_sld dL_law_561 (by omega) (by omega) (by omega) ?_
  refine ez_aload_n 3 rfl dL_law_562 ?_
  refine ez_iload_n 0 rfl dL_law_563 ?_
  refine ez_iconst dL_law_564 ?_
  refine ez_iadd dL_law_565 ?_
  refine ez_sld dL_law_566 (by omega) (by omega) (by omega) ?_
  refine z_L_51 (kc := 6 * m) (ks := 48 * m) (k_table hC hI  xI_in xI_in) (hC.1 0 0 ⟨by decide, rfl⟩) rfl rfl (by simp) (by decide) dL_law_567 dj (fun r1 hc1 q1 dj1 => ?_)
  obtain ⟨z1, rfl, ez1, hC1⟩ := q1
  show EvZ _ _ _ _ _ _ _ _ _ _ _ _ _ [vI z1] _
  refine ez_aload_n 1 rfl dL_law_570 ?_
  refine ez_aload_n 3 rfl dL_law_571 ?_
  refine ez_iload_n 0 rfl dL_law_572 ?_
  refine ez_iconst dL_law_573 ?_
  refine ez_iadd dL_law_574 ?_
  refine ez_sld dL_law_575 (by omega) (by omega) (by omega) ?_
  refine ez_aload_n 3 rfl dL_law_576 ?_
  refine ez_iload_n 0 rfl dL_law_577 ?_
  refine ez_iconst dL_law_578 ?_
  refine ez_iadd dL_law_579 ?_
  refine ez_sld dL_law_580 (by omega) (by omega) (by omega) ?_
  rw [jo_comm dj1]
  refine z_L_54 (kc := 6 * m) (ks := 48 * m) (rest := [vI z1]) (m_table hM hI xI_in xI_in) hM.1 rfl rfl (by show (1 : Nat) ≤ 8; decide) (by decide) dL_law_581 dj1.symm (fun r2 hm1 q2 dj2 => ?_)
  obtain ⟨rfl, rfl⟩ := q2
  have hM1 := hM
  subst ez1
  refine ez_same (tgt := 1368) dL_law_584 (by decide) ?_
  rw [← jo_comm dj2.symm]
  obtain ⟨S3, c1, c2, c3, c4⟩ := comb (S0 := S) hC1 hM1 eqx.rf eqx.rf hI hJ
  exact kk A S3 hc1 _ rfl c1 c2 c3 c4 dj2.symm
set_option maxHeartbeats 4000000 in
theorem zc_thick {E : EV} {mn : String} {b n : Nat} {xs : Nat → Int32} {o : Nat} {A : AD} {ad : Nat → Nat} {S : MS} {hc hm : AH} {m : Nat} {i : Int} (hn : n ≤ 4096) (h0 : 0 ≤ i) (h1 : i + 8 ≤ n) (hC : CR E A S hc) (hM : MR E o ad S hm) (hI : Inv S) (hJ : CJ S) (dj : Dj hc hm) (kk : ∀ (A1 : AD) (S1 : MS) (hc1 hm1 : AH), A1 0 0 = A 0 0 → CR E A1 S1 hc1 → MR E o ad S1 hm1 → Inv S1 → CJ S1 → Dj hc1 hm1 → EvZ (Zs b n xs) E RL cL_law 4 (some .boolean) mn QLw 20 (6 * m) (48 * m) 1368 (LL b (A 0 0) o i) [] (jo hc1 hm1)) : EvZ (Zs b n xs) E RL cL_law 4 (some .boolean) mn QLw 20 (6 * m + 6) (48 * m + 48) 589 (LL b (A 0 0) o i) [] (jo hc hm) := by
  refine ez_drop (kc := 6 * m + 0) (ks := 48 * m + 0) (by omega) (by omega) ?_
  refine ez_aload_n 2 rfl dL_law_589 ?_
  refine ez_aload_n 3 rfl dL_law_590 ?_
  refine ez_iload_n 0 rfl dL_law_591 ?_
  refine ez_iconst dL_law_592 ?_
  refine ez_iadd dL_law_593 ?_
  refine ez_sld dL_law_594 (by omega) (by omega) (by omega) ?_
  refine z_L_55 (kc := 6 * m) (ks := 48 * m) (k_thick hC hI  xI_in) (hC.1 0 0 ⟨by decide, rfl⟩) rfl rfl (by simp) (by decide) dL_law_595 dj (fun r1 hc1 q1 dj1 => ?_)
  obtain ⟨z1, rfl, ez1, hC1⟩ := q1
  show EvZ _ _ _ _ _ _ _ _ _ _ _ _ _ [vI z1] _
  refine ez_aload_n 1 rfl dL_law_598 ?_
  refine ez_aload_n 3 rfl dL_law_599 ?_
  refine ez_iload_n 0 rfl dL_law_600 ?_
  refine ez_iconst dL_law_601 ?_
  refine ez_iadd dL_law_602 ?_
  refine ez_sld dL_law_603 (by omega) (by omega) (by omega) ?_
  rw [jo_comm dj1]
  refine z_L_58 (kc := 6 * m) (ks := 48 * m) (rest := [vI z1]) (m_thick hM hI xI_in) hM.1 rfl rfl (by show (1 : Nat) ≤ 8; decide) (by decide) dL_law_604 dj1.symm (fun r2 hm1 q2 dj2 => ?_)
  obtain ⟨z2, rfl, ez2, hM1⟩ := q2
  have e12 : z1 = z2 := ez1.trans ez2.symm
  clear ez1 ez2
  subst e12
  refine ez_same (tgt := 1368) dL_law_607 (by decide) ?_
  rw [← jo_comm dj2.symm]
  obtain ⟨S3, c1, c2, c3, c4⟩ := comb (S0 := (nx_thick S (xI xs (i + 1)))) hC1 hM1 eqx.rf eqx.rf (Inv_thick hI) (CJ_thick hJ)
  exact kk A S3 hc1 hm1 rfl c1 c2 c3 c4 dj2.symm
set_option maxHeartbeats 4000000 in
theorem zc_meets {E : EV} {mn : String} {b n : Nat} {xs : Nat → Int32} {o : Nat} {A : AD} {ad : Nat → Nat} {S : MS} {hc hm : AH} {m : Nat} {i : Int} (hn : n ≤ 4096) (h0 : 0 ≤ i) (h1 : i + 8 ≤ n) (hC : CR E A S hc) (hM : MR E o ad S hm) (hI : Inv S) (hJ : CJ S) (dj : Dj hc hm) (kk : ∀ (A1 : AD) (S1 : MS) (hc1 hm1 : AH), A1 0 0 = A 0 0 → CR E A1 S1 hc1 → MR E o ad S1 hm1 → Inv S1 → CJ S1 → Dj hc1 hm1 → EvZ (Zs b n xs) E RL cL_law 4 (some .boolean) mn QLw 20 (6 * m) (48 * m) 1368 (LL b (A 0 0) o i) [] (jo hc1 hm1)) : EvZ (Zs b n xs) E RL cL_law 4 (some .boolean) mn QLw 20 (6 * m + 6) (48 * m + 48) 612 (LL b (A 0 0) o i) [] (jo hc hm) := by
  refine ez_drop (kc := 6 * m + 0) (ks := 48 * m + 0) (by omega) (by omega) ?_
  refine ez_aload_n 2 rfl dL_law_612 ?_
  refine ez_aload_n 3 rfl dL_law_613 ?_
  refine ez_iload_n 0 rfl dL_law_614 ?_
  refine ez_iconst dL_law_615 ?_
  refine ez_iadd dL_law_616 ?_
  refine ez_sld dL_law_617 (by omega) (by omega) (by omega) ?_
  refine ez_aload_n 3 rfl dL_law_618 ?_
  refine ez_iload_n 0 rfl dL_law_619 ?_
  refine ez_iconst dL_law_620 ?_
  refine ez_iadd dL_law_621 ?_
  refine ez_sld dL_law_622 (by omega) (by omega) (by omega) ?_
  refine z_L_59 (kc := 6 * m) (ks := 48 * m) (k_meets hC hI  xI_in xI_in) (hC.1 0 0 ⟨by decide, rfl⟩) rfl rfl (by simp) (by decide) dL_law_623 dj (fun r1 hc1 q1 dj1 => ?_)
  obtain ⟨z1, rfl, ez1, S1, hC1, hx1⟩ := q1
  show EvZ _ _ _ _ _ _ _ _ _ _ _ _ _ [vI z1] _
  refine ez_aload_n 1 rfl dL_law_626 ?_
  refine ez_aload_n 3 rfl dL_law_627 ?_
  refine ez_iload_n 0 rfl dL_law_628 ?_
  refine ez_iconst dL_law_629 ?_
  refine ez_iadd dL_law_630 ?_
  refine ez_sld dL_law_631 (by omega) (by omega) (by omega) ?_
  refine ez_aload_n 3 rfl dL_law_632 ?_
  refine ez_iload_n 0 rfl dL_law_633 ?_
  refine ez_iconst dL_law_634 ?_
  refine ez_iadd dL_law_635 ?_
  refine ez_sld dL_law_636 (by omega) (by omega) (by omega) ?_
  rw [jo_comm dj1]
  refine z_L_62 (kc := 6 * m) (ks := 48 * m) (rest := [vI z1]) (m_meets hM hI xI_in xI_in) hM.1 rfl rfl (by show (1 : Nat) ≤ 8; decide) (by decide) dL_law_637 dj1.symm (fun r2 hm1 q2 dj2 => ?_)
  obtain ⟨z2, rfl, ez2, S2, hM1, hx2⟩ := q2
  have e12 : z1 = z2 := ez1.trans ez2.symm
  clear ez1 ez2
  subst e12
  refine ez_same (tgt := 1368) dL_law_640 (by decide) ?_
  rw [← jo_comm dj2.symm]
  obtain ⟨S3, c1, c2, c3, c4⟩ := comb (S0 := S) hC1 hM1 (hx1.mono (by decide)) (hx2.mono (by decide)) hI (hJ.x hx1 (by decide) (by decide) (by decide) (by decide) (by decide))
  exact kk A S3 hc1 hm1 rfl c1 c2 c3 c4 dj2.symm
set_option maxHeartbeats 4000000 in
theorem zc_cross {E : EV} {mn : String} {b n : Nat} {xs : Nat → Int32} {o : Nat} {A : AD} {ad : Nat → Nat} {S : MS} {hc hm : AH} {m : Nat} {i : Int} (hn : n ≤ 4096) (h0 : 0 ≤ i) (h1 : i + 8 ≤ n) (hC : CR E A S hc) (hM : MR E o ad S hm) (hI : Inv S) (hJ : CJ S) (dj : Dj hc hm) (kk : ∀ (A1 : AD) (S1 : MS) (hc1 hm1 : AH), A1 0 0 = A 0 0 → CR E A1 S1 hc1 → MR E o ad S1 hm1 → Inv S1 → CJ S1 → Dj hc1 hm1 → EvZ (Zs b n xs) E RL cL_law 4 (some .boolean) mn QLw 20 (6 * m) (48 * m) 1368 (LL b (A 0 0) o i) [] (jo hc1 hm1)) : EvZ (Zs b n xs) E RL cL_law 4 (some .boolean) mn QLw 20 (6 * m + 6) (48 * m + 48) 645 (LL b (A 0 0) o i) [] (jo hc hm) := by
  refine ez_drop (kc := 6 * m + 0) (ks := 48 * m + 0) (by omega) (by omega) ?_
  refine ez_aload_n 2 rfl dL_law_645 ?_
  refine ez_aload_n 3 rfl dL_law_646 ?_
  refine ez_iload_n 0 rfl dL_law_647 ?_
  refine ez_iconst dL_law_648 ?_
  refine ez_iadd dL_law_649 ?_
  refine ez_sld dL_law_650 (by omega) (by omega) (by omega) ?_
  refine ez_aload_n 3 rfl dL_law_651 ?_
  refine ez_iload_n 0 rfl dL_law_652 ?_
  refine ez_iconst dL_law_653 ?_
  refine ez_iadd dL_law_654 ?_
  refine ez_sld dL_law_655 (by omega) (by omega) (by omega) ?_
  refine ez_aload_n 3 rfl dL_law_656 ?_
  refine ez_iload_n 0 rfl dL_law_657 ?_
  refine ez_iconst dL_law_658 ?_
  refine ez_iadd dL_law_659 ?_
  refine ez_sld dL_law_660 (by omega) (by omega) (by omega) ?_
  refine z_L_63 (kc := 6 * m) (ks := 48 * m) (k_cross hC hI  xI_in xI_in xI_in) (hC.1 0 0 ⟨by decide, rfl⟩) rfl rfl (by simp) (by decide) dL_law_661 dj (fun r1 hc1 q1 dj1 => ?_)
  obtain ⟨z1, rfl, ez1, S1, hC1, hx1⟩ := q1
  show EvZ _ _ _ _ _ _ _ _ _ _ _ _ _ [vI z1] _
  refine ez_aload_n 1 rfl dL_law_664 ?_
  refine ez_aload_n 3 rfl dL_law_665 ?_
  refine ez_iload_n 0 rfl dL_law_666 ?_
  refine ez_iconst dL_law_667 ?_
  refine ez_iadd dL_law_668 ?_
  refine ez_sld dL_law_669 (by omega) (by omega) (by omega) ?_
  refine ez_aload_n 3 rfl dL_law_670 ?_
  refine ez_iload_n 0 rfl dL_law_671 ?_
  refine ez_iconst dL_law_672 ?_
  refine ez_iadd dL_law_673 ?_
  refine ez_sld dL_law_674 (by omega) (by omega) (by omega) ?_
  refine ez_aload_n 3 rfl dL_law_675 ?_
  refine ez_iload_n 0 rfl dL_law_676 ?_
  refine ez_iconst dL_law_677 ?_
  refine ez_iadd dL_law_678 ?_
  refine ez_sld dL_law_679 (by omega) (by omega) (by omega) ?_
  rw [jo_comm dj1]
  refine z_L_66 (kc := 6 * m) (ks := 48 * m) (rest := [vI z1]) (m_cross hM hI xI_in xI_in xI_in) hM.1 rfl rfl (by show (1 : Nat) ≤ 8; decide) (by decide) dL_law_680 dj1.symm (fun r2 hm1 q2 dj2 => ?_)
  obtain ⟨z2, rfl, ez2, S2, hM1, hx2⟩ := q2
  have e12 : z1 = z2 := ez1.trans ez2.symm
  clear ez1 ez2
  subst e12
  refine ez_same (tgt := 1368) dL_law_683 (by decide) ?_
  rw [← jo_comm dj2.symm]
  obtain ⟨S3, c1, c2, c3, c4⟩ := comb (S0 := S) hC1 hM1 (hx1.mono (by decide)) (hx2.mono (by decide)) hI (hJ.x hx1 (by decide) (by decide) (by decide) (by decide) (by decide))
  exact kk A S3 hc1 hm1 rfl c1 c2 c3 c4 dj2.symm
set_option maxHeartbeats 4000000 in
theorem zc_curtains {E : EV} {mn : String} {b n : Nat} {xs : Nat → Int32} {o : Nat} {A : AD} {ad : Nat → Nat} {S : MS} {hc hm : AH} {m : Nat} {i : Int} (hn : n ≤ 4096) (h0 : 0 ≤ i) (h1 : i + 8 ≤ n) (hC : CR E A S hc) (hM : MR E o ad S hm) (hI : Inv S) (hJ : CJ S) (dj : Dj hc hm) (kk : ∀ (A1 : AD) (S1 : MS) (hc1 hm1 : AH), A1 0 0 = A 0 0 → CR E A1 S1 hc1 → MR E o ad S1 hm1 → Inv S1 → CJ S1 → Dj hc1 hm1 → EvZ (Zs b n xs) E RL cL_law 4 (some .boolean) mn QLw 20 (6 * m) (48 * m) 1368 (LL b (A 0 0) o i) [] (jo hc1 hm1)) : EvZ (Zs b n xs) E RL cL_law 4 (some .boolean) mn QLw 20 (6 * m + 6) (48 * m + 48) 688 (LL b (A 0 0) o i) [] (jo hc hm) := by
  refine ez_drop (kc := 6 * m + 0) (ks := 48 * m + 0) (by omega) (by omega) ?_
  refine ez_aload_n 2 rfl dL_law_688 ?_
  refine ez_aload_n 3 rfl dL_law_689 ?_
  refine ez_iload_n 0 rfl dL_law_690 ?_
  refine ez_iconst dL_law_691 ?_
  refine ez_iadd dL_law_692 ?_
  refine ez_sld dL_law_693 (by omega) (by omega) (by omega) ?_
  refine z_L_67 (kc := 6 * m) (ks := 48 * m) (k_curtains hC hI hJ.2 xI_in) (hC.1 0 0 ⟨by decide, rfl⟩) rfl rfl (by simp) (by decide) dL_law_694 dj (fun r1 hc1 q1 dj1 => ?_)
  obtain ⟨z1, rfl, ez1, S1, hC1, hx1, hj1⟩ := q1
  show EvZ _ _ _ _ _ _ _ _ _ _ _ _ _ [vI z1] _
  refine ez_aload_n 1 rfl dL_law_697 ?_
  refine ez_aload_n 3 rfl dL_law_698 ?_
  refine ez_iload_n 0 rfl dL_law_699 ?_
  refine ez_iconst dL_law_700 ?_
  refine ez_iadd dL_law_701 ?_
  refine ez_sld dL_law_702 (by omega) (by omega) (by omega) ?_
  rw [jo_comm dj1]
  refine z_L_70 (kc := 6 * m) (ks := 48 * m) (rest := [vI z1]) (m_curtains hM hI xI_in) hM.1 rfl rfl (by show (1 : Nat) ≤ 8; decide) (by decide) dL_law_703 dj1.symm (fun r2 hm1 q2 dj2 => ?_)
  obtain ⟨z2, rfl, ez2, S2, hM1, hx2⟩ := q2
  have e12 : z1 = z2 := ez1.trans ez2.symm
  clear ez1 ez2
  subst e12
  refine ez_same (tgt := 1368) dL_law_706 (by decide) ?_
  rw [← jo_comm dj2.symm]
  obtain ⟨S3, c1, c2, c3, c4⟩ := comb (S0 := S) hC1 hM1 (hx1.mono (by decide)) (hx2.mono (by decide)) hI ⟨hJ.1.x hx1 (by decide) (by decide) (by decide) (by decide), fun j => by rw [hx1 7 (by decide)]; exact hj1 j⟩
  exact kk A S3 hc1 hm1 rfl c1 c2 c3 c4 dj2.symm
set_option maxHeartbeats 4000000 in
theorem zc_curtain {E : EV} {mn : String} {b n : Nat} {xs : Nat → Int32} {o : Nat} {A : AD} {ad : Nat → Nat} {S : MS} {hc hm : AH} {m : Nat} {i : Int} (hn : n ≤ 4096) (h0 : 0 ≤ i) (h1 : i + 8 ≤ n) (hC : CR E A S hc) (hM : MR E o ad S hm) (hI : Inv S) (hJ : CJ S) (dj : Dj hc hm) (kk : ∀ (A1 : AD) (S1 : MS) (hc1 hm1 : AH), A1 0 0 = A 0 0 → CR E A1 S1 hc1 → MR E o ad S1 hm1 → Inv S1 → CJ S1 → Dj hc1 hm1 → EvZ (Zs b n xs) E RL cL_law 4 (some .boolean) mn QLw 20 (6 * m) (48 * m) 1368 (LL b (A 0 0) o i) [] (jo hc1 hm1)) : EvZ (Zs b n xs) E RL cL_law 4 (some .boolean) mn QLw 20 (6 * m + 6) (48 * m + 48) 711 (LL b (A 0 0) o i) [] (jo hc hm) := by
  refine ez_drop (kc := 6 * m + 0) (ks := 48 * m + 0) (by omega) (by omega) ?_
  refine ez_aload_n 2 rfl dL_law_711 ?_
  refine ez_aload_n 3 rfl dL_law_712 ?_
  refine ez_iload_n 0 rfl dL_law_713 ?_
  refine ez_iconst dL_law_714 ?_
  refine ez_iadd dL_law_715 ?_
  refine ez_sld dL_law_716 (by omega) (by omega) (by omega) ?_
  refine ez_aload_n 3 rfl dL_law_717 ?_
  refine ez_iload_n 0 rfl dL_law_718 ?_
  refine ez_iconst dL_law_719 ?_
  refine ez_iadd dL_law_720 ?_
  refine ez_sld dL_law_721 (by omega) (by omega) (by omega) ?_
  refine ez_aload_n 3 rfl dL_law_722 ?_
  refine ez_iload_n 0 rfl dL_law_723 ?_
  refine ez_iconst dL_law_724 ?_
  refine ez_iadd dL_law_725 ?_
  refine ez_sld dL_law_726 (by omega) (by omega) (by omega) ?_
  refine z_L_71 (kc := 6 * m) (ks := 48 * m) (k_curtain hC hI hJ.2 xI_in xI_in xI_in) (hC.1 0 0 ⟨by decide, rfl⟩) rfl rfl (by simp) (by decide) dL_law_727 dj (fun r1 hc1 q1 dj1 => ?_)
  obtain ⟨z1, rfl, ez1, S1, hC1, hx1, hj1⟩ := q1
  show EvZ _ _ _ _ _ _ _ _ _ _ _ _ _ [vI z1] _
  refine ez_aload_n 1 rfl dL_law_730 ?_
  refine ez_aload_n 3 rfl dL_law_731 ?_
  refine ez_iload_n 0 rfl dL_law_732 ?_
  refine ez_iconst dL_law_733 ?_
  refine ez_iadd dL_law_734 ?_
  refine ez_sld dL_law_735 (by omega) (by omega) (by omega) ?_
  refine ez_aload_n 3 rfl dL_law_736 ?_
  refine ez_iload_n 0 rfl dL_law_737 ?_
  refine ez_iconst dL_law_738 ?_
  refine ez_iadd dL_law_739 ?_
  refine ez_sld dL_law_740 (by omega) (by omega) (by omega) ?_
  refine ez_aload_n 3 rfl dL_law_741 ?_
  refine ez_iload_n 0 rfl dL_law_742 ?_
  refine ez_iconst dL_law_743 ?_
  refine ez_iadd dL_law_744 ?_
  refine ez_sld dL_law_745 (by omega) (by omega) (by omega) ?_
  rw [jo_comm dj1]
  refine z_L_74 (kc := 6 * m) (ks := 48 * m) (rest := [vI z1]) (m_curtain hM hI xI_in xI_in xI_in) hM.1 rfl rfl (by show (1 : Nat) ≤ 8; decide) (by decide) dL_law_746 dj1.symm (fun r2 hm1 q2 dj2 => ?_)
  obtain ⟨z2, rfl, ez2, S2, hM1, hx2⟩ := q2
  have e12 : z1 = z2 := ez1.trans ez2.symm
  clear ez1 ez2
  subst e12
  refine ez_same (tgt := 1368) dL_law_749 (by decide) ?_
  rw [← jo_comm dj2.symm]
  obtain ⟨S3, c1, c2, c3, c4⟩ := comb (S0 := S) hC1 hM1 (hx1.mono (by decide)) (hx2.mono (by decide)) hI ⟨hJ.1.x hx1 (by decide) (by decide) (by decide) (by decide), fun j => by rw [hx1 7 (by decide)]; exact hj1 j⟩
  exact kk A S3 hc1 hm1 rfl c1 c2 c3 c4 dj2.symm
set_option maxHeartbeats 4000000 in
theorem zc_curtainOf {E : EV} {mn : String} {b n : Nat} {xs : Nat → Int32} {o : Nat} {A : AD} {ad : Nat → Nat} {S : MS} {hc hm : AH} {m : Nat} {i : Int} (hn : n ≤ 4096) (h0 : 0 ≤ i) (h1 : i + 8 ≤ n) (hC : CR E A S hc) (hM : MR E o ad S hm) (hI : Inv S) (hJ : CJ S) (dj : Dj hc hm) (kk : ∀ (A1 : AD) (S1 : MS) (hc1 hm1 : AH), A1 0 0 = A 0 0 → CR E A1 S1 hc1 → MR E o ad S1 hm1 → Inv S1 → CJ S1 → Dj hc1 hm1 → EvZ (Zs b n xs) E RL cL_law 4 (some .boolean) mn QLw 20 (6 * m) (48 * m) 1368 (LL b (A 0 0) o i) [] (jo hc1 hm1)) : EvZ (Zs b n xs) E RL cL_law 4 (some .boolean) mn QLw 20 (6 * m + 6) (48 * m + 48) 754 (LL b (A 0 0) o i) [] (jo hc hm) := by
  refine ez_drop (kc := 6 * m + 0) (ks := 48 * m + 0) (by omega) (by omega) ?_
  refine ez_aload_n 2 rfl dL_law_754 ?_
  refine ez_aload_n 3 rfl dL_law_755 ?_
  refine ez_iload_n 0 rfl dL_law_756 ?_
  refine ez_iconst dL_law_757 ?_
  refine ez_iadd dL_law_758 ?_
  refine ez_sld dL_law_759 (by omega) (by omega) (by omega) ?_
  refine z_L_75 (kc := 6 * m) (ks := 48 * m) (k_curtainOf hC hI hJ.2 xI_in) (hC.1 0 0 ⟨by decide, rfl⟩) rfl rfl (by simp) (by decide) dL_law_760 dj (fun r1 hc1 q1 dj1 => ?_)
  obtain ⟨z1, rfl, ez1, S1, hC1, hx1, hj1⟩ := q1
  show EvZ _ _ _ _ _ _ _ _ _ _ _ _ _ [vI z1] _
  refine ez_aload_n 1 rfl dL_law_763 ?_
  refine ez_aload_n 3 rfl dL_law_764 ?_
  refine ez_iload_n 0 rfl dL_law_765 ?_
  refine ez_iconst dL_law_766 ?_
  refine ez_iadd dL_law_767 ?_
  refine ez_sld dL_law_768 (by omega) (by omega) (by omega) ?_
  rw [jo_comm dj1]
  refine z_L_78 (kc := 6 * m) (ks := 48 * m) (rest := [vI z1]) (m_curtainOf hM hI xI_in) hM.1 rfl rfl (by show (1 : Nat) ≤ 8; decide) (by decide) dL_law_769 dj1.symm (fun r2 hm1 q2 dj2 => ?_)
  obtain ⟨z2, rfl, ez2, S2, hM1, hx2⟩ := q2
  have e12 : z1 = z2 := ez1.trans ez2.symm
  clear ez1 ez2
  subst e12
  refine ez_same (tgt := 1368) dL_law_772 (by decide) ?_
  rw [← jo_comm dj2.symm]
  obtain ⟨S3, c1, c2, c3, c4⟩ := comb (S0 := S) hC1 hM1 (hx1.mono (by decide)) (hx2.mono (by decide)) hI ⟨hJ.1.x hx1 (by decide) (by decide) (by decide) (by decide), fun j => by rw [hx1 7 (by decide)]; exact hj1 j⟩
  exact kk A S3 hc1 hm1 rfl c1 c2 c3 c4 dj2.symm
set_option maxHeartbeats 4000000 in
theorem zc_speed {E : EV} {mn : String} {b n : Nat} {xs : Nat → Int32} {o : Nat} {A : AD} {ad : Nat → Nat} {S : MS} {hc hm : AH} {m : Nat} {i : Int} (hn : n ≤ 4096) (h0 : 0 ≤ i) (h1 : i + 8 ≤ n) (hC : CR E A S hc) (hM : MR E o ad S hm) (hI : Inv S) (hJ : CJ S) (dj : Dj hc hm) (kk : ∀ (A1 : AD) (S1 : MS) (hc1 hm1 : AH), A1 0 0 = A 0 0 → CR E A1 S1 hc1 → MR E o ad S1 hm1 → Inv S1 → CJ S1 → Dj hc1 hm1 → EvZ (Zs b n xs) E RL cL_law 4 (some .boolean) mn QLw 20 (6 * m) (48 * m) 1368 (LL b (A 0 0) o i) [] (jo hc1 hm1)) : EvZ (Zs b n xs) E RL cL_law 4 (some .boolean) mn QLw 20 (6 * m + 6) (48 * m + 48) 777 (LL b (A 0 0) o i) [] (jo hc hm) := by
  refine ez_drop (kc := 6 * m + 0) (ks := 48 * m + 0) (by omega) (by omega) ?_
  refine ez_aload_n 2 rfl dL_law_777 ?_
  refine ez_aload_n 3 rfl dL_law_778 ?_
  refine ez_iload_n 0 rfl dL_law_779 ?_
  refine ez_iconst dL_law_780 ?_
  refine ez_iadd dL_law_781 ?_
  refine ez_sld dL_law_782 (by omega) (by omega) (by omega) ?_
  refine z_L_79 (kc := 6 * m) (ks := 48 * m) (k_speed hC hI  xI_in) (hC.1 0 0 ⟨by decide, rfl⟩) rfl rfl (by simp) (by decide) dL_law_783 dj (fun r1 hc1 q1 dj1 => ?_)
  obtain ⟨z1, rfl, ez1, hC1⟩ := q1
  show EvZ _ _ _ _ _ _ _ _ _ _ _ _ _ [vI z1] _
  refine ez_aload_n 1 rfl dL_law_786 ?_
  refine ez_aload_n 3 rfl dL_law_787 ?_
  refine ez_iload_n 0 rfl dL_law_788 ?_
  refine ez_iconst dL_law_789 ?_
  refine ez_iadd dL_law_790 ?_
  refine ez_sld dL_law_791 (by omega) (by omega) (by omega) ?_
  rw [jo_comm dj1]
  refine z_L_82 (kc := 6 * m) (ks := 48 * m) (rest := [vI z1]) (m_speed hM hI xI_in) hM.1 rfl rfl (by show (1 : Nat) ≤ 8; decide) (by decide) dL_law_792 dj1.symm (fun r2 hm1 q2 dj2 => ?_)
  obtain ⟨z2, rfl, ez2, hM1⟩ := q2
  have e12 : z1 = z2 := ez1.trans ez2.symm
  clear ez1 ez2
  subst e12
  refine ez_same (tgt := 1368) dL_law_795 (by decide) ?_
  rw [← jo_comm dj2.symm]
  obtain ⟨S3, c1, c2, c3, c4⟩ := comb (S0 := (nx_speed S (xI xs (i + 1)))) hC1 hM1 eqx.rf eqx.rf (Inv_speed hI) (CJ_speed hJ)
  exact kk A S3 hc1 hm1 rfl c1 c2 c3 c4 dj2.symm
set_option maxHeartbeats 4000000 in
theorem zc_ways {E : EV} {mn : String} {b n : Nat} {xs : Nat → Int32} {o : Nat} {A : AD} {ad : Nat → Nat} {S : MS} {hc hm : AH} {m : Nat} {i : Int} (hn : n ≤ 4096) (h0 : 0 ≤ i) (h1 : i + 8 ≤ n) (hC : CR E A S hc) (hM : MR E o ad S hm) (hI : Inv S) (hJ : CJ S) (dj : Dj hc hm) (kk : ∀ (A1 : AD) (S1 : MS) (hc1 hm1 : AH), A1 0 0 = A 0 0 → CR E A1 S1 hc1 → MR E o ad S1 hm1 → Inv S1 → CJ S1 → Dj hc1 hm1 → EvZ (Zs b n xs) E RL cL_law 4 (some .boolean) mn QLw 20 (6 * m) (48 * m) 1368 (LL b (A 0 0) o i) [] (jo hc1 hm1)) : EvZ (Zs b n xs) E RL cL_law 4 (some .boolean) mn QLw 20 (6 * m + 6) (48 * m + 48) 800 (LL b (A 0 0) o i) [] (jo hc hm) := by
  refine ez_drop (kc := 6 * m + 0) (ks := 48 * m + 0) (by omega) (by omega) ?_
  refine ez_aload_n 2 rfl dL_law_800 ?_
  refine ez_aload_n 3 rfl dL_law_801 ?_
  refine ez_iload_n 0 rfl dL_law_802 ?_
  refine ez_iconst dL_law_803 ?_
  refine ez_iadd dL_law_804 ?_
  refine ez_sld dL_law_805 (by omega) (by omega) (by omega) ?_
  refine z_L_83 (kc := 6 * m) (ks := 48 * m) (k_ways hC hI hJ.2 xI_in) (hC.1 0 0 ⟨by decide, rfl⟩) rfl rfl (by simp) (by decide) dL_law_806 dj (fun r1 hc1 q1 dj1 => ?_)
  obtain ⟨z1, rfl, ez1, S1, hC1, hx1, hj1⟩ := q1
  show EvZ _ _ _ _ _ _ _ _ _ _ _ _ _ [vI z1] _
  refine ez_aload_n 1 rfl dL_law_809 ?_
  refine ez_aload_n 3 rfl dL_law_810 ?_
  refine ez_iload_n 0 rfl dL_law_811 ?_
  refine ez_iconst dL_law_812 ?_
  refine ez_iadd dL_law_813 ?_
  refine ez_sld dL_law_814 (by omega) (by omega) (by omega) ?_
  rw [jo_comm dj1]
  refine z_L_86 (kc := 6 * m) (ks := 48 * m) (rest := [vI z1]) (m_ways hM hI xI_in) hM.1 rfl rfl (by show (1 : Nat) ≤ 8; decide) (by decide) dL_law_815 dj1.symm (fun r2 hm1 q2 dj2 => ?_)
  obtain ⟨z2, rfl, ez2, S2, hM1, hx2⟩ := q2
  have e12 : z1 = z2 := ez1.trans ez2.symm
  clear ez1 ez2
  subst e12
  refine ez_same (tgt := 1368) dL_law_818 (by decide) ?_
  rw [← jo_comm dj2.symm]
  obtain ⟨S3, c1, c2, c3, c4⟩ := comb (S0 := S) hC1 hM1 (hx1.mono (by decide)) (hx2.mono (by decide)) hI ⟨hJ.1.x hx1 (by decide) (by decide) (by decide) (by decide), fun j => by rw [hx1 7 (by decide)]; exact hj1 j⟩
  exact kk A S3 hc1 hm1 rfl c1 c2 c3 c4 dj2.symm
set_option maxHeartbeats 4000000 in
theorem zc_next {E : EV} {mn : String} {b n : Nat} {xs : Nat → Int32} {o : Nat} {A : AD} {ad : Nat → Nat} {S : MS} {hc hm : AH} {m : Nat} {i : Int} (hn : n ≤ 4096) (h0 : 0 ≤ i) (h1 : i + 8 ≤ n) (hC : CR E A S hc) (hM : MR E o ad S hm) (hI : Inv S) (hJ : CJ S) (dj : Dj hc hm) (kk : ∀ (A1 : AD) (S1 : MS) (hc1 hm1 : AH), A1 0 0 = A 0 0 → CR E A1 S1 hc1 → MR E o ad S1 hm1 → Inv S1 → CJ S1 → Dj hc1 hm1 → EvZ (Zs b n xs) E RL cL_law 4 (some .boolean) mn QLw 20 (6 * m) (48 * m) 1368 (LL b (A 0 0) o i) [] (jo hc1 hm1)) : EvZ (Zs b n xs) E RL cL_law 4 (some .boolean) mn QLw 20 (6 * m + 6) (48 * m + 48) 823 (LL b (A 0 0) o i) [] (jo hc hm) := by
  refine ez_drop (kc := 6 * m + 0) (ks := 48 * m + 0) (by omega) (by omega) ?_
  refine ez_aload_n 2 rfl dL_law_823 ?_
  refine ez_aload_n 3 rfl dL_law_824 ?_
  refine ez_iload_n 0 rfl dL_law_825 ?_
  refine ez_iconst dL_law_826 ?_
  refine ez_iadd dL_law_827 ?_
  refine ez_sld dL_law_828 (by omega) (by omega) (by omega) ?_
  refine ez_aload_n 3 rfl dL_law_829 ?_
  refine ez_iload_n 0 rfl dL_law_830 ?_
  refine ez_iconst dL_law_831 ?_
  refine ez_iadd dL_law_832 ?_
  refine ez_sld dL_law_833 (by omega) (by omega) (by omega) ?_
  refine z_L_87 (kc := 6 * m) (ks := 48 * m) (k_next hC hI hJ.2 xI_in xI_in) (hC.1 0 0 ⟨by decide, rfl⟩) rfl rfl (by simp) (by decide) dL_law_834 dj (fun r1 hc1 q1 dj1 => ?_)
  obtain ⟨z1, rfl, ez1, S1, hC1, hx1, hj1, -⟩ := q1
  show EvZ _ _ _ _ _ _ _ _ _ _ _ _ _ [vI z1] _
  refine ez_aload_n 1 rfl dL_law_837 ?_
  refine ez_aload_n 3 rfl dL_law_838 ?_
  refine ez_iload_n 0 rfl dL_law_839 ?_
  refine ez_iconst dL_law_840 ?_
  refine ez_iadd dL_law_841 ?_
  refine ez_sld dL_law_842 (by omega) (by omega) (by omega) ?_
  refine ez_aload_n 3 rfl dL_law_843 ?_
  refine ez_iload_n 0 rfl dL_law_844 ?_
  refine ez_iconst dL_law_845 ?_
  refine ez_iadd dL_law_846 ?_
  refine ez_sld dL_law_847 (by omega) (by omega) (by omega) ?_
  rw [jo_comm dj1]
  refine z_L_90 (kc := 6 * m) (ks := 48 * m) (rest := [vI z1]) (m_next hM hI xI_in xI_in) hM.1 rfl rfl (by show (1 : Nat) ≤ 8; decide) (by decide) dL_law_848 dj1.symm (fun r2 hm1 q2 dj2 => ?_)
  obtain ⟨z2, rfl, ez2, S2, hM1, hx2⟩ := q2
  have e12 : z1 = z2 := ez1.trans ez2.symm
  clear ez1 ez2
  subst e12
  refine ez_same (tgt := 1368) dL_law_851 (by decide) ?_
  rw [← jo_comm dj2.symm]
  obtain ⟨S3, c1, c2, c3, c4⟩ := comb (S0 := S) hC1 hM1 (hx1.mono (by decide)) (hx2.mono (by decide)) hI ⟨hJ.1.x hx1 (by decide) (by decide) (by decide) (by decide), fun j => by rw [hx1 7 (by decide)]; exact hj1 j⟩
  exact kk A S3 hc1 hm1 rfl c1 c2 c3 c4 dj2.symm
set_option maxHeartbeats 4000000 in
theorem zc_overhead {E : EV} {mn : String} {b n : Nat} {xs : Nat → Int32} {o : Nat} {A : AD} {ad : Nat → Nat} {S : MS} {hc hm : AH} {m : Nat} {i : Int} (hn : n ≤ 4096) (h0 : 0 ≤ i) (h1 : i + 8 ≤ n) (hC : CR E A S hc) (hM : MR E o ad S hm) (hI : Inv S) (hJ : CJ S) (dj : Dj hc hm) (kk : ∀ (A1 : AD) (S1 : MS) (hc1 hm1 : AH), A1 0 0 = A 0 0 → CR E A1 S1 hc1 → MR E o ad S1 hm1 → Inv S1 → CJ S1 → Dj hc1 hm1 → EvZ (Zs b n xs) E RL cL_law 4 (some .boolean) mn QLw 20 (6 * m) (48 * m) 1368 (LL b (A 0 0) o i) [] (jo hc1 hm1)) : EvZ (Zs b n xs) E RL cL_law 4 (some .boolean) mn QLw 20 (6 * m + 6) (48 * m + 48) 856 (LL b (A 0 0) o i) [] (jo hc hm) := by
  refine ez_drop (kc := 6 * m + 0) (ks := 48 * m + 0) (by omega) (by omega) ?_
  refine ez_aload_n 2 rfl dL_law_856 ?_
  refine ez_aload_n 3 rfl dL_law_857 ?_
  refine ez_iload_n 0 rfl dL_law_858 ?_
  refine ez_iconst dL_law_859 ?_
  refine ez_iadd dL_law_860 ?_
  refine ez_sld dL_law_861 (by omega) (by omega) (by omega) ?_
  refine ez_aload_n 3 rfl dL_law_862 ?_
  refine ez_iload_n 0 rfl dL_law_863 ?_
  refine ez_iconst dL_law_864 ?_
  refine ez_iadd dL_law_865 ?_
  refine ez_sld dL_law_866 (by omega) (by omega) (by omega) ?_
  refine ez_aload_n 3 rfl dL_law_867 ?_
  refine ez_iload_n 0 rfl dL_law_868 ?_
  refine ez_iconst dL_law_869 ?_
  refine ez_iadd dL_law_870 ?_
  refine ez_sld dL_law_871 (by omega) (by omega) (by omega) ?_
  refine z_L_91 (kc := 6 * m) (ks := 48 * m) (k_overhead hC hI hJ.2 xI_in xI_in xI_in) (hC.1 0 0 ⟨by decide, rfl⟩) rfl rfl (by simp) (by decide) dL_law_872 dj (fun r1 hc1 q1 dj1 => ?_)
  obtain ⟨z1, rfl, ez1, S1, hC1, hx1, hj1⟩ := q1
  show EvZ _ _ _ _ _ _ _ _ _ _ _ _ _ [vI z1] _
  refine ez_aload_n 1 rfl dL_law_875 ?_
  refine ez_aload_n 3 rfl dL_law_876 ?_
  refine ez_iload_n 0 rfl dL_law_877 ?_
  refine ez_iconst dL_law_878 ?_
  refine ez_iadd dL_law_879 ?_
  refine ez_sld dL_law_880 (by omega) (by omega) (by omega) ?_
  refine ez_aload_n 3 rfl dL_law_881 ?_
  refine ez_iload_n 0 rfl dL_law_882 ?_
  refine ez_iconst dL_law_883 ?_
  refine ez_iadd dL_law_884 ?_
  refine ez_sld dL_law_885 (by omega) (by omega) (by omega) ?_
  refine ez_aload_n 3 rfl dL_law_886 ?_
  refine ez_iload_n 0 rfl dL_law_887 ?_
  refine ez_iconst dL_law_888 ?_
  refine ez_iadd dL_law_889 ?_
  refine ez_sld dL_law_890 (by omega) (by omega) (by omega) ?_
  rw [jo_comm dj1]
  refine z_L_94 (kc := 6 * m) (ks := 48 * m) (rest := [vI z1]) (m_overhead hM hI xI_in xI_in xI_in) hM.1 rfl rfl (by show (1 : Nat) ≤ 8; decide) (by decide) dL_law_891 dj1.symm (fun r2 hm1 q2 dj2 => ?_)
  obtain ⟨z2, rfl, ez2, S2, hM1, hx2⟩ := q2
  have e12 : z1 = z2 := ez1.trans ez2.symm
  clear ez1 ez2
  subst e12
  refine ez_same (tgt := 1368) dL_law_894 (by decide) ?_
  rw [← jo_comm dj2.symm]
  obtain ⟨S3, c1, c2, c3, c4⟩ := comb (S0 := S) hC1 hM1 (hx1.mono (by decide)) (hx2.mono (by decide)) hI ⟨hJ.1.x hx1 (by decide) (by decide) (by decide) (by decide), fun j => by rw [hx1 7 (by decide)]; exact hj1 j⟩
  exact kk A S3 hc1 hm1 rfl c1 c2 c3 c4 dj2.symm
set_option maxHeartbeats 4000000 in
theorem zc_watch {E : EV} {mn : String} {b n : Nat} {xs : Nat → Int32} {o : Nat} {A : AD} {ad : Nat → Nat} {S : MS} {hc hm : AH} {m : Nat} {i : Int} (hn : n ≤ 4096) (h0 : 0 ≤ i) (h1 : i + 8 ≤ n) (hC : CR E A S hc) (hM : MR E o ad S hm) (hI : Inv S) (hJ : CJ S) (dj : Dj hc hm) (kk : ∀ (A1 : AD) (S1 : MS) (hc1 hm1 : AH), A1 0 0 = A 0 0 → CR E A1 S1 hc1 → MR E o ad S1 hm1 → Inv S1 → CJ S1 → Dj hc1 hm1 → EvZ (Zs b n xs) E RL cL_law 4 (some .boolean) mn QLw 20 (6 * m) (48 * m) 1368 (LL b (A 0 0) o i) [] (jo hc1 hm1)) : EvZ (Zs b n xs) E RL cL_law 4 (some .boolean) mn QLw 20 (6 * m + 6) (48 * m + 48) 899 (LL b (A 0 0) o i) [] (jo hc hm) := by
  refine ez_drop (kc := 6 * m + 1) (ks := 48 * m + 4) (by omega) (by omega) ?_
  refine ez_aload_n 2 rfl dL_law_899 ?_
  refine ez_aload_n 3 rfl dL_law_900 ?_
  refine ez_iload_n 0 rfl dL_law_901 ?_
  refine ez_iconst dL_law_902 ?_
  refine ez_iadd dL_law_903 ?_
  refine ez_sld dL_law_904 (by omega) (by omega) (by omega) ?_
  refine ez_aload_n 3 rfl dL_law_905 ?_
  refine ez_iload_n 0 rfl dL_law_906 ?_
  refine ez_iconst dL_law_907 ?_
  refine ez_iadd dL_law_908 ?_
  refine ez_sld dL_law_909 (by omega) (by omega) (by omega) ?_
  refine ez_aload_n 3 rfl dL_law_910 ?_
  refine ez_iload_n 0 rfl dL_law_911 ?_
  refine ez_iconst dL_law_912 ?_
  refine ez_iadd dL_law_913 ?_
  refine ez_sld dL_law_914 (by omega) (by omega) (by omega) ?_
  refine ez_aload_n 3 rfl dL_law_915 ?_
  refine ez_iload_n 0 rfl dL_law_916 ?_
  refine ez_iconst dL_law_917 ?_
  refine ez_iadd dL_law_918 ?_
  refine ez_sld dL_law_919 (by omega) (by omega) (by omega) ?_
  refine ez_aload_n 3 rfl dL_law_920 ?_
  refine ez_iload_n 0 rfl dL_law_921 ?_
  refine ez_iconst dL_law_922 ?_
  refine ez_iadd dL_law_923 ?_
  refine ez_sld dL_law_924 (by omega) (by omega) (by omega) ?_
  refine z_L_95 (kc := 6 * m) (ks := 48 * m) (k_watch hC hI hJ xI_in xI_in xI_in xI_in xI_in) (hC.1 0 0 ⟨by decide, rfl⟩) rfl rfl (by simp) (by decide) dL_law_925 dj (fun r1 hc1 q1 dj1 => ?_)
  obtain ⟨z1, rfl, ez1, A1, S1, hC1, hA1, hx1, hJ1⟩ := q1
  show EvZ _ _ _ _ _ _ _ _ _ _ _ _ _ [vI z1] _
  refine ez_aload_n 1 rfl dL_law_928 ?_
  refine ez_aload_n 3 rfl dL_law_929 ?_
  refine ez_iload_n 0 rfl dL_law_930 ?_
  refine ez_iconst dL_law_931 ?_
  refine ez_iadd dL_law_932 ?_
  refine ez_sld dL_law_933 (by omega) (by omega) (by omega) ?_
  refine ez_aload_n 3 rfl dL_law_934 ?_
  refine ez_iload_n 0 rfl dL_law_935 ?_
  refine ez_iconst dL_law_936 ?_
  refine ez_iadd dL_law_937 ?_
  refine ez_sld dL_law_938 (by omega) (by omega) (by omega) ?_
  refine ez_aload_n 3 rfl dL_law_939 ?_
  refine ez_iload_n 0 rfl dL_law_940 ?_
  refine ez_iconst dL_law_941 ?_
  refine ez_iadd dL_law_942 ?_
  refine ez_sld dL_law_943 (by omega) (by omega) (by omega) ?_
  refine ez_aload_n 3 rfl dL_law_944 ?_
  refine ez_iload_n 0 rfl dL_law_945 ?_
  refine ez_iconst dL_law_946 ?_
  refine ez_iadd dL_law_947 ?_
  refine ez_sld dL_law_948 (by omega) (by omega) (by omega) ?_
  refine ez_aload_n 3 rfl dL_law_949 ?_
  refine ez_iload_n 0 rfl dL_law_950 ?_
  refine ez_iconst dL_law_951 ?_
  refine ez_iadd dL_law_952 ?_
  refine ez_sld dL_law_953 (by omega) (by omega) (by omega) ?_
  rw [jo_comm dj1]
  refine z_L_98 (kc := 6 * m) (ks := 48 * m) (rest := [vI z1]) (m_watch hM hI xI_in xI_in xI_in xI_in xI_in) hM.1 rfl rfl (by show (1 : Nat) ≤ 8; decide) (by decide) dL_law_954 dj1.symm (fun r2 hm1 q2 dj2 => ?_)
  obtain ⟨z2, rfl, ez2, hM1⟩ := q2
  have e12 : z1 = z2 := ez1.trans ez2.symm
  clear ez1 ez2
  subst e12
  refine ez_same (tgt := 1368) dL_law_957 (by decide) ?_
  rw [← jo_comm dj2.symm]
  obtain ⟨S3, c1, c2, c3, c4⟩ := comb (S0 := (nx_watch S (xI xs (i + 1)) (xI xs (i + 2)) (xI xs (i + 3)) (xI xs (i + 4)) (xI xs (i + 5)))) hC1 hM1 (hx1.mono (by decide)) eqx.rf (Inv_watch hI) hJ1
  exact kk A1 S3 hc1 hm1 hA1 c1 c2 c3 c4 dj2.symm
set_option maxHeartbeats 4000000 in
theorem zc_seen {E : EV} {mn : String} {b n : Nat} {xs : Nat → Int32} {o : Nat} {A : AD} {ad : Nat → Nat} {S : MS} {hc hm : AH} {m : Nat} {i : Int} (hn : n ≤ 4096) (h0 : 0 ≤ i) (h1 : i + 8 ≤ n) (hC : CR E A S hc) (hM : MR E o ad S hm) (hI : Inv S) (hJ : CJ S) (dj : Dj hc hm) (kk : ∀ (A1 : AD) (S1 : MS) (hc1 hm1 : AH), A1 0 0 = A 0 0 → CR E A1 S1 hc1 → MR E o ad S1 hm1 → Inv S1 → CJ S1 → Dj hc1 hm1 → EvZ (Zs b n xs) E RL cL_law 4 (some .boolean) mn QLw 20 (6 * m) (48 * m) 1368 (LL b (A 0 0) o i) [] (jo hc1 hm1)) : EvZ (Zs b n xs) E RL cL_law 4 (some .boolean) mn QLw 20 (6 * m + 6) (48 * m + 48) 962 (LL b (A 0 0) o i) [] (jo hc hm) := by
  refine ez_drop (kc := 6 * m + 0) (ks := 48 * m + 0) (by omega) (by omega) ?_
  refine ez_aload_n 2 rfl dL_law_962 ?_
  refine ez_aload_n 3 rfl dL_law_963 ?_
  refine ez_iload_n 0 rfl dL_law_964 ?_
  refine ez_iconst dL_law_965 ?_
  refine ez_iadd dL_law_966 ?_
  refine ez_sld dL_law_967 (by omega) (by omega) (by omega) ?_
  refine ez_aload_n 3 rfl dL_law_968 ?_
  refine ez_iload_n 0 rfl dL_law_969 ?_
  refine ez_iconst dL_law_970 ?_
  refine ez_iadd dL_law_971 ?_
  refine ez_sld dL_law_972 (by omega) (by omega) (by omega) ?_
  refine z_L_99 (kc := 6 * m) (ks := 48 * m) (k_seen hC hI  xI_in xI_in) (hC.1 0 0 ⟨by decide, rfl⟩) rfl rfl (by simp) (by decide) dL_law_973 dj (fun r1 hc1 q1 dj1 => ?_)
  obtain ⟨z1, rfl, ez1, hC1⟩ := q1
  show EvZ _ _ _ _ _ _ _ _ _ _ _ _ _ [vI z1] _
  refine ez_aload_n 1 rfl dL_law_976 ?_
  refine ez_aload_n 3 rfl dL_law_977 ?_
  refine ez_iload_n 0 rfl dL_law_978 ?_
  refine ez_iconst dL_law_979 ?_
  refine ez_iadd dL_law_980 ?_
  refine ez_sld dL_law_981 (by omega) (by omega) (by omega) ?_
  refine ez_aload_n 3 rfl dL_law_982 ?_
  refine ez_iload_n 0 rfl dL_law_983 ?_
  refine ez_iconst dL_law_984 ?_
  refine ez_iadd dL_law_985 ?_
  refine ez_sld dL_law_986 (by omega) (by omega) (by omega) ?_
  rw [jo_comm dj1]
  refine z_L_102 (kc := 6 * m) (ks := 48 * m) (rest := [vI z1]) (m_seen hM hI xI_in xI_in) hM.1 rfl rfl (by show (1 : Nat) ≤ 8; decide) (by decide) dL_law_987 dj1.symm (fun r2 hm1 q2 dj2 => ?_)
  obtain ⟨z2, rfl, ez2, hM1⟩ := q2
  have e12 : z1 = z2 := ez1.trans ez2.symm
  clear ez1 ez2
  subst e12
  refine ez_same (tgt := 1368) dL_law_990 (by decide) ?_
  rw [← jo_comm dj2.symm]
  obtain ⟨S3, c1, c2, c3, c4⟩ := comb (S0 := S) hC1 hM1 eqx.rf eqx.rf hI hJ
  exact kk A S3 hc1 hm1 rfl c1 c2 c3 c4 dj2.symm
set_option maxHeartbeats 4000000 in
theorem zc_rate {E : EV} {mn : String} {b n : Nat} {xs : Nat → Int32} {o : Nat} {A : AD} {ad : Nat → Nat} {S : MS} {hc hm : AH} {m : Nat} {i : Int} (hn : n ≤ 4096) (h0 : 0 ≤ i) (h1 : i + 8 ≤ n) (hC : CR E A S hc) (hM : MR E o ad S hm) (hI : Inv S) (hJ : CJ S) (dj : Dj hc hm) (kk : ∀ (A1 : AD) (S1 : MS) (hc1 hm1 : AH), A1 0 0 = A 0 0 → CR E A1 S1 hc1 → MR E o ad S1 hm1 → Inv S1 → CJ S1 → Dj hc1 hm1 → EvZ (Zs b n xs) E RL cL_law 4 (some .boolean) mn QLw 20 (6 * m) (48 * m) 1368 (LL b (A 0 0) o i) [] (jo hc1 hm1)) : EvZ (Zs b n xs) E RL cL_law 4 (some .boolean) mn QLw 20 (6 * m + 6) (48 * m + 48) 995 (LL b (A 0 0) o i) [] (jo hc hm) := by
  refine ez_drop (kc := 6 * m + 0) (ks := 48 * m + 0) (by omega) (by omega) ?_
  refine ez_aload_n 2 rfl dL_law_995 ?_
  refine ez_aload_n 3 rfl dL_law_996 ?_
  refine ez_iload_n 0 rfl dL_law_997 ?_
  refine ez_iconst dL_law_998 ?_
  refine ez_iadd dL_law_999 ?_
  refine ez_sld dL_law_1000 (by omega) (by omega) (by omega) ?_
  refine ez_aload_n 3 rfl dL_law_1001 ?_
  refine ez_iload_n 0 rfl dL_law_1002 ?_
  refine ez_iconst dL_law_1003 ?_
  refine ez_iadd dL_law_1004 ?_
  refine ez_sld dL_law_1005 (by omega) (by omega) (by omega) ?_
  refine ez_aload_n 3 rfl dL_law_1006 ?_
  refine ez_iload_n 0 rfl dL_law_1007 ?_
  refine ez_iconst dL_law_1008 ?_
  refine ez_iadd dL_law_1009 ?_
  refine ez_sld dL_law_1010 (by omega) (by omega) (by omega) ?_
  refine ez_aload_n 3 rfl dL_law_1011 ?_
  refine ez_iload_n 0 rfl dL_law_1012 ?_
  refine ez_iconst dL_law_1013 ?_
  refine ez_iadd dL_law_1014 ?_
  refine ez_sld dL_law_1015 (by omega) (by omega) (by omega) ?_
  refine z_L_103 (kc := 6 * m) (ks := 48 * m) (k_rate hC hI  xI_in xI_in xI_in xI_in) (hC.1 0 0 ⟨by decide, rfl⟩) rfl rfl (by simp) (by decide) dL_law_1016 dj (fun r1 hc1 q1 dj1 => ?_)
  obtain ⟨z1, rfl, ez1, hC1⟩ := q1
  show EvZ _ _ _ _ _ _ _ _ _ _ _ _ _ [vI z1] _
  refine ez_aload_n 1 rfl dL_law_1019 ?_
  refine ez_aload_n 3 rfl dL_law_1020 ?_
  refine ez_iload_n 0 rfl dL_law_1021 ?_
  refine ez_iconst dL_law_1022 ?_
  refine ez_iadd dL_law_1023 ?_
  refine ez_sld dL_law_1024 (by omega) (by omega) (by omega) ?_
  refine ez_aload_n 3 rfl dL_law_1025 ?_
  refine ez_iload_n 0 rfl dL_law_1026 ?_
  refine ez_iconst dL_law_1027 ?_
  refine ez_iadd dL_law_1028 ?_
  refine ez_sld dL_law_1029 (by omega) (by omega) (by omega) ?_
  refine ez_aload_n 3 rfl dL_law_1030 ?_
  refine ez_iload_n 0 rfl dL_law_1031 ?_
  refine ez_iconst dL_law_1032 ?_
  refine ez_iadd dL_law_1033 ?_
  refine ez_sld dL_law_1034 (by omega) (by omega) (by omega) ?_
  refine ez_aload_n 3 rfl dL_law_1035 ?_
  refine ez_iload_n 0 rfl dL_law_1036 ?_
  refine ez_iconst dL_law_1037 ?_
  refine ez_iadd dL_law_1038 ?_
  refine ez_sld dL_law_1039 (by omega) (by omega) (by omega) ?_
  rw [jo_comm dj1]
  refine z_L_107 (kc := 6 * m) (ks := 48 * m) (rest := [vI z1]) (m_rate hM hI xI_in xI_in xI_in xI_in) hM.1 rfl rfl (by show (1 : Nat) ≤ 8; decide) (by decide) dL_law_1040 dj1.symm (fun r2 hm1 q2 dj2 => ?_)
  obtain ⟨z2, rfl, ez2, hM1⟩ := q2
  have e12 : z1 = z2 := ez1.trans ez2.symm
  clear ez1 ez2
  subst e12
  refine ez_same (tgt := 1368) dL_law_1043 (by decide) ?_
  rw [← jo_comm dj2.symm]
  obtain ⟨S3, c1, c2, c3, c4⟩ := comb (S0 := S) hC1 hM1 eqx.rf eqx.rf hI hJ
  exact kk A S3 hc1 hm1 rfl c1 c2 c3 c4 dj2.symm
set_option maxHeartbeats 4000000 in
theorem zc_round {E : EV} {mn : String} {b n : Nat} {xs : Nat → Int32} {o : Nat} {A : AD} {ad : Nat → Nat} {S : MS} {hc hm : AH} {m : Nat} {i : Int} (hn : n ≤ 4096) (h0 : 0 ≤ i) (h1 : i + 8 ≤ n) (hC : CR E A S hc) (hM : MR E o ad S hm) (hI : Inv S) (hJ : CJ S) (dj : Dj hc hm) (kk : ∀ (A1 : AD) (S1 : MS) (hc1 hm1 : AH), A1 0 0 = A 0 0 → CR E A1 S1 hc1 → MR E o ad S1 hm1 → Inv S1 → CJ S1 → Dj hc1 hm1 → EvZ (Zs b n xs) E RL cL_law 4 (some .boolean) mn QLw 20 (6 * m) (48 * m) 1368 (LL b (A 0 0) o i) [] (jo hc1 hm1)) : EvZ (Zs b n xs) E RL cL_law 4 (some .boolean) mn QLw 20 (6 * m + 6) (48 * m + 48) 1048 (LL b (A 0 0) o i) [] (jo hc hm) := by
  refine ez_drop (kc := 6 * m + 0) (ks := 48 * m + 0) (by omega) (by omega) ?_
  refine ez_aload_n 2 rfl dL_law_1048 ?_
  refine ez_aload_n 3 rfl dL_law_1049 ?_
  refine ez_iload_n 0 rfl dL_law_1050 ?_
  refine ez_iconst dL_law_1051 ?_
  refine ez_iadd dL_law_1052 ?_
  refine ez_sld dL_law_1053 (by omega) (by omega) (by omega) ?_
  refine z_L_108 (kc := 6 * m) (ks := 48 * m) (k_round hC hI hJ.1 xI_in) (hC.1 0 0 ⟨by decide, rfl⟩) rfl rfl (by simp) (by decide) dL_law_1054 dj (fun r1 hc1 q1 dj1 => ?_)
  obtain ⟨z1, rfl, ez1, S1, hC1, hx1⟩ := q1
  show EvZ _ _ _ _ _ _ _ _ _ _ _ _ _ [vI z1] _
  refine ez_aload_n 1 rfl dL_law_1057 ?_
  refine ez_aload_n 3 rfl dL_law_1058 ?_
  refine ez_iload_n 0 rfl dL_law_1059 ?_
  refine ez_iconst dL_law_1060 ?_
  refine ez_iadd dL_law_1061 ?_
  refine ez_sld dL_law_1062 (by omega) (by omega) (by omega) ?_
  rw [jo_comm dj1]
  refine z_L_111 (kc := 6 * m) (ks := 48 * m) (rest := [vI z1]) (m_round hM hI xI_in) hM.1 rfl rfl (by show (1 : Nat) ≤ 8; decide) (by decide) dL_law_1063 dj1.symm (fun r2 hm1 q2 dj2 => ?_)
  obtain ⟨z2, rfl, ez2, S2, hM1, hx2⟩ := q2
  have e12 : z1 = z2 := ez1.trans ez2.symm
  clear ez1 ez2
  subst e12
  refine ez_same (tgt := 1368) dL_law_1066 (by decide) ?_
  rw [← jo_comm dj2.symm]
  obtain ⟨S3, c1, c2, c3, c4⟩ := comb (S0 := S) hC1 hM1 (hx1.mono (by decide)) (hx2.mono (by decide)) hI (hJ.x hx1 (by decide) (by decide) (by decide) (by decide) (by decide))
  exact kk A S3 hc1 hm1 rfl c1 c2 c3 c4 dj2.symm
set_option maxHeartbeats 4000000 in
theorem zc_best {E : EV} {mn : String} {b n : Nat} {xs : Nat → Int32} {o : Nat} {A : AD} {ad : Nat → Nat} {S : MS} {hc hm : AH} {m : Nat} {i : Int} (hn : n ≤ 4096) (h0 : 0 ≤ i) (h1 : i + 8 ≤ n) (hC : CR E A S hc) (hM : MR E o ad S hm) (hI : Inv S) (hJ : CJ S) (dj : Dj hc hm) (kk : ∀ (A1 : AD) (S1 : MS) (hc1 hm1 : AH), A1 0 0 = A 0 0 → CR E A1 S1 hc1 → MR E o ad S1 hm1 → Inv S1 → CJ S1 → Dj hc1 hm1 → EvZ (Zs b n xs) E RL cL_law 4 (some .boolean) mn QLw 20 (6 * m) (48 * m) 1368 (LL b (A 0 0) o i) [] (jo hc1 hm1)) : EvZ (Zs b n xs) E RL cL_law 4 (some .boolean) mn QLw 20 (6 * m + 6) (48 * m + 48) 1071 (LL b (A 0 0) o i) [] (jo hc hm) := by
  refine ez_drop (kc := 6 * m + 0) (ks := 48 * m + 0) (by omega) (by omega) ?_
  refine ez_aload_n 2 rfl dL_law_1071 ?_
  refine z_L_112 (kc := 6 * m) (ks := 48 * m) (k_best hC hI hJ.1 ) (hC.1 0 0 ⟨by decide, rfl⟩) rfl rfl (by simp) (by decide) dL_law_1072 dj (fun r1 hc1 q1 dj1 => ?_)
  obtain ⟨z1, rfl, ez1, S1, hC1, hx1⟩ := q1
  show EvZ _ _ _ _ _ _ _ _ _ _ _ _ _ [vI z1] _
  refine ez_aload_n 1 rfl dL_law_1075 ?_
  rw [jo_comm dj1]
  refine z_L_116 (kc := 6 * m) (ks := 48 * m) (rest := [vI z1]) (m_best hM hI ) hM.1 rfl rfl (by show (1 : Nat) ≤ 8; decide) (by decide) dL_law_1076 dj1.symm (fun r2 hm1 q2 dj2 => ?_)
  obtain ⟨z2, rfl, ez2, S2, hM1, hx2⟩ := q2
  have e12 : z1 = z2 := ez1.trans ez2.symm
  clear ez1 ez2
  subst e12
  refine ez_same (tgt := 1368) dL_law_1079 (by decide) ?_
  rw [← jo_comm dj2.symm]
  obtain ⟨S3, c1, c2, c3, c4⟩ := comb (S0 := S) hC1 hM1 (hx1.mono (by decide)) (hx2.mono (by decide)) hI (hJ.x hx1 (by decide) (by decide) (by decide) (by decide) (by decide))
  exact kk A S3 hc1 hm1 rfl c1 c2 c3 c4 dj2.symm
set_option maxHeartbeats 4000000 in
theorem zc_share {E : EV} {mn : String} {b n : Nat} {xs : Nat → Int32} {o : Nat} {A : AD} {ad : Nat → Nat} {S : MS} {hc hm : AH} {m : Nat} {i : Int} (hn : n ≤ 4096) (h0 : 0 ≤ i) (h1 : i + 8 ≤ n) (hC : CR E A S hc) (hM : MR E o ad S hm) (hI : Inv S) (hJ : CJ S) (dj : Dj hc hm) (kk : ∀ (A1 : AD) (S1 : MS) (hc1 hm1 : AH), A1 0 0 = A 0 0 → CR E A1 S1 hc1 → MR E o ad S1 hm1 → Inv S1 → CJ S1 → Dj hc1 hm1 → EvZ (Zs b n xs) E RL cL_law 4 (some .boolean) mn QLw 20 (6 * m) (48 * m) 1368 (LL b (A 0 0) o i) [] (jo hc1 hm1)) : EvZ (Zs b n xs) E RL cL_law 4 (some .boolean) mn QLw 20 (6 * m + 6) (48 * m + 48) 1084 (LL b (A 0 0) o i) [] (jo hc hm) := by
  refine ez_drop (kc := 6 * m + 0) (ks := 48 * m + 0) (by omega) (by omega) ?_
  refine ez_aload_n 2 rfl dL_law_1084 ?_
  refine ez_aload_n 3 rfl dL_law_1085 ?_
  refine ez_iload_n 0 rfl dL_law_1086 ?_
  refine ez_iconst dL_law_1087 ?_
  refine ez_iadd dL_law_1088 ?_
  refine ez_sld dL_law_1089 (by omega) (by omega) (by omega) ?_
  refine ez_aload_n 3 rfl dL_law_1090 ?_
  refine ez_iload_n 0 rfl dL_law_1091 ?_
  refine ez_iconst dL_law_1092 ?_
  refine ez_iadd dL_law_1093 ?_
  refine ez_sld dL_law_1094 (by omega) (by omega) (by omega) ?_
  refine z_L_117 (kc := 6 * m) (ks := 48 * m) (k_share hC hI  xI_in xI_in) (hC.1 0 0 ⟨by decide, rfl⟩) rfl rfl (by simp) (by decide) dL_law_1095 dj (fun r1 hc1 q1 dj1 => ?_)
  obtain ⟨z1, rfl, ez1, hC1⟩ := q1
  show EvZ _ _ _ _ _ _ _ _ _ _ _ _ _ [vI z1] _
  refine ez_aload_n 1 rfl dL_law_1098 ?_
  refine ez_aload_n 3 rfl dL_law_1099 ?_
  refine ez_iload_n 0 rfl dL_law_1100 ?_
  refine ez_iconst dL_law_1101 ?_
  refine ez_iadd dL_law_1102 ?_
  refine ez_sld dL_law_1103 (by omega) (by omega) (by omega) ?_
  refine ez_aload_n 3 rfl dL_law_1104 ?_
  refine ez_iload_n 0 rfl dL_law_1105 ?_
  refine ez_iconst dL_law_1106 ?_
  refine ez_iadd dL_law_1107 ?_
  refine ez_sld dL_law_1108 (by omega) (by omega) (by omega) ?_
  rw [jo_comm dj1]
  refine z_L_120 (kc := 6 * m) (ks := 48 * m) (rest := [vI z1]) (m_share hM hI xI_in xI_in) hM.1 rfl rfl (by show (1 : Nat) ≤ 8; decide) (by decide) dL_law_1109 dj1.symm (fun r2 hm1 q2 dj2 => ?_)
  obtain ⟨z2, rfl, ez2, hM1⟩ := q2
  have e12 : z1 = z2 := ez1.trans ez2.symm
  clear ez1 ez2
  subst e12
  refine ez_same (tgt := 1368) dL_law_1112 (by decide) ?_
  rw [← jo_comm dj2.symm]
  obtain ⟨S3, c1, c2, c3, c4⟩ := comb (S0 := (nx_share S (xI xs (i + 1)) (xI xs (i + 2)))) hC1 hM1 eqx.rf eqx.rf (Inv_share hI) (CJ_share hJ)
  exact kk A S3 hc1 hm1 rfl c1 c2 c3 c4 dj2.symm
set_option maxHeartbeats 4000000 in
theorem zc_mended {E : EV} {mn : String} {b n : Nat} {xs : Nat → Int32} {o : Nat} {A : AD} {ad : Nat → Nat} {S : MS} {hc hm : AH} {m : Nat} {i : Int} (hn : n ≤ 4096) (h0 : 0 ≤ i) (h1 : i + 8 ≤ n) (hC : CR E A S hc) (hM : MR E o ad S hm) (hI : Inv S) (hJ : CJ S) (dj : Dj hc hm) (kk : ∀ (A1 : AD) (S1 : MS) (hc1 hm1 : AH), A1 0 0 = A 0 0 → CR E A1 S1 hc1 → MR E o ad S1 hm1 → Inv S1 → CJ S1 → Dj hc1 hm1 → EvZ (Zs b n xs) E RL cL_law 4 (some .boolean) mn QLw 20 (6 * m) (48 * m) 1368 (LL b (A 0 0) o i) [] (jo hc1 hm1)) : EvZ (Zs b n xs) E RL cL_law 4 (some .boolean) mn QLw 20 (6 * m + 6) (48 * m + 48) 1117 (LL b (A 0 0) o i) [] (jo hc hm) := by
  refine ez_drop (kc := 6 * m + 0) (ks := 48 * m + 0) (by omega) (by omega) ?_
  refine ez_aload_n 2 rfl dL_law_1117 ?_
  refine ez_aload_n 3 rfl dL_law_1118 ?_
  refine ez_iload_n 0 rfl dL_law_1119 ?_
  refine ez_iconst dL_law_1120 ?_
  refine ez_iadd dL_law_1121 ?_
  refine ez_sld dL_law_1122 (by omega) (by omega) (by omega) ?_
  refine ez_aload_n 3 rfl dL_law_1123 ?_
  refine ez_iload_n 0 rfl dL_law_1124 ?_
  refine ez_iconst dL_law_1125 ?_
  refine ez_iadd dL_law_1126 ?_
  refine ez_sld dL_law_1127 (by omega) (by omega) (by omega) ?_
  refine z_L_121 (kc := 6 * m) (ks := 48 * m) (k_mended hC hI  xI_in xI_in) (hC.1 0 0 ⟨by decide, rfl⟩) rfl rfl (by simp) (by decide) dL_law_1128 dj (fun r1 hc1 q1 dj1 => ?_)
  obtain ⟨z1, rfl, ez1, hC1⟩ := q1
  show EvZ _ _ _ _ _ _ _ _ _ _ _ _ _ [vI z1] _
  refine ez_aload_n 1 rfl dL_law_1131 ?_
  refine ez_aload_n 3 rfl dL_law_1132 ?_
  refine ez_iload_n 0 rfl dL_law_1133 ?_
  refine ez_iconst dL_law_1134 ?_
  refine ez_iadd dL_law_1135 ?_
  refine ez_sld dL_law_1136 (by omega) (by omega) (by omega) ?_
  refine ez_aload_n 3 rfl dL_law_1137 ?_
  refine ez_iload_n 0 rfl dL_law_1138 ?_
  refine ez_iconst dL_law_1139 ?_
  refine ez_iadd dL_law_1140 ?_
  refine ez_sld dL_law_1141 (by omega) (by omega) (by omega) ?_
  rw [jo_comm dj1]
  refine z_L_124 (kc := 6 * m) (ks := 48 * m) (rest := [vI z1]) (m_mended hM hI xI_in xI_in) hM.1 rfl rfl (by show (1 : Nat) ≤ 8; decide) (by decide) dL_law_1142 dj1.symm (fun r2 hm1 q2 dj2 => ?_)
  obtain ⟨z2, rfl, ez2, hM1⟩ := q2
  have e12 : z1 = z2 := ez1.trans ez2.symm
  clear ez1 ez2
  subst e12
  refine ez_same (tgt := 1368) dL_law_1145 (by decide) ?_
  rw [← jo_comm dj2.symm]
  obtain ⟨S3, c1, c2, c3, c4⟩ := comb (S0 := S) hC1 hM1 eqx.rf eqx.rf hI hJ
  exact kk A S3 hc1 hm1 rfl c1 c2 c3 c4 dj2.symm
set_option maxHeartbeats 4000000 in
theorem zc_moved {E : EV} {mn : String} {b n : Nat} {xs : Nat → Int32} {o : Nat} {A : AD} {ad : Nat → Nat} {S : MS} {hc hm : AH} {m : Nat} {i : Int} (hn : n ≤ 4096) (h0 : 0 ≤ i) (h1 : i + 8 ≤ n) (hC : CR E A S hc) (hM : MR E o ad S hm) (hI : Inv S) (hJ : CJ S) (dj : Dj hc hm) (kk : ∀ (A1 : AD) (S1 : MS) (hc1 hm1 : AH), A1 0 0 = A 0 0 → CR E A1 S1 hc1 → MR E o ad S1 hm1 → Inv S1 → CJ S1 → Dj hc1 hm1 → EvZ (Zs b n xs) E RL cL_law 4 (some .boolean) mn QLw 20 (6 * m) (48 * m) 1368 (LL b (A 0 0) o i) [] (jo hc1 hm1)) : EvZ (Zs b n xs) E RL cL_law 4 (some .boolean) mn QLw 20 (6 * m + 6) (48 * m + 48) 1150 (LL b (A 0 0) o i) [] (jo hc hm) := by
  refine ez_drop (kc := 6 * m + 0) (ks := 48 * m + 0) (by omega) (by omega) ?_
  refine ez_aload_n 2 rfl dL_law_1150 ?_
  refine ez_aload_n 3 rfl dL_law_1151 ?_
  refine ez_iload_n 0 rfl dL_law_1152 ?_
  refine ez_iconst dL_law_1153 ?_
  refine ez_iadd dL_law_1154 ?_
  refine ez_sld dL_law_1155 (by omega) (by omega) (by omega) ?_
  refine z_L_125 (kc := 6 * m) (ks := 48 * m) (k_moved hC hI  xI_in) (hC.1 0 0 ⟨by decide, rfl⟩) rfl rfl (by simp) (by decide) dL_law_1156 dj (fun r1 hc1 q1 dj1 => ?_)
  obtain ⟨z1, rfl, ez1, S1, hC1, hx1⟩ := q1
  show EvZ _ _ _ _ _ _ _ _ _ _ _ _ _ [vI z1] _
  refine ez_aload_n 1 rfl dL_law_1159 ?_
  refine ez_aload_n 3 rfl dL_law_1160 ?_
  refine ez_iload_n 0 rfl dL_law_1161 ?_
  refine ez_iconst dL_law_1162 ?_
  refine ez_iadd dL_law_1163 ?_
  refine ez_sld dL_law_1164 (by omega) (by omega) (by omega) ?_
  rw [jo_comm dj1]
  refine z_L_128 (kc := 6 * m) (ks := 48 * m) (rest := [vI z1]) (m_moved hM hI xI_in) hM.1 rfl rfl (by show (1 : Nat) ≤ 8; decide) (by decide) dL_law_1165 dj1.symm (fun r2 hm1 q2 dj2 => ?_)
  obtain ⟨z2, rfl, ez2, S2, hM1, hx2⟩ := q2
  have e12 : z1 = z2 := ez1.trans ez2.symm
  clear ez1 ez2
  subst e12
  refine ez_same (tgt := 1368) dL_law_1168 (by decide) ?_
  rw [← jo_comm dj2.symm]
  obtain ⟨S3, c1, c2, c3, c4⟩ := comb (S0 := S) hC1 hM1 (hx1.mono (by decide)) (hx2.mono (by decide)) hI (hJ.x hx1 (by decide) (by decide) (by decide) (by decide) (by decide))
  exact kk A S3 hc1 hm1 rfl c1 c2 c3 c4 dj2.symm
set_option maxHeartbeats 4000000 in
theorem zc_count {E : EV} {mn : String} {b n : Nat} {xs : Nat → Int32} {o : Nat} {A : AD} {ad : Nat → Nat} {S : MS} {hc hm : AH} {m : Nat} {i : Int} (hn : n ≤ 4096) (h0 : 0 ≤ i) (h1 : i + 8 ≤ n) (hC : CR E A S hc) (hM : MR E o ad S hm) (hI : Inv S) (hJ : CJ S) (dj : Dj hc hm) (kk : ∀ (A1 : AD) (S1 : MS) (hc1 hm1 : AH), A1 0 0 = A 0 0 → CR E A1 S1 hc1 → MR E o ad S1 hm1 → Inv S1 → CJ S1 → Dj hc1 hm1 → EvZ (Zs b n xs) E RL cL_law 4 (some .boolean) mn QLw 20 (6 * m) (48 * m) 1368 (LL b (A 0 0) o i) [] (jo hc1 hm1)) : EvZ (Zs b n xs) E RL cL_law 4 (some .boolean) mn QLw 20 (6 * m + 6) (48 * m + 48) 1173 (LL b (A 0 0) o i) [] (jo hc hm) := by
  refine ez_drop (kc := 6 * m + 0) (ks := 48 * m + 0) (by omega) (by omega) ?_
  refine ez_aload_n 2 rfl dL_law_1173 ?_
  refine ez_aload_n 3 rfl dL_law_1174 ?_
  refine ez_iload_n 0 rfl dL_law_1175 ?_
  refine ez_iconst dL_law_1176 ?_
  refine ez_iadd dL_law_1177 ?_
  refine ez_sld dL_law_1178 (by omega) (by omega) (by omega) ?_
  refine z_L_129 (kc := 6 * m) (ks := 48 * m) (k_count hC hI hJ.1 xI_in) (hC.1 0 0 ⟨by decide, rfl⟩) rfl rfl (by simp) (by decide) dL_law_1179 dj (fun r1 hc1 q1 dj1 => ?_)
  obtain ⟨z1, rfl, ez1, hC1⟩ := q1
  show EvZ _ _ _ _ _ _ _ _ _ _ _ _ _ [vI z1] _
  refine ez_aload_n 1 rfl dL_law_1182 ?_
  refine ez_aload_n 3 rfl dL_law_1183 ?_
  refine ez_iload_n 0 rfl dL_law_1184 ?_
  refine ez_iconst dL_law_1185 ?_
  refine ez_iadd dL_law_1186 ?_
  refine ez_sld dL_law_1187 (by omega) (by omega) (by omega) ?_
  rw [jo_comm dj1]
  refine z_L_132 (kc := 6 * m) (ks := 48 * m) (rest := [vI z1]) (m_count hM hI xI_in) hM.1 rfl rfl (by show (1 : Nat) ≤ 8; decide) (by decide) dL_law_1188 dj1.symm (fun r2 hm1 q2 dj2 => ?_)
  obtain ⟨rfl, rfl⟩ := q2
  have hM1 := hM
  subst ez1
  refine ez_same (tgt := 1368) dL_law_1191 (by decide) ?_
  rw [← jo_comm dj2.symm]
  obtain ⟨S3, c1, c2, c3, c4⟩ := comb (S0 := S) hC1 hM1 eqx.rf eqx.rf hI hJ
  exact kk A S3 hc1 _ rfl c1 c2 c3 c4 dj2.symm
set_option maxHeartbeats 4000000 in
theorem zc_sheet {E : EV} {mn : String} {b n : Nat} {xs : Nat → Int32} {o : Nat} {A : AD} {ad : Nat → Nat} {S : MS} {hc hm : AH} {m : Nat} {i : Int} (hn : n ≤ 4096) (h0 : 0 ≤ i) (h1 : i + 8 ≤ n) (hC : CR E A S hc) (hM : MR E o ad S hm) (hI : Inv S) (hJ : CJ S) (dj : Dj hc hm) (kk : ∀ (A1 : AD) (S1 : MS) (hc1 hm1 : AH), A1 0 0 = A 0 0 → CR E A1 S1 hc1 → MR E o ad S1 hm1 → Inv S1 → CJ S1 → Dj hc1 hm1 → EvZ (Zs b n xs) E RL cL_law 4 (some .boolean) mn QLw 20 (6 * m) (48 * m) 1368 (LL b (A 0 0) o i) [] (jo hc1 hm1)) : EvZ (Zs b n xs) E RL cL_law 4 (some .boolean) mn QLw 20 (6 * m + 6) (48 * m + 48) 1196 (LL b (A 0 0) o i) [] (jo hc hm) := by
  refine ez_drop (kc := 6 * m + 2) (ks := 48 * m + 38) (by omega) (by omega) ?_
  refine ez_aload_n 2 rfl dL_law_1196 ?_
  refine ez_aload_n 3 rfl dL_law_1197 ?_
  refine ez_iload_n 0 rfl dL_law_1198 ?_
  refine ez_iconst dL_law_1199 ?_
  refine ez_iadd dL_law_1200 ?_
  refine ez_sld dL_law_1201 (by omega) (by omega) (by omega) ?_
  refine ez_aload_n 3 rfl dL_law_1202 ?_
  refine ez_iload_n 0 rfl dL_law_1203 ?_
  refine ez_iconst dL_law_1204 ?_
  refine ez_iadd dL_law_1205 ?_
  refine ez_sld dL_law_1206 (by omega) (by omega) (by omega) ?_
  refine ez_aload_n 3 rfl dL_law_1207 ?_
  refine ez_iload_n 0 rfl dL_law_1208 ?_
  refine ez_iconst dL_law_1209 ?_
  refine ez_iadd dL_law_1210 ?_
  refine ez_sld dL_law_1211 (by omega) (by omega) (by omega) ?_
  refine z_L_133 (kc := 6 * m) (ks := 48 * m) (k_sheet hC hI hJ xI_in xI_in xI_in) (hC.1 0 0 ⟨by decide, rfl⟩) rfl rfl (by simp) (by decide) dL_law_1212 dj (fun r1 hc1 q1 dj1 => ?_)
  obtain ⟨z1, rfl, ez1, A1, S1, hC1, hA1, hx1, hJ1⟩ := q1
  show EvZ _ _ _ _ _ _ _ _ _ _ _ _ _ [vI z1] _
  refine ez_aload_n 1 rfl dL_law_1215 ?_
  refine ez_aload_n 3 rfl dL_law_1216 ?_
  refine ez_iload_n 0 rfl dL_law_1217 ?_
  refine ez_iconst dL_law_1218 ?_
  refine ez_iadd dL_law_1219 ?_
  refine ez_sld dL_law_1220 (by omega) (by omega) (by omega) ?_
  refine ez_aload_n 3 rfl dL_law_1221 ?_
  refine ez_iload_n 0 rfl dL_law_1222 ?_
  refine ez_iconst dL_law_1223 ?_
  refine ez_iadd dL_law_1224 ?_
  refine ez_sld dL_law_1225 (by omega) (by omega) (by omega) ?_
  refine ez_aload_n 3 rfl dL_law_1226 ?_
  refine ez_iload_n 0 rfl dL_law_1227 ?_
  refine ez_iconst dL_law_1228 ?_
  refine ez_iadd dL_law_1229 ?_
  refine ez_sld dL_law_1230 (by omega) (by omega) (by omega) ?_
  rw [jo_comm dj1]
  refine z_L_136 (kc := 6 * m) (ks := 48 * m) (rest := [vI z1]) (m_sheet hM hI xI_in xI_in xI_in) hM.1 rfl rfl (by show (1 : Nat) ≤ 8; decide) (by decide) dL_law_1231 dj1.symm (fun r2 hm1 q2 dj2 => ?_)
  obtain ⟨z2, rfl, ez2, hM1⟩ := q2
  have e12 : z1 = z2 := ez1.trans ez2.symm
  clear ez1 ez2
  subst e12
  refine ez_same (tgt := 1368) dL_law_1234 (by decide) ?_
  rw [← jo_comm dj2.symm]
  obtain ⟨S3, c1, c2, c3, c4⟩ := comb (S0 := (nx_sheet S (xI xs (i + 1)) (xI xs (i + 2)) (xI xs (i + 3)))) hC1 hM1 (hx1.mono (by decide)) eqx.rf (Inv_sheet hI) hJ1
  exact kk A1 S3 hc1 hm1 hA1 c1 c2 c3 c4 dj2.symm
set_option maxHeartbeats 4000000 in
theorem zc_drop {E : EV} {mn : String} {b n : Nat} {xs : Nat → Int32} {o : Nat} {A : AD} {ad : Nat → Nat} {S : MS} {hc hm : AH} {m : Nat} {i : Int} (hn : n ≤ 4096) (h0 : 0 ≤ i) (h1 : i + 8 ≤ n) (hC : CR E A S hc) (hM : MR E o ad S hm) (hI : Inv S) (hJ : CJ S) (dj : Dj hc hm) (kk : ∀ (A1 : AD) (S1 : MS) (hc1 hm1 : AH), A1 0 0 = A 0 0 → CR E A1 S1 hc1 → MR E o ad S1 hm1 → Inv S1 → CJ S1 → Dj hc1 hm1 → EvZ (Zs b n xs) E RL cL_law 4 (some .boolean) mn QLw 20 (6 * m) (48 * m) 1368 (LL b (A 0 0) o i) [] (jo hc1 hm1)) : EvZ (Zs b n xs) E RL cL_law 4 (some .boolean) mn QLw 20 (6 * m + 6) (48 * m + 48) 1239 (LL b (A 0 0) o i) [] (jo hc hm) := by
  refine ez_drop (kc := 6 * m + 0) (ks := 48 * m + 0) (by omega) (by omega) ?_
  refine ez_aload_n 2 rfl dL_law_1239 ?_
  refine ez_aload_n 3 rfl dL_law_1240 ?_
  refine ez_iload_n 0 rfl dL_law_1241 ?_
  refine ez_iconst dL_law_1242 ?_
  refine ez_iadd dL_law_1243 ?_
  refine ez_sld dL_law_1244 (by omega) (by omega) (by omega) ?_
  refine z_L_137 (kc := 6 * m) (ks := 48 * m) (k_drop hC hI hJ xI_in) (hC.1 0 0 ⟨by decide, rfl⟩) rfl rfl (by simp) (by decide) dL_law_1245 dj (fun r1 hc1 q1 dj1 => ?_)
  obtain ⟨z1, rfl, ez1, A1, S1, hC1, hA1, hx1, hJ1⟩ := q1
  show EvZ _ _ _ _ _ _ _ _ _ _ _ _ _ [vI z1] _
  refine ez_aload_n 1 rfl dL_law_1248 ?_
  refine ez_aload_n 3 rfl dL_law_1249 ?_
  refine ez_iload_n 0 rfl dL_law_1250 ?_
  refine ez_iconst dL_law_1251 ?_
  refine ez_iadd dL_law_1252 ?_
  refine ez_sld dL_law_1253 (by omega) (by omega) (by omega) ?_
  rw [jo_comm dj1]
  refine z_L_140 (kc := 6 * m) (ks := 48 * m) (rest := [vI z1]) (m_drop hM hI xI_in) hM.1 rfl rfl (by show (1 : Nat) ≤ 8; decide) (by decide) dL_law_1254 dj1.symm (fun r2 hm1 q2 dj2 => ?_)
  obtain ⟨z2, rfl, ez2, hM1⟩ := q2
  have e12 : z1 = z2 := ez1.trans ez2.symm
  clear ez1 ez2
  subst e12
  refine ez_same (tgt := 1368) dL_law_1257 (by decide) ?_
  rw [← jo_comm dj2.symm]
  obtain ⟨S3, c1, c2, c3, c4⟩ := comb (S0 := (nx_drop S (xI xs (i + 1)))) hC1 hM1 (hx1.mono (by decide)) eqx.rf (Inv_drop hI) hJ1
  exact kk A1 S3 hc1 hm1 hA1 c1 c2 c3 c4 dj2.symm
set_option maxHeartbeats 4000000 in
theorem zc_item {E : EV} {mn : String} {b n : Nat} {xs : Nat → Int32} {o : Nat} {A : AD} {ad : Nat → Nat} {S : MS} {hc hm : AH} {m : Nat} {i : Int} (hn : n ≤ 4096) (h0 : 0 ≤ i) (h1 : i + 8 ≤ n) (hC : CR E A S hc) (hM : MR E o ad S hm) (hI : Inv S) (hJ : CJ S) (dj : Dj hc hm) (kk : ∀ (A1 : AD) (S1 : MS) (hc1 hm1 : AH), A1 0 0 = A 0 0 → CR E A1 S1 hc1 → MR E o ad S1 hm1 → Inv S1 → CJ S1 → Dj hc1 hm1 → EvZ (Zs b n xs) E RL cL_law 4 (some .boolean) mn QLw 20 (6 * m) (48 * m) 1368 (LL b (A 0 0) o i) [] (jo hc1 hm1)) : EvZ (Zs b n xs) E RL cL_law 4 (some .boolean) mn QLw 20 (6 * m + 6) (48 * m + 48) 1262 (LL b (A 0 0) o i) [] (jo hc hm) := by
  refine ez_drop (kc := 6 * m + 0) (ks := 48 * m + 0) (by omega) (by omega) ?_
  refine ez_aload_n 2 rfl dL_law_1262 ?_
  refine ez_aload_n 3 rfl dL_law_1263 ?_
  refine ez_iload_n 0 rfl dL_law_1264 ?_
  refine ez_iconst dL_law_1265 ?_
  refine ez_iadd dL_law_1266 ?_
  refine ez_sld dL_law_1267 (by omega) (by omega) (by omega) ?_
  refine ez_aload_n 3 rfl dL_law_1268 ?_
  refine ez_iload_n 0 rfl dL_law_1269 ?_
  refine ez_iconst dL_law_1270 ?_
  refine ez_iadd dL_law_1271 ?_
  refine ez_sld dL_law_1272 (by omega) (by omega) (by omega) ?_
  refine ez_aload_n 3 rfl dL_law_1273 ?_
  refine ez_iload_n 0 rfl dL_law_1274 ?_
  refine ez_iconst dL_law_1275 ?_
  refine ez_iadd dL_law_1276 ?_
  refine ez_sld dL_law_1277 (by omega) (by omega) (by omega) ?_
  refine ez_aload_n 3 rfl dL_law_1278 ?_
  refine ez_iload_n 0 rfl dL_law_1279 ?_
  refine ez_iconst dL_law_1280 ?_
  refine ez_iadd dL_law_1281 ?_
  refine ez_sld dL_law_1282 (by omega) (by omega) (by omega) ?_
  refine z_L_141 (kc := 6 * m) (ks := 48 * m) (k_item hC hI hJ xI_in xI_in xI_in xI_in) (hC.1 0 0 ⟨by decide, rfl⟩) rfl rfl (by simp) (by decide) dL_law_1283 dj (fun r1 hc1 q1 dj1 => ?_)
  obtain ⟨z1, rfl, ez1, A1, S1, hC1, hA1, hx1, hJ1⟩ := q1
  show EvZ _ _ _ _ _ _ _ _ _ _ _ _ _ [vI z1] _
  refine ez_aload_n 1 rfl dL_law_1286 ?_
  refine ez_aload_n 3 rfl dL_law_1287 ?_
  refine ez_iload_n 0 rfl dL_law_1288 ?_
  refine ez_iconst dL_law_1289 ?_
  refine ez_iadd dL_law_1290 ?_
  refine ez_sld dL_law_1291 (by omega) (by omega) (by omega) ?_
  refine ez_aload_n 3 rfl dL_law_1292 ?_
  refine ez_iload_n 0 rfl dL_law_1293 ?_
  refine ez_iconst dL_law_1294 ?_
  refine ez_iadd dL_law_1295 ?_
  refine ez_sld dL_law_1296 (by omega) (by omega) (by omega) ?_
  refine ez_aload_n 3 rfl dL_law_1297 ?_
  refine ez_iload_n 0 rfl dL_law_1298 ?_
  refine ez_iconst dL_law_1299 ?_
  refine ez_iadd dL_law_1300 ?_
  refine ez_sld dL_law_1301 (by omega) (by omega) (by omega) ?_
  refine ez_aload_n 3 rfl dL_law_1302 ?_
  refine ez_iload_n 0 rfl dL_law_1303 ?_
  refine ez_iconst dL_law_1304 ?_
  refine ez_iadd dL_law_1305 ?_
  refine ez_sld dL_law_1306 (by omega) (by omega) (by omega) ?_
  rw [jo_comm dj1]
  refine z_L_144 (kc := 6 * m) (ks := 48 * m) (rest := [vI z1]) (m_item hM hI xI_in xI_in xI_in xI_in) hM.1 rfl rfl (by show (1 : Nat) ≤ 8; decide) (by decide) dL_law_1307 dj1.symm (fun r2 hm1 q2 dj2 => ?_)
  obtain ⟨z2, rfl, ez2, hM1⟩ := q2
  have e12 : z1 = z2 := ez1.trans ez2.symm
  clear ez1 ez2
  subst e12
  refine ez_same (tgt := 1368) dL_law_1310 (by decide) ?_
  rw [← jo_comm dj2.symm]
  obtain ⟨S3, c1, c2, c3, c4⟩ := comb (S0 := (nx_item S (xI xs (i + 1)) (xI xs (i + 2)) (xI xs (i + 3)) (xI xs (i + 4)))) hC1 hM1 (hx1.mono (by decide)) eqx.rf (Inv_item hI) hJ1
  exact kk A1 S3 hc1 hm1 hA1 c1 c2 c3 c4 dj2.symm
set_option maxHeartbeats 4000000 in
theorem zc_arcs {E : EV} {mn : String} {b n : Nat} {xs : Nat → Int32} {o : Nat} {A : AD} {ad : Nat → Nat} {S : MS} {hc hm : AH} {m : Nat} {i : Int} (hn : n ≤ 4096) (h0 : 0 ≤ i) (h1 : i + 8 ≤ n) (hC : CR E A S hc) (hM : MR E o ad S hm) (hI : Inv S) (hJ : CJ S) (dj : Dj hc hm) (kk : ∀ (A1 : AD) (S1 : MS) (hc1 hm1 : AH), A1 0 0 = A 0 0 → CR E A1 S1 hc1 → MR E o ad S1 hm1 → Inv S1 → CJ S1 → Dj hc1 hm1 → EvZ (Zs b n xs) E RL cL_law 4 (some .boolean) mn QLw 20 (6 * m) (48 * m) 1368 (LL b (A 0 0) o i) [] (jo hc1 hm1)) : EvZ (Zs b n xs) E RL cL_law 4 (some .boolean) mn QLw 20 (6 * m + 6) (48 * m + 48) 1315 (LL b (A 0 0) o i) [] (jo hc hm) := by
  refine ez_drop (kc := 6 * m + 6) (ks := 48 * m + 48) (by omega) (by omega) ?_
  refine ez_aload_n 2 rfl dL_law_1315 ?_
  refine ez_aload_n 3 rfl dL_law_1316 ?_
  refine ez_iload_n 0 rfl dL_law_1317 ?_
  refine ez_iconst dL_law_1318 ?_
  refine ez_iadd dL_law_1319 ?_
  refine ez_sld dL_law_1320 (by omega) (by omega) (by omega) ?_
  refine ez_aload_n 3 rfl dL_law_1321 ?_
  refine ez_iload_n 0 rfl dL_law_1322 ?_
  refine ez_iconst dL_law_1323 ?_
  refine ez_iadd dL_law_1324 ?_
  refine ez_sld dL_law_1325 (by omega) (by omega) (by omega) ?_
  refine ez_aload_n 3 rfl dL_law_1326 ?_
  refine ez_iload_n 0 rfl dL_law_1327 ?_
  refine ez_iconst dL_law_1328 ?_
  refine ez_iadd dL_law_1329 ?_
  refine ez_sld dL_law_1330 (by omega) (by omega) (by omega) ?_
  refine ez_aload_n 3 rfl dL_law_1331 ?_
  refine ez_iload_n 0 rfl dL_law_1332 ?_
  refine ez_iconst dL_law_1333 ?_
  refine ez_iadd dL_law_1334 ?_
  refine ez_sld dL_law_1335 (by omega) (by omega) (by omega) ?_
  refine z_L_145 (kc := 6 * m) (ks := 48 * m) (k_arcs hC hI hJ xI_in xI_in xI_in xI_in) (hC.1 0 0 ⟨by decide, rfl⟩) rfl rfl (by simp) (by decide) dL_law_1336 dj (fun r1 hc1 q1 dj1 => ?_)
  obtain ⟨z1, rfl, ez1, A1, S1, hC1, hA1, hx1, hJ1⟩ := q1
  show EvZ _ _ _ _ _ _ _ _ _ _ _ _ _ [vI z1] _
  refine ez_aload_n 1 rfl dL_law_1339 ?_
  refine ez_aload_n 3 rfl dL_law_1340 ?_
  refine ez_iload_n 0 rfl dL_law_1341 ?_
  refine ez_iconst dL_law_1342 ?_
  refine ez_iadd dL_law_1343 ?_
  refine ez_sld dL_law_1344 (by omega) (by omega) (by omega) ?_
  refine ez_aload_n 3 rfl dL_law_1345 ?_
  refine ez_iload_n 0 rfl dL_law_1346 ?_
  refine ez_iconst dL_law_1347 ?_
  refine ez_iadd dL_law_1348 ?_
  refine ez_sld dL_law_1349 (by omega) (by omega) (by omega) ?_
  refine ez_aload_n 3 rfl dL_law_1350 ?_
  refine ez_iload_n 0 rfl dL_law_1351 ?_
  refine ez_iconst dL_law_1352 ?_
  refine ez_iadd dL_law_1353 ?_
  refine ez_sld dL_law_1354 (by omega) (by omega) (by omega) ?_
  refine ez_aload_n 3 rfl dL_law_1355 ?_
  refine ez_iload_n 0 rfl dL_law_1356 ?_
  refine ez_iconst dL_law_1357 ?_
  refine ez_iadd dL_law_1358 ?_
  refine ez_sld dL_law_1359 (by omega) (by omega) (by omega) ?_
  rw [jo_comm dj1]
  refine z_L_148 (kc := 6 * m) (ks := 48 * m) (rest := [vI z1]) (m_arcs hM hI xI_in xI_in xI_in xI_in) hM.1 rfl rfl (by show (1 : Nat) ≤ 8; decide) (by decide) dL_law_1360 dj1.symm (fun r2 hm1 q2 dj2 => ?_)
  obtain ⟨z2, rfl, ez2, hM1⟩ := q2
  have e12 : z1 = z2 := ez1.trans ez2.symm
  clear ez1 ez2
  subst e12
  refine ez_same (tgt := 1368) dL_law_1363 (by decide) ?_
  rw [← jo_comm dj2.symm]
  obtain ⟨S3, c1, c2, c3, c4⟩ := comb (S0 := (nx_arcs S (xI xs (i + 1)) (xI xs (i + 2)) (xI xs (i + 3)) (xI xs (i + 4)))) hC1 hM1 (hx1.mono (by decide)) eqx.rf (Inv_arcs hI) hJ1
  exact kk A1 S3 hc1 hm1 hA1 c1 c2 c3 c4 dj2.symm
