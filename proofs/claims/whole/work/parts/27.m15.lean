set_option maxHeartbeats 4000000 in
set_option maxRecDepth 100000 in
theorem m_findPlace {E : EV} {h : AH} {o : Nat} {ad : Nat → Nat} {S : MS} {l r : List Int} {n k : Int} (hM : MR E o ad S h) (hI : Inv S) (gn : S 19 0 = n) (gn1 : 0 ≤ n ∧ n ≤ 10) (hls : ∀ j : Int, 0 ≤ j → j < n → S 20 j = at0 l j ∧ SG S (at0 l j)) (hrs : ∀ j : Int, 0 ≤ j → j < n → S 22 j = at0 r j ∧ 0 ≤ at0 r j ∧ at0 r j < 10) (hcr : ∀ i j : Int, 0 ≤ i → i < j → j < n → at0 r i = k → at0 r j = k → CrP S (at0 l i) (at0 l j)) (gk : 0 ≤ k ∧ k < 10) : CM E yX10_findPlace cX10_findPlace 11 none 4 0 0 [.ref (o), vI (k)] h (qV (fun h' => ∃ S', MR E o ad S' h' ∧ eqx [17, 18, 25, 26, 27, 28, 29, 30] S S' ∧ S' 25 k = meK r k n ∧ S' 26 k = tiK S l r k n ∧ S' 27 k = avK S l r k 0 n ∧ S' 28 k = avK S l r k 1 n ∧ S' 29 k = avK S l r k 2 n ∧ (fiK l r k n = -1 ∨ S' 30 k = fiK l r k n) ∧ ∀ z : Int, z ≠ k → S' 25 z = S 25 z ∧ S' 26 z = S 26 z ∧ S' 27 z = S 27 z ∧ S' 28 z = S 28 z ∧ S' 29 z = S 29 z ∧ S' 30 z = S 30 z)) := by
  have hR := hM.2.2.2.2
  have hJ := hI
  obtain ⟨i1, i2, i3, i4, i5, i6, iSt, iSi, iWa, iSh, iLa, iS0, iS1, iZe⟩ := hJ
  refine CM.of (by decide) (Nat.le_of_ble_eq_true rfl) (L := [(0, .ref (o)), (1, vI (k))]) rfl ?_
  refine ev_sipush dX10_findPlace_0 (by decide) ?_
  refine ev_istore_n (L' := [(2, vI (-10000)), (0, .ref (o)), (1, vI (k))]) dX10_findPlace_3 (by decide) rfl ?_
  refine ev_sipush dX10_findPlace_4 (by decide) ?_
  refine ev_istore_n (L' := [(3, vI (10000)), (2, vI (-10000)), (0, .ref (o)), (1, vI (k))]) dX10_findPlace_7 (by decide) rfl ?_
  refine ev_iconst dX10_findPlace_8 ?_
  refine ev_istore (L' := [(4, vI (0)), (3, vI (10000)), (2, vI (-10000)), (0, .ref (o)), (1, vI (k))]) dX10_findPlace_9 (by decide) rfl ?_
  refine ev_aload_n 3 rfl dX10_findPlace_11 ?_
  refine mg_68 hM dX10_findPlace_12 ?_
  refine ev_iload_n 4 rfl dX10_findPlace_15 ?_
  refine ev_iconst dX10_findPlace_16 ?_
  refine m_st (k := 25) hM (by decide) dX10_findPlace_17 (by omega) (by show _ < ((10 : Nat) : Int); omega) (by decide) (fun S1 h2 eS3 hM4 => ?_)
  have hRS1 := hM4.2.2.2.2
  have hxS1 : eqx scr S S1 := by rw [eS3]; exact (eqx.rf (l := scr) (S := S)).up (by decide)
  have hIS1 := Inv.x hI hxS1
  refine ev_iconst dX10_findPlace_18 ?_
  refine ev_istore (L' := [(5, vI (0)), (4, vI (0)), (3, vI (10000)), (2, vI (-10000)), (0, .ref (o)), (1, vI (k))]) dX10_findPlace_19 (by decide) rfl ?_
  refine ev_iconst dX10_findPlace_21 ?_
  refine ev_istore (L' := [(6, vI (0)), (5, vI (0)), (4, vI (0)), (3, vI (10000)), (2, vI (-10000)), (0, .ref (o)), (1, vI (k))]) dX10_findPlace_22 (by decide) rfl ?_
  refine ev_iconst dX10_findPlace_24 ?_
  refine ev_istore (L' := [(7, vI (0)), (6, vI (0)), (5, vI (0)), (4, vI (0)), (3, vI (10000)), (2, vI (-10000)), (0, .ref (o)), (1, vI (k))]) dX10_findPlace_25 (by decide) rfl ?_
  refine ev_aload_n 6 rfl dX10_findPlace_27 ?_
  refine mgE_238 (v := S 19 0) hM4 (by rw [eS3, upS_ne (by decide)]) dX10_findPlace_28 ?_
  refine ev_iconst dX10_findPlace_31 ?_
  refine ev_isub dX10_findPlace_32 ?_
  refine ev_ren (b := n - 1) (by omega) ?_
  refine ev_istore (L' := [(8, vI (n - 1)), (7, vI (0)), (6, vI (0)), (5, vI (0)), (4, vI (0)), (3, vI (10000)), (2, vI (-10000)), (0, .ref (o)), (1, vI (k))]) dX10_findPlace_33 (by decide) rfl ?_
  refine dn_ind (P := fun i : Int => ∀ (fr : Int) (to : Int) (pr : Int) (sx : Int) (sy : Int) (sh : Int) (S5 : MS) (h6 : AH), -1 ≤ i → MR E o ad S5 h6 → eqx [17, 18, 25, 30] S1 S5 → fr = dnI mx (-10000) (plF S l r k) n (i + 1) → to = dnI mn 10000 (plT S l r k) n (i + 1) → pr = dnI ad2 0 (plP r k n) n (i + 1) → sx = dnI ad2 0 (plX S l r k 0 n) n (i + 1) → sy = dnI ad2 0 (plX S l r k 1 n) n (i + 1) → sh = dnI ad2 0 (plX S l r k 2 n) n (i + 1) → ((-10000 ≤ fr ∧ fr ≤ 1500) ∧ (-60 ≤ to ∧ to ≤ 10000) ∧ (0 ≤ pr ∧ pr ≤ 10 * (n - 1 - i)) ∧ (-16000000 * (n - 1 - i) ≤ sx ∧ sx ≤ 16000000 * (n - 1 - i)) ∧ (-16000000 * (n - 1 - i) ≤ sy ∧ sy ≤ 16000000 * (n - 1 - i)) ∧ (-16000000 * (n - 1 - i) ≤ sh ∧ sh ≤ 16000000 * (n - 1 - i)) ∧ 0 ≤ S5 25 k ∧ S5 25 k ≤ n - 1 - i) → S5 25 k = dnI ad2 0 (plM r k) n (i + 1) → (dnI fst2 (-1) (plB l r k) n (i + 1) = -1 ∨ S5 30 k = dnI fst2 (-1) (plB l r k) n (i + 1)) → (∀ z : Int, z ≠ k → S5 25 z = S 25 z ∧ S5 30 z = S 30 z) → Ev E RX10 cX10_findPlace 11 none "findPlace" (qV (fun h' => ∃ S', MR E o ad S' h' ∧ eqx [17, 18, 25, 26, 27, 28, 29, 30] S S' ∧ S' 25 k = meK r k n ∧ S' 26 k = tiK S l r k n ∧ S' 27 k = avK S l r k 0 n ∧ S' 28 k = avK S l r k 1 n ∧ S' 29 k = avK S l r k 2 n ∧ (fiK l r k n = -1 ∨ S' 30 k = fiK l r k n) ∧ ∀ z : Int, z ≠ k → S' 25 z = S 25 z ∧ S' 26 z = S 26 z ∧ S' 27 z = S 27 z ∧ S' 28 z = S 28 z ∧ S' 29 z = S 29 z ∧ S' 30 z = S 30 z)) 4 0 0 35 [(8, vI (i)), (7, vI (sh)), (6, vI (sy)), (5, vI (sx)), (4, vI (pr)), (3, vI (to)), (2, vI (fr)), (0, .ref (o)), (1, vI (k))] [] h6) (N := -1) ?_ (n - 1) (by omega) (-10000) 10000 0 0 0 0 S1 h2 (by omega) hM4 eqx.rf (by rw [dnI_e (by omega)]) (by rw [dnI_e (by omega)]) (by rw [dnI_e (by omega)]) (by rw [dnI_e (by omega)]) (by rw [dnI_e (by omega)]) (by rw [dnI_e (by omega)]) (by have q25 : S1 25 k = 0 := (by rw [eS3]; exact upS_at); omega) (by rw [dnI_e (by omega), eS3]; exact upS_at) (by rw [dnI_e (by omega)]; exact Or.inl rfl) (fun z hz => ⟨by rw [eS3, upS_nz hz], by rw [eS3, upS_ne (by decide)]⟩)
  intro i ihi hiN fr to pr sx sy sh S5 h6 pi hM7 hx8 hfr hto hpr hsx hsy hsh hbd hme hfi hot
  have hRS5 := hM7.2.2.2.2
  have hxS5 : eqx scr S S5 := (hxS1).tr hx8 (by decide) (by decide)
  have hIS5 := Inv.x hI hxS5
  refine ev_iload 0 rfl dX10_findPlace_35 ?_
  refine ev_if_lt (tgt := 218) dX10_findPlace_37 (by first | assumption | exact hR _ _ | exact hRS1 _ _ | exact hRS5 _ _ | decide | (simp only [InR]; omega)) (by decide) (fun c37 => ?_) (fun c37 => ?_)
  · refine ev_aload_n 7 rfl dX10_findPlace_218 ?_
    refine mg_71 hM7 dX10_findPlace_219 ?_
    refine ev_iload_n 8 rfl dX10_findPlace_222 ?_
    refine ev_iload_n 6 rfl dX10_findPlace_223 ?_
    refine ev_iload_n 5 rfl dX10_findPlace_224 ?_
    refine ev_iadd dX10_findPlace_225 ?_
    refine ev_iconst dX10_findPlace_226 ?_
    refine ev_ishr dX10_findPlace_227 ?_
    refine ev_ren (b := (fr + to) / 2) (shr1 (by simp only [InR]; omega)) ?_
    refine m_st (k := 26) hM7 (by decide) dX10_findPlace_228 (by omega) (by show _ < ((10 : Nat) : Int); omega) (by first | assumption | exact hR _ _ | exact hRS1 _ _ | exact hRS5 _ _ | decide | (simp only [InR]; omega)) (fun S9 h10 eS11 hM12 => ?_)
    have hRS9 := hM12.2.2.2.2
    have hxS9 : eqx scr S S9 := by rw [eS11]; exact (hxS5).up (by decide)
    have hIS9 := Inv.x hI hxS9
    refine ev_aload_n 7 rfl dX10_findPlace_229 ?_
    refine mg_74 hM12 dX10_findPlace_230 ?_
    refine ev_iload_n 8 rfl dX10_findPlace_233 ?_
    refine ev_iload 4 rfl dX10_findPlace_234 ?_
    refine ev_if_ne (tgt := 243) dX10_findPlace_236 (by first | assumption | exact hR _ _ | exact hRS1 _ _ | exact hRS5 _ _ | exact hRS9 _ _ | decide | (simp only [InR]; omega)) (by decide) (fun c236 => ?_) (fun c236 => ?_)
    · refine ev_iload 3 rfl dX10_findPlace_243 ?_
      refine ev_iload 4 rfl dX10_findPlace_245 ?_
      have dx := tdiv_b (a := sx) (b := pr) (A := 160000000) (by omega)
      refine ev_idiv dX10_findPlace_247 (by first | assumption | exact hR _ _ | exact hRS1 _ _ | exact hRS5 _ _ | exact hRS9 _ _ | decide | (simp only [InR]; omega)) (by first | assumption | exact hR _ _ | exact hRS1 _ _ | exact hRS5 _ _ | exact hRS9 _ _ | decide | (simp only [InR]; omega)) (by omega) (by first | assumption | exact hR _ _ | exact hRS1 _ _ | exact hRS5 _ _ | exact hRS9 _ _ | decide | (simp only [InR]; omega)) ?_
      refine m_st (k := 27) hM12 (by decide) dX10_findPlace_248 (by omega) (by show _ < ((10 : Nat) : Int); omega) (by first | assumption | exact hR _ _ | exact hRS1 _ _ | exact hRS5 _ _ | exact hRS9 _ _ | decide | (simp only [InR]; omega)) (fun S13 h14 eS15 hM16 => ?_)
      have hRS13 := hM16.2.2.2.2
      have hxS13 : eqx scr S S13 := by rw [eS15]; exact (hxS9).up (by decide)
      have hIS13 := Inv.x hI hxS13
      refine ev_aload_n 7 rfl dX10_findPlace_249 ?_
      refine mg_77 hM16 dX10_findPlace_250 ?_
      refine ev_iload_n 8 rfl dX10_findPlace_253 ?_
      refine ev_iload 4 rfl dX10_findPlace_254 ?_
      refine ev_if_ne (tgt := 263) dX10_findPlace_256 (by first | assumption | exact hR _ _ | exact hRS1 _ _ | exact hRS5 _ _ | exact hRS9 _ _ | exact hRS13 _ _ | decide | (simp only [InR]; omega)) (by decide) (fun c256 => ?_) (fun c256 => ?_)
      · refine ev_iload 2 rfl dX10_findPlace_263 ?_
        refine ev_iload 4 rfl dX10_findPlace_265 ?_
        have dy := tdiv_b (a := sy) (b := pr) (A := 160000000) (by omega)
        refine ev_idiv dX10_findPlace_267 (by first | assumption | exact hR _ _ | exact hRS1 _ _ | exact hRS5 _ _ | exact hRS9 _ _ | exact hRS13 _ _ | decide | (simp only [InR]; omega)) (by first | assumption | exact hR _ _ | exact hRS1 _ _ | exact hRS5 _ _ | exact hRS9 _ _ | exact hRS13 _ _ | decide | (simp only [InR]; omega)) (by omega) (by first | assumption | exact hR _ _ | exact hRS1 _ _ | exact hRS5 _ _ | exact hRS9 _ _ | exact hRS13 _ _ | decide | (simp only [InR]; omega)) ?_
        refine m_st (k := 28) hM16 (by decide) dX10_findPlace_268 (by omega) (by show _ < ((10 : Nat) : Int); omega) (by first | assumption | exact hR _ _ | exact hRS1 _ _ | exact hRS5 _ _ | exact hRS9 _ _ | exact hRS13 _ _ | decide | (simp only [InR]; omega)) (fun S17 h18 eS19 hM20 => ?_)
        have hRS17 := hM20.2.2.2.2
        have hxS17 : eqx scr S S17 := by rw [eS19]; exact (hxS13).up (by decide)
        have hIS17 := Inv.x hI hxS17
        refine ev_aload_n 7 rfl dX10_findPlace_269 ?_
        refine mg_80 hM20 dX10_findPlace_270 ?_
        refine ev_iload_n 8 rfl dX10_findPlace_273 ?_
        refine ev_iload 4 rfl dX10_findPlace_274 ?_
        refine ev_if_ne (tgt := 283) dX10_findPlace_276 (by first | assumption | exact hR _ _ | exact hRS1 _ _ | exact hRS5 _ _ | exact hRS9 _ _ | exact hRS13 _ _ | exact hRS17 _ _ | decide | (simp only [InR]; omega)) (by decide) (fun c276 => ?_) (fun c276 => ?_)
        · refine ev_iload 1 rfl dX10_findPlace_283 ?_
          refine ev_iload 4 rfl dX10_findPlace_285 ?_
          have dh := tdiv_b (a := sh) (b := pr) (A := 160000000) (by omega)
          refine ev_idiv dX10_findPlace_287 (by first | assumption | exact hR _ _ | exact hRS1 _ _ | exact hRS5 _ _ | exact hRS9 _ _ | exact hRS13 _ _ | exact hRS17 _ _ | decide | (simp only [InR]; omega)) (by first | assumption | exact hR _ _ | exact hRS1 _ _ | exact hRS5 _ _ | exact hRS9 _ _ | exact hRS13 _ _ | exact hRS17 _ _ | decide | (simp only [InR]; omega)) (by omega) (by first | assumption | exact hR _ _ | exact hRS1 _ _ | exact hRS5 _ _ | exact hRS9 _ _ | exact hRS13 _ _ | exact hRS17 _ _ | decide | (simp only [InR]; omega)) ?_
          refine m_st (k := 29) hM20 (by decide) dX10_findPlace_288 (by omega) (by show _ < ((10 : Nat) : Int); omega) (by first | assumption | exact hR _ _ | exact hRS1 _ _ | exact hRS5 _ _ | exact hRS9 _ _ | exact hRS13 _ _ | exact hRS17 _ _ | decide | (simp only [InR]; omega)) (fun S21 h22 eS23 hM24 => ?_)
          have hRS21 := hM24.2.2.2.2
          have hxS21 : eqx scr S S21 := by rw [eS23]; exact (hxS17).up (by decide)
          have hIS21 := Inv.x hI hxS21
          refine ev_return dX10_findPlace_289 ?_
          refine ⟨rfl, S21, hM24, (show eqx [17, 18, 25, 26, 27, 28, 29, 30] S S21 from by rw [eS23]; exact (show eqx [17, 18, 25, 26, 27, 28, 29, 30] S S17 from by rw [eS19]; exact (show eqx [17, 18, 25, 26, 27, 28, 29, 30] S S13 from by rw [eS15]; exact (show eqx [17, 18, 25, 26, 27, 28, 29, 30] S S9 from by rw [eS11]; exact (eqx.tr (l := [17, 18, 25, 26, 27, 28, 29, 30]) (show eqx [17, 18, 25, 26, 27, 28, 29, 30] S S1 from by rw [eS3]; exact (eqx.rf (l := [17, 18, 25, 26, 27, 28, 29, 30]) (S := S)).up (by decide)) hx8 (by decide) (by decide)).up (by decide)).up (by decide)).up (by decide)).up (by decide)), ?_, ?_, ?_, ?_, ?_, ?_, fun z hz => ⟨?_, ?_, ?_, ?_, ?_, ?_⟩⟩
          · rw [eS23, upS_ne (by decide), eS19, upS_ne (by decide), eS15, upS_ne (by decide), eS11, upS_ne (by decide), hme]; unfold meK; congr 1; omega
          · rw [eS23, upS_ne (by decide), eS19, upS_ne (by decide), eS15, upS_ne (by decide), eS11, upS_at]; unfold tiK frK toK; rw [hfr, hto, show i + 1 = 0 by omega]
          · rw [eS23, upS_ne (by decide), eS19, upS_ne (by decide), eS15, upS_at]; unfold avK prK suK; rw [show i + 1 = 0 by omega] at hpr hsx; rw [← hpr, ← hsx]; first | (rw [if_pos (by omega)]; done) | (rw [if_neg (by omega)]; done)
          · rw [eS23, upS_ne (by decide), eS19, upS_at]; unfold avK prK suK; rw [show i + 1 = 0 by omega] at hpr hsy; rw [← hpr, ← hsy]; first | (rw [if_pos (by omega)]; done) | (rw [if_neg (by omega)]; done)
          · rw [eS23, upS_at]; unfold avK prK suK; rw [show i + 1 = 0 by omega] at hpr hsh; rw [← hpr, ← hsh]; first | (rw [if_pos (by omega)]; done) | (rw [if_neg (by omega)]; done)
          · rw [eS23, upS_ne (by decide), eS19, upS_ne (by decide), eS15, upS_ne (by decide), eS11, upS_ne (by decide)]; unfold fiK; rw [show i + 1 = 0 by omega] at hfi; exact hfi
          · rw [eS23, upS_ne (by decide), eS19, upS_ne (by decide), eS15, upS_ne (by decide), eS11, upS_ne (by decide)]; exact (hot z hz).1
          · exact by rw [eS23, upS_ne (by decide), eS19, upS_ne (by decide), eS15, upS_ne (by decide), eS11, upS_nz hz, hx8 26 (by decide), eS3, upS_ne (by decide)]
          · exact by rw [eS23, upS_ne (by decide), eS19, upS_ne (by decide), eS15, upS_nz hz, eS11, upS_ne (by decide), hx8 27 (by decide), eS3, upS_ne (by decide)]
          · exact by rw [eS23, upS_ne (by decide), eS19, upS_nz hz, eS15, upS_ne (by decide), eS11, upS_ne (by decide), hx8 28 (by decide), eS3, upS_ne (by decide)]
          · exact by rw [eS23, upS_nz hz, eS19, upS_ne (by decide), eS15, upS_ne (by decide), eS11, upS_ne (by decide), hx8 29 (by decide), eS3, upS_ne (by decide)]
          · rw [eS23, upS_ne (by decide), eS19, upS_ne (by decide), eS15, upS_ne (by decide), eS11, upS_ne (by decide)]; exact (hot z hz).2
        · refine ev_iconst dX10_findPlace_279 ?_
          refine ev_goto (tgt := 288) dX10_findPlace_280 (by decide) ?_
          refine m_st (k := 29) hM20 (by decide) dX10_findPlace_288 (by omega) (by show _ < ((10 : Nat) : Int); omega) (by decide) (fun S25 h26 eS27 hM28 => ?_)
          have hRS25 := hM28.2.2.2.2
          have hxS25 : eqx scr S S25 := by rw [eS27]; exact (hxS17).up (by decide)
          have hIS25 := Inv.x hI hxS25
          refine ev_return dX10_findPlace_289 ?_
          refine ⟨rfl, S25, hM28, (show eqx [17, 18, 25, 26, 27, 28, 29, 30] S S25 from by rw [eS27]; exact (show eqx [17, 18, 25, 26, 27, 28, 29, 30] S S17 from by rw [eS19]; exact (show eqx [17, 18, 25, 26, 27, 28, 29, 30] S S13 from by rw [eS15]; exact (show eqx [17, 18, 25, 26, 27, 28, 29, 30] S S9 from by rw [eS11]; exact (eqx.tr (l := [17, 18, 25, 26, 27, 28, 29, 30]) (show eqx [17, 18, 25, 26, 27, 28, 29, 30] S S1 from by rw [eS3]; exact (eqx.rf (l := [17, 18, 25, 26, 27, 28, 29, 30]) (S := S)).up (by decide)) hx8 (by decide) (by decide)).up (by decide)).up (by decide)).up (by decide)).up (by decide)), ?_, ?_, ?_, ?_, ?_, ?_, fun z hz => ⟨?_, ?_, ?_, ?_, ?_, ?_⟩⟩
          · rw [eS27, upS_ne (by decide), eS19, upS_ne (by decide), eS15, upS_ne (by decide), eS11, upS_ne (by decide), hme]; unfold meK; congr 1; omega
          · rw [eS27, upS_ne (by decide), eS19, upS_ne (by decide), eS15, upS_ne (by decide), eS11, upS_at]; unfold tiK frK toK; rw [hfr, hto, show i + 1 = 0 by omega]
          · rw [eS27, upS_ne (by decide), eS19, upS_ne (by decide), eS15, upS_at]; unfold avK prK suK; rw [show i + 1 = 0 by omega] at hpr hsx; rw [← hpr, ← hsx]; first | (rw [if_pos (by omega)]; done) | (rw [if_neg (by omega)]; done)
          · rw [eS27, upS_ne (by decide), eS19, upS_at]; unfold avK prK suK; rw [show i + 1 = 0 by omega] at hpr hsy; rw [← hpr, ← hsy]; first | (rw [if_pos (by omega)]; done) | (rw [if_neg (by omega)]; done)
          · rw [eS27, upS_at]; unfold avK prK suK; rw [show i + 1 = 0 by omega] at hpr hsh; rw [← hpr, ← hsh]; first | (rw [if_pos (by omega)]; done) | (rw [if_neg (by omega)]; done)
          · rw [eS27, upS_ne (by decide), eS19, upS_ne (by decide), eS15, upS_ne (by decide), eS11, upS_ne (by decide)]; unfold fiK; rw [show i + 1 = 0 by omega] at hfi; exact hfi
          · rw [eS27, upS_ne (by decide), eS19, upS_ne (by decide), eS15, upS_ne (by decide), eS11, upS_ne (by decide)]; exact (hot z hz).1
          · exact by rw [eS27, upS_ne (by decide), eS19, upS_ne (by decide), eS15, upS_ne (by decide), eS11, upS_nz hz, hx8 26 (by decide), eS3, upS_ne (by decide)]
          · exact by rw [eS27, upS_ne (by decide), eS19, upS_ne (by decide), eS15, upS_nz hz, eS11, upS_ne (by decide), hx8 27 (by decide), eS3, upS_ne (by decide)]
          · exact by rw [eS27, upS_ne (by decide), eS19, upS_nz hz, eS15, upS_ne (by decide), eS11, upS_ne (by decide), hx8 28 (by decide), eS3, upS_ne (by decide)]
          · exact by rw [eS27, upS_nz hz, eS19, upS_ne (by decide), eS15, upS_ne (by decide), eS11, upS_ne (by decide), hx8 29 (by decide), eS3, upS_ne (by decide)]
          · rw [eS27, upS_ne (by decide), eS19, upS_ne (by decide), eS15, upS_ne (by decide), eS11, upS_ne (by decide)]; exact (hot z hz).2
      · refine ev_iconst dX10_findPlace_259 ?_
        refine ev_goto (tgt := 268) dX10_findPlace_260 (by decide) ?_
        refine m_st (k := 28) hM16 (by decide) dX10_findPlace_268 (by omega) (by show _ < ((10 : Nat) : Int); omega) (by decide) (fun S29 h30 eS31 hM32 => ?_)
        have hRS29 := hM32.2.2.2.2
        have hxS29 : eqx scr S S29 := by rw [eS31]; exact (hxS13).up (by decide)
        have hIS29 := Inv.x hI hxS29
        refine ev_aload_n 7 rfl dX10_findPlace_269 ?_
        refine mg_80 hM32 dX10_findPlace_270 ?_
        refine ev_iload_n 8 rfl dX10_findPlace_273 ?_
        refine ev_iload 4 rfl dX10_findPlace_274 ?_
        refine ev_if_ne (tgt := 283) dX10_findPlace_276 (by first | assumption | exact hR _ _ | exact hRS1 _ _ | exact hRS5 _ _ | exact hRS9 _ _ | exact hRS13 _ _ | exact hRS29 _ _ | decide | (simp only [InR]; omega)) (by decide) (fun c276 => ?_) (fun c276 => ?_)
        · refine ev_iload 1 rfl dX10_findPlace_283 ?_
          refine ev_iload 4 rfl dX10_findPlace_285 ?_
          have dh := tdiv_b (a := sh) (b := pr) (A := 160000000) (by omega)
          refine ev_idiv dX10_findPlace_287 (by first | assumption | exact hR _ _ | exact hRS1 _ _ | exact hRS5 _ _ | exact hRS9 _ _ | exact hRS13 _ _ | exact hRS29 _ _ | decide | (simp only [InR]; omega)) (by first | assumption | exact hR _ _ | exact hRS1 _ _ | exact hRS5 _ _ | exact hRS9 _ _ | exact hRS13 _ _ | exact hRS29 _ _ | decide | (simp only [InR]; omega)) (by omega) (by first | assumption | exact hR _ _ | exact hRS1 _ _ | exact hRS5 _ _ | exact hRS9 _ _ | exact hRS13 _ _ | exact hRS29 _ _ | decide | (simp only [InR]; omega)) ?_
          refine m_st (k := 29) hM32 (by decide) dX10_findPlace_288 (by omega) (by show _ < ((10 : Nat) : Int); omega) (by first | assumption | exact hR _ _ | exact hRS1 _ _ | exact hRS5 _ _ | exact hRS9 _ _ | exact hRS13 _ _ | exact hRS29 _ _ | decide | (simp only [InR]; omega)) (fun S33 h34 eS35 hM36 => ?_)
          have hRS33 := hM36.2.2.2.2
          have hxS33 : eqx scr S S33 := by rw [eS35]; exact (hxS29).up (by decide)
          have hIS33 := Inv.x hI hxS33
          refine ev_return dX10_findPlace_289 ?_
          refine ⟨rfl, S33, hM36, (show eqx [17, 18, 25, 26, 27, 28, 29, 30] S S33 from by rw [eS35]; exact (show eqx [17, 18, 25, 26, 27, 28, 29, 30] S S29 from by rw [eS31]; exact (show eqx [17, 18, 25, 26, 27, 28, 29, 30] S S13 from by rw [eS15]; exact (show eqx [17, 18, 25, 26, 27, 28, 29, 30] S S9 from by rw [eS11]; exact (eqx.tr (l := [17, 18, 25, 26, 27, 28, 29, 30]) (show eqx [17, 18, 25, 26, 27, 28, 29, 30] S S1 from by rw [eS3]; exact (eqx.rf (l := [17, 18, 25, 26, 27, 28, 29, 30]) (S := S)).up (by decide)) hx8 (by decide) (by decide)).up (by decide)).up (by decide)).up (by decide)).up (by decide)), ?_, ?_, ?_, ?_, ?_, ?_, fun z hz => ⟨?_, ?_, ?_, ?_, ?_, ?_⟩⟩
          · rw [eS35, upS_ne (by decide), eS31, upS_ne (by decide), eS15, upS_ne (by decide), eS11, upS_ne (by decide), hme]; unfold meK; congr 1; omega
          · rw [eS35, upS_ne (by decide), eS31, upS_ne (by decide), eS15, upS_ne (by decide), eS11, upS_at]; unfold tiK frK toK; rw [hfr, hto, show i + 1 = 0 by omega]
          · rw [eS35, upS_ne (by decide), eS31, upS_ne (by decide), eS15, upS_at]; unfold avK prK suK; rw [show i + 1 = 0 by omega] at hpr hsx; rw [← hpr, ← hsx]; first | (rw [if_pos (by omega)]; done) | (rw [if_neg (by omega)]; done)
          · rw [eS35, upS_ne (by decide), eS31, upS_at]; unfold avK prK suK; rw [show i + 1 = 0 by omega] at hpr hsy; rw [← hpr, ← hsy]; first | (rw [if_pos (by omega)]; done) | (rw [if_neg (by omega)]; done)
          · rw [eS35, upS_at]; unfold avK prK suK; rw [show i + 1 = 0 by omega] at hpr hsh; rw [← hpr, ← hsh]; first | (rw [if_pos (by omega)]; done) | (rw [if_neg (by omega)]; done)
          · rw [eS35, upS_ne (by decide), eS31, upS_ne (by decide), eS15, upS_ne (by decide), eS11, upS_ne (by decide)]; unfold fiK; rw [show i + 1 = 0 by omega] at hfi; exact hfi
          · rw [eS35, upS_ne (by decide), eS31, upS_ne (by decide), eS15, upS_ne (by decide), eS11, upS_ne (by decide)]; exact (hot z hz).1
          · exact by rw [eS35, upS_ne (by decide), eS31, upS_ne (by decide), eS15, upS_ne (by decide), eS11, upS_nz hz, hx8 26 (by decide), eS3, upS_ne (by decide)]
          · exact by rw [eS35, upS_ne (by decide), eS31, upS_ne (by decide), eS15, upS_nz hz, eS11, upS_ne (by decide), hx8 27 (by decide), eS3, upS_ne (by decide)]
          · exact by rw [eS35, upS_ne (by decide), eS31, upS_nz hz, eS15, upS_ne (by decide), eS11, upS_ne (by decide), hx8 28 (by decide), eS3, upS_ne (by decide)]
          · exact by rw [eS35, upS_nz hz, eS31, upS_ne (by decide), eS15, upS_ne (by decide), eS11, upS_ne (by decide), hx8 29 (by decide), eS3, upS_ne (by decide)]
          · rw [eS35, upS_ne (by decide), eS31, upS_ne (by decide), eS15, upS_ne (by decide), eS11, upS_ne (by decide)]; exact (hot z hz).2
        · refine ev_iconst dX10_findPlace_279 ?_
          refine ev_goto (tgt := 288) dX10_findPlace_280 (by decide) ?_
          refine m_st (k := 29) hM32 (by decide) dX10_findPlace_288 (by omega) (by show _ < ((10 : Nat) : Int); omega) (by decide) (fun S37 h38 eS39 hM40 => ?_)
          have hRS37 := hM40.2.2.2.2
          have hxS37 : eqx scr S S37 := by rw [eS39]; exact (hxS29).up (by decide)
          have hIS37 := Inv.x hI hxS37
          refine ev_return dX10_findPlace_289 ?_
          refine ⟨rfl, S37, hM40, (show eqx [17, 18, 25, 26, 27, 28, 29, 30] S S37 from by rw [eS39]; exact (show eqx [17, 18, 25, 26, 27, 28, 29, 30] S S29 from by rw [eS31]; exact (show eqx [17, 18, 25, 26, 27, 28, 29, 30] S S13 from by rw [eS15]; exact (show eqx [17, 18, 25, 26, 27, 28, 29, 30] S S9 from by rw [eS11]; exact (eqx.tr (l := [17, 18, 25, 26, 27, 28, 29, 30]) (show eqx [17, 18, 25, 26, 27, 28, 29, 30] S S1 from by rw [eS3]; exact (eqx.rf (l := [17, 18, 25, 26, 27, 28, 29, 30]) (S := S)).up (by decide)) hx8 (by decide) (by decide)).up (by decide)).up (by decide)).up (by decide)).up (by decide)), ?_, ?_, ?_, ?_, ?_, ?_, fun z hz => ⟨?_, ?_, ?_, ?_, ?_, ?_⟩⟩
          · rw [eS39, upS_ne (by decide), eS31, upS_ne (by decide), eS15, upS_ne (by decide), eS11, upS_ne (by decide), hme]; unfold meK; congr 1; omega
          · rw [eS39, upS_ne (by decide), eS31, upS_ne (by decide), eS15, upS_ne (by decide), eS11, upS_at]; unfold tiK frK toK; rw [hfr, hto, show i + 1 = 0 by omega]
          · rw [eS39, upS_ne (by decide), eS31, upS_ne (by decide), eS15, upS_at]; unfold avK prK suK; rw [show i + 1 = 0 by omega] at hpr hsx; rw [← hpr, ← hsx]; first | (rw [if_pos (by omega)]; done) | (rw [if_neg (by omega)]; done)
          · rw [eS39, upS_ne (by decide), eS31, upS_at]; unfold avK prK suK; rw [show i + 1 = 0 by omega] at hpr hsy; rw [← hpr, ← hsy]; first | (rw [if_pos (by omega)]; done) | (rw [if_neg (by omega)]; done)
          · rw [eS39, upS_at]; unfold avK prK suK; rw [show i + 1 = 0 by omega] at hpr hsh; rw [← hpr, ← hsh]; first | (rw [if_pos (by omega)]; done) | (rw [if_neg (by omega)]; done)
          · rw [eS39, upS_ne (by decide), eS31, upS_ne (by decide), eS15, upS_ne (by decide), eS11, upS_ne (by decide)]; unfold fiK; rw [show i + 1 = 0 by omega] at hfi; exact hfi
          · rw [eS39, upS_ne (by decide), eS31, upS_ne (by decide), eS15, upS_ne (by decide), eS11, upS_ne (by decide)]; exact (hot z hz).1
          · exact by rw [eS39, upS_ne (by decide), eS31, upS_ne (by decide), eS15, upS_ne (by decide), eS11, upS_nz hz, hx8 26 (by decide), eS3, upS_ne (by decide)]
          · exact by rw [eS39, upS_ne (by decide), eS31, upS_ne (by decide), eS15, upS_nz hz, eS11, upS_ne (by decide), hx8 27 (by decide), eS3, upS_ne (by decide)]
          · exact by rw [eS39, upS_ne (by decide), eS31, upS_nz hz, eS15, upS_ne (by decide), eS11, upS_ne (by decide), hx8 28 (by decide), eS3, upS_ne (by decide)]
          · exact by rw [eS39, upS_nz hz, eS31, upS_ne (by decide), eS15, upS_ne (by decide), eS11, upS_ne (by decide), hx8 29 (by decide), eS3, upS_ne (by decide)]
          · rw [eS39, upS_ne (by decide), eS31, upS_ne (by decide), eS15, upS_ne (by decide), eS11, upS_ne (by decide)]; exact (hot z hz).2
    · refine ev_iconst dX10_findPlace_239 ?_
      refine ev_goto (tgt := 248) dX10_findPlace_240 (by decide) ?_
      refine m_st (k := 27) hM12 (by decide) dX10_findPlace_248 (by omega) (by show _ < ((10 : Nat) : Int); omega) (by decide) (fun S41 h42 eS43 hM44 => ?_)
      have hRS41 := hM44.2.2.2.2
      have hxS41 : eqx scr S S41 := by rw [eS43]; exact (hxS9).up (by decide)
      have hIS41 := Inv.x hI hxS41
      refine ev_aload_n 7 rfl dX10_findPlace_249 ?_
      refine mg_77 hM44 dX10_findPlace_250 ?_
      refine ev_iload_n 8 rfl dX10_findPlace_253 ?_
      refine ev_iload 4 rfl dX10_findPlace_254 ?_
      refine ev_if_ne (tgt := 263) dX10_findPlace_256 (by first | assumption | exact hR _ _ | exact hRS1 _ _ | exact hRS5 _ _ | exact hRS9 _ _ | exact hRS41 _ _ | decide | (simp only [InR]; omega)) (by decide) (fun c256 => ?_) (fun c256 => ?_)
      · refine ev_iload 2 rfl dX10_findPlace_263 ?_
        refine ev_iload 4 rfl dX10_findPlace_265 ?_
        have dy := tdiv_b (a := sy) (b := pr) (A := 160000000) (by omega)
        refine ev_idiv dX10_findPlace_267 (by first | assumption | exact hR _ _ | exact hRS1 _ _ | exact hRS5 _ _ | exact hRS9 _ _ | exact hRS41 _ _ | decide | (simp only [InR]; omega)) (by first | assumption | exact hR _ _ | exact hRS1 _ _ | exact hRS5 _ _ | exact hRS9 _ _ | exact hRS41 _ _ | decide | (simp only [InR]; omega)) (by omega) (by first | assumption | exact hR _ _ | exact hRS1 _ _ | exact hRS5 _ _ | exact hRS9 _ _ | exact hRS41 _ _ | decide | (simp only [InR]; omega)) ?_
        refine m_st (k := 28) hM44 (by decide) dX10_findPlace_268 (by omega) (by show _ < ((10 : Nat) : Int); omega) (by first | assumption | exact hR _ _ | exact hRS1 _ _ | exact hRS5 _ _ | exact hRS9 _ _ | exact hRS41 _ _ | decide | (simp only [InR]; omega)) (fun S45 h46 eS47 hM48 => ?_)
        have hRS45 := hM48.2.2.2.2
        have hxS45 : eqx scr S S45 := by rw [eS47]; exact (hxS41).up (by decide)
        have hIS45 := Inv.x hI hxS45
        refine ev_aload_n 7 rfl dX10_findPlace_269 ?_
        refine mg_80 hM48 dX10_findPlace_270 ?_
        refine ev_iload_n 8 rfl dX10_findPlace_273 ?_
        refine ev_iload 4 rfl dX10_findPlace_274 ?_
        refine ev_if_ne (tgt := 283) dX10_findPlace_276 (by first | assumption | exact hR _ _ | exact hRS1 _ _ | exact hRS5 _ _ | exact hRS9 _ _ | exact hRS41 _ _ | exact hRS45 _ _ | decide | (simp only [InR]; omega)) (by decide) (fun c276 => ?_) (fun c276 => ?_)
        · refine ev_iload 1 rfl dX10_findPlace_283 ?_
          refine ev_iload 4 rfl dX10_findPlace_285 ?_
          have dh := tdiv_b (a := sh) (b := pr) (A := 160000000) (by omega)
          refine ev_idiv dX10_findPlace_287 (by first | assumption | exact hR _ _ | exact hRS1 _ _ | exact hRS5 _ _ | exact hRS9 _ _ | exact hRS41 _ _ | exact hRS45 _ _ | decide | (simp only [InR]; omega)) (by first | assumption | exact hR _ _ | exact hRS1 _ _ | exact hRS5 _ _ | exact hRS9 _ _ | exact hRS41 _ _ | exact hRS45 _ _ | decide | (simp only [InR]; omega)) (by omega) (by first | assumption | exact hR _ _ | exact hRS1 _ _ | exact hRS5 _ _ | exact hRS9 _ _ | exact hRS41 _ _ | exact hRS45 _ _ | decide | (simp only [InR]; omega)) ?_
          refine m_st (k := 29) hM48 (by decide) dX10_findPlace_288 (by omega) (by show _ < ((10 : Nat) : Int); omega) (by first | assumption | exact hR _ _ | exact hRS1 _ _ | exact hRS5 _ _ | exact hRS9 _ _ | exact hRS41 _ _ | exact hRS45 _ _ | decide | (simp only [InR]; omega)) (fun S49 h50 eS51 hM52 => ?_)
          have hRS49 := hM52.2.2.2.2
          have hxS49 : eqx scr S S49 := by rw [eS51]; exact (hxS45).up (by decide)
          have hIS49 := Inv.x hI hxS49
          refine ev_return dX10_findPlace_289 ?_
          refine ⟨rfl, S49, hM52, (show eqx [17, 18, 25, 26, 27, 28, 29, 30] S S49 from by rw [eS51]; exact (show eqx [17, 18, 25, 26, 27, 28, 29, 30] S S45 from by rw [eS47]; exact (show eqx [17, 18, 25, 26, 27, 28, 29, 30] S S41 from by rw [eS43]; exact (show eqx [17, 18, 25, 26, 27, 28, 29, 30] S S9 from by rw [eS11]; exact (eqx.tr (l := [17, 18, 25, 26, 27, 28, 29, 30]) (show eqx [17, 18, 25, 26, 27, 28, 29, 30] S S1 from by rw [eS3]; exact (eqx.rf (l := [17, 18, 25, 26, 27, 28, 29, 30]) (S := S)).up (by decide)) hx8 (by decide) (by decide)).up (by decide)).up (by decide)).up (by decide)).up (by decide)), ?_, ?_, ?_, ?_, ?_, ?_, fun z hz => ⟨?_, ?_, ?_, ?_, ?_, ?_⟩⟩
          · rw [eS51, upS_ne (by decide), eS47, upS_ne (by decide), eS43, upS_ne (by decide), eS11, upS_ne (by decide), hme]; unfold meK; congr 1; omega
          · rw [eS51, upS_ne (by decide), eS47, upS_ne (by decide), eS43, upS_ne (by decide), eS11, upS_at]; unfold tiK frK toK; rw [hfr, hto, show i + 1 = 0 by omega]
          · rw [eS51, upS_ne (by decide), eS47, upS_ne (by decide), eS43, upS_at]; unfold avK prK suK; rw [show i + 1 = 0 by omega] at hpr hsx; rw [← hpr, ← hsx]; first | (rw [if_pos (by omega)]; done) | (rw [if_neg (by omega)]; done)
          · rw [eS51, upS_ne (by decide), eS47, upS_at]; unfold avK prK suK; rw [show i + 1 = 0 by omega] at hpr hsy; rw [← hpr, ← hsy]; first | (rw [if_pos (by omega)]; done) | (rw [if_neg (by omega)]; done)
          · rw [eS51, upS_at]; unfold avK prK suK; rw [show i + 1 = 0 by omega] at hpr hsh; rw [← hpr, ← hsh]; first | (rw [if_pos (by omega)]; done) | (rw [if_neg (by omega)]; done)
          · rw [eS51, upS_ne (by decide), eS47, upS_ne (by decide), eS43, upS_ne (by decide), eS11, upS_ne (by decide)]; unfold fiK; rw [show i + 1 = 0 by omega] at hfi; exact hfi
          · rw [eS51, upS_ne (by decide), eS47, upS_ne (by decide), eS43, upS_ne (by decide), eS11, upS_ne (by decide)]; exact (hot z hz).1
          · exact by rw [eS51, upS_ne (by decide), eS47, upS_ne (by decide), eS43, upS_ne (by decide), eS11, upS_nz hz, hx8 26 (by decide), eS3, upS_ne (by decide)]
          · exact by rw [eS51, upS_ne (by decide), eS47, upS_ne (by decide), eS43, upS_nz hz, eS11, upS_ne (by decide), hx8 27 (by decide), eS3, upS_ne (by decide)]
          · exact by rw [eS51, upS_ne (by decide), eS47, upS_nz hz, eS43, upS_ne (by decide), eS11, upS_ne (by decide), hx8 28 (by decide), eS3, upS_ne (by decide)]
          · exact by rw [eS51, upS_nz hz, eS47, upS_ne (by decide), eS43, upS_ne (by decide), eS11, upS_ne (by decide), hx8 29 (by decide), eS3, upS_ne (by decide)]
          · rw [eS51, upS_ne (by decide), eS47, upS_ne (by decide), eS43, upS_ne (by decide), eS11, upS_ne (by decide)]; exact (hot z hz).2
        · refine ev_iconst dX10_findPlace_279 ?_
          refine ev_goto (tgt := 288) dX10_findPlace_280 (by decide) ?_
          refine m_st (k := 29) hM48 (by decide) dX10_findPlace_288 (by omega) (by show _ < ((10 : Nat) : Int); omega) (by decide) (fun S53 h54 eS55 hM56 => ?_)
          have hRS53 := hM56.2.2.2.2
          have hxS53 : eqx scr S S53 := by rw [eS55]; exact (hxS45).up (by decide)
          have hIS53 := Inv.x hI hxS53
          refine ev_return dX10_findPlace_289 ?_
          refine ⟨rfl, S53, hM56, (show eqx [17, 18, 25, 26, 27, 28, 29, 30] S S53 from by rw [eS55]; exact (show eqx [17, 18, 25, 26, 27, 28, 29, 30] S S45 from by rw [eS47]; exact (show eqx [17, 18, 25, 26, 27, 28, 29, 30] S S41 from by rw [eS43]; exact (show eqx [17, 18, 25, 26, 27, 28, 29, 30] S S9 from by rw [eS11]; exact (eqx.tr (l := [17, 18, 25, 26, 27, 28, 29, 30]) (show eqx [17, 18, 25, 26, 27, 28, 29, 30] S S1 from by rw [eS3]; exact (eqx.rf (l := [17, 18, 25, 26, 27, 28, 29, 30]) (S := S)).up (by decide)) hx8 (by decide) (by decide)).up (by decide)).up (by decide)).up (by decide)).up (by decide)), ?_, ?_, ?_, ?_, ?_, ?_, fun z hz => ⟨?_, ?_, ?_, ?_, ?_, ?_⟩⟩
          · rw [eS55, upS_ne (by decide), eS47, upS_ne (by decide), eS43, upS_ne (by decide), eS11, upS_ne (by decide), hme]; unfold meK; congr 1; omega
          · rw [eS55, upS_ne (by decide), eS47, upS_ne (by decide), eS43, upS_ne (by decide), eS11, upS_at]; unfold tiK frK toK; rw [hfr, hto, show i + 1 = 0 by omega]
          · rw [eS55, upS_ne (by decide), eS47, upS_ne (by decide), eS43, upS_at]; unfold avK prK suK; rw [show i + 1 = 0 by omega] at hpr hsx; rw [← hpr, ← hsx]; first | (rw [if_pos (by omega)]; done) | (rw [if_neg (by omega)]; done)
          · rw [eS55, upS_ne (by decide), eS47, upS_at]; unfold avK prK suK; rw [show i + 1 = 0 by omega] at hpr hsy; rw [← hpr, ← hsy]; first | (rw [if_pos (by omega)]; done) | (rw [if_neg (by omega)]; done)
          · rw [eS55, upS_at]; unfold avK prK suK; rw [show i + 1 = 0 by omega] at hpr hsh; rw [← hpr, ← hsh]; first | (rw [if_pos (by omega)]; done) | (rw [if_neg (by omega)]; done)
          · rw [eS55, upS_ne (by decide), eS47, upS_ne (by decide), eS43, upS_ne (by decide), eS11, upS_ne (by decide)]; unfold fiK; rw [show i + 1 = 0 by omega] at hfi; exact hfi
          · rw [eS55, upS_ne (by decide), eS47, upS_ne (by decide), eS43, upS_ne (by decide), eS11, upS_ne (by decide)]; exact (hot z hz).1
          · exact by rw [eS55, upS_ne (by decide), eS47, upS_ne (by decide), eS43, upS_ne (by decide), eS11, upS_nz hz, hx8 26 (by decide), eS3, upS_ne (by decide)]
          · exact by rw [eS55, upS_ne (by decide), eS47, upS_ne (by decide), eS43, upS_nz hz, eS11, upS_ne (by decide), hx8 27 (by decide), eS3, upS_ne (by decide)]
          · exact by rw [eS55, upS_ne (by decide), eS47, upS_nz hz, eS43, upS_ne (by decide), eS11, upS_ne (by decide), hx8 28 (by decide), eS3, upS_ne (by decide)]
          · exact by rw [eS55, upS_nz hz, eS47, upS_ne (by decide), eS43, upS_ne (by decide), eS11, upS_ne (by decide), hx8 29 (by decide), eS3, upS_ne (by decide)]
          · rw [eS55, upS_ne (by decide), eS47, upS_ne (by decide), eS43, upS_ne (by decide), eS11, upS_ne (by decide)]; exact (hot z hz).2
      · refine ev_iconst dX10_findPlace_259 ?_
        refine ev_goto (tgt := 268) dX10_findPlace_260 (by decide) ?_
        refine m_st (k := 28) hM44 (by decide) dX10_findPlace_268 (by omega) (by show _ < ((10 : Nat) : Int); omega) (by decide) (fun S57 h58 eS59 hM60 => ?_)
        have hRS57 := hM60.2.2.2.2
        have hxS57 : eqx scr S S57 := by rw [eS59]; exact (hxS41).up (by decide)
        have hIS57 := Inv.x hI hxS57
        refine ev_aload_n 7 rfl dX10_findPlace_269 ?_
        refine mg_80 hM60 dX10_findPlace_270 ?_
        refine ev_iload_n 8 rfl dX10_findPlace_273 ?_
        refine ev_iload 4 rfl dX10_findPlace_274 ?_
        refine ev_if_ne (tgt := 283) dX10_findPlace_276 (by first | assumption | exact hR _ _ | exact hRS1 _ _ | exact hRS5 _ _ | exact hRS9 _ _ | exact hRS41 _ _ | exact hRS57 _ _ | decide | (simp only [InR]; omega)) (by decide) (fun c276 => ?_) (fun c276 => ?_)
        · refine ev_iload 1 rfl dX10_findPlace_283 ?_
          refine ev_iload 4 rfl dX10_findPlace_285 ?_
          have dh := tdiv_b (a := sh) (b := pr) (A := 160000000) (by omega)
          refine ev_idiv dX10_findPlace_287 (by first | assumption | exact hR _ _ | exact hRS1 _ _ | exact hRS5 _ _ | exact hRS9 _ _ | exact hRS41 _ _ | exact hRS57 _ _ | decide | (simp only [InR]; omega)) (by first | assumption | exact hR _ _ | exact hRS1 _ _ | exact hRS5 _ _ | exact hRS9 _ _ | exact hRS41 _ _ | exact hRS57 _ _ | decide | (simp only [InR]; omega)) (by omega) (by first | assumption | exact hR _ _ | exact hRS1 _ _ | exact hRS5 _ _ | exact hRS9 _ _ | exact hRS41 _ _ | exact hRS57 _ _ | decide | (simp only [InR]; omega)) ?_
          refine m_st (k := 29) hM60 (by decide) dX10_findPlace_288 (by omega) (by show _ < ((10 : Nat) : Int); omega) (by first | assumption | exact hR _ _ | exact hRS1 _ _ | exact hRS5 _ _ | exact hRS9 _ _ | exact hRS41 _ _ | exact hRS57 _ _ | decide | (simp only [InR]; omega)) (fun S61 h62 eS63 hM64 => ?_)
          have hRS61 := hM64.2.2.2.2
          have hxS61 : eqx scr S S61 := by rw [eS63]; exact (hxS57).up (by decide)
          have hIS61 := Inv.x hI hxS61
          refine ev_return dX10_findPlace_289 ?_
          refine ⟨rfl, S61, hM64, (show eqx [17, 18, 25, 26, 27, 28, 29, 30] S S61 from by rw [eS63]; exact (show eqx [17, 18, 25, 26, 27, 28, 29, 30] S S57 from by rw [eS59]; exact (show eqx [17, 18, 25, 26, 27, 28, 29, 30] S S41 from by rw [eS43]; exact (show eqx [17, 18, 25, 26, 27, 28, 29, 30] S S9 from by rw [eS11]; exact (eqx.tr (l := [17, 18, 25, 26, 27, 28, 29, 30]) (show eqx [17, 18, 25, 26, 27, 28, 29, 30] S S1 from by rw [eS3]; exact (eqx.rf (l := [17, 18, 25, 26, 27, 28, 29, 30]) (S := S)).up (by decide)) hx8 (by decide) (by decide)).up (by decide)).up (by decide)).up (by decide)).up (by decide)), ?_, ?_, ?_, ?_, ?_, ?_, fun z hz => ⟨?_, ?_, ?_, ?_, ?_, ?_⟩⟩
          · rw [eS63, upS_ne (by decide), eS59, upS_ne (by decide), eS43, upS_ne (by decide), eS11, upS_ne (by decide), hme]; unfold meK; congr 1; omega
          · rw [eS63, upS_ne (by decide), eS59, upS_ne (by decide), eS43, upS_ne (by decide), eS11, upS_at]; unfold tiK frK toK; rw [hfr, hto, show i + 1 = 0 by omega]
          · rw [eS63, upS_ne (by decide), eS59, upS_ne (by decide), eS43, upS_at]; unfold avK prK suK; rw [show i + 1 = 0 by omega] at hpr hsx; rw [← hpr, ← hsx]; first | (rw [if_pos (by omega)]; done) | (rw [if_neg (by omega)]; done)
          · rw [eS63, upS_ne (by decide), eS59, upS_at]; unfold avK prK suK; rw [show i + 1 = 0 by omega] at hpr hsy; rw [← hpr, ← hsy]; first | (rw [if_pos (by omega)]; done) | (rw [if_neg (by omega)]; done)
          · rw [eS63, upS_at]; unfold avK prK suK; rw [show i + 1 = 0 by omega] at hpr hsh; rw [← hpr, ← hsh]; first | (rw [if_pos (by omega)]; done) | (rw [if_neg (by omega)]; done)
          · rw [eS63, upS_ne (by decide), eS59, upS_ne (by decide), eS43, upS_ne (by decide), eS11, upS_ne (by decide)]; unfold fiK; rw [show i + 1 = 0 by omega] at hfi; exact hfi
          · rw [eS63, upS_ne (by decide), eS59, upS_ne (by decide), eS43, upS_ne (by decide), eS11, upS_ne (by decide)]; exact (hot z hz).1
          · exact by rw [eS63, upS_ne (by decide), eS59, upS_ne (by decide), eS43, upS_ne (by decide), eS11, upS_nz hz, hx8 26 (by decide), eS3, upS_ne (by decide)]
          · exact by rw [eS63, upS_ne (by decide), eS59, upS_ne (by decide), eS43, upS_nz hz, eS11, upS_ne (by decide), hx8 27 (by decide), eS3, upS_ne (by decide)]
          · exact by rw [eS63, upS_ne (by decide), eS59, upS_nz hz, eS43, upS_ne (by decide), eS11, upS_ne (by decide), hx8 28 (by decide), eS3, upS_ne (by decide)]
          · exact by rw [eS63, upS_nz hz, eS59, upS_ne (by decide), eS43, upS_ne (by decide), eS11, upS_ne (by decide), hx8 29 (by decide), eS3, upS_ne (by decide)]
          · rw [eS63, upS_ne (by decide), eS59, upS_ne (by decide), eS43, upS_ne (by decide), eS11, upS_ne (by decide)]; exact (hot z hz).2
        · refine ev_iconst dX10_findPlace_279 ?_
          refine ev_goto (tgt := 288) dX10_findPlace_280 (by decide) ?_
          refine m_st (k := 29) hM60 (by decide) dX10_findPlace_288 (by omega) (by show _ < ((10 : Nat) : Int); omega) (by decide) (fun S65 h66 eS67 hM68 => ?_)
          have hRS65 := hM68.2.2.2.2
          have hxS65 : eqx scr S S65 := by rw [eS67]; exact (hxS57).up (by decide)
          have hIS65 := Inv.x hI hxS65
          refine ev_return dX10_findPlace_289 ?_
          refine ⟨rfl, S65, hM68, (show eqx [17, 18, 25, 26, 27, 28, 29, 30] S S65 from by rw [eS67]; exact (show eqx [17, 18, 25, 26, 27, 28, 29, 30] S S57 from by rw [eS59]; exact (show eqx [17, 18, 25, 26, 27, 28, 29, 30] S S41 from by rw [eS43]; exact (show eqx [17, 18, 25, 26, 27, 28, 29, 30] S S9 from by rw [eS11]; exact (eqx.tr (l := [17, 18, 25, 26, 27, 28, 29, 30]) (show eqx [17, 18, 25, 26, 27, 28, 29, 30] S S1 from by rw [eS3]; exact (eqx.rf (l := [17, 18, 25, 26, 27, 28, 29, 30]) (S := S)).up (by decide)) hx8 (by decide) (by decide)).up (by decide)).up (by decide)).up (by decide)).up (by decide)), ?_, ?_, ?_, ?_, ?_, ?_, fun z hz => ⟨?_, ?_, ?_, ?_, ?_, ?_⟩⟩
          · rw [eS67, upS_ne (by decide), eS59, upS_ne (by decide), eS43, upS_ne (by decide), eS11, upS_ne (by decide), hme]; unfold meK; congr 1; omega
          · rw [eS67, upS_ne (by decide), eS59, upS_ne (by decide), eS43, upS_ne (by decide), eS11, upS_at]; unfold tiK frK toK; rw [hfr, hto, show i + 1 = 0 by omega]
          · rw [eS67, upS_ne (by decide), eS59, upS_ne (by decide), eS43, upS_at]; unfold avK prK suK; rw [show i + 1 = 0 by omega] at hpr hsx; rw [← hpr, ← hsx]; first | (rw [if_pos (by omega)]; done) | (rw [if_neg (by omega)]; done)
          · rw [eS67, upS_ne (by decide), eS59, upS_at]; unfold avK prK suK; rw [show i + 1 = 0 by omega] at hpr hsy; rw [← hpr, ← hsy]; first | (rw [if_pos (by omega)]; done) | (rw [if_neg (by omega)]; done)
          · rw [eS67, upS_at]; unfold avK prK suK; rw [show i + 1 = 0 by omega] at hpr hsh; rw [← hpr, ← hsh]; first | (rw [if_pos (by omega)]; done) | (rw [if_neg (by omega)]; done)
          · rw [eS67, upS_ne (by decide), eS59, upS_ne (by decide), eS43, upS_ne (by decide), eS11, upS_ne (by decide)]; unfold fiK; rw [show i + 1 = 0 by omega] at hfi; exact hfi
          · rw [eS67, upS_ne (by decide), eS59, upS_ne (by decide), eS43, upS_ne (by decide), eS11, upS_ne (by decide)]; exact (hot z hz).1
          · exact by rw [eS67, upS_ne (by decide), eS59, upS_ne (by decide), eS43, upS_ne (by decide), eS11, upS_nz hz, hx8 26 (by decide), eS3, upS_ne (by decide)]
          · exact by rw [eS67, upS_ne (by decide), eS59, upS_ne (by decide), eS43, upS_nz hz, eS11, upS_ne (by decide), hx8 27 (by decide), eS3, upS_ne (by decide)]
          · exact by rw [eS67, upS_ne (by decide), eS59, upS_nz hz, eS43, upS_ne (by decide), eS11, upS_ne (by decide), hx8 28 (by decide), eS3, upS_ne (by decide)]
          · exact by rw [eS67, upS_nz hz, eS59, upS_ne (by decide), eS43, upS_ne (by decide), eS11, upS_ne (by decide), hx8 29 (by decide), eS3, upS_ne (by decide)]
          · rw [eS67, upS_ne (by decide), eS59, upS_ne (by decide), eS43, upS_ne (by decide), eS11, upS_ne (by decide)]; exact (hot z hz).2
  · obtain ⟨l1, l2⟩ := hls i (by omega) (by omega)
    have si := iSi _ l2.1 l2.2
    have sti := iSt _ si.2.1.1 si.2.1.2
    have fb : -60 ≤ frZ S (at0 l i) ∧ frZ S (at0 l i) ≤ 1500 := by unfold frZ; omega
    have lb : -60 ≤ laZ S (at0 l i) ∧ laZ S (at0 l i) ≤ 1500 := by unfold laZ; omega
    have ri := (hrs i (by omega) (by omega)).2
    refine ev_aload_n 7 rfl dX10_findPlace_40 ?_
    refine mg_59 hM7 dX10_findPlace_41 ?_
    refine ev_iload 0 rfl dX10_findPlace_44 ?_
    refine m_ldE (k := 22) (v := S 22 i) hM7 (by decide) (by rw [hx8 22 (by decide), eS3, upS_ne (by decide)]) dX10_findPlace_46 (by omega) (by show _ < ((10 : Nat) : Int); omega) ?_
    refine ev_ren (b := at0 r i) ((hrs i (by omega) (by omega)).1) ?_
    refine ev_iload_n 8 rfl dX10_findPlace_47 ?_
    refine ev_icmp_ne (tgt := 212) dX10_findPlace_48 (by first | assumption | exact hR _ _ | exact hRS1 _ _ | exact hRS5 _ _ | decide | (simp only [InR]; omega)) (by first | assumption | exact hR _ _ | exact hRS1 _ _ | exact hRS5 _ _ | decide | (simp only [InR]; omega)) (by decide) (fun c48 => ?_) (fun c48 => ?_)
    · have hin : ¬ at0 r i = k := by omega
      refine ev_iinc (L' := [(8, vI (i + (-1))), (7, vI (sh)), (6, vI (sy)), (5, vI (sx)), (4, vI (pr)), (3, vI (to)), (2, vI (fr)), (0, .ref (o)), (1, vI (k))]) 0 rfl dX10_findPlace_212 (by decide) rfl ?_
      refine ev_goto (tgt := 35) dX10_findPlace_215 (by decide) ?_
      exact ihi (i + (-1)) (by omega) (by omega) fr to pr sx sy sh S5 h6 (by omega) hM7 hx8 (by rw [show i + (-1) + 1 = i by omega, dnI_s (by omega), ← hfr, show plF S l r k i = -10000 from if_neg hin]; unfold mx; rw [if_neg (by omega)]) (by rw [show i + (-1) + 1 = i by omega, dnI_s (by omega), ← hto, show plT S l r k i = 10000 from if_neg hin]; unfold mn; rw [if_neg (by omega)]) (by rw [show i + (-1) + 1 = i by omega, dnI_s (by omega), ← hpr]; simp only [plP, ad2]; rw [if_neg hin]; omega) (by rw [show i + (-1) + 1 = i by omega, dnI_s (by omega), ← hsx]; simp only [plX, ad2]; rw [if_neg hin]; omega) (by rw [show i + (-1) + 1 = i by omega, dnI_s (by omega), ← hsy]; simp only [plX, ad2]; rw [if_neg hin]; omega) (by rw [show i + (-1) + 1 = i by omega, dnI_s (by omega), ← hsh]; simp only [plX, ad2]; rw [if_neg hin]; omega) (by omega) (by rw [show i + (-1) + 1 = i by omega, dnI_s (by omega), ← hme]; simp only [plM, ad2]; rw [if_neg hin]; omega) (by rw [show i + (-1) + 1 = i by omega, dnI_s (by omega), show plB l r k i = -1 from if_neg hin]; unfold fst2; rw [if_pos (by decide)]; exact hfi) (hot)
    · have hin : at0 r i = k := by omega
      refine ev_aload_n 7 rfl dX10_findPlace_51 ?_
      refine mg_56 hM7 dX10_findPlace_52 ?_
      refine ev_iload 0 rfl dX10_findPlace_55 ?_
      refine m_ldE (k := 20) (v := S 20 i) hM7 (by decide) (by rw [hx8 20 (by decide), eS3, upS_ne (by decide)]) dX10_findPlace_57 (by omega) (by show _ < ((40 : Nat) : Int); omega) ?_
      refine ev_ren (b := at0 l i) (l1) ?_
      refine ev_istore (L' := [(9, vI (at0 l i)), (8, vI (i)), (7, vI (sh)), (6, vI (sy)), (5, vI (sx)), (4, vI (pr)), (3, vI (to)), (2, vI (fr)), (0, .ref (o)), (1, vI (k))]) dX10_findPlace_58 (by decide) rfl ?_
      refine ev_aload_n 8 rfl dX10_findPlace_60 ?_
      refine mg_68 hM7 dX10_findPlace_61 ?_
      refine ev_iload_n 9 rfl dX10_findPlace_64 ?_
      refine ev_dup2 dX10_findPlace_65 rfl rfl ?_
      refine m_ld (k := 25) hM7 (by decide) dX10_findPlace_66 (by omega) (by show _ < ((10 : Nat) : Int); omega) ?_
      refine ev_iconst dX10_findPlace_67 ?_
      refine ev_iadd dX10_findPlace_68 ?_
      refine m_st (k := 25) hM7 (by decide) dX10_findPlace_69 (by omega) (by show _ < ((10 : Nat) : Int); omega) (by first | assumption | exact hR _ _ | exact hRS1 _ _ | exact hRS5 _ _ | decide | (simp only [InR]; omega)) (fun S69 h70 eS71 hM72 => ?_)
      have hRS69 := hM72.2.2.2.2
      have hxS69 : eqx scr S S69 := by rw [eS71]; exact (hxS5).up (by decide)
      have hIS69 := Inv.x hI hxS69
      refine ev_aload_n 8 rfl dX10_findPlace_70 ?_
      refine mg_83 hM72 dX10_findPlace_71 ?_
      refine ev_iload_n 9 rfl dX10_findPlace_74 ?_
      refine ev_iload 0 rfl dX10_findPlace_75 ?_
      refine m_st (k := 30) hM72 (by decide) dX10_findPlace_77 (by omega) (by show _ < ((10 : Nat) : Int); omega) (by first | assumption | exact hR _ _ | exact hRS1 _ _ | exact hRS5 _ _ | exact hRS69 _ _ | decide | (simp only [InR]; omega)) (fun S73 h74 eS75 hM76 => ?_)
      have hRS73 := hM76.2.2.2.2
      have hxS73 : eqx scr S S73 := by rw [eS75]; exact (hxS69).up (by decide)
      have hIS73 := Inv.x hI hxS73
      refine ev_aload_n 8 rfl dX10_findPlace_78 ?_
      refine ev_iload 0 rfl dX10_findPlace_79 ?_
      refine c_X10_197 (m_firstOf (a := at0 l i) hM76 hIS73 (by rw [hxS73 7 (by decide)]; omega)) hM76.1 rfl rfl (Nat.le_of_ble_eq_true rfl) (by decide) dX10_findPlace_81 (kP ?_)
      refine ev_ren (b := frZ S (at0 l i)) (frZ_x hxS73) ?_
      refine ev_iload_n 7 rfl dX10_findPlace_84 ?_
      refine ev_icmp_le (tgt := 97) dX10_findPlace_85 (by first | assumption | exact hR _ _ | exact hRS1 _ _ | exact hRS5 _ _ | exact hRS69 _ _ | exact hRS73 _ _ | decide | (simp only [InR]; omega)) (by first | assumption | exact hR _ _ | exact hRS1 _ _ | exact hRS5 _ _ | exact hRS69 _ _ | exact hRS73 _ _ | decide | (simp only [InR]; omega)) (by decide) (fun c85 => ?_) (fun c85 => ?_)
      · refine ev_iload_n 7 rfl dX10_findPlace_97 ?_
        refine ev_istore_n (L' := [(2, vI (fr)), (9, vI (at0 l i)), (8, vI (i)), (7, vI (sh)), (6, vI (sy)), (5, vI (sx)), (4, vI (pr)), (3, vI (to)), (0, .ref (o)), (1, vI (k))]) dX10_findPlace_98 (by decide) rfl ?_
        refine ev_aload_n 8 rfl dX10_findPlace_99 ?_
        refine ev_iload 1 rfl dX10_findPlace_100 ?_
        refine c_X10_200 (m_lastOf (a := at0 l i) hM76 hIS73 (by rw [hxS73 7 (by decide)]; omega)) hM76.1 rfl rfl (Nat.le_of_ble_eq_true rfl) (by decide) dX10_findPlace_102 (kP ?_)
        refine ev_ren (b := laZ S (at0 l i)) (laZ_x hxS73) ?_
        refine ev_iload_n 7 rfl dX10_findPlace_105 ?_
        refine ev_icmp_ge (tgt := 118) dX10_findPlace_106 (by first | assumption | exact hR _ _ | exact hRS1 _ _ | exact hRS5 _ _ | exact hRS69 _ _ | exact hRS73 _ _ | decide | (simp only [InR]; omega)) (by first | assumption | exact hR _ _ | exact hRS1 _ _ | exact hRS5 _ _ | exact hRS69 _ _ | exact hRS73 _ _ | decide | (simp only [InR]; omega)) (by decide) (fun c106 => ?_) (fun c106 => ?_)
        · refine ev_iload_n 7 rfl dX10_findPlace_118 ?_
          refine ev_istore_n (L' := [(3, vI (to)), (2, vI (fr)), (9, vI (at0 l i)), (8, vI (i)), (7, vI (sh)), (6, vI (sy)), (5, vI (sx)), (4, vI (pr)), (0, .ref (o)), (1, vI (k))]) dX10_findPlace_119 (by decide) rfl ?_
          refine ev_iload 3 rfl dX10_findPlace_120 ?_
          refine ev_iconst dX10_findPlace_122 ?_
          refine ev_iadd dX10_findPlace_123 ?_
          refine ev_istore (L' := [(10, vI (i + 1)), (3, vI (to)), (2, vI (fr)), (9, vI (at0 l i)), (8, vI (i)), (7, vI (sh)), (6, vI (sy)), (5, vI (sx)), (4, vI (pr)), (0, .ref (o)), (1, vI (k))]) dX10_findPlace_124 (by decide) rfl ?_
          refine up_ind (P := fun j : Int => ∀ (pr1 : Int) (sx1 : Int) (sy1 : Int) (sh1 : Int) (S77 : MS) (h78 : AH), 0 ≤ j → MR E o ad S77 h78 → eqx [17, 18] S73 S77 → pr1 = pr + sumI (rwP r k i) j → sx1 = sx + sumI (rwX S l r k 0 i) j → sy1 = sy + sumI (rwX S l r k 1 i) j → sh1 = sh + sumI (rwX S l r k 2 i) j → ((pr ≤ pr1 ∧ pr1 ≤ pr + (j - i - 1)) ∧ (sx - 1600000 * (j - i - 1) ≤ sx1 ∧ sx1 ≤ sx + 1600000 * (j - i - 1)) ∧ (sy - 1600000 * (j - i - 1) ≤ sy1 ∧ sy1 ≤ sy + 1600000 * (j - i - 1)) ∧ sh - 1600000 * (j - i - 1) ≤ sh1 ∧ sh1 ≤ sh + 1600000 * (j - i - 1)) → Ev E RX10 cX10_findPlace 11 none "findPlace" (qV (fun h' => ∃ S', MR E o ad S' h' ∧ eqx [17, 18, 25, 26, 27, 28, 29, 30] S S' ∧ S' 25 k = meK r k n ∧ S' 26 k = tiK S l r k n ∧ S' 27 k = avK S l r k 0 n ∧ S' 28 k = avK S l r k 1 n ∧ S' 29 k = avK S l r k 2 n ∧ (fiK l r k n = -1 ∨ S' 30 k = fiK l r k n) ∧ ∀ z : Int, z ≠ k → S' 25 z = S 25 z ∧ S' 26 z = S 26 z ∧ S' 27 z = S 27 z ∧ S' 28 z = S 28 z ∧ S' 29 z = S 29 z ∧ S' 30 z = S 30 z)) 4 0 0 126 [(10, vI (j)), (3, vI (to)), (2, vI (fr)), (9, vI (at0 l i)), (8, vI (i)), (7, vI (sh1)), (6, vI (sy1)), (5, vI (sx1)), (4, vI (pr1)), (0, .ref (o)), (1, vI (k))] [] h78) (N := n) ?_ (i + 1) (by omega) pr sx sy sh S73 h74 (by omega) hM76 eqx.rf (by rw [sumI_zero (by omega) (fun j j0 j1 => by simp only [rwP]; rw [if_neg (by omega)])]; omega) (by rw [sumI_zero (by omega) (fun j j0 j1 => by simp only [rwX]; rw [if_neg (by omega)])]; omega) (by rw [sumI_zero (by omega) (fun j j0 j1 => by simp only [rwX]; rw [if_neg (by omega)])]; omega) (by rw [sumI_zero (by omega) (fun j j0 j1 => by simp only [rwX]; rw [if_neg (by omega)])]; omega) (by omega)
          intro j ihj hjN pr1 sx1 sy1 sh1 S77 h78 pj hM79 hx80 hp2 hx2 hy2 hh2 hb2
          have hRS77 := hM79.2.2.2.2
          have hxS77 : eqx scr S S77 := (hxS73).tr hx80 (by decide) (by decide)
          have hIS77 := Inv.x hI hxS77
          refine ev_iload 0 rfl dX10_findPlace_126 ?_
          refine ev_aload_n 9 rfl dX10_findPlace_128 ?_
          refine mgE_238 (v := S 19 0) hM79 (by rw [hx80 19 (by decide), eS75, upS_ne (by decide), eS71, upS_ne (by decide), hx8 19 (by decide), eS3, upS_ne (by decide)]) dX10_findPlace_129 ?_
          refine ev_icmp_ge (tgt := 212) dX10_findPlace_132 (by first | assumption | exact hR _ _ | exact hRS1 _ _ | exact hRS5 _ _ | exact hRS69 _ _ | exact hRS73 _ _ | exact hRS77 _ _ | decide | (simp only [InR]; omega)) (by first | assumption | exact hR _ _ | exact hRS1 _ _ | exact hRS5 _ _ | exact hRS69 _ _ | exact hRS73 _ _ | exact hRS77 _ _ | decide | (simp only [InR]; omega)) (by decide) (fun c132 => ?_) (fun c132 => ?_)
          · refine ev_iinc (L' := [(8, vI (i + (-1))), (10, vI (j)), (3, vI (to)), (2, vI (fr)), (9, vI (at0 l i)), (7, vI (sh1)), (6, vI (sy1)), (5, vI (sx1)), (4, vI (pr1)), (0, .ref (o)), (1, vI (k))]) 4 rfl dX10_findPlace_212 (by decide) rfl ?_
            refine ev_goto (tgt := 35) dX10_findPlace_215 (by decide) ?_
            refine ev_pick (L' := [(8, vI (i + (-1))), (7, vI (sh1)), (6, vI (sy1)), (5, vI (sx1)), (4, vI (pr1)), (3, vI (to)), (2, vI (fr)), (0, .ref (o)), (1, vI (k))]) [0, 5, 6, 7, 8, 2, 3, 9, 10] rfl ?_
            exact ihi (i + (-1)) (by omega) (by omega) fr to pr1 sx1 sy1 sh1 S77 h78 (by omega) hM79 (eqx.tr (l := [17, 18, 25, 30]) (by rw [eS75]; exact eqx.up (l := [17, 18, 25, 30]) (by rw [eS71]; exact eqx.up (l := [17, 18, 25, 30]) hx8 (by decide)) (by decide)) hx80 (by decide) (by decide)) (by rw [show i + (-1) + 1 = i by omega, dnI_s (by omega), ← hfr, show plF S l r k i = frZ S (at0 l i) from if_pos hin]; unfold mx; first | rw [if_pos (by omega)] | rw [if_neg (by omega)]) (by rw [show i + (-1) + 1 = i by omega, dnI_s (by omega), ← hto, show plT S l r k i = laZ S (at0 l i) from if_pos hin]; unfold mn; first | rw [if_pos (by omega)] | rw [if_neg (by omega)]) (by rw [show i + (-1) + 1 = i by omega, dnI_s (by omega), ← hpr]; simp only [plP, ad2]; rw [if_pos hin, hp2, show j = n by omega]) (by rw [show i + (-1) + 1 = i by omega, dnI_s (by omega), ← hsx]; simp only [plX, ad2]; rw [if_pos hin, hx2, show j = n by omega]) (by rw [show i + (-1) + 1 = i by omega, dnI_s (by omega), ← hsy]; simp only [plX, ad2]; rw [if_pos hin, hy2, show j = n by omega]) (by rw [show i + (-1) + 1 = i by omega, dnI_s (by omega), ← hsh]; simp only [plX, ad2]; rw [if_pos hin, hh2, show j = n by omega]) (by have q25 : S77 25 k = (S5 25 k) + 1 := (by rw [hx80 25 (by decide), eS75, upS_ne (by decide), eS71]; exact upS_at); omega) (by rw [hx80 25 (by decide), eS75, upS_ne (by decide), eS71, upS_at, show i + (-1) + 1 = i by omega, dnI_s (by omega), ← hme]; simp only [plM, ad2]; rw [if_pos hin]) (by rw [hx80 30 (by decide), eS75, upS_at, show i + (-1) + 1 = i by omega, dnI_s (by omega), show plB l r k i = at0 l i from if_pos hin]; unfold fst2; rw [if_neg (by omega)]; exact Or.inr rfl) (fun z hz => ⟨by rw [hx80 25 (by decide), eS75, upS_ne (by decide), eS71, upS_nz hz]; exact (hot z hz).1, by rw [hx80 30 (by decide), eS75, upS_nz hz, eS71, upS_ne (by decide)]; exact (hot z hz).2⟩)
          · refine ev_aload_n 9 rfl dX10_findPlace_135 ?_
            refine mg_59 hM79 dX10_findPlace_136 ?_
            refine ev_iload 0 rfl dX10_findPlace_139 ?_
            refine m_ldE (k := 22) (v := S 22 j) hM79 (by decide) (by rw [hx80 22 (by decide), eS75, upS_ne (by decide), eS71, upS_ne (by decide), hx8 22 (by decide), eS3, upS_ne (by decide)]) dX10_findPlace_141 (by omega) (by show _ < ((10 : Nat) : Int); omega) ?_
            have rj := (hrs j (by omega) (by omega)).2
            refine ev_ren (b := at0 r j) ((hrs j (by omega) (by omega)).1) ?_
            refine ev_iload_n 10 rfl dX10_findPlace_142 ?_
            refine ev_icmp_ne (tgt := 206) dX10_findPlace_143 (by first | assumption | exact hR _ _ | exact hRS1 _ _ | exact hRS5 _ _ | exact hRS69 _ _ | exact hRS73 _ _ | exact hRS77 _ _ | decide | (simp only [InR]; omega)) (by first | assumption | exact hR _ _ | exact hRS1 _ _ | exact hRS5 _ _ | exact hRS69 _ _ | exact hRS73 _ _ | exact hRS77 _ _ | decide | (simp only [InR]; omega)) (by decide) (fun c143 => ?_) (fun c143 => ?_)
            · refine ev_iinc (L' := [(10, vI (j + 1)), (3, vI (to)), (2, vI (fr)), (9, vI (at0 l i)), (8, vI (i)), (7, vI (sh1)), (6, vI (sy1)), (5, vI (sx1)), (4, vI (pr1)), (0, .ref (o)), (1, vI (k))]) 0 rfl dX10_findPlace_206 (by decide) rfl ?_
              refine ev_goto (tgt := 126) dX10_findPlace_209 (by decide) ?_
              exact ihj (j + 1) (by omega) (by omega) pr1 sx1 sy1 sh1 S77 h78 (by omega) hM79 hx80 (by rw [sumI_s _ (by omega), hp2]; simp only [rwP]; rw [if_neg (by omega)]; omega) (by rw [sumI_s _ (by omega), hx2]; simp only [rwX]; rw [if_neg (by omega)]; omega) (by rw [sumI_s _ (by omega), hy2]; simp only [rwX]; rw [if_neg (by omega)]; omega) (by rw [sumI_s _ (by omega), hh2]; simp only [rwX]; rw [if_neg (by omega)]; omega) (by omega)
            · obtain ⟨l3, l4⟩ := hls j (by omega) (by omega)
              have hc := hcr i j (by omega) (by omega) (by omega) hin (by omega)
              have pb0 := partZ_b (w := 0) hI l2 hc
              have pb1 := partZ_b (w := 1) hI l2 hc
              have pb2 := partZ_b (w := 2) hI l2 hc
              refine ev_iinc (L' := [(4, vI (pr1 + 1)), (10, vI (j)), (3, vI (to)), (2, vI (fr)), (9, vI (at0 l i)), (8, vI (i)), (7, vI (sh1)), (6, vI (sy1)), (5, vI (sx1)), (0, .ref (o)), (1, vI (k))]) 8 rfl dX10_findPlace_146 (by decide) rfl ?_
              refine ev_iload 8 rfl dX10_findPlace_149 ?_
              refine ev_aload_n 9 rfl dX10_findPlace_151 ?_
              refine ev_iload 4 rfl dX10_findPlace_152 ?_
              refine ev_aload_n 9 rfl dX10_findPlace_154 ?_
              refine mg_56 hM79 dX10_findPlace_155 ?_
              refine ev_iload 1 rfl dX10_findPlace_158 ?_
              refine m_ldE (k := 20) (v := S 20 j) hM79 (by decide) (by rw [hx80 20 (by decide), eS75, upS_ne (by decide), eS71, upS_ne (by decide), hx8 20 (by decide), eS3, upS_ne (by decide)]) dX10_findPlace_160 (by omega) (by show _ < ((40 : Nat) : Int); omega) ?_
              refine ev_ren (b := at0 l j) (l3) ?_
              refine ev_iconst dX10_findPlace_161 ?_
              refine c_X10_234 (m_crossPart (a := at0 l i) (b := at0 l j) (w := 0) hM79 hIS77 (by rw [hxS77 7 (by decide)]; omega) (by rw [hxS77 7 (by decide)]; omega) ((CrP_x hxS77).mpr hc) (by decide)) hM79.1 rfl rfl (Nat.le_of_ble_eq_true rfl) (by decide) dX10_findPlace_162 (kI (fun z81 h82 hqz81 => ?_))
              obtain ⟨hz86, S83, hM84, ex85⟩ := hqz81
              rw [partZ_x hxS77] at hz86
              have hRS83 := hM84.2.2.2.2
              have hxS83 : eqx scr S S83 := (hxS77).tr ex85 (by decide) (by decide)
              have hIS83 := Inv.x hI hxS83
              refine ev_ren (b := partZ S (at0 l i) (at0 l j) 0) hz86 ?_
              refine ev_iadd dX10_findPlace_165 ?_
              refine ev_istore (L' := [(5, vI (sx1 + (partZ S (at0 l i) (at0 l j) 0))), (4, vI (pr1 + 1)), (10, vI (j)), (3, vI (to)), (2, vI (fr)), (9, vI (at0 l i)), (8, vI (i)), (7, vI (sh1)), (6, vI (sy1)), (0, .ref (o)), (1, vI (k))]) dX10_findPlace_166 (by decide) rfl ?_
              refine ev_iload 8 rfl dX10_findPlace_168 ?_
              refine ev_aload_n 9 rfl dX10_findPlace_170 ?_
              refine ev_iload 5 rfl dX10_findPlace_171 ?_
              refine ev_aload_n 9 rfl dX10_findPlace_173 ?_
              refine mg_56 hM84 dX10_findPlace_174 ?_
              refine ev_iload 2 rfl dX10_findPlace_177 ?_
              refine m_ldE (k := 20) (v := S 20 j) hM84 (by decide) (by rw [ex85 20 (by decide), hx80 20 (by decide), eS75, upS_ne (by decide), eS71, upS_ne (by decide), hx8 20 (by decide), eS3, upS_ne (by decide)]) dX10_findPlace_179 (by omega) (by show _ < ((40 : Nat) : Int); omega) ?_
              refine ev_ren (b := at0 l j) (l3) ?_
              refine ev_iconst dX10_findPlace_180 ?_
              refine c_X10_234 (m_crossPart (a := at0 l i) (b := at0 l j) (w := 1) hM84 hIS83 (by rw [hxS83 7 (by decide)]; omega) (by rw [hxS83 7 (by decide)]; omega) ((CrP_x hxS83).mpr hc) (by decide)) hM84.1 rfl rfl (Nat.le_of_ble_eq_true rfl) (by decide) dX10_findPlace_181 (kI (fun z87 h88 hqz87 => ?_))
              obtain ⟨hz92, S89, hM90, ex91⟩ := hqz87
              rw [partZ_x hxS83] at hz92
              have hRS89 := hM90.2.2.2.2
              have hxS89 : eqx scr S S89 := (hxS83).tr ex91 (by decide) (by decide)
              have hIS89 := Inv.x hI hxS89
              refine ev_ren (b := partZ S (at0 l i) (at0 l j) 1) hz92 ?_
              refine ev_iadd dX10_findPlace_184 ?_
              refine ev_istore (L' := [(6, vI (sy1 + (partZ S (at0 l i) (at0 l j) 1))), (5, vI (sx1 + (partZ S (at0 l i) (at0 l j) 0))), (4, vI (pr1 + 1)), (10, vI (j)), (3, vI (to)), (2, vI (fr)), (9, vI (at0 l i)), (8, vI (i)), (7, vI (sh1)), (0, .ref (o)), (1, vI (k))]) dX10_findPlace_185 (by decide) rfl ?_
              refine ev_iload 8 rfl dX10_findPlace_187 ?_
              refine ev_aload_n 9 rfl dX10_findPlace_189 ?_
              refine ev_iload 6 rfl dX10_findPlace_190 ?_
              refine ev_aload_n 9 rfl dX10_findPlace_192 ?_
              refine mg_56 hM90 dX10_findPlace_193 ?_
              refine ev_iload 3 rfl dX10_findPlace_196 ?_
              refine m_ldE (k := 20) (v := S 20 j) hM90 (by decide) (by rw [ex91 20 (by decide), ex85 20 (by decide), hx80 20 (by decide), eS75, upS_ne (by decide), eS71, upS_ne (by decide), hx8 20 (by decide), eS3, upS_ne (by decide)]) dX10_findPlace_198 (by omega) (by show _ < ((40 : Nat) : Int); omega) ?_
              refine ev_ren (b := at0 l j) (l3) ?_
              refine ev_iconst dX10_findPlace_199 ?_
              refine c_X10_234 (m_crossPart (a := at0 l i) (b := at0 l j) (w := 2) hM90 hIS89 (by rw [hxS89 7 (by decide)]; omega) (by rw [hxS89 7 (by decide)]; omega) ((CrP_x hxS89).mpr hc) (by decide)) hM90.1 rfl rfl (Nat.le_of_ble_eq_true rfl) (by decide) dX10_findPlace_200 (kI (fun z93 h94 hqz93 => ?_))
              obtain ⟨hz98, S95, hM96, ex97⟩ := hqz93
              rw [partZ_x hxS89] at hz98
              have hRS95 := hM96.2.2.2.2
              have hxS95 : eqx scr S S95 := (hxS89).tr ex97 (by decide) (by decide)
              have hIS95 := Inv.x hI hxS95
              refine ev_ren (b := partZ S (at0 l i) (at0 l j) 2) hz98 ?_
              refine ev_iadd dX10_findPlace_203 ?_
              refine ev_istore (L' := [(7, vI (sh1 + (partZ S (at0 l i) (at0 l j) 2))), (6, vI (sy1 + (partZ S (at0 l i) (at0 l j) 1))), (5, vI (sx1 + (partZ S (at0 l i) (at0 l j) 0))), (4, vI (pr1 + 1)), (10, vI (j)), (3, vI (to)), (2, vI (fr)), (9, vI (at0 l i)), (8, vI (i)), (0, .ref (o)), (1, vI (k))]) dX10_findPlace_204 (by decide) rfl ?_
              refine ev_iinc (L' := [(10, vI (j + 1)), (7, vI (sh1 + (partZ S (at0 l i) (at0 l j) 2))), (6, vI (sy1 + (partZ S (at0 l i) (at0 l j) 1))), (5, vI (sx1 + (partZ S (at0 l i) (at0 l j) 0))), (4, vI (pr1 + 1)), (3, vI (to)), (2, vI (fr)), (9, vI (at0 l i)), (8, vI (i)), (0, .ref (o)), (1, vI (k))]) 4 rfl dX10_findPlace_206 (by decide) rfl ?_
              refine ev_goto (tgt := 126) dX10_findPlace_209 (by decide) ?_
              refine ev_pick (L' := [(10, vI (j + 1)), (3, vI (to)), (2, vI (fr)), (9, vI (at0 l i)), (8, vI (i)), (7, vI (sh1 + (partZ S (at0 l i) (at0 l j) 2))), (6, vI (sy1 + (partZ S (at0 l i) (at0 l j) 1))), (5, vI (sx1 + (partZ S (at0 l i) (at0 l j) 0))), (4, vI (pr1 + 1)), (0, .ref (o)), (1, vI (k))]) [0, 5, 6, 7, 8, 1, 2, 3, 4, 9, 10] rfl ?_
              exact ihj (j + 1) (by omega) (by omega) (pr1 + 1) (sx1 + (partZ S (at0 l i) (at0 l j) 0)) (sy1 + (partZ S (at0 l i) (at0 l j) 1)) (sh1 + (partZ S (at0 l i) (at0 l j) 2)) S95 h94 (by omega) hM96 (eqx.tr (l := [17, 18]) (eqx.tr (l := [17, 18]) (eqx.tr (l := [17, 18]) hx80 ex85 (by decide) (by decide)) ex91 (by decide) (by decide)) ex97 (by decide) (by decide)) (by rw [sumI_s _ (by omega), hp2]; simp only [rwP]; rw [if_pos (by omega)]; omega) (by rw [sumI_s _ (by omega), hx2]; simp only [rwX]; rw [if_pos (by omega)]; omega) (by rw [sumI_s _ (by omega), hy2]; simp only [rwX]; rw [if_pos (by omega)]; omega) (by rw [sumI_s _ (by omega), hh2]; simp only [rwX]; rw [if_pos (by omega)]; omega) (by omega)
        · refine ev_aload_n 8 rfl dX10_findPlace_109 ?_
          refine ev_iload 1 rfl dX10_findPlace_110 ?_
          refine c_X10_200 (m_lastOf (a := at0 l i) hM76 hIS73 (by rw [hxS73 7 (by decide)]; omega)) hM76.1 rfl rfl (Nat.le_of_ble_eq_true rfl) (by decide) dX10_findPlace_112 (kP ?_)
          refine ev_ren (b := laZ S (at0 l i)) (laZ_x hxS73) ?_
          refine ev_goto (tgt := 119) dX10_findPlace_115 (by decide) ?_
          refine ev_istore_n (L' := [(3, vI (laZ S (at0 l i))), (2, vI (fr)), (9, vI (at0 l i)), (8, vI (i)), (7, vI (sh)), (6, vI (sy)), (5, vI (sx)), (4, vI (pr)), (0, .ref (o)), (1, vI (k))]) dX10_findPlace_119 (by decide) rfl ?_
          refine ev_iload 3 rfl dX10_findPlace_120 ?_
          refine ev_iconst dX10_findPlace_122 ?_
          refine ev_iadd dX10_findPlace_123 ?_
          refine ev_istore (L' := [(10, vI (i + 1)), (3, vI (laZ S (at0 l i))), (2, vI (fr)), (9, vI (at0 l i)), (8, vI (i)), (7, vI (sh)), (6, vI (sy)), (5, vI (sx)), (4, vI (pr)), (0, .ref (o)), (1, vI (k))]) dX10_findPlace_124 (by decide) rfl ?_
          refine up_ind (P := fun j : Int => ∀ (pr1 : Int) (sx1 : Int) (sy1 : Int) (sh1 : Int) (S99 : MS) (h100 : AH), 0 ≤ j → MR E o ad S99 h100 → eqx [17, 18] S73 S99 → pr1 = pr + sumI (rwP r k i) j → sx1 = sx + sumI (rwX S l r k 0 i) j → sy1 = sy + sumI (rwX S l r k 1 i) j → sh1 = sh + sumI (rwX S l r k 2 i) j → ((pr ≤ pr1 ∧ pr1 ≤ pr + (j - i - 1)) ∧ (sx - 1600000 * (j - i - 1) ≤ sx1 ∧ sx1 ≤ sx + 1600000 * (j - i - 1)) ∧ (sy - 1600000 * (j - i - 1) ≤ sy1 ∧ sy1 ≤ sy + 1600000 * (j - i - 1)) ∧ sh - 1600000 * (j - i - 1) ≤ sh1 ∧ sh1 ≤ sh + 1600000 * (j - i - 1)) → Ev E RX10 cX10_findPlace 11 none "findPlace" (qV (fun h' => ∃ S', MR E o ad S' h' ∧ eqx [17, 18, 25, 26, 27, 28, 29, 30] S S' ∧ S' 25 k = meK r k n ∧ S' 26 k = tiK S l r k n ∧ S' 27 k = avK S l r k 0 n ∧ S' 28 k = avK S l r k 1 n ∧ S' 29 k = avK S l r k 2 n ∧ (fiK l r k n = -1 ∨ S' 30 k = fiK l r k n) ∧ ∀ z : Int, z ≠ k → S' 25 z = S 25 z ∧ S' 26 z = S 26 z ∧ S' 27 z = S 27 z ∧ S' 28 z = S 28 z ∧ S' 29 z = S 29 z ∧ S' 30 z = S 30 z)) 4 0 0 126 [(10, vI (j)), (3, vI (laZ S (at0 l i))), (2, vI (fr)), (9, vI (at0 l i)), (8, vI (i)), (7, vI (sh1)), (6, vI (sy1)), (5, vI (sx1)), (4, vI (pr1)), (0, .ref (o)), (1, vI (k))] [] h100) (N := n) ?_ (i + 1) (by omega) pr sx sy sh S73 h74 (by omega) hM76 eqx.rf (by rw [sumI_zero (by omega) (fun j j0 j1 => by simp only [rwP]; rw [if_neg (by omega)])]; omega) (by rw [sumI_zero (by omega) (fun j j0 j1 => by simp only [rwX]; rw [if_neg (by omega)])]; omega) (by rw [sumI_zero (by omega) (fun j j0 j1 => by simp only [rwX]; rw [if_neg (by omega)])]; omega) (by rw [sumI_zero (by omega) (fun j j0 j1 => by simp only [rwX]; rw [if_neg (by omega)])]; omega) (by omega)
          intro j ihj hjN pr1 sx1 sy1 sh1 S99 h100 pj hM101 hx102 hp2 hx2 hy2 hh2 hb2
          have hRS99 := hM101.2.2.2.2
          have hxS99 : eqx scr S S99 := (hxS73).tr hx102 (by decide) (by decide)
          have hIS99 := Inv.x hI hxS99
          refine ev_iload 0 rfl dX10_findPlace_126 ?_
          refine ev_aload_n 9 rfl dX10_findPlace_128 ?_
          refine mgE_238 (v := S 19 0) hM101 (by rw [hx102 19 (by decide), eS75, upS_ne (by decide), eS71, upS_ne (by decide), hx8 19 (by decide), eS3, upS_ne (by decide)]) dX10_findPlace_129 ?_
          refine ev_icmp_ge (tgt := 212) dX10_findPlace_132 (by first | assumption | exact hR _ _ | exact hRS1 _ _ | exact hRS5 _ _ | exact hRS69 _ _ | exact hRS73 _ _ | exact hRS99 _ _ | decide | (simp only [InR]; omega)) (by first | assumption | exact hR _ _ | exact hRS1 _ _ | exact hRS5 _ _ | exact hRS69 _ _ | exact hRS73 _ _ | exact hRS99 _ _ | decide | (simp only [InR]; omega)) (by decide) (fun c132 => ?_) (fun c132 => ?_)
          · refine ev_iinc (L' := [(8, vI (i + (-1))), (10, vI (j)), (3, vI (laZ S (at0 l i))), (2, vI (fr)), (9, vI (at0 l i)), (7, vI (sh1)), (6, vI (sy1)), (5, vI (sx1)), (4, vI (pr1)), (0, .ref (o)), (1, vI (k))]) 4 rfl dX10_findPlace_212 (by decide) rfl ?_
            refine ev_goto (tgt := 35) dX10_findPlace_215 (by decide) ?_
            refine ev_pick (L' := [(8, vI (i + (-1))), (7, vI (sh1)), (6, vI (sy1)), (5, vI (sx1)), (4, vI (pr1)), (3, vI (laZ S (at0 l i))), (2, vI (fr)), (0, .ref (o)), (1, vI (k))]) [0, 5, 6, 7, 8, 2, 3, 9, 10] rfl ?_
            exact ihi (i + (-1)) (by omega) (by omega) fr (laZ S (at0 l i)) pr1 sx1 sy1 sh1 S99 h100 (by omega) hM101 (eqx.tr (l := [17, 18, 25, 30]) (by rw [eS75]; exact eqx.up (l := [17, 18, 25, 30]) (by rw [eS71]; exact eqx.up (l := [17, 18, 25, 30]) hx8 (by decide)) (by decide)) hx102 (by decide) (by decide)) (by rw [show i + (-1) + 1 = i by omega, dnI_s (by omega), ← hfr, show plF S l r k i = frZ S (at0 l i) from if_pos hin]; unfold mx; first | rw [if_pos (by omega)] | rw [if_neg (by omega)]) (by rw [show i + (-1) + 1 = i by omega, dnI_s (by omega), ← hto, show plT S l r k i = laZ S (at0 l i) from if_pos hin]; unfold mn; first | rw [if_pos (by omega)] | rw [if_neg (by omega)]) (by rw [show i + (-1) + 1 = i by omega, dnI_s (by omega), ← hpr]; simp only [plP, ad2]; rw [if_pos hin, hp2, show j = n by omega]) (by rw [show i + (-1) + 1 = i by omega, dnI_s (by omega), ← hsx]; simp only [plX, ad2]; rw [if_pos hin, hx2, show j = n by omega]) (by rw [show i + (-1) + 1 = i by omega, dnI_s (by omega), ← hsy]; simp only [plX, ad2]; rw [if_pos hin, hy2, show j = n by omega]) (by rw [show i + (-1) + 1 = i by omega, dnI_s (by omega), ← hsh]; simp only [plX, ad2]; rw [if_pos hin, hh2, show j = n by omega]) (by have q25 : S99 25 k = (S5 25 k) + 1 := (by rw [hx102 25 (by decide), eS75, upS_ne (by decide), eS71]; exact upS_at); omega) (by rw [hx102 25 (by decide), eS75, upS_ne (by decide), eS71, upS_at, show i + (-1) + 1 = i by omega, dnI_s (by omega), ← hme]; simp only [plM, ad2]; rw [if_pos hin]) (by rw [hx102 30 (by decide), eS75, upS_at, show i + (-1) + 1 = i by omega, dnI_s (by omega), show plB l r k i = at0 l i from if_pos hin]; unfold fst2; rw [if_neg (by omega)]; exact Or.inr rfl) (fun z hz => ⟨by rw [hx102 25 (by decide), eS75, upS_ne (by decide), eS71, upS_nz hz]; exact (hot z hz).1, by rw [hx102 30 (by decide), eS75, upS_nz hz, eS71, upS_ne (by decide)]; exact (hot z hz).2⟩)
          · refine ev_aload_n 9 rfl dX10_findPlace_135 ?_
            refine mg_59 hM101 dX10_findPlace_136 ?_
            refine ev_iload 0 rfl dX10_findPlace_139 ?_
            refine m_ldE (k := 22) (v := S 22 j) hM101 (by decide) (by rw [hx102 22 (by decide), eS75, upS_ne (by decide), eS71, upS_ne (by decide), hx8 22 (by decide), eS3, upS_ne (by decide)]) dX10_findPlace_141 (by omega) (by show _ < ((10 : Nat) : Int); omega) ?_
            have rj := (hrs j (by omega) (by omega)).2
            refine ev_ren (b := at0 r j) ((hrs j (by omega) (by omega)).1) ?_
            refine ev_iload_n 10 rfl dX10_findPlace_142 ?_
            refine ev_icmp_ne (tgt := 206) dX10_findPlace_143 (by first | assumption | exact hR _ _ | exact hRS1 _ _ | exact hRS5 _ _ | exact hRS69 _ _ | exact hRS73 _ _ | exact hRS99 _ _ | decide | (simp only [InR]; omega)) (by first | assumption | exact hR _ _ | exact hRS1 _ _ | exact hRS5 _ _ | exact hRS69 _ _ | exact hRS73 _ _ | exact hRS99 _ _ | decide | (simp only [InR]; omega)) (by decide) (fun c143 => ?_) (fun c143 => ?_)
            · refine ev_iinc (L' := [(10, vI (j + 1)), (3, vI (laZ S (at0 l i))), (2, vI (fr)), (9, vI (at0 l i)), (8, vI (i)), (7, vI (sh1)), (6, vI (sy1)), (5, vI (sx1)), (4, vI (pr1)), (0, .ref (o)), (1, vI (k))]) 0 rfl dX10_findPlace_206 (by decide) rfl ?_
              refine ev_goto (tgt := 126) dX10_findPlace_209 (by decide) ?_
              exact ihj (j + 1) (by omega) (by omega) pr1 sx1 sy1 sh1 S99 h100 (by omega) hM101 hx102 (by rw [sumI_s _ (by omega), hp2]; simp only [rwP]; rw [if_neg (by omega)]; omega) (by rw [sumI_s _ (by omega), hx2]; simp only [rwX]; rw [if_neg (by omega)]; omega) (by rw [sumI_s _ (by omega), hy2]; simp only [rwX]; rw [if_neg (by omega)]; omega) (by rw [sumI_s _ (by omega), hh2]; simp only [rwX]; rw [if_neg (by omega)]; omega) (by omega)
            · obtain ⟨l3, l4⟩ := hls j (by omega) (by omega)
              have hc := hcr i j (by omega) (by omega) (by omega) hin (by omega)
              have pb0 := partZ_b (w := 0) hI l2 hc
              have pb1 := partZ_b (w := 1) hI l2 hc
              have pb2 := partZ_b (w := 2) hI l2 hc
              refine ev_iinc (L' := [(4, vI (pr1 + 1)), (10, vI (j)), (3, vI (laZ S (at0 l i))), (2, vI (fr)), (9, vI (at0 l i)), (8, vI (i)), (7, vI (sh1)), (6, vI (sy1)), (5, vI (sx1)), (0, .ref (o)), (1, vI (k))]) 8 rfl dX10_findPlace_146 (by decide) rfl ?_
              refine ev_iload 8 rfl dX10_findPlace_149 ?_
              refine ev_aload_n 9 rfl dX10_findPlace_151 ?_
              refine ev_iload 4 rfl dX10_findPlace_152 ?_
              refine ev_aload_n 9 rfl dX10_findPlace_154 ?_
              refine mg_56 hM101 dX10_findPlace_155 ?_
              refine ev_iload 1 rfl dX10_findPlace_158 ?_
              refine m_ldE (k := 20) (v := S 20 j) hM101 (by decide) (by rw [hx102 20 (by decide), eS75, upS_ne (by decide), eS71, upS_ne (by decide), hx8 20 (by decide), eS3, upS_ne (by decide)]) dX10_findPlace_160 (by omega) (by show _ < ((40 : Nat) : Int); omega) ?_
              refine ev_ren (b := at0 l j) (l3) ?_
              refine ev_iconst dX10_findPlace_161 ?_
              refine c_X10_234 (m_crossPart (a := at0 l i) (b := at0 l j) (w := 0) hM101 hIS99 (by rw [hxS99 7 (by decide)]; omega) (by rw [hxS99 7 (by decide)]; omega) ((CrP_x hxS99).mpr hc) (by decide)) hM101.1 rfl rfl (Nat.le_of_ble_eq_true rfl) (by decide) dX10_findPlace_162 (kI (fun z103 h104 hqz103 => ?_))
              obtain ⟨hz108, S105, hM106, ex107⟩ := hqz103
              rw [partZ_x hxS99] at hz108
              have hRS105 := hM106.2.2.2.2
              have hxS105 : eqx scr S S105 := (hxS99).tr ex107 (by decide) (by decide)
              have hIS105 := Inv.x hI hxS105
              refine ev_ren (b := partZ S (at0 l i) (at0 l j) 0) hz108 ?_
              refine ev_iadd dX10_findPlace_165 ?_
              refine ev_istore (L' := [(5, vI (sx1 + (partZ S (at0 l i) (at0 l j) 0))), (4, vI (pr1 + 1)), (10, vI (j)), (3, vI (laZ S (at0 l i))), (2, vI (fr)), (9, vI (at0 l i)), (8, vI (i)), (7, vI (sh1)), (6, vI (sy1)), (0, .ref (o)), (1, vI (k))]) dX10_findPlace_166 (by decide) rfl ?_
              refine ev_iload 8 rfl dX10_findPlace_168 ?_
              refine ev_aload_n 9 rfl dX10_findPlace_170 ?_
              refine ev_iload 5 rfl dX10_findPlace_171 ?_
              refine ev_aload_n 9 rfl dX10_findPlace_173 ?_
              refine mg_56 hM106 dX10_findPlace_174 ?_
              refine ev_iload 2 rfl dX10_findPlace_177 ?_
              refine m_ldE (k := 20) (v := S 20 j) hM106 (by decide) (by rw [ex107 20 (by decide), hx102 20 (by decide), eS75, upS_ne (by decide), eS71, upS_ne (by decide), hx8 20 (by decide), eS3, upS_ne (by decide)]) dX10_findPlace_179 (by omega) (by show _ < ((40 : Nat) : Int); omega) ?_
              refine ev_ren (b := at0 l j) (l3) ?_
              refine ev_iconst dX10_findPlace_180 ?_
              refine c_X10_234 (m_crossPart (a := at0 l i) (b := at0 l j) (w := 1) hM106 hIS105 (by rw [hxS105 7 (by decide)]; omega) (by rw [hxS105 7 (by decide)]; omega) ((CrP_x hxS105).mpr hc) (by decide)) hM106.1 rfl rfl (Nat.le_of_ble_eq_true rfl) (by decide) dX10_findPlace_181 (kI (fun z109 h110 hqz109 => ?_))
              obtain ⟨hz114, S111, hM112, ex113⟩ := hqz109
              rw [partZ_x hxS105] at hz114
              have hRS111 := hM112.2.2.2.2
              have hxS111 : eqx scr S S111 := (hxS105).tr ex113 (by decide) (by decide)
              have hIS111 := Inv.x hI hxS111
              refine ev_ren (b := partZ S (at0 l i) (at0 l j) 1) hz114 ?_
              refine ev_iadd dX10_findPlace_184 ?_
              refine ev_istore (L' := [(6, vI (sy1 + (partZ S (at0 l i) (at0 l j) 1))), (5, vI (sx1 + (partZ S (at0 l i) (at0 l j) 0))), (4, vI (pr1 + 1)), (10, vI (j)), (3, vI (laZ S (at0 l i))), (2, vI (fr)), (9, vI (at0 l i)), (8, vI (i)), (7, vI (sh1)), (0, .ref (o)), (1, vI (k))]) dX10_findPlace_185 (by decide) rfl ?_
              refine ev_iload 8 rfl dX10_findPlace_187 ?_
              refine ev_aload_n 9 rfl dX10_findPlace_189 ?_
              refine ev_iload 6 rfl dX10_findPlace_190 ?_
              refine ev_aload_n 9 rfl dX10_findPlace_192 ?_
              refine mg_56 hM112 dX10_findPlace_193 ?_
              refine ev_iload 3 rfl dX10_findPlace_196 ?_
              refine m_ldE (k := 20) (v := S 20 j) hM112 (by decide) (by rw [ex113 20 (by decide), ex107 20 (by decide), hx102 20 (by decide), eS75, upS_ne (by decide), eS71, upS_ne (by decide), hx8 20 (by decide), eS3, upS_ne (by decide)]) dX10_findPlace_198 (by omega) (by show _ < ((40 : Nat) : Int); omega) ?_
              refine ev_ren (b := at0 l j) (l3) ?_
              refine ev_iconst dX10_findPlace_199 ?_
              refine c_X10_234 (m_crossPart (a := at0 l i) (b := at0 l j) (w := 2) hM112 hIS111 (by rw [hxS111 7 (by decide)]; omega) (by rw [hxS111 7 (by decide)]; omega) ((CrP_x hxS111).mpr hc) (by decide)) hM112.1 rfl rfl (Nat.le_of_ble_eq_true rfl) (by decide) dX10_findPlace_200 (kI (fun z115 h116 hqz115 => ?_))
              obtain ⟨hz120, S117, hM118, ex119⟩ := hqz115
              rw [partZ_x hxS111] at hz120
              have hRS117 := hM118.2.2.2.2
              have hxS117 : eqx scr S S117 := (hxS111).tr ex119 (by decide) (by decide)
              have hIS117 := Inv.x hI hxS117
              refine ev_ren (b := partZ S (at0 l i) (at0 l j) 2) hz120 ?_
              refine ev_iadd dX10_findPlace_203 ?_
              refine ev_istore (L' := [(7, vI (sh1 + (partZ S (at0 l i) (at0 l j) 2))), (6, vI (sy1 + (partZ S (at0 l i) (at0 l j) 1))), (5, vI (sx1 + (partZ S (at0 l i) (at0 l j) 0))), (4, vI (pr1 + 1)), (10, vI (j)), (3, vI (laZ S (at0 l i))), (2, vI (fr)), (9, vI (at0 l i)), (8, vI (i)), (0, .ref (o)), (1, vI (k))]) dX10_findPlace_204 (by decide) rfl ?_
              refine ev_iinc (L' := [(10, vI (j + 1)), (7, vI (sh1 + (partZ S (at0 l i) (at0 l j) 2))), (6, vI (sy1 + (partZ S (at0 l i) (at0 l j) 1))), (5, vI (sx1 + (partZ S (at0 l i) (at0 l j) 0))), (4, vI (pr1 + 1)), (3, vI (laZ S (at0 l i))), (2, vI (fr)), (9, vI (at0 l i)), (8, vI (i)), (0, .ref (o)), (1, vI (k))]) 4 rfl dX10_findPlace_206 (by decide) rfl ?_
              refine ev_goto (tgt := 126) dX10_findPlace_209 (by decide) ?_
              refine ev_pick (L' := [(10, vI (j + 1)), (3, vI (laZ S (at0 l i))), (2, vI (fr)), (9, vI (at0 l i)), (8, vI (i)), (7, vI (sh1 + (partZ S (at0 l i) (at0 l j) 2))), (6, vI (sy1 + (partZ S (at0 l i) (at0 l j) 1))), (5, vI (sx1 + (partZ S (at0 l i) (at0 l j) 0))), (4, vI (pr1 + 1)), (0, .ref (o)), (1, vI (k))]) [0, 5, 6, 7, 8, 1, 2, 3, 4, 9, 10] rfl ?_
              exact ihj (j + 1) (by omega) (by omega) (pr1 + 1) (sx1 + (partZ S (at0 l i) (at0 l j) 0)) (sy1 + (partZ S (at0 l i) (at0 l j) 1)) (sh1 + (partZ S (at0 l i) (at0 l j) 2)) S117 h116 (by omega) hM118 (eqx.tr (l := [17, 18]) (eqx.tr (l := [17, 18]) (eqx.tr (l := [17, 18]) hx102 ex107 (by decide) (by decide)) ex113 (by decide) (by decide)) ex119 (by decide) (by decide)) (by rw [sumI_s _ (by omega), hp2]; simp only [rwP]; rw [if_pos (by omega)]; omega) (by rw [sumI_s _ (by omega), hx2]; simp only [rwX]; rw [if_pos (by omega)]; omega) (by rw [sumI_s _ (by omega), hy2]; simp only [rwX]; rw [if_pos (by omega)]; omega) (by rw [sumI_s _ (by omega), hh2]; simp only [rwX]; rw [if_pos (by omega)]; omega) (by omega)
      · refine ev_aload_n 8 rfl dX10_findPlace_88 ?_
        refine ev_iload 0 rfl dX10_findPlace_89 ?_
        refine c_X10_197 (m_firstOf (a := at0 l i) hM76 hIS73 (by rw [hxS73 7 (by decide)]; omega)) hM76.1 rfl rfl (Nat.le_of_ble_eq_true rfl) (by decide) dX10_findPlace_91 (kP ?_)
        refine ev_ren (b := frZ S (at0 l i)) (frZ_x hxS73) ?_
        refine ev_goto (tgt := 98) dX10_findPlace_94 (by decide) ?_
        refine ev_istore_n (L' := [(2, vI (frZ S (at0 l i))), (9, vI (at0 l i)), (8, vI (i)), (7, vI (sh)), (6, vI (sy)), (5, vI (sx)), (4, vI (pr)), (3, vI (to)), (0, .ref (o)), (1, vI (k))]) dX10_findPlace_98 (by decide) rfl ?_
        refine ev_aload_n 8 rfl dX10_findPlace_99 ?_
        refine ev_iload 1 rfl dX10_findPlace_100 ?_
        refine c_X10_200 (m_lastOf (a := at0 l i) hM76 hIS73 (by rw [hxS73 7 (by decide)]; omega)) hM76.1 rfl rfl (Nat.le_of_ble_eq_true rfl) (by decide) dX10_findPlace_102 (kP ?_)
        refine ev_ren (b := laZ S (at0 l i)) (laZ_x hxS73) ?_
        refine ev_iload_n 7 rfl dX10_findPlace_105 ?_
        refine ev_icmp_ge (tgt := 118) dX10_findPlace_106 (by first | assumption | exact hR _ _ | exact hRS1 _ _ | exact hRS5 _ _ | exact hRS69 _ _ | exact hRS73 _ _ | decide | (simp only [InR]; omega)) (by first | assumption | exact hR _ _ | exact hRS1 _ _ | exact hRS5 _ _ | exact hRS69 _ _ | exact hRS73 _ _ | decide | (simp only [InR]; omega)) (by decide) (fun c106 => ?_) (fun c106 => ?_)
        · refine ev_iload_n 7 rfl dX10_findPlace_118 ?_
          refine ev_istore_n (L' := [(3, vI (to)), (2, vI (frZ S (at0 l i))), (9, vI (at0 l i)), (8, vI (i)), (7, vI (sh)), (6, vI (sy)), (5, vI (sx)), (4, vI (pr)), (0, .ref (o)), (1, vI (k))]) dX10_findPlace_119 (by decide) rfl ?_
          refine ev_iload 3 rfl dX10_findPlace_120 ?_
          refine ev_iconst dX10_findPlace_122 ?_
          refine ev_iadd dX10_findPlace_123 ?_
          refine ev_istore (L' := [(10, vI (i + 1)), (3, vI (to)), (2, vI (frZ S (at0 l i))), (9, vI (at0 l i)), (8, vI (i)), (7, vI (sh)), (6, vI (sy)), (5, vI (sx)), (4, vI (pr)), (0, .ref (o)), (1, vI (k))]) dX10_findPlace_124 (by decide) rfl ?_
          refine up_ind (P := fun j : Int => ∀ (pr1 : Int) (sx1 : Int) (sy1 : Int) (sh1 : Int) (S121 : MS) (h122 : AH), 0 ≤ j → MR E o ad S121 h122 → eqx [17, 18] S73 S121 → pr1 = pr + sumI (rwP r k i) j → sx1 = sx + sumI (rwX S l r k 0 i) j → sy1 = sy + sumI (rwX S l r k 1 i) j → sh1 = sh + sumI (rwX S l r k 2 i) j → ((pr ≤ pr1 ∧ pr1 ≤ pr + (j - i - 1)) ∧ (sx - 1600000 * (j - i - 1) ≤ sx1 ∧ sx1 ≤ sx + 1600000 * (j - i - 1)) ∧ (sy - 1600000 * (j - i - 1) ≤ sy1 ∧ sy1 ≤ sy + 1600000 * (j - i - 1)) ∧ sh - 1600000 * (j - i - 1) ≤ sh1 ∧ sh1 ≤ sh + 1600000 * (j - i - 1)) → Ev E RX10 cX10_findPlace 11 none "findPlace" (qV (fun h' => ∃ S', MR E o ad S' h' ∧ eqx [17, 18, 25, 26, 27, 28, 29, 30] S S' ∧ S' 25 k = meK r k n ∧ S' 26 k = tiK S l r k n ∧ S' 27 k = avK S l r k 0 n ∧ S' 28 k = avK S l r k 1 n ∧ S' 29 k = avK S l r k 2 n ∧ (fiK l r k n = -1 ∨ S' 30 k = fiK l r k n) ∧ ∀ z : Int, z ≠ k → S' 25 z = S 25 z ∧ S' 26 z = S 26 z ∧ S' 27 z = S 27 z ∧ S' 28 z = S 28 z ∧ S' 29 z = S 29 z ∧ S' 30 z = S 30 z)) 4 0 0 126 [(10, vI (j)), (3, vI (to)), (2, vI (frZ S (at0 l i))), (9, vI (at0 l i)), (8, vI (i)), (7, vI (sh1)), (6, vI (sy1)), (5, vI (sx1)), (4, vI (pr1)), (0, .ref (o)), (1, vI (k))] [] h122) (N := n) ?_ (i + 1) (by omega) pr sx sy sh S73 h74 (by omega) hM76 eqx.rf (by rw [sumI_zero (by omega) (fun j j0 j1 => by simp only [rwP]; rw [if_neg (by omega)])]; omega) (by rw [sumI_zero (by omega) (fun j j0 j1 => by simp only [rwX]; rw [if_neg (by omega)])]; omega) (by rw [sumI_zero (by omega) (fun j j0 j1 => by simp only [rwX]; rw [if_neg (by omega)])]; omega) (by rw [sumI_zero (by omega) (fun j j0 j1 => by simp only [rwX]; rw [if_neg (by omega)])]; omega) (by omega)
          intro j ihj hjN pr1 sx1 sy1 sh1 S121 h122 pj hM123 hx124 hp2 hx2 hy2 hh2 hb2
          have hRS121 := hM123.2.2.2.2
          have hxS121 : eqx scr S S121 := (hxS73).tr hx124 (by decide) (by decide)
          have hIS121 := Inv.x hI hxS121
          refine ev_iload 0 rfl dX10_findPlace_126 ?_
          refine ev_aload_n 9 rfl dX10_findPlace_128 ?_
          refine mgE_238 (v := S 19 0) hM123 (by rw [hx124 19 (by decide), eS75, upS_ne (by decide), eS71, upS_ne (by decide), hx8 19 (by decide), eS3, upS_ne (by decide)]) dX10_findPlace_129 ?_
          refine ev_icmp_ge (tgt := 212) dX10_findPlace_132 (by first | assumption | exact hR _ _ | exact hRS1 _ _ | exact hRS5 _ _ | exact hRS69 _ _ | exact hRS73 _ _ | exact hRS121 _ _ | decide | (simp only [InR]; omega)) (by first | assumption | exact hR _ _ | exact hRS1 _ _ | exact hRS5 _ _ | exact hRS69 _ _ | exact hRS73 _ _ | exact hRS121 _ _ | decide | (simp only [InR]; omega)) (by decide) (fun c132 => ?_) (fun c132 => ?_)
          · refine ev_iinc (L' := [(8, vI (i + (-1))), (10, vI (j)), (3, vI (to)), (2, vI (frZ S (at0 l i))), (9, vI (at0 l i)), (7, vI (sh1)), (6, vI (sy1)), (5, vI (sx1)), (4, vI (pr1)), (0, .ref (o)), (1, vI (k))]) 4 rfl dX10_findPlace_212 (by decide) rfl ?_
            refine ev_goto (tgt := 35) dX10_findPlace_215 (by decide) ?_
            refine ev_pick (L' := [(8, vI (i + (-1))), (7, vI (sh1)), (6, vI (sy1)), (5, vI (sx1)), (4, vI (pr1)), (3, vI (to)), (2, vI (frZ S (at0 l i))), (0, .ref (o)), (1, vI (k))]) [0, 5, 6, 7, 8, 2, 3, 9, 10] rfl ?_
            exact ihi (i + (-1)) (by omega) (by omega) (frZ S (at0 l i)) to pr1 sx1 sy1 sh1 S121 h122 (by omega) hM123 (eqx.tr (l := [17, 18, 25, 30]) (by rw [eS75]; exact eqx.up (l := [17, 18, 25, 30]) (by rw [eS71]; exact eqx.up (l := [17, 18, 25, 30]) hx8 (by decide)) (by decide)) hx124 (by decide) (by decide)) (by rw [show i + (-1) + 1 = i by omega, dnI_s (by omega), ← hfr, show plF S l r k i = frZ S (at0 l i) from if_pos hin]; unfold mx; first | rw [if_pos (by omega)] | rw [if_neg (by omega)]) (by rw [show i + (-1) + 1 = i by omega, dnI_s (by omega), ← hto, show plT S l r k i = laZ S (at0 l i) from if_pos hin]; unfold mn; first | rw [if_pos (by omega)] | rw [if_neg (by omega)]) (by rw [show i + (-1) + 1 = i by omega, dnI_s (by omega), ← hpr]; simp only [plP, ad2]; rw [if_pos hin, hp2, show j = n by omega]) (by rw [show i + (-1) + 1 = i by omega, dnI_s (by omega), ← hsx]; simp only [plX, ad2]; rw [if_pos hin, hx2, show j = n by omega]) (by rw [show i + (-1) + 1 = i by omega, dnI_s (by omega), ← hsy]; simp only [plX, ad2]; rw [if_pos hin, hy2, show j = n by omega]) (by rw [show i + (-1) + 1 = i by omega, dnI_s (by omega), ← hsh]; simp only [plX, ad2]; rw [if_pos hin, hh2, show j = n by omega]) (by have q25 : S121 25 k = (S5 25 k) + 1 := (by rw [hx124 25 (by decide), eS75, upS_ne (by decide), eS71]; exact upS_at); omega) (by rw [hx124 25 (by decide), eS75, upS_ne (by decide), eS71, upS_at, show i + (-1) + 1 = i by omega, dnI_s (by omega), ← hme]; simp only [plM, ad2]; rw [if_pos hin]) (by rw [hx124 30 (by decide), eS75, upS_at, show i + (-1) + 1 = i by omega, dnI_s (by omega), show plB l r k i = at0 l i from if_pos hin]; unfold fst2; rw [if_neg (by omega)]; exact Or.inr rfl) (fun z hz => ⟨by rw [hx124 25 (by decide), eS75, upS_ne (by decide), eS71, upS_nz hz]; exact (hot z hz).1, by rw [hx124 30 (by decide), eS75, upS_nz hz, eS71, upS_ne (by decide)]; exact (hot z hz).2⟩)
          · refine ev_aload_n 9 rfl dX10_findPlace_135 ?_
            refine mg_59 hM123 dX10_findPlace_136 ?_
            refine ev_iload 0 rfl dX10_findPlace_139 ?_
            refine m_ldE (k := 22) (v := S 22 j) hM123 (by decide) (by rw [hx124 22 (by decide), eS75, upS_ne (by decide), eS71, upS_ne (by decide), hx8 22 (by decide), eS3, upS_ne (by decide)]) dX10_findPlace_141 (by omega) (by show _ < ((10 : Nat) : Int); omega) ?_
            have rj := (hrs j (by omega) (by omega)).2
            refine ev_ren (b := at0 r j) ((hrs j (by omega) (by omega)).1) ?_
            refine ev_iload_n 10 rfl dX10_findPlace_142 ?_
            refine ev_icmp_ne (tgt := 206) dX10_findPlace_143 (by first | assumption | exact hR _ _ | exact hRS1 _ _ | exact hRS5 _ _ | exact hRS69 _ _ | exact hRS73 _ _ | exact hRS121 _ _ | decide | (simp only [InR]; omega)) (by first | assumption | exact hR _ _ | exact hRS1 _ _ | exact hRS5 _ _ | exact hRS69 _ _ | exact hRS73 _ _ | exact hRS121 _ _ | decide | (simp only [InR]; omega)) (by decide) (fun c143 => ?_) (fun c143 => ?_)
            · refine ev_iinc (L' := [(10, vI (j + 1)), (3, vI (to)), (2, vI (frZ S (at0 l i))), (9, vI (at0 l i)), (8, vI (i)), (7, vI (sh1)), (6, vI (sy1)), (5, vI (sx1)), (4, vI (pr1)), (0, .ref (o)), (1, vI (k))]) 0 rfl dX10_findPlace_206 (by decide) rfl ?_
              refine ev_goto (tgt := 126) dX10_findPlace_209 (by decide) ?_
              exact ihj (j + 1) (by omega) (by omega) pr1 sx1 sy1 sh1 S121 h122 (by omega) hM123 hx124 (by rw [sumI_s _ (by omega), hp2]; simp only [rwP]; rw [if_neg (by omega)]; omega) (by rw [sumI_s _ (by omega), hx2]; simp only [rwX]; rw [if_neg (by omega)]; omega) (by rw [sumI_s _ (by omega), hy2]; simp only [rwX]; rw [if_neg (by omega)]; omega) (by rw [sumI_s _ (by omega), hh2]; simp only [rwX]; rw [if_neg (by omega)]; omega) (by omega)
            · obtain ⟨l3, l4⟩ := hls j (by omega) (by omega)
              have hc := hcr i j (by omega) (by omega) (by omega) hin (by omega)
              have pb0 := partZ_b (w := 0) hI l2 hc
              have pb1 := partZ_b (w := 1) hI l2 hc
              have pb2 := partZ_b (w := 2) hI l2 hc
              refine ev_iinc (L' := [(4, vI (pr1 + 1)), (10, vI (j)), (3, vI (to)), (2, vI (frZ S (at0 l i))), (9, vI (at0 l i)), (8, vI (i)), (7, vI (sh1)), (6, vI (sy1)), (5, vI (sx1)), (0, .ref (o)), (1, vI (k))]) 8 rfl dX10_findPlace_146 (by decide) rfl ?_
              refine ev_iload 8 rfl dX10_findPlace_149 ?_
              refine ev_aload_n 9 rfl dX10_findPlace_151 ?_
              refine ev_iload 4 rfl dX10_findPlace_152 ?_
              refine ev_aload_n 9 rfl dX10_findPlace_154 ?_
              refine mg_56 hM123 dX10_findPlace_155 ?_
              refine ev_iload 1 rfl dX10_findPlace_158 ?_
              refine m_ldE (k := 20) (v := S 20 j) hM123 (by decide) (by rw [hx124 20 (by decide), eS75, upS_ne (by decide), eS71, upS_ne (by decide), hx8 20 (by decide), eS3, upS_ne (by decide)]) dX10_findPlace_160 (by omega) (by show _ < ((40 : Nat) : Int); omega) ?_
              refine ev_ren (b := at0 l j) (l3) ?_
              refine ev_iconst dX10_findPlace_161 ?_
              refine c_X10_234 (m_crossPart (a := at0 l i) (b := at0 l j) (w := 0) hM123 hIS121 (by rw [hxS121 7 (by decide)]; omega) (by rw [hxS121 7 (by decide)]; omega) ((CrP_x hxS121).mpr hc) (by decide)) hM123.1 rfl rfl (Nat.le_of_ble_eq_true rfl) (by decide) dX10_findPlace_162 (kI (fun z125 h126 hqz125 => ?_))
              obtain ⟨hz130, S127, hM128, ex129⟩ := hqz125
              rw [partZ_x hxS121] at hz130
              have hRS127 := hM128.2.2.2.2
              have hxS127 : eqx scr S S127 := (hxS121).tr ex129 (by decide) (by decide)
              have hIS127 := Inv.x hI hxS127
              refine ev_ren (b := partZ S (at0 l i) (at0 l j) 0) hz130 ?_
              refine ev_iadd dX10_findPlace_165 ?_
              refine ev_istore (L' := [(5, vI (sx1 + (partZ S (at0 l i) (at0 l j) 0))), (4, vI (pr1 + 1)), (10, vI (j)), (3, vI (to)), (2, vI (frZ S (at0 l i))), (9, vI (at0 l i)), (8, vI (i)), (7, vI (sh1)), (6, vI (sy1)), (0, .ref (o)), (1, vI (k))]) dX10_findPlace_166 (by decide) rfl ?_
              refine ev_iload 8 rfl dX10_findPlace_168 ?_
              refine ev_aload_n 9 rfl dX10_findPlace_170 ?_
              refine ev_iload 5 rfl dX10_findPlace_171 ?_
              refine ev_aload_n 9 rfl dX10_findPlace_173 ?_
              refine mg_56 hM128 dX10_findPlace_174 ?_
              refine ev_iload 2 rfl dX10_findPlace_177 ?_
              refine m_ldE (k := 20) (v := S 20 j) hM128 (by decide) (by rw [ex129 20 (by decide), hx124 20 (by decide), eS75, upS_ne (by decide), eS71, upS_ne (by decide), hx8 20 (by decide), eS3, upS_ne (by decide)]) dX10_findPlace_179 (by omega) (by show _ < ((40 : Nat) : Int); omega) ?_
              refine ev_ren (b := at0 l j) (l3) ?_
              refine ev_iconst dX10_findPlace_180 ?_
              refine c_X10_234 (m_crossPart (a := at0 l i) (b := at0 l j) (w := 1) hM128 hIS127 (by rw [hxS127 7 (by decide)]; omega) (by rw [hxS127 7 (by decide)]; omega) ((CrP_x hxS127).mpr hc) (by decide)) hM128.1 rfl rfl (Nat.le_of_ble_eq_true rfl) (by decide) dX10_findPlace_181 (kI (fun z131 h132 hqz131 => ?_))
              obtain ⟨hz136, S133, hM134, ex135⟩ := hqz131
              rw [partZ_x hxS127] at hz136
              have hRS133 := hM134.2.2.2.2
              have hxS133 : eqx scr S S133 := (hxS127).tr ex135 (by decide) (by decide)
              have hIS133 := Inv.x hI hxS133
              refine ev_ren (b := partZ S (at0 l i) (at0 l j) 1) hz136 ?_
              refine ev_iadd dX10_findPlace_184 ?_
              refine ev_istore (L' := [(6, vI (sy1 + (partZ S (at0 l i) (at0 l j) 1))), (5, vI (sx1 + (partZ S (at0 l i) (at0 l j) 0))), (4, vI (pr1 + 1)), (10, vI (j)), (3, vI (to)), (2, vI (frZ S (at0 l i))), (9, vI (at0 l i)), (8, vI (i)), (7, vI (sh1)), (0, .ref (o)), (1, vI (k))]) dX10_findPlace_185 (by decide) rfl ?_
              refine ev_iload 8 rfl dX10_findPlace_187 ?_
              refine ev_aload_n 9 rfl dX10_findPlace_189 ?_
              refine ev_iload 6 rfl dX10_findPlace_190 ?_
              refine ev_aload_n 9 rfl dX10_findPlace_192 ?_
              refine mg_56 hM134 dX10_findPlace_193 ?_
              refine ev_iload 3 rfl dX10_findPlace_196 ?_
              refine m_ldE (k := 20) (v := S 20 j) hM134 (by decide) (by rw [ex135 20 (by decide), ex129 20 (by decide), hx124 20 (by decide), eS75, upS_ne (by decide), eS71, upS_ne (by decide), hx8 20 (by decide), eS3, upS_ne (by decide)]) dX10_findPlace_198 (by omega) (by show _ < ((40 : Nat) : Int); omega) ?_
              refine ev_ren (b := at0 l j) (l3) ?_
              refine ev_iconst dX10_findPlace_199 ?_
              refine c_X10_234 (m_crossPart (a := at0 l i) (b := at0 l j) (w := 2) hM134 hIS133 (by rw [hxS133 7 (by decide)]; omega) (by rw [hxS133 7 (by decide)]; omega) ((CrP_x hxS133).mpr hc) (by decide)) hM134.1 rfl rfl (Nat.le_of_ble_eq_true rfl) (by decide) dX10_findPlace_200 (kI (fun z137 h138 hqz137 => ?_))
              obtain ⟨hz142, S139, hM140, ex141⟩ := hqz137
              rw [partZ_x hxS133] at hz142
              have hRS139 := hM140.2.2.2.2
              have hxS139 : eqx scr S S139 := (hxS133).tr ex141 (by decide) (by decide)
              have hIS139 := Inv.x hI hxS139
              refine ev_ren (b := partZ S (at0 l i) (at0 l j) 2) hz142 ?_
              refine ev_iadd dX10_findPlace_203 ?_
              refine ev_istore (L' := [(7, vI (sh1 + (partZ S (at0 l i) (at0 l j) 2))), (6, vI (sy1 + (partZ S (at0 l i) (at0 l j) 1))), (5, vI (sx1 + (partZ S (at0 l i) (at0 l j) 0))), (4, vI (pr1 + 1)), (10, vI (j)), (3, vI (to)), (2, vI (frZ S (at0 l i))), (9, vI (at0 l i)), (8, vI (i)), (0, .ref (o)), (1, vI (k))]) dX10_findPlace_204 (by decide) rfl ?_
              refine ev_iinc (L' := [(10, vI (j + 1)), (7, vI (sh1 + (partZ S (at0 l i) (at0 l j) 2))), (6, vI (sy1 + (partZ S (at0 l i) (at0 l j) 1))), (5, vI (sx1 + (partZ S (at0 l i) (at0 l j) 0))), (4, vI (pr1 + 1)), (3, vI (to)), (2, vI (frZ S (at0 l i))), (9, vI (at0 l i)), (8, vI (i)), (0, .ref (o)), (1, vI (k))]) 4 rfl dX10_findPlace_206 (by decide) rfl ?_
              refine ev_goto (tgt := 126) dX10_findPlace_209 (by decide) ?_
              refine ev_pick (L' := [(10, vI (j + 1)), (3, vI (to)), (2, vI (frZ S (at0 l i))), (9, vI (at0 l i)), (8, vI (i)), (7, vI (sh1 + (partZ S (at0 l i) (at0 l j) 2))), (6, vI (sy1 + (partZ S (at0 l i) (at0 l j) 1))), (5, vI (sx1 + (partZ S (at0 l i) (at0 l j) 0))), (4, vI (pr1 + 1)), (0, .ref (o)), (1, vI (k))]) [0, 5, 6, 7, 8, 1, 2, 3, 4, 9, 10] rfl ?_
              exact ihj (j + 1) (by omega) (by omega) (pr1 + 1) (sx1 + (partZ S (at0 l i) (at0 l j) 0)) (sy1 + (partZ S (at0 l i) (at0 l j) 1)) (sh1 + (partZ S (at0 l i) (at0 l j) 2)) S139 h138 (by omega) hM140 (eqx.tr (l := [17, 18]) (eqx.tr (l := [17, 18]) (eqx.tr (l := [17, 18]) hx124 ex129 (by decide) (by decide)) ex135 (by decide) (by decide)) ex141 (by decide) (by decide)) (by rw [sumI_s _ (by omega), hp2]; simp only [rwP]; rw [if_pos (by omega)]; omega) (by rw [sumI_s _ (by omega), hx2]; simp only [rwX]; rw [if_pos (by omega)]; omega) (by rw [sumI_s _ (by omega), hy2]; simp only [rwX]; rw [if_pos (by omega)]; omega) (by rw [sumI_s _ (by omega), hh2]; simp only [rwX]; rw [if_pos (by omega)]; omega) (by omega)
        · refine ev_aload_n 8 rfl dX10_findPlace_109 ?_
          refine ev_iload 1 rfl dX10_findPlace_110 ?_
          refine c_X10_200 (m_lastOf (a := at0 l i) hM76 hIS73 (by rw [hxS73 7 (by decide)]; omega)) hM76.1 rfl rfl (Nat.le_of_ble_eq_true rfl) (by decide) dX10_findPlace_112 (kP ?_)
          refine ev_ren (b := laZ S (at0 l i)) (laZ_x hxS73) ?_
          refine ev_goto (tgt := 119) dX10_findPlace_115 (by decide) ?_
          refine ev_istore_n (L' := [(3, vI (laZ S (at0 l i))), (2, vI (frZ S (at0 l i))), (9, vI (at0 l i)), (8, vI (i)), (7, vI (sh)), (6, vI (sy)), (5, vI (sx)), (4, vI (pr)), (0, .ref (o)), (1, vI (k))]) dX10_findPlace_119 (by decide) rfl ?_
          refine ev_iload 3 rfl dX10_findPlace_120 ?_
          refine ev_iconst dX10_findPlace_122 ?_
          refine ev_iadd dX10_findPlace_123 ?_
          refine ev_istore (L' := [(10, vI (i + 1)), (3, vI (laZ S (at0 l i))), (2, vI (frZ S (at0 l i))), (9, vI (at0 l i)), (8, vI (i)), (7, vI (sh)), (6, vI (sy)), (5, vI (sx)), (4, vI (pr)), (0, .ref (o)), (1, vI (k))]) dX10_findPlace_124 (by decide) rfl ?_
          refine up_ind (P := fun j : Int => ∀ (pr1 : Int) (sx1 : Int) (sy1 : Int) (sh1 : Int) (S143 : MS) (h144 : AH), 0 ≤ j → MR E o ad S143 h144 → eqx [17, 18] S73 S143 → pr1 = pr + sumI (rwP r k i) j → sx1 = sx + sumI (rwX S l r k 0 i) j → sy1 = sy + sumI (rwX S l r k 1 i) j → sh1 = sh + sumI (rwX S l r k 2 i) j → ((pr ≤ pr1 ∧ pr1 ≤ pr + (j - i - 1)) ∧ (sx - 1600000 * (j - i - 1) ≤ sx1 ∧ sx1 ≤ sx + 1600000 * (j - i - 1)) ∧ (sy - 1600000 * (j - i - 1) ≤ sy1 ∧ sy1 ≤ sy + 1600000 * (j - i - 1)) ∧ sh - 1600000 * (j - i - 1) ≤ sh1 ∧ sh1 ≤ sh + 1600000 * (j - i - 1)) → Ev E RX10 cX10_findPlace 11 none "findPlace" (qV (fun h' => ∃ S', MR E o ad S' h' ∧ eqx [17, 18, 25, 26, 27, 28, 29, 30] S S' ∧ S' 25 k = meK r k n ∧ S' 26 k = tiK S l r k n ∧ S' 27 k = avK S l r k 0 n ∧ S' 28 k = avK S l r k 1 n ∧ S' 29 k = avK S l r k 2 n ∧ (fiK l r k n = -1 ∨ S' 30 k = fiK l r k n) ∧ ∀ z : Int, z ≠ k → S' 25 z = S 25 z ∧ S' 26 z = S 26 z ∧ S' 27 z = S 27 z ∧ S' 28 z = S 28 z ∧ S' 29 z = S 29 z ∧ S' 30 z = S 30 z)) 4 0 0 126 [(10, vI (j)), (3, vI (laZ S (at0 l i))), (2, vI (frZ S (at0 l i))), (9, vI (at0 l i)), (8, vI (i)), (7, vI (sh1)), (6, vI (sy1)), (5, vI (sx1)), (4, vI (pr1)), (0, .ref (o)), (1, vI (k))] [] h144) (N := n) ?_ (i + 1) (by omega) pr sx sy sh S73 h74 (by omega) hM76 eqx.rf (by rw [sumI_zero (by omega) (fun j j0 j1 => by simp only [rwP]; rw [if_neg (by omega)])]; omega) (by rw [sumI_zero (by omega) (fun j j0 j1 => by simp only [rwX]; rw [if_neg (by omega)])]; omega) (by rw [sumI_zero (by omega) (fun j j0 j1 => by simp only [rwX]; rw [if_neg (by omega)])]; omega) (by rw [sumI_zero (by omega) (fun j j0 j1 => by simp only [rwX]; rw [if_neg (by omega)])]; omega) (by omega)
          intro j ihj hjN pr1 sx1 sy1 sh1 S143 h144 pj hM145 hx146 hp2 hx2 hy2 hh2 hb2
          have hRS143 := hM145.2.2.2.2
          have hxS143 : eqx scr S S143 := (hxS73).tr hx146 (by decide) (by decide)
          have hIS143 := Inv.x hI hxS143
          refine ev_iload 0 rfl dX10_findPlace_126 ?_
          refine ev_aload_n 9 rfl dX10_findPlace_128 ?_
          refine mgE_238 (v := S 19 0) hM145 (by rw [hx146 19 (by decide), eS75, upS_ne (by decide), eS71, upS_ne (by decide), hx8 19 (by decide), eS3, upS_ne (by decide)]) dX10_findPlace_129 ?_
          refine ev_icmp_ge (tgt := 212) dX10_findPlace_132 (by first | assumption | exact hR _ _ | exact hRS1 _ _ | exact hRS5 _ _ | exact hRS69 _ _ | exact hRS73 _ _ | exact hRS143 _ _ | decide | (simp only [InR]; omega)) (by first | assumption | exact hR _ _ | exact hRS1 _ _ | exact hRS5 _ _ | exact hRS69 _ _ | exact hRS73 _ _ | exact hRS143 _ _ | decide | (simp only [InR]; omega)) (by decide) (fun c132 => ?_) (fun c132 => ?_)
          · refine ev_iinc (L' := [(8, vI (i + (-1))), (10, vI (j)), (3, vI (laZ S (at0 l i))), (2, vI (frZ S (at0 l i))), (9, vI (at0 l i)), (7, vI (sh1)), (6, vI (sy1)), (5, vI (sx1)), (4, vI (pr1)), (0, .ref (o)), (1, vI (k))]) 4 rfl dX10_findPlace_212 (by decide) rfl ?_
            refine ev_goto (tgt := 35) dX10_findPlace_215 (by decide) ?_
            refine ev_pick (L' := [(8, vI (i + (-1))), (7, vI (sh1)), (6, vI (sy1)), (5, vI (sx1)), (4, vI (pr1)), (3, vI (laZ S (at0 l i))), (2, vI (frZ S (at0 l i))), (0, .ref (o)), (1, vI (k))]) [0, 5, 6, 7, 8, 2, 3, 9, 10] rfl ?_
            exact ihi (i + (-1)) (by omega) (by omega) (frZ S (at0 l i)) (laZ S (at0 l i)) pr1 sx1 sy1 sh1 S143 h144 (by omega) hM145 (eqx.tr (l := [17, 18, 25, 30]) (by rw [eS75]; exact eqx.up (l := [17, 18, 25, 30]) (by rw [eS71]; exact eqx.up (l := [17, 18, 25, 30]) hx8 (by decide)) (by decide)) hx146 (by decide) (by decide)) (by rw [show i + (-1) + 1 = i by omega, dnI_s (by omega), ← hfr, show plF S l r k i = frZ S (at0 l i) from if_pos hin]; unfold mx; first | rw [if_pos (by omega)] | rw [if_neg (by omega)]) (by rw [show i + (-1) + 1 = i by omega, dnI_s (by omega), ← hto, show plT S l r k i = laZ S (at0 l i) from if_pos hin]; unfold mn; first | rw [if_pos (by omega)] | rw [if_neg (by omega)]) (by rw [show i + (-1) + 1 = i by omega, dnI_s (by omega), ← hpr]; simp only [plP, ad2]; rw [if_pos hin, hp2, show j = n by omega]) (by rw [show i + (-1) + 1 = i by omega, dnI_s (by omega), ← hsx]; simp only [plX, ad2]; rw [if_pos hin, hx2, show j = n by omega]) (by rw [show i + (-1) + 1 = i by omega, dnI_s (by omega), ← hsy]; simp only [plX, ad2]; rw [if_pos hin, hy2, show j = n by omega]) (by rw [show i + (-1) + 1 = i by omega, dnI_s (by omega), ← hsh]; simp only [plX, ad2]; rw [if_pos hin, hh2, show j = n by omega]) (by have q25 : S143 25 k = (S5 25 k) + 1 := (by rw [hx146 25 (by decide), eS75, upS_ne (by decide), eS71]; exact upS_at); omega) (by rw [hx146 25 (by decide), eS75, upS_ne (by decide), eS71, upS_at, show i + (-1) + 1 = i by omega, dnI_s (by omega), ← hme]; simp only [plM, ad2]; rw [if_pos hin]) (by rw [hx146 30 (by decide), eS75, upS_at, show i + (-1) + 1 = i by omega, dnI_s (by omega), show plB l r k i = at0 l i from if_pos hin]; unfold fst2; rw [if_neg (by omega)]; exact Or.inr rfl) (fun z hz => ⟨by rw [hx146 25 (by decide), eS75, upS_ne (by decide), eS71, upS_nz hz]; exact (hot z hz).1, by rw [hx146 30 (by decide), eS75, upS_nz hz, eS71, upS_ne (by decide)]; exact (hot z hz).2⟩)
          · refine ev_aload_n 9 rfl dX10_findPlace_135 ?_
            refine mg_59 hM145 dX10_findPlace_136 ?_
            refine ev_iload 0 rfl dX10_findPlace_139 ?_
            refine m_ldE (k := 22) (v := S 22 j) hM145 (by decide) (by rw [hx146 22 (by decide), eS75, upS_ne (by decide), eS71, upS_ne (by decide), hx8 22 (by decide), eS3, upS_ne (by decide)]) dX10_findPlace_141 (by omega) (by show _ < ((10 : Nat) : Int); omega) ?_
            have rj := (hrs j (by omega) (by omega)).2
            refine ev_ren (b := at0 r j) ((hrs j (by omega) (by omega)).1) ?_
            refine ev_iload_n 10 rfl dX10_findPlace_142 ?_
            refine ev_icmp_ne (tgt := 206) dX10_findPlace_143 (by first | assumption | exact hR _ _ | exact hRS1 _ _ | exact hRS5 _ _ | exact hRS69 _ _ | exact hRS73 _ _ | exact hRS143 _ _ | decide | (simp only [InR]; omega)) (by first | assumption | exact hR _ _ | exact hRS1 _ _ | exact hRS5 _ _ | exact hRS69 _ _ | exact hRS73 _ _ | exact hRS143 _ _ | decide | (simp only [InR]; omega)) (by decide) (fun c143 => ?_) (fun c143 => ?_)
            · refine ev_iinc (L' := [(10, vI (j + 1)), (3, vI (laZ S (at0 l i))), (2, vI (frZ S (at0 l i))), (9, vI (at0 l i)), (8, vI (i)), (7, vI (sh1)), (6, vI (sy1)), (5, vI (sx1)), (4, vI (pr1)), (0, .ref (o)), (1, vI (k))]) 0 rfl dX10_findPlace_206 (by decide) rfl ?_
              refine ev_goto (tgt := 126) dX10_findPlace_209 (by decide) ?_
              exact ihj (j + 1) (by omega) (by omega) pr1 sx1 sy1 sh1 S143 h144 (by omega) hM145 hx146 (by rw [sumI_s _ (by omega), hp2]; simp only [rwP]; rw [if_neg (by omega)]; omega) (by rw [sumI_s _ (by omega), hx2]; simp only [rwX]; rw [if_neg (by omega)]; omega) (by rw [sumI_s _ (by omega), hy2]; simp only [rwX]; rw [if_neg (by omega)]; omega) (by rw [sumI_s _ (by omega), hh2]; simp only [rwX]; rw [if_neg (by omega)]; omega) (by omega)
            · obtain ⟨l3, l4⟩ := hls j (by omega) (by omega)
              have hc := hcr i j (by omega) (by omega) (by omega) hin (by omega)
              have pb0 := partZ_b (w := 0) hI l2 hc
              have pb1 := partZ_b (w := 1) hI l2 hc
              have pb2 := partZ_b (w := 2) hI l2 hc
              refine ev_iinc (L' := [(4, vI (pr1 + 1)), (10, vI (j)), (3, vI (laZ S (at0 l i))), (2, vI (frZ S (at0 l i))), (9, vI (at0 l i)), (8, vI (i)), (7, vI (sh1)), (6, vI (sy1)), (5, vI (sx1)), (0, .ref (o)), (1, vI (k))]) 8 rfl dX10_findPlace_146 (by decide) rfl ?_
              refine ev_iload 8 rfl dX10_findPlace_149 ?_
              refine ev_aload_n 9 rfl dX10_findPlace_151 ?_
              refine ev_iload 4 rfl dX10_findPlace_152 ?_
              refine ev_aload_n 9 rfl dX10_findPlace_154 ?_
              refine mg_56 hM145 dX10_findPlace_155 ?_
              refine ev_iload 1 rfl dX10_findPlace_158 ?_
              refine m_ldE (k := 20) (v := S 20 j) hM145 (by decide) (by rw [hx146 20 (by decide), eS75, upS_ne (by decide), eS71, upS_ne (by decide), hx8 20 (by decide), eS3, upS_ne (by decide)]) dX10_findPlace_160 (by omega) (by show _ < ((40 : Nat) : Int); omega) ?_
              refine ev_ren (b := at0 l j) (l3) ?_
              refine ev_iconst dX10_findPlace_161 ?_
              refine c_X10_234 (m_crossPart (a := at0 l i) (b := at0 l j) (w := 0) hM145 hIS143 (by rw [hxS143 7 (by decide)]; omega) (by rw [hxS143 7 (by decide)]; omega) ((CrP_x hxS143).mpr hc) (by decide)) hM145.1 rfl rfl (Nat.le_of_ble_eq_true rfl) (by decide) dX10_findPlace_162 (kI (fun z147 h148 hqz147 => ?_))
              obtain ⟨hz152, S149, hM150, ex151⟩ := hqz147
              rw [partZ_x hxS143] at hz152
              have hRS149 := hM150.2.2.2.2
              have hxS149 : eqx scr S S149 := (hxS143).tr ex151 (by decide) (by decide)
              have hIS149 := Inv.x hI hxS149
              refine ev_ren (b := partZ S (at0 l i) (at0 l j) 0) hz152 ?_
              refine ev_iadd dX10_findPlace_165 ?_
              refine ev_istore (L' := [(5, vI (sx1 + (partZ S (at0 l i) (at0 l j) 0))), (4, vI (pr1 + 1)), (10, vI (j)), (3, vI (laZ S (at0 l i))), (2, vI (frZ S (at0 l i))), (9, vI (at0 l i)), (8, vI (i)), (7, vI (sh1)), (6, vI (sy1)), (0, .ref (o)), (1, vI (k))]) dX10_findPlace_166 (by decide) rfl ?_
              refine ev_iload 8 rfl dX10_findPlace_168 ?_
              refine ev_aload_n 9 rfl dX10_findPlace_170 ?_
              refine ev_iload 5 rfl dX10_findPlace_171 ?_
              refine ev_aload_n 9 rfl dX10_findPlace_173 ?_
              refine mg_56 hM150 dX10_findPlace_174 ?_
              refine ev_iload 2 rfl dX10_findPlace_177 ?_
              refine m_ldE (k := 20) (v := S 20 j) hM150 (by decide) (by rw [ex151 20 (by decide), hx146 20 (by decide), eS75, upS_ne (by decide), eS71, upS_ne (by decide), hx8 20 (by decide), eS3, upS_ne (by decide)]) dX10_findPlace_179 (by omega) (by show _ < ((40 : Nat) : Int); omega) ?_
              refine ev_ren (b := at0 l j) (l3) ?_
              refine ev_iconst dX10_findPlace_180 ?_
              refine c_X10_234 (m_crossPart (a := at0 l i) (b := at0 l j) (w := 1) hM150 hIS149 (by rw [hxS149 7 (by decide)]; omega) (by rw [hxS149 7 (by decide)]; omega) ((CrP_x hxS149).mpr hc) (by decide)) hM150.1 rfl rfl (Nat.le_of_ble_eq_true rfl) (by decide) dX10_findPlace_181 (kI (fun z153 h154 hqz153 => ?_))
              obtain ⟨hz158, S155, hM156, ex157⟩ := hqz153
              rw [partZ_x hxS149] at hz158
              have hRS155 := hM156.2.2.2.2
              have hxS155 : eqx scr S S155 := (hxS149).tr ex157 (by decide) (by decide)
              have hIS155 := Inv.x hI hxS155
              refine ev_ren (b := partZ S (at0 l i) (at0 l j) 1) hz158 ?_
              refine ev_iadd dX10_findPlace_184 ?_
              refine ev_istore (L' := [(6, vI (sy1 + (partZ S (at0 l i) (at0 l j) 1))), (5, vI (sx1 + (partZ S (at0 l i) (at0 l j) 0))), (4, vI (pr1 + 1)), (10, vI (j)), (3, vI (laZ S (at0 l i))), (2, vI (frZ S (at0 l i))), (9, vI (at0 l i)), (8, vI (i)), (7, vI (sh1)), (0, .ref (o)), (1, vI (k))]) dX10_findPlace_185 (by decide) rfl ?_
              refine ev_iload 8 rfl dX10_findPlace_187 ?_
              refine ev_aload_n 9 rfl dX10_findPlace_189 ?_
              refine ev_iload 6 rfl dX10_findPlace_190 ?_
              refine ev_aload_n 9 rfl dX10_findPlace_192 ?_
              refine mg_56 hM156 dX10_findPlace_193 ?_
              refine ev_iload 3 rfl dX10_findPlace_196 ?_
              refine m_ldE (k := 20) (v := S 20 j) hM156 (by decide) (by rw [ex157 20 (by decide), ex151 20 (by decide), hx146 20 (by decide), eS75, upS_ne (by decide), eS71, upS_ne (by decide), hx8 20 (by decide), eS3, upS_ne (by decide)]) dX10_findPlace_198 (by omega) (by show _ < ((40 : Nat) : Int); omega) ?_
              refine ev_ren (b := at0 l j) (l3) ?_
              refine ev_iconst dX10_findPlace_199 ?_
              refine c_X10_234 (m_crossPart (a := at0 l i) (b := at0 l j) (w := 2) hM156 hIS155 (by rw [hxS155 7 (by decide)]; omega) (by rw [hxS155 7 (by decide)]; omega) ((CrP_x hxS155).mpr hc) (by decide)) hM156.1 rfl rfl (Nat.le_of_ble_eq_true rfl) (by decide) dX10_findPlace_200 (kI (fun z159 h160 hqz159 => ?_))
              obtain ⟨hz164, S161, hM162, ex163⟩ := hqz159
              rw [partZ_x hxS155] at hz164
              have hRS161 := hM162.2.2.2.2
              have hxS161 : eqx scr S S161 := (hxS155).tr ex163 (by decide) (by decide)
              have hIS161 := Inv.x hI hxS161
              refine ev_ren (b := partZ S (at0 l i) (at0 l j) 2) hz164 ?_
              refine ev_iadd dX10_findPlace_203 ?_
              refine ev_istore (L' := [(7, vI (sh1 + (partZ S (at0 l i) (at0 l j) 2))), (6, vI (sy1 + (partZ S (at0 l i) (at0 l j) 1))), (5, vI (sx1 + (partZ S (at0 l i) (at0 l j) 0))), (4, vI (pr1 + 1)), (10, vI (j)), (3, vI (laZ S (at0 l i))), (2, vI (frZ S (at0 l i))), (9, vI (at0 l i)), (8, vI (i)), (0, .ref (o)), (1, vI (k))]) dX10_findPlace_204 (by decide) rfl ?_
              refine ev_iinc (L' := [(10, vI (j + 1)), (7, vI (sh1 + (partZ S (at0 l i) (at0 l j) 2))), (6, vI (sy1 + (partZ S (at0 l i) (at0 l j) 1))), (5, vI (sx1 + (partZ S (at0 l i) (at0 l j) 0))), (4, vI (pr1 + 1)), (3, vI (laZ S (at0 l i))), (2, vI (frZ S (at0 l i))), (9, vI (at0 l i)), (8, vI (i)), (0, .ref (o)), (1, vI (k))]) 4 rfl dX10_findPlace_206 (by decide) rfl ?_
              refine ev_goto (tgt := 126) dX10_findPlace_209 (by decide) ?_
              refine ev_pick (L' := [(10, vI (j + 1)), (3, vI (laZ S (at0 l i))), (2, vI (frZ S (at0 l i))), (9, vI (at0 l i)), (8, vI (i)), (7, vI (sh1 + (partZ S (at0 l i) (at0 l j) 2))), (6, vI (sy1 + (partZ S (at0 l i) (at0 l j) 1))), (5, vI (sx1 + (partZ S (at0 l i) (at0 l j) 0))), (4, vI (pr1 + 1)), (0, .ref (o)), (1, vI (k))]) [0, 5, 6, 7, 8, 1, 2, 3, 4, 9, 10] rfl ?_
              exact ihj (j + 1) (by omega) (by omega) (pr1 + 1) (sx1 + (partZ S (at0 l i) (at0 l j) 0)) (sy1 + (partZ S (at0 l i) (at0 l j) 1)) (sh1 + (partZ S (at0 l i) (at0 l j) 2)) S161 h160 (by omega) hM162 (eqx.tr (l := [17, 18]) (eqx.tr (l := [17, 18]) (eqx.tr (l := [17, 18]) hx146 ex151 (by decide) (by decide)) ex157 (by decide) (by decide)) ex163 (by decide) (by decide)) (by rw [sumI_s _ (by omega), hp2]; simp only [rwP]; rw [if_pos (by omega)]; omega) (by rw [sumI_s _ (by omega), hx2]; simp only [rwX]; rw [if_pos (by omega)]; omega) (by rw [sumI_s _ (by omega), hy2]; simp only [rwX]; rw [if_pos (by omega)]; omega) (by rw [sumI_s _ (by omega), hh2]; simp only [rwX]; rw [if_pos (by omega)]; omega) (by omega)
