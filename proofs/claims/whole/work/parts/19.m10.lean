set_option maxHeartbeats 4000000 in
set_option maxRecDepth 100000 in
theorem m_arcs {E : EV} {h : AH} {o : Nat} {ad : Nat → Nat} {S : MS} {s l f n : Int} (hM : MR E o ad S h) (hI : Inv S) (g1 : InR s) (g2 : InR l) (g3 : InR f) (g4 : InR n) : CM E yX10_arcs cX10_arcs 8 (some .int) 3 0 0 [.ref (o), vI (s), vI (l), vI (f), vI (n)] h (qI (fun z h' => z = sp_arcs S s l f n ∧ MR E o ad (nx_arcs S s l f n) h')) := by
  have hR := hM.2.2.2.2
  have hJ := hI
  obtain ⟨i1, i2, i3, i4, i5, i6, iSt, iSi, iWa, iSh, iLa, iS0, iS1, iZe⟩ := hJ
  refine CM.of (by decide) (Nat.le_of_ble_eq_true rfl) (L := [(0, .ref (o)), (1, vI (s)), (2, vI (l)), (3, vI (f)), (4, vI (n))]) rfl ?_
  refine ev_iload_n 1 rfl dX10_arcs_0 ?_
  refine ev_iload_n 2 rfl dX10_arcs_1 ?_
  refine c_X10_304 (m_isSheet E (by first | assumption | exact hR _ _ | decide | (simp only [InR]; omega)) (by first | assumption | exact hR _ _ | decide | (simp only [InR]; omega))) rfl rfl (Nat.le_of_ble_eq_true rfl) (by decide) dX10_arcs_2 (kB (fun b2 => ?_) (fun b2 => ?_))
  · refine ev_if_eq (tgt := 21) dX10_arcs_5 (by decide) (by decide) (fun c => absurd c (by decide)) (fun _ => ?_)
    refine ev_iload 4 rfl dX10_arcs_8 ?_
    refine ev_i2l dX10_arcs_10 (by first | assumption | exact hR _ _ | decide | (simp only [InR]; omega)) ?_
    refine ev_lconst (z := 0) dX10_arcs_11 (by decide) ?_
    refine ev_ldc2 (z := 6) dX10_arcs_12 k_X10_230 (by decide) ?_
    refine c_X10_143 (m_in E (v := n) (a := 0) (b := 6) (by first | assumption | exact hR _ _ | exact (hR _ _).l | decide | (simp only [InL]; omega)) (by decide) (by decide)) rfl rfl (Nat.le_of_ble_eq_true rfl) (by decide) dX10_arcs_15 (kB (fun b15 => ?_) (fun b15 => ?_))
    · refine ev_if_ne (tgt := 23) dX10_arcs_18 (by decide) (by decide) (fun _ => ?_) (fun c => absurd c (by decide))
      have sl := iLa s (by omega) (by omega)
      refine ev_aload_n 0 rfl dX10_arcs_23 ?_
      refine mg_116 hM dX10_arcs_24 ?_
      refine ev_iload_n 1 rfl dX10_arcs_27 ?_
      refine m_ld (k := 43) hM (by decide) dX10_arcs_28 (by omega) (by show _ < ((4 : Nat) : Int); omega) ?_
      refine ev_iload_n 2 rfl dX10_arcs_29 ?_
      refine ev_icmp_eq (tgt := 50) dX10_arcs_30 (by first | assumption | exact hR _ _ | decide | (simp only [InR]; omega)) (by first | assumption | exact hR _ _ | decide | (simp only [InR]; omega)) (by decide) (fun c30 => ?_) (fun c30 => ?_)
      · refine ev_iload_n 3 rfl dX10_arcs_50 ?_
        refine ev_i2l dX10_arcs_51 (by first | assumption | exact hR _ _ | decide | (simp only [InR]; omega)) ?_
        refine ev_lconst (z := 0) dX10_arcs_52 (by decide) ?_
        refine ev_aload_n 0 rfl dX10_arcs_53 ?_
        refine mg_119 hM dX10_arcs_54 ?_
        refine ev_iload_n 1 rfl dX10_arcs_57 ?_
        refine m_ld (k := 44) hM (by decide) dX10_arcs_58 (by omega) (by show _ < ((4 : Nat) : Int); omega) ?_
        refine ev_bipush dX10_arcs_59 (by decide) ?_
        refine ev_iload 4 rfl dX10_arcs_61 ?_
        refine ev_imul dX10_arcs_63 ?_
        refine ev_isub dX10_arcs_64 ?_
        refine ev_i2l dX10_arcs_65 (by first | assumption | exact hR _ _ | decide | (simp only [InR]; omega)) ?_
        refine c_X10_143 (m_in E (v := f) (a := 0) (b := (S 44 s) - (6 * n)) (by first | assumption | exact hR _ _ | exact (hR _ _).l | decide | (simp only [InL]; omega)) (by decide) (by first | assumption | exact hR _ _ | exact (hR _ _).l | decide | (simp only [InL]; omega))) rfl rfl (Nat.le_of_ble_eq_true rfl) (by decide) dX10_arcs_66 (kB (fun b66 => ?_) (fun b66 => ?_))
        · refine ev_if_ne (tgt := 75) dX10_arcs_69 (by decide) (by decide) (fun _ => ?_) (fun c => absurd c (by decide))
          refine ev_bipush dX10_arcs_75 (by decide) ?_
          refine ev_iload_n 1 rfl dX10_arcs_77 ?_
          refine ev_imul dX10_arcs_78 ?_
          refine ev_iload_n 3 rfl dX10_arcs_79 ?_
          refine ev_iadd dX10_arcs_80 ?_
          refine ev_istore (L' := [(5, vI ((36 * s) + f)), (0, .ref (o)), (1, vI (s)), (2, vI (l)), (3, vI (f)), (4, vI (n))]) dX10_arcs_81 (by decide) rfl ?_
          refine ev_iload 0 rfl dX10_arcs_83 ?_
          refine ev_istore (L' := [(6, vI ((36 * s) + f)), (5, vI ((36 * s) + f)), (0, .ref (o)), (1, vI (s)), (2, vI (l)), (3, vI (f)), (4, vI (n))]) dX10_arcs_85 (by decide) rfl ?_
          refine up_ind (P := fun m : Int => ∀ (kk : Int), 0 ≤ m → kk = 36 * s + f + 6 * m → scanI (AB S (36 * s + f)) 0 n = scanI (AB S (36 * s + f)) m n → Ev E RX10 cX10_arcs 8 (some .int) "arcs" (qI (fun z h' => z = sp_arcs S s l f n ∧ MR E o ad (nx_arcs S s l f n) h')) 3 0 0 87 [(6, vI (kk)), (5, vI ((36 * s) + f)), (0, .ref (o)), (1, vI (s)), (2, vI (l)), (3, vI (f)), (4, vI (n))] [] h) (N := n) ?_ 0 (by omega) ((36 * s) + f) (by omega) (by omega) (rfl)
          intro m ihm hmN kk pm hk hs
          refine ev_iload 0 rfl dX10_arcs_87 ?_
          refine ev_iload 1 rfl dX10_arcs_89 ?_
          refine ev_bipush dX10_arcs_91 (by decide) ?_
          refine ev_iload 6 rfl dX10_arcs_93 ?_
          refine ev_imul dX10_arcs_95 ?_
          refine ev_iadd dX10_arcs_96 ?_
          refine ev_icmp_ge (tgt := 179) dX10_arcs_97 (by first | assumption | exact hR _ _ | decide | (simp only [InR]; omega)) (by first | assumption | exact hR _ _ | decide | (simp only [InR]; omega)) (by decide) (fun c97 => ?_) (fun c97 => ?_)
          · refine ev_aload_n 2 rfl dX10_arcs_179 ?_
            refine mg_177 hM dX10_arcs_180 ?_
            refine ev_iload 6 rfl dX10_arcs_183 ?_
            refine ev_iadd dX10_arcs_185 ?_
            refine ev_bipush dX10_arcs_186 (by decide) ?_
            refine ev_icmp_le (tgt := 194) dX10_arcs_188 (by first | assumption | exact hR _ _ | decide | (simp only [InR]; omega)) (by decide) (by decide) (fun c188 => ?_) (fun c188 => ?_)
            · refine ev_iload 1 rfl dX10_arcs_194 ?_
              refine ev_istore (L' := [(6, vI ((36 * s) + f)), (5, vI ((36 * s) + f)), (0, .ref (o)), (1, vI (s)), (2, vI (l)), (3, vI (f)), (4, vI (n))]) dX10_arcs_196 (by decide) rfl ?_
              have hall := AB_all (S := S) (t := 36 * s + f) (n := n) (by rw [hs, scanI_end _ (by omega)])
              refine up_ind (P := fun m : Int => ∀ (kk : Int) (S1 : MS) (h1 : AH), 0 ≤ m → kk = 36 * s + f + 6 * m → MR E o ad S1 h1 → S1 = arN S (36 * s + f) m.toNat → Ev E RX10 cX10_arcs 8 (some .int) "arcs" (qI (fun z h' => z = sp_arcs S s l f n ∧ MR E o ad (nx_arcs S s l f n) h')) 3 0 0 198 [(6, vI (kk)), (5, vI ((36 * s) + f)), (0, .ref (o)), (1, vI (s)), (2, vI (l)), (3, vI (f)), (4, vI (n))] [] h1) (N := n) ?_ 0 (by omega) (36 * s + f) S h (by omega) (by omega) hM rfl
              intro m ihm hmN kk S1 h1 pm hk hM1 he
              have hR1 := hM1.2.2.2.2
              have hf := arN_f (S := S) (t := 36 * s + f) m.toNat
              rw [← he] at hf
              have e45 := hf.2 45 (by omega)
              refine ev_iload 0 rfl dX10_arcs_198 ?_
              refine ev_iload 1 rfl dX10_arcs_200 ?_
              refine ev_bipush dX10_arcs_202 (by decide) ?_
              refine ev_iload 6 rfl dX10_arcs_204 ?_
              refine ev_imul dX10_arcs_206 ?_
              refine ev_iadd dX10_arcs_207 ?_
              refine ev_icmp_ge (tgt := 277) dX10_arcs_208 (by first | assumption | exact hR _ _ | exact hR1 _ _ | decide | (simp only [InR]; omega)) (by first | assumption | exact hR _ _ | exact hR1 _ _ | decide | (simp only [InR]; omega)) (by decide) (fun c208 => ?_) (fun c208 => ?_)
              · refine ev_aload_n 2 rfl dX10_arcs_277 ?_
                refine mg_177 hM1 dX10_arcs_278 ?_
                refine ev_ireturn dX10_arcs_281 ?_
                have e0 : m.toNat = n.toNat := by omega
                refine ⟨_, rfl, ?_, ?_⟩
                · simp only [sp_arcs]; rw [if_neg (by omega), if_neg (by omega), if_neg (by omega), if_neg (by rw [hs, scanI_end _ (by omega)]; omega), if_neg (by omega)]; omega
                · simp only [nx_arcs]; rw [if_pos (by refine ⟨by omega, by omega, by omega, ?_, by omega⟩; rw [hs, scanI_end _ (by omega)]; omega), ← e0, ← he]; exact hM1
              · refine ev_aload_n 2 rfl dX10_arcs_211 ?_
                refine ev_iconst dX10_arcs_212 ?_
                refine ev_aload_n 2 rfl dX10_arcs_213 ?_
                refine mg_122 hM1 dX10_arcs_214 ?_
                refine ev_iload 0 rfl dX10_arcs_217 ?_
                refine m_ldE (k := 45) (v := S 45 kk) hM1 (by decide) (by rw [hf.2 45 (by omega)]) dX10_arcs_219 (by omega) (by show _ < ((144 : Nat) : Int); omega) ?_
                refine ev_aload_n 2 rfl dX10_arcs_220 ?_
                refine mg_122 hM1 dX10_arcs_221 ?_
                refine ev_iload 0 rfl dX10_arcs_224 ?_
                refine ev_iconst dX10_arcs_226 ?_
                refine ev_iadd dX10_arcs_227 ?_
                refine m_ldE (k := 45) (v := S 45 (kk + 1)) hM1 (by decide) (by rw [hf.2 45 (by omega)]) dX10_arcs_228 (by omega) (by show _ < ((144 : Nat) : Int); omega) ?_
                refine ev_aload_n 2 rfl dX10_arcs_229 ?_
                refine mg_122 hM1 dX10_arcs_230 ?_
                refine ev_iload 0 rfl dX10_arcs_233 ?_
                refine ev_iconst dX10_arcs_235 ?_
                refine ev_iadd dX10_arcs_236 ?_
                refine m_ldE (k := 45) (v := S 45 (kk + 2)) hM1 (by decide) (by rw [hf.2 45 (by omega)]) dX10_arcs_237 (by omega) (by show _ < ((144 : Nat) : Int); omega) ?_
                refine ev_aload_n 2 rfl dX10_arcs_238 ?_
                refine mg_122 hM1 dX10_arcs_239 ?_
                refine ev_iload 0 rfl dX10_arcs_242 ?_
                refine ev_iconst dX10_arcs_244 ?_
                refine ev_iadd dX10_arcs_245 ?_
                refine m_ldE (k := 45) (v := S 45 (kk + 3)) hM1 (by decide) (by rw [hf.2 45 (by omega)]) dX10_arcs_246 (by omega) (by show _ < ((144 : Nat) : Int); omega) ?_
                refine ev_aload_n 2 rfl dX10_arcs_247 ?_
                refine mg_122 hM1 dX10_arcs_248 ?_
                refine ev_iload 0 rfl dX10_arcs_251 ?_
                refine ev_iconst dX10_arcs_253 ?_
                refine ev_iadd dX10_arcs_254 ?_
                refine m_ldE (k := 45) (v := S 45 (kk + 4)) hM1 (by decide) (by rw [hf.2 45 (by omega)]) dX10_arcs_255 (by omega) (by show _ < ((144 : Nat) : Int); omega) ?_
                refine ev_aload_n 2 rfl dX10_arcs_256 ?_
                refine mg_122 hM1 dX10_arcs_257 ?_
                refine ev_iload 0 rfl dX10_arcs_260 ?_
                refine ev_iconst dX10_arcs_262 ?_
                refine ev_iadd dX10_arcs_263 ?_
                refine m_ldE (k := 45) (v := S 45 (kk + 5)) hM1 (by decide) (by rw [hf.2 45 (by omega)]) dX10_arcs_264 (by omega) (by show _ < ((144 : Nat) : Int); omega) ?_
                refine ev_iconst dX10_arcs_265 ?_
                have hIn := Inv_arN (t := 36 * s + f) hI m.toNat (fun j g1 g2 => hall j g1 (by omega)) (by omega)
                rw [← he] at hIn
                refine c_X10_184 (m_add hM1 hIn (by decide) (hR _ _) (hR _ _) (hR _ _) (hR _ _) (hR _ _) (hR _ _) (by decide)) hM1.1 rfl rfl (Nat.le_of_ble_eq_true rfl) (by decide) dX10_arcs_266 (kI (fun z1 h2 hqz1 => ?_))
                obtain ⟨hz3, hM4⟩ := hqz1
                refine ev_istore (L' := [(7, vI (z1)), (6, vI (kk)), (5, vI ((36 * s) + f)), (0, .ref (o)), (1, vI (s)), (2, vI (l)), (3, vI (f)), (4, vI (n))]) dX10_arcs_269 (by decide) rfl ?_
                refine ev_iinc (L' := [(6, vI (kk + 6)), (7, vI (z1)), (5, vI ((36 * s) + f)), (0, .ref (o)), (1, vI (s)), (2, vI (l)), (3, vI (f)), (4, vI (n))]) 1 rfl dX10_arcs_271 (by decide) rfl ?_
                refine ev_goto (tgt := 198) dX10_arcs_274 (by decide) ?_
                refine ev_pick (L' := [(6, vI (kk + 6)), (5, vI ((36 * s) + f)), (0, .ref (o)), (1, vI (s)), (2, vI (l)), (3, vI (f)), (4, vI (n))]) [0, 2, 3, 4, 5, 6, 7] rfl ?_
                refine ihm (m + 1) (by omega) (by omega) (kk + 6) _ _ (by omega) (by omega) hM4 ?_
                rw [show (m + 1).toNat = m.toNat + 1 by omega, arN, ← he, show ((m.toNat : Nat) : Int) = m by omega, nx_add, if_pos (by omega), hk]
            · refine ev_bipush dX10_arcs_191 (by decide) ?_
              refine ev_ireturn dX10_arcs_193 ?_
              have e0 : scanI (AB S (36 * s + f)) 0 n = -1 := by rw [hs, scanI_end _ (by omega)]
              refine ⟨_, rfl, ?_, ?_⟩
              · simp only [sp_arcs]; rw [if_neg (by omega), if_neg (by omega), if_neg (by omega), if_neg (by omega), if_pos (by omega)]
              · simp only [nx_arcs]; rw [if_neg (by omega)]; exact hM
          · refine ev_aload_n 2 rfl dX10_arcs_100 ?_
            refine ev_aload_n 2 rfl dX10_arcs_101 ?_
            refine mg_122 hM dX10_arcs_102 ?_
            refine ev_iload 0 rfl dX10_arcs_105 ?_
            refine m_ld (k := 45) hM (by decide) dX10_arcs_107 (by omega) (by show _ < ((144 : Nat) : Int); omega) ?_
            refine ev_aload_n 2 rfl dX10_arcs_108 ?_
            refine mg_122 hM dX10_arcs_109 ?_
            refine ev_iload 0 rfl dX10_arcs_112 ?_
            refine ev_iconst dX10_arcs_114 ?_
            refine ev_iadd dX10_arcs_115 ?_
            refine m_ld (k := 45) hM (by decide) dX10_arcs_116 (by omega) (by show _ < ((144 : Nat) : Int); omega) ?_
            refine ev_aload_n 2 rfl dX10_arcs_117 ?_
            refine mg_122 hM dX10_arcs_118 ?_
            refine ev_iload 0 rfl dX10_arcs_121 ?_
            refine ev_iconst dX10_arcs_123 ?_
            refine ev_iadd dX10_arcs_124 ?_
            refine m_ld (k := 45) hM (by decide) dX10_arcs_125 (by omega) (by show _ < ((144 : Nat) : Int); omega) ?_
            refine ev_aload_n 2 rfl dX10_arcs_126 ?_
            refine mg_122 hM dX10_arcs_127 ?_
            refine ev_iload 0 rfl dX10_arcs_130 ?_
            refine ev_iconst dX10_arcs_132 ?_
            refine ev_iadd dX10_arcs_133 ?_
            refine m_ld (k := 45) hM (by decide) dX10_arcs_134 (by omega) (by show _ < ((144 : Nat) : Int); omega) ?_
            refine ev_aload_n 2 rfl dX10_arcs_135 ?_
            refine mg_122 hM dX10_arcs_136 ?_
            refine ev_iload 0 rfl dX10_arcs_139 ?_
            refine ev_iconst dX10_arcs_141 ?_
            refine ev_iadd dX10_arcs_142 ?_
            refine m_ld (k := 45) hM (by decide) dX10_arcs_143 (by omega) (by show _ < ((144 : Nat) : Int); omega) ?_
            refine c_X10_180 (m_isTold hM hI (by first | assumption | exact hR _ _ | decide | (simp only [InR]; omega)) (by first | assumption | exact hR _ _ | decide | (simp only [InR]; omega)) (by first | assumption | exact hR _ _ | decide | (simp only [InR]; omega)) (by first | assumption | exact hR _ _ | decide | (simp only [InR]; omega)) (by first | assumption | exact hR _ _ | decide | (simp only [InR]; omega))) hM.1 rfl rfl (Nat.le_of_ble_eq_true rfl) (by decide) dX10_arcs_144 (kB (fun b144 => ?_) (fun b144 => ?_))
            · refine ev_if_eq (tgt := 170) dX10_arcs_147 (by decide) (by decide) (fun c => absurd c (by decide)) (fun _ => ?_)
              refine ev_aload_n 2 rfl dX10_arcs_150 ?_
              refine mg_122 hM dX10_arcs_151 ?_
              refine ev_iload 0 rfl dX10_arcs_154 ?_
              refine ev_iconst dX10_arcs_156 ?_
              refine ev_iadd dX10_arcs_157 ?_
              refine m_ld (k := 45) hM (by decide) dX10_arcs_158 (by omega) (by show _ < ((144 : Nat) : Int); omega) ?_
              refine ev_i2l dX10_arcs_159 (by first | assumption | exact hR _ _ | decide | (simp only [InR]; omega)) ?_
              refine ev_lconst (z := 0) dX10_arcs_160 (by decide) ?_
              refine ev_ldc2 (z := 4) dX10_arcs_161 k_X10_188 (by decide) ?_
              refine c_X10_143 (m_in E (v := S 45 (kk + 5)) (a := 0) (b := 4) (by first | assumption | exact hR _ _ | exact (hR _ _).l | decide | (simp only [InL]; omega)) (by decide) (by decide)) rfl rfl (Nat.le_of_ble_eq_true rfl) (by decide) dX10_arcs_164 (kB (fun b164 => ?_) (fun b164 => ?_))
              · refine ev_if_ne (tgt := 173) dX10_arcs_167 (by decide) (by decide) (fun _ => ?_) (fun c => absurd c (by decide))
                refine ev_iinc (L' := [(6, vI (kk + 6)), (5, vI ((36 * s) + f)), (0, .ref (o)), (1, vI (s)), (2, vI (l)), (3, vI (f)), (4, vI (n))]) 0 rfl dX10_arcs_173 (by decide) rfl ?_
                refine ev_goto (tgt := 87) dX10_arcs_176 (by decide) ?_
                exact ihm (m + 1) (by omega) (by omega) (kk + 6) (by omega) (by omega) (by rw [hs, scanI_s _ (by omega), if_neg (by simp only [AB, decide_eq_true_eq, AtP, TO]; rw [← hk]; omega)])
              · refine ev_if_ne (tgt := 173) dX10_arcs_167 (by decide) (by decide) (fun c => absurd c (by decide)) (fun _ => ?_)
                refine ev_bipush dX10_arcs_170 (by decide) ?_
                refine ev_ireturn dX10_arcs_172 ?_
                have e0 : scanI (AB S (36 * s + f)) 0 n = m := by rw [hs, scanI_s _ (by omega), if_pos (by simp only [AB, decide_eq_true_eq, AtP, TO]; rw [← hk]; omega)]
                refine ⟨_, rfl, ?_, ?_⟩
                · simp only [sp_arcs]; rw [if_neg (by omega), if_neg (by omega), if_neg (by omega), if_pos (by omega)]
                · simp only [nx_arcs]; rw [if_neg (by omega)]; exact hM
            · refine ev_if_eq (tgt := 170) dX10_arcs_147 (by decide) (by decide) (fun _ => ?_) (fun c => absurd c (by decide))
              refine ev_bipush dX10_arcs_170 (by decide) ?_
              refine ev_ireturn dX10_arcs_172 ?_
              have e0 : scanI (AB S (36 * s + f)) 0 n = m := by rw [hs, scanI_s _ (by omega), if_pos (by simp only [AB, decide_eq_true_eq, AtP, TO]; rw [← hk]; omega)]
              refine ⟨_, rfl, ?_, ?_⟩
              · simp only [sp_arcs]; rw [if_neg (by omega), if_neg (by omega), if_neg (by omega), if_pos (by omega)]
              · simp only [nx_arcs]; rw [if_neg (by omega)]; exact hM
        · refine ev_if_ne (tgt := 75) dX10_arcs_69 (by decide) (by decide) (fun c => absurd c (by decide)) (fun _ => ?_)
          refine ev_bipush dX10_arcs_72 (by decide) ?_
          refine ev_ireturn dX10_arcs_74 ?_
          refine ⟨_, rfl, ?_, ?_⟩
          · simp only [sp_arcs]; (repeat' split) <;> first | rfl | omega
          · simp only [nx_arcs]; rw [if_neg (by omega)]; exact hM
      · refine ev_aload_n 0 rfl dX10_arcs_33 ?_
        refine mg_116 hM dX10_arcs_34 ?_
        refine ev_iload_n 1 rfl dX10_arcs_37 ?_
        refine m_ld (k := 43) hM (by decide) dX10_arcs_38 (by omega) (by show _ < ((4 : Nat) : Int); omega) ?_
        refine ev_if_ge (tgt := 47) dX10_arcs_39 (by first | assumption | exact hR _ _ | decide | (simp only [InR]; omega)) (by decide) (fun c39 => ?_) (fun c39 => ?_)
        · refine ev_bipush dX10_arcs_47 (by decide) ?_
          refine ev_ireturn dX10_arcs_49 ?_
          refine ⟨_, rfl, ?_, ?_⟩
          · simp only [sp_arcs]; (repeat' split) <;> first | rfl | omega
          · simp only [nx_arcs]; rw [if_neg (by omega)]; exact hM
        · refine ev_bipush dX10_arcs_42 (by decide) ?_
          refine ev_goto (tgt := 49) dX10_arcs_44 (by decide) ?_
          refine ev_ireturn dX10_arcs_49 ?_
          refine ⟨_, rfl, ?_, ?_⟩
          · simp only [sp_arcs]; (repeat' split) <;> first | rfl | omega
          · simp only [nx_arcs]; rw [if_neg (by omega)]; exact hM
    · refine ev_if_ne (tgt := 23) dX10_arcs_18 (by decide) (by decide) (fun c => absurd c (by decide)) (fun _ => ?_)
      refine ev_iconst dX10_arcs_21 ?_
      refine ev_ireturn dX10_arcs_22 ?_
      refine ⟨_, rfl, ?_, ?_⟩
      · simp only [sp_arcs]; (repeat' split) <;> first | rfl | omega
      · simp only [nx_arcs]; rw [if_neg (by omega)]; exact hM
  · refine ev_if_eq (tgt := 21) dX10_arcs_5 (by decide) (by decide) (fun _ => ?_) (fun c => absurd c (by decide))
    refine ev_iconst dX10_arcs_21 ?_
    refine ev_ireturn dX10_arcs_22 ?_
    refine ⟨_, rfl, ?_, ?_⟩
    · simp only [sp_arcs]; (repeat' split) <;> first | rfl | omega
    · simp only [nx_arcs]; rw [if_neg (by omega)]; exact hM
