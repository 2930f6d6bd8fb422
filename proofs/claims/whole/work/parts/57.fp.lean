/-! the reference's sines: the same numbers as the table -/
def snX (d : Int) : UInt64 := FP.ddiv (FP.dmul (FP.i2d (iI d)) 4614256656552045848) 4640537203540230144
def snS (x : UInt64) : Nat → UInt64
  | 0 => 0x3ff0000000000000
  | m + 1 => FP.dsub 0x3ff0000000000000 (FP.dmul (FP.ddiv (FP.dmul x x) (FP.i2d (iI ((26 - 2 * (m : Int)) * (26 - 2 * (m : Int) + 1))))) (snS x m))
def snF (d : Int) : UInt64 := FP.dmul (snX d) (snS (snX d) 13)
abbrev N6 (r : UInt64) : Prop := r &&& 0x7fffffffffffffff ≤ 0x7ff0000000000000
abbrev okT (x : UInt64) (m : Nat) : Prop := N6 (FP.ddiv (FP.dmul x x) (FP.i2d (iI ((26 - 2 * (m : Int)) * (26 - 2 * (m : Int) + 1))))) ∧ N6 (FP.dmul (FP.ddiv (FP.dmul x x) (FP.i2d (iI ((26 - 2 * (m : Int)) * (26 - 2 * (m : Int) + 1))))) (snS x m)) ∧ N6 (snS x (m + 1))
theorem ok_sn : ∀ d : Nat, d < 91 → N6 (FP.dmul (FP.i2d (iI (d : Int))) 4614256656552045848) ∧ N6 (snX (d : Int)) ∧ N6 (FP.dmul (snX (d : Int)) (snX (d : Int))) ∧ (∀ m, m < 13 → okT (snX (d : Int)) m) ∧ N6 (snF (d : Int)) := by decide +kernel
theorem ok_sin : ∀ d : Nat, d < 91 → N6 (FP.dmul 4652007308841189376 (snF (d : Int))) ∧ N6 (FP.dadd (FP.dmul 4652007308841189376 (snF (d : Int))) 4602678819172646912) ∧ d2iZ (FP.dadd (FP.dmul 4652007308841189376 (snF (d : Int))) 4602678819172646912) = tabS (d : Int) := by decide +kernel
theorem ok_tan : ∀ d : Nat, d < 90 → (d = 0 ∨ (N6 (FP.ddiv (FP.dmul 4652007308841189376 (snF (d : Int))) (snF (90 - (d : Int)))) ∧ N6 (FP.dadd (FP.ddiv (FP.dmul 4652007308841189376 (snF (d : Int))) (snF (90 - (d : Int)))) 4602678819172646912) ∧ d2iZ (FP.dadd (FP.ddiv (FP.dmul 4652007308841189376 (snF (d : Int))) (snF (90 - (d : Int)))) 4602678819172646912) = tabT (d : Int))) := by decide +kernel

set_option maxHeartbeats 4000000 in
set_option maxRecDepth 100000 in
theorem sn_step {E : EV} {h : AH} {dd : Int} {x : UInt64} {m : Nat} {Q : Option Value → AH → Prop} (hx : vf_n64 (FP.dmul x x)) (hm : m < 13) (ok : okT x m) (kk : Ev E RX10 cX10_sineOf 6 (some .double) "sineOf" Q 0 0 0 17 [(5, vI ((26 - 2 * (m : Int)) + (-2))), (3, .double (snS x (m + 1))), (1, .double (x)), (0, vI (dd))] [] h) : Ev E RX10 cX10_sineOf 6 (some .double) "sineOf" (Q) 0 0 0 17 [(5, vI (26 - 2 * (m : Int))), (3, .double (snS x m)), (1, .double (x)), (0, vI (dd))] [] h := by
  obtain ⟨o1, o2, o3⟩ := ok
  refine ev_iload 0 rfl dX10_sineOf_17 ?_
  refine ev_iconst dX10_sineOf_19 ?_
  refine ev_icmp_lt (tgt := 46) dX10_sineOf_20 (by first | assumption | decide | (simp only [InR]; omega)) (by decide) (by decide) (fun c20 => ?_) (fun c20 => ?_)
  · exact absurd c20 (by omega)
  · refine ev_dconst1 dX10_sineOf_23 ?_
    refine ev_dload_n 2 rfl dX10_sineOf_24 ?_
    refine ev_dload_n 2 rfl dX10_sineOf_25 ?_
    refine ev_dmul dX10_sineOf_26 (by first | assumption | exact o1 | exact o2 | exact o3) ?_
    refine ev_iload 0 rfl dX10_sineOf_27 ?_
    refine ev_iload 0 rfl dX10_sineOf_29 ?_
    refine ev_iconst dX10_sineOf_31 ?_
    refine ev_iadd dX10_sineOf_32 ?_
    refine ev_imul dX10_sineOf_33 ?_
    refine ev_i2d dX10_sineOf_34 ?_
    refine ev_ddiv dX10_sineOf_35 (by first | assumption | exact o1 | exact o2 | exact o3) ?_
    refine ev_dload_n 1 rfl dX10_sineOf_36 ?_
    refine ev_dmul dX10_sineOf_37 (by first | assumption | exact o1 | exact o2 | exact o3) ?_
    refine ev_dsub dX10_sineOf_38 (by first | assumption | exact o1 | exact o2 | exact o3) ?_
    refine ev_dstore_n (L' := [(3, .double (FP.dsub 0x3ff0000000000000 (FP.dmul (FP.ddiv (FP.dmul x x) (FP.i2d (iI ((26 - 2 * (m : Int)) * ((26 - 2 * (m : Int)) + 1))))) (snS x m)))), (5, vI (26 - 2 * (m : Int))), (1, .double (x)), (0, vI (dd))]) dX10_sineOf_39 (by decide) rfl ?_
    refine ev_iinc (L' := [(5, vI ((26 - 2 * (m : Int)) + (-2))), (3, .double (FP.dsub 0x3ff0000000000000 (FP.dmul (FP.ddiv (FP.dmul x x) (FP.i2d (iI ((26 - 2 * (m : Int)) * ((26 - 2 * (m : Int)) + 1))))) (snS x m)))), (1, .double (x)), (0, vI (dd))]) 1 rfl dX10_sineOf_40 (by decide) rfl ?_
    refine ev_goto (tgt := 17) dX10_sineOf_43 (by decide) ?_
    refine ev_pick (L' := [(5, vI ((26 - 2 * (m : Int)) + (-2))), (3, .double (FP.dsub 0x3ff0000000000000 (FP.dmul (FP.ddiv (FP.dmul x x) (FP.i2d (iI ((26 - 2 * (m : Int)) * ((26 - 2 * (m : Int)) + 1))))) (snS x m)))), (1, .double (x)), (0, vI (dd))]) [0, 1, 2, 3] rfl ?_
    exact kk

set_option maxHeartbeats 4000000 in
set_option maxRecDepth 100000 in
theorem sn_end {E : EV} {h : AH} {dd : Int} {x : UInt64} {m : Nat} {Q : Option Value → AH → Prop} (hm : m = 13) (hf : vf_n64 (FP.dmul x (snS x m))) (hQ : Q (some (.double (FP.dmul x (snS x m)))) h) : Ev E RX10 cX10_sineOf 6 (some .double) "sineOf" (Q) 0 0 0 17 [(5, vI (26 - 2 * (m : Int))), (3, .double (snS x m)), (1, .double (x)), (0, vI (dd))] [] h := by
  refine ev_iload 0 rfl dX10_sineOf_17 ?_
  refine ev_iconst dX10_sineOf_19 ?_
  refine ev_icmp_lt (tgt := 46) dX10_sineOf_20 (by first | assumption | decide | (simp only [InR]; omega)) (by decide) (by decide) (fun c20 => ?_) (fun c20 => ?_)
  · refine ev_dload_n 2 rfl dX10_sineOf_46 ?_
    refine ev_dload_n 1 rfl dX10_sineOf_47 ?_
    refine ev_dmul dX10_sineOf_48 (by first | assumption | exact o1 | exact o2 | exact o3) ?_
    refine ev_dreturn dX10_sineOf_49 ?_
    exact hQ
  · exact absurd (show 26 - 2 * (m : Int) < 2 by omega) c20

theorem sn_loop {E : EV} {h : AH} {dd : Int} {x : UInt64} {Q : Option Value → AH → Prop} (hx : vf_n64 (FP.dmul x x)) (ok : ∀ m, m < 13 → okT x m) (hf : vf_n64 (FP.dmul x (snS x 13))) (hQ : Q (some (.double (FP.dmul x (snS x 13)))) h) : ∀ j m : Nat, m + j = 13 → Ev E RX10 cX10_sineOf 6 (some .double) "sineOf" Q 0 0 0 17 [(5, vI (26 - 2 * (m : Int))), (3, .double (snS x m)), (1, .double (x)), (0, vI (dd))] [] h := by
  intro j
  induction j with
  | zero =>
    intro m hm
    have e : m = 13 := by omega
    subst e
    exact sn_end rfl hf hQ
  | succ j ih =>
    intro m hm
    refine sn_step hx (by omega) (ok m (by omega)) ?_
    have h2 := ih (m + 1) (by omega)
    rw [show 26 - 2 * ((m + 1 : Nat) : Int) = 26 - 2 * (m : Int) + (-2) by omega] at h2
    exact h2

set_option maxHeartbeats 4000000 in
set_option maxRecDepth 100000 in
theorem m_sineOf {E : EV} {h : AH} {d : Int} (gd : 0 ≤ d ∧ d ≤ 90) : CM E yX10_sineOf cX10_sineOf 6 (some .double) 0 0 0 [vI (d)] h (fun r h' => h' = h ∧ r = some (.double (snF d))) := by
  have q0 := ok_sn d.toNat (by omega)
  rw [Int.toNat_of_nonneg gd.1] at q0
  obtain ⟨q1, q2, q3, q4, q5⟩ := q0
  have o1 : vf_n64 (FP.dmul (FP.i2d (iI d)) 4614256656552045848) := q1
  have o2 : vf_n64 (FP.ddiv (FP.dmul (FP.i2d (iI d)) 4614256656552045848) 4640537203540230144) := q2
  have o3 := q3
  refine CM.of (by decide) (Nat.le_of_ble_eq_true rfl) (L := [(0, vI (d))]) rfl ?_
  refine ev_iload_n 0 rfl dX10_sineOf_0 ?_
  refine ev_i2d dX10_sineOf_1 ?_
  refine ev_ldc2d dX10_sineOf_2 k_X10_133 ?_
  refine ev_dmul dX10_sineOf_5 (by first | assumption | exact o1 | exact o2 | exact o3) ?_
  refine ev_ldc2d dX10_sineOf_6 k_X10_135 ?_
  refine ev_ddiv dX10_sineOf_9 (by first | assumption | exact o1 | exact o2 | exact o3) ?_
  refine ev_dstore_n (L' := [(1, .double (FP.ddiv (FP.dmul (FP.i2d (iI (d))) 4614256656552045848) 4640537203540230144)), (0, vI (d))]) dX10_sineOf_10 (by decide) rfl ?_
  refine ev_dconst1 dX10_sineOf_11 ?_
  refine ev_dstore_n (L' := [(3, .double (0x3ff0000000000000)), (1, .double (FP.ddiv (FP.dmul (FP.i2d (iI (d))) 4614256656552045848) 4640537203540230144)), (0, vI (d))]) dX10_sineOf_12 (by decide) rfl ?_
  refine ev_bipush dX10_sineOf_13 (by decide) ?_
  refine ev_istore (L' := [(5, vI (26)), (3, .double (0x3ff0000000000000)), (1, .double (FP.ddiv (FP.dmul (FP.i2d (iI (d))) 4614256656552045848) 4640537203540230144)), (0, vI (d))]) dX10_sineOf_15 (by decide) rfl ?_
  refine ev_pick (L' := [(5, vI (26)), (3, .double (0x3ff0000000000000)), (1, .double (FP.ddiv (FP.dmul (FP.i2d (iI (d))) 4614256656552045848) 4640537203540230144)), (0, vI (d))]) [0, 1, 2, 3] rfl ?_
  exact sn_loop (x := snX d) q3 q4 q5 ⟨rfl, rfl⟩ 13 0 rfl

