theorem start_K {s : State} {args : Array Value} (hts : ∀ w ∈ TB, w.before args s = true) (hAO : ∀ C ∈ glO, va_AO C s) : ∃ (D : va_G) (G : Nat → ClassId), va_K D vwCl (tysA G) s := by
  obtain ⟨c0, i0, k0⟩ := u_known (args := args) hts inX0 (hts _ inst_X0)
  obtain ⟨c1, i1, k1⟩ := u_known (args := args) hts inX1 (hts _ inst_X1)
  obtain ⟨c2, i2, k2⟩ := u_known (args := args) hts inX2 (hts _ inst_X2)
  obtain ⟨c3, i3, k3⟩ := u_known (args := args) hts inX3 (hts _ inst_X3)
  obtain ⟨c4, i4, k4⟩ := u_known (args := args) hts inX4 (hts _ inst_X4)
  obtain ⟨c5, i5, k5⟩ := u_known (args := args) hts inX5 (hts _ inst_X5)
  obtain ⟨c6, i6, k6⟩ := u_known (args := args) hts inX6 (hts _ inst_X6)
  obtain ⟨c7, i7, k7⟩ := u_known (args := args) hts inX7 (hts _ inst_X7)
  obtain ⟨c8, i8, k8⟩ := u_known (args := args) hts inX8 (hts _ inst_X8)
  obtain ⟨c9, i9, k9⟩ := u_known (args := args) hts inX9 (hts _ inst_X9)
  obtain ⟨c10, i10, k10⟩ := u_known (args := args) hts inX10 (hts _ inst_X10)
  obtain ⟨p1, g1, y1, u1, -, v1, w1, x1⟩ := Cond.arrayOver_spec (hAO RX7 (by decide))
  obtain ⟨p2, g2, y2, u2, -, v2, w2, x2⟩ := Cond.arrayOver_spec (hAO RX3 (by decide))
  obtain ⟨p3, g3, y3, u3, -, v3, w3, x3⟩ := Cond.arrayOver_spec (hAO RX8 (by decide))
  obtain ⟨p4, g4, y4, u4, -, v4, w4, x4⟩ := Cond.arrayOver_spec (hAO RX5 (by decide))
  obtain ⟨p5, g5, y5, u5, -, v5, w5, x5⟩ := Cond.arrayOver_spec (hAO RX2 (by decide))
  obtain ⟨p6, g6, y6, u6, -, v6, w6, x6⟩ := Cond.arrayOver_spec (hAO RX0 (by decide))
  obtain ⟨g0, y0, p0, u0, v0, w0⟩ := Cond.arrayClass_spec (hts _ aI_ok)
  refine ⟨(fun c => match c with | 0 => c0 | 1 => c1 | 2 => c2 | 3 => c3 | 4 => c4 | 5 => c5 | 6 => c6 | 7 => c7 | 8 => c8 | 9 => c9 | _ => c10, fun c => match c with | 0 => i0 | 1 => i1 | 2 => i2 | 3 => i3 | 4 => i4 | 5 => i5 | 6 => i6 | 7 => i7 | 8 => i8 | 9 => i9 | _ => i10), fun t => match t with | 0 => g0 | 1 => g1 | 2 => g2 | 3 => g3 | 4 => g4 | 5 => g5 | _ => g6, fun c q hq => ?_, fun c q hq => ?_⟩
  · match c, hq with
    | 0, hq => cases hq; exact k0
    | 1, hq => cases hq; exact k1
    | 2, hq => cases hq; exact k2
    | 3, hq => cases hq; exact k3
    | 4, hq => cases hq; exact k4
    | 5, hq => cases hq; exact k5
    | 6, hq => cases hq; exact k6
    | 7, hq => cases hq; exact k7
    | 8, hq => cases hq; exact k8
    | 9, hq => cases hq; exact k9
    | 10, hq => cases hq; exact k10
    | n + 11, hq => cases hq
  · match c, hq with
    | 0, hq => cases hq; exact ⟨fun N z => ⟨fun k h => (by cases h), y0, v0, p0, w0⟩, u0⟩
    | 1, hq => cases hq; exact ⟨fun N z => ⟨fun k h => (by cases h), y1, v1, p1, w1⟩, y1, p1, v1, w1, u1, x1⟩
    | 2, hq => cases hq; exact ⟨fun N z => ⟨fun k h => (by cases h), y2, v2, p2, w2⟩, y2, p2, v2, w2, u2, x2⟩
    | 3, hq => cases hq; exact ⟨fun N z => ⟨fun k h => (by cases h), y3, v3, p3, w3⟩, y3, p3, v3, w3, u3, x3⟩
    | 4, hq => cases hq; exact ⟨fun N z => ⟨fun k h => (by cases h), y4, v4, p4, w4⟩, y4, p4, v4, w4, u4, x4⟩
    | 5, hq => cases hq; exact ⟨fun N z => ⟨fun k h => (by cases h), y5, v5, p5, w5⟩, y5, p5, v5, w5, u5, x5⟩
    | 6, hq => cases hq; exact ⟨fun N z => ⟨fun k h => (by cases h), y6, v6, p6, w6⟩, y6, p6, v6, w6, u6, x6⟩
    | n + 7, hq => cases hq
set_option maxHeartbeats 4000000 in
theorem memS : ∀ j, j < 91 → Cond.eq (.elem (.static "NorthCurtains" "SINES" "[I") (.int (Int32.ofNat j))) (.int (iI (tabS (j : Int)))) ∈ flatC (Jvm.Cond.and given_1 narrow_1) := by decide +kernel
set_option maxHeartbeats 4000000 in
theorem memT : ∀ j, j < 90 → Cond.eq (.elem (.static "NorthCurtains" "TANGENTS" "[I") (.int (Int32.ofNat j))) (.int (iI (tabT (j : Int)))) ∈ flatC (Jvm.Cond.and given_1 narrow_1) := by decide +kernel
set_option maxHeartbeats 4000000 in
theorem start_G {s : State} {args : Array Value} {A : Nat → Prop} (hts : ∀ w ∈ lw_tbl, w.before args s = true) (hgv : (Jvm.Cond.and given_1 narrow_1).before args s = true) (hA : ∀ a : Nat, a < s.heap.size → ¬ A a) {D : va_G} {G : Nat → ClassId} : ∃ a1 a2 : Nat, Gl (D, G, a1, a2) A s s.heap := by
  have hf := flat_of_before _ hgv
  have h1 : ∀ w ∈ glM, Cond.methodLinkNest w.1 w.2.1 w.2.2 RX9 ∈ lw_tbl := by decide +kernel
  have h1f : glF ∈ lw_tbl := by decide +kernel
  have h2 : ∀ w ∈ glC, Cond.castable w.1 w.2 ∈ lw_tbl := by decide +kernel
  have h3 : ∀ w ∈ glN, Cond.not (Cond.castable w.1 w.2) ∈ flatC (Jvm.Cond.and given_1 narrow_1) := by decide +kernel
  have h4 : ∀ w ∈ glO, Cond.arrayOver (.object w) ∈ lw_tbl := by decide +kernel
  obtain ⟨a1, e1, t1⟩ := va_Tof (args := args) (s := s) (tm := .static "NorthCurtains" "SINES" "[I") (ty := .int) (N := 91) (f := fun j => vI (tabS (j : Int))) (A := A) (by decide) (hf _ (by decide +kernel)) (va_eqt (z := Int32.ofNat 91) (hf _ (by decide +kernel))) (fun j hj => va_eqt (hf _ (memS j hj))) hA
  obtain ⟨a2, e2, t2⟩ := va_Tof (args := args) (s := s) (tm := .static "NorthCurtains" "TANGENTS" "[I") (ty := .int) (N := 90) (f := fun j => vI (tabT (j : Int))) (A := A) (by decide) (hf _ (by decide +kernel)) (va_eqt (z := Int32.ofNat 90) (hf _ (by decide +kernel))) (fun j hj => va_eqt (hf _ (memT j hj))) hA
  have z1 : va_Z RX9 "SINES" "[I" (.ref a1) A s s.heap := va_Zref (hts (Cond.laysStatic "NorthCurtains" "SINES" "[I") (by decide +kernel)) (hts (Cond.initialized "NorthCurtains") (by decide +kernel)) e1 hA
  have z2 : va_Z RX9 "TANGENTS" "[I" (.ref a2) A s s.heap := va_Zref (hts (Cond.laysStatic "NorthCurtains" "TANGENTS" "[I") (by decide +kernel)) (hts (Cond.initialized "NorthCurtains") (by decide +kernel)) e2 hA
  exact ⟨a1, a2, ⟨fun w hw => va_Nw.of rfl (hts _ (h1 w hw)), va_Nw.of rfl (hts _ h1f)⟩, fun w hw => va_Nw.of rfl (hts _ (h2 w hw)), fun w hw => va_Nc.of (hf _ (h3 w hw)), fun w hw => va_AO.of (hts _ (h4 w hw)), z1, t1, z2, t2⟩
