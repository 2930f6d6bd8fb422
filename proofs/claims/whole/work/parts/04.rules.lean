section RULES
variable {E : EV} {own : String} {cc : ByteArray} {nL : Nat} {ret : Option FieldType} {mn : String} {Q : Option Value → AH → Prop} {d kc ks pc : Nat} {L : List (Nat × Value)} {st : List Value} {h : AH}

theorem ev_iconst {n : Int} (hd : decode cc pc = .ok (.iconst n, 1)) (k : Ev E own cc nL ret mn Q d kc ks (pc + 1) L (vI n :: st) h) : Ev E own cc nL ret mn Q d kc ks pc L (st) h := by
  intro p l e s m args below meth c H locs cells slots mc ms A ls hC
  refine lv_iconst hC.1 hC.2.1 hd rfl ?_
  exact k p l e s m args below meth c H locs cells slots mc ms A ls hC

theorem ev_bipush {n : Int} (hd : decode cc pc = .ok (.bipush n, 2)) (hn : (Int8.ofInt n).toInt32 = iI n) (k : Ev E own cc nL ret mn Q d kc ks (pc + 2) L (vI n :: st) h) : Ev E own cc nL ret mn Q d kc ks pc L (st) h := by
  intro p l e s m args below meth c H locs cells slots mc ms A ls hC
  refine lv_bipush hC.1 hC.2.1 hd hn ?_
  exact k p l e s m args below meth c H locs cells slots mc ms A ls hC

theorem ev_sipush {n : Int} (hd : decode cc pc = .ok (.sipush n, 3)) (hn : (Int16.ofInt n).toInt32 = iI n) (k : Ev E own cc nL ret mn Q d kc ks (pc + 3) L (vI n :: st) h) : Ev E own cc nL ret mn Q d kc ks pc L (st) h := by
  intro p l e s m args below meth c H locs cells slots mc ms A ls hC
  refine lv_sipush hC.1 hC.2.1 hd hn ?_
  exact k p l e s m args below meth c H locs cells slots mc ms A ls hC

theorem ev_lconst {n : Fin 2} {z : Int} (hd : decode cc pc = .ok (.lconst n, 1)) (hn : Int64.ofNat (n : Nat) = lI z) (k : Ev E own cc nL ret mn Q d kc ks (pc + 1) L (vL z :: st) h) : Ev E own cc nL ret mn Q d kc ks pc L (st) h := by
  intro p l e s m args below meth c H locs cells slots mc ms A ls hC
  refine lv_lconst hC.1 hC.2.1 hd hn ?_
  exact k p l e s m args below meth c H locs cells slots mc ms A ls hC

theorem ev_dconst1  (hd : decode cc pc = .ok (.dconst 1, 1)) (k : Ev E own cc nL ret mn Q d kc ks (pc + 1) L (.double 0x3ff0000000000000 :: st) h) : Ev E own cc nL ret mn Q d kc ks pc L (st) h := by
  intro p l e s m args below meth c H locs cells slots mc ms A ls hC
  refine lv_dconst1 hC.1 hC.2.1 hd  ?_
  exact k p l e s m args below meth c H locs cells slots mc ms A ls hC

theorem ev_null  (hd : decode cc pc = .ok (.aconst_null, 1)) (k : Ev E own cc nL ret mn Q d kc ks (pc + 1) L (.null :: st) h) : Ev E own cc nL ret mn Q d kc ks pc L (st) h := by
  intro p l e s m args below meth c H locs cells slots mc ms A ls hC
  refine lv_null hC.1 hC.2.1 hd  ?_
  exact k p l e s m args below meth c H locs cells slots mc ms A ls hC

theorem ev_ldc {i : Nat} {v : Int32} {z : Int} (hd : decode cc pc = .ok (.ldc i, 2)) (hw : Cond.constant own i v ∈ TB) (hz : v = iI z) (k : Ev E own cc nL ret mn Q d kc ks (pc + 2) L (vI z :: st) h) : Ev E own cc nL ret mn Q d kc ks pc L (st) h := by
  intro p l e s m args below meth c H locs cells slots mc ms A ls hC
  refine lv_ldc hC.1 hC.2.1 hC.2.2.2.2.1 (hC.2.2.2.2.2.2.2.1 _ hw) hd ?_
  subst hz
  exact k p l e s m args below meth c H locs cells slots mc ms A ls hC

theorem ev_ldcw {i : Nat} {v : Int32} {z : Int} (hd : decode cc pc = .ok (.ldc_w i, 3)) (hw : Cond.constant own i v ∈ TB) (hz : v = iI z) (k : Ev E own cc nL ret mn Q d kc ks (pc + 3) L (vI z :: st) h) : Ev E own cc nL ret mn Q d kc ks pc L (st) h := by
  intro p l e s m args below meth c H locs cells slots mc ms A ls hC
  refine lv_ldcw hC.1 hC.2.1 hC.2.2.2.2.1 (hC.2.2.2.2.2.2.2.1 _ hw) hd ?_
  subst hz
  exact k p l e s m args below meth c H locs cells slots mc ms A ls hC

theorem ev_ldc2 {i : Nat} {v : Int64} {z : Int} (hd : decode cc pc = .ok (.ldc2_w i, 3)) (hw : Cond.constantLong own i v ∈ TB) (hz : v = lI z) (k : Ev E own cc nL ret mn Q d kc ks (pc + 3) L (vL z :: st) h) : Ev E own cc nL ret mn Q d kc ks pc L (st) h := by
  intro p l e s m args below meth c H locs cells slots mc ms A ls hC
  refine lv_ldc2 hC.1 hC.2.1 hC.2.2.2.2.1 (hC.2.2.2.2.2.2.2.1 _ hw) hd ?_
  subst hz
  exact k p l e s m args below meth c H locs cells slots mc ms A ls hC

theorem ev_ldc2d {i : Nat} {v : UInt64} (hd : decode cc pc = .ok (.ldc2_w i, 3)) (hw : Cond.constantDouble own i v ∈ TB) (k : Ev E own cc nL ret mn Q d kc ks (pc + 3) L (.double v :: st) h) : Ev E own cc nL ret mn Q d kc ks pc L (st) h := by
  intro p l e s m args below meth c H locs cells slots mc ms A ls hC
  refine lv_ldc2d hC.1 hC.2.1 hC.2.2.2.2.1 (hC.2.2.2.2.2.2.2.1 _ hw) hd ?_
  exact k p l e s m args below meth c H locs cells slots mc ms A ls hC

theorem ev_iload_n {f : Fin 4} {x : Int32} (j : Nat) (hj : L[j]? = some ((f : Nat), .int x)) (hd : decode cc pc = .ok (.iload_n f, 1)) (k : Ev E own cc nL ret mn Q d kc ks (pc + 1) L (.int x :: st) h) : Ev E own cc nL ret mn Q d kc ks pc L (st) h := by
  intro p l e s m args below meth c H locs cells slots mc ms A ls hC
  refine lv_iload_n hC.1 hC.2.1 hd rfl (lv_at hC.2.2.2.2.2.2.2.2.2.2.2.2.2.1 j hj) ?_
  exact k p l e s m args below meth c H locs cells slots mc ms A ls hC

theorem ev_iload {i : Nat} {x : Int32} (j : Nat) (hj : L[j]? = some (i, .int x)) (hd : decode cc pc = .ok (.iload i, 2)) (k : Ev E own cc nL ret mn Q d kc ks (pc + 2) L (.int x :: st) h) : Ev E own cc nL ret mn Q d kc ks pc L (st) h := by
  intro p l e s m args below meth c H locs cells slots mc ms A ls hC
  refine lv_iload hC.1 hC.2.1 hd (lv_at hC.2.2.2.2.2.2.2.2.2.2.2.2.2.1 j hj) ?_
  exact k p l e s m args below meth c H locs cells slots mc ms A ls hC

theorem ev_lload_n {f : Fin 4} {x : Int64} (j : Nat) (hj : L[j]? = some ((f : Nat), .long x)) (hd : decode cc pc = .ok (.lload_n f, 1)) (k : Ev E own cc nL ret mn Q d kc ks (pc + 1) L (.long x :: st) h) : Ev E own cc nL ret mn Q d kc ks pc L (st) h := by
  intro p l e s m args below meth c H locs cells slots mc ms A ls hC
  refine lv_lload_n hC.1 hC.2.1 hd rfl (lv_at hC.2.2.2.2.2.2.2.2.2.2.2.2.2.1 j hj) ?_
  exact k p l e s m args below meth c H locs cells slots mc ms A ls hC

theorem ev_lload {i : Nat} {x : Int64} (j : Nat) (hj : L[j]? = some (i, .long x)) (hd : decode cc pc = .ok (.lload i, 2)) (k : Ev E own cc nL ret mn Q d kc ks (pc + 2) L (.long x :: st) h) : Ev E own cc nL ret mn Q d kc ks pc L (st) h := by
  intro p l e s m args below meth c H locs cells slots mc ms A ls hC
  refine lv_lload hC.1 hC.2.1 hd (lv_at hC.2.2.2.2.2.2.2.2.2.2.2.2.2.1 j hj) ?_
  exact k p l e s m args below meth c H locs cells slots mc ms A ls hC

theorem ev_dload_n {f : Fin 4} {x : UInt64} (j : Nat) (hj : L[j]? = some ((f : Nat), .double x)) (hd : decode cc pc = .ok (.dload_n f, 1)) (k : Ev E own cc nL ret mn Q d kc ks (pc + 1) L (.double x :: st) h) : Ev E own cc nL ret mn Q d kc ks pc L (st) h := by
  intro p l e s m args below meth c H locs cells slots mc ms A ls hC
  refine lv_dload_n hC.1 hC.2.1 hd rfl (lv_at hC.2.2.2.2.2.2.2.2.2.2.2.2.2.1 j hj) ?_
  exact k p l e s m args below meth c H locs cells slots mc ms A ls hC

theorem ev_dload {i : Nat} {x : UInt64} (j : Nat) (hj : L[j]? = some (i, .double x)) (hd : decode cc pc = .ok (.dload i, 2)) (k : Ev E own cc nL ret mn Q d kc ks (pc + 2) L (.double x :: st) h) : Ev E own cc nL ret mn Q d kc ks pc L (st) h := by
  intro p l e s m args below meth c H locs cells slots mc ms A ls hC
  refine lv_dload hC.1 hC.2.1 hd (lv_at hC.2.2.2.2.2.2.2.2.2.2.2.2.2.1 j hj) ?_
  exact k p l e s m args below meth c H locs cells slots mc ms A ls hC

theorem ev_aload_n {f : Fin 4} {x : Nat} (j : Nat) (hj : L[j]? = some ((f : Nat), .ref x)) (hd : decode cc pc = .ok (.aload_n f, 1)) (k : Ev E own cc nL ret mn Q d kc ks (pc + 1) L (.ref x :: st) h) : Ev E own cc nL ret mn Q d kc ks pc L (st) h := by
  intro p l e s m args below meth c H locs cells slots mc ms A ls hC
  refine lv_aload_n hC.1 hC.2.1 hd rfl (lv_at hC.2.2.2.2.2.2.2.2.2.2.2.2.2.1 j hj) ?_
  exact k p l e s m args below meth c H locs cells slots mc ms A ls hC

theorem ev_aload {i : Nat} {x : Nat} (j : Nat) (hj : L[j]? = some (i, .ref x)) (hd : decode cc pc = .ok (.aload i, 2)) (k : Ev E own cc nL ret mn Q d kc ks (pc + 2) L (.ref x :: st) h) : Ev E own cc nL ret mn Q d kc ks pc L (st) h := by
  intro p l e s m args below meth c H locs cells slots mc ms A ls hC
  refine lv_aload hC.1 hC.2.1 hd (lv_at hC.2.2.2.2.2.2.2.2.2.2.2.2.2.1 j hj) ?_
  exact k p l e s m args below meth c H locs cells slots mc ms A ls hC

theorem ev_aload_nN {f : Fin 4} (j : Nat) (hj : L[j]? = some ((f : Nat), .null)) (hd : decode cc pc = .ok (.aload_n f, 1)) (k : Ev E own cc nL ret mn Q d kc ks (pc + 1) L (.null :: st) h) : Ev E own cc nL ret mn Q d kc ks pc L (st) h := by
  intro p l e s m args below meth c H locs cells slots mc ms A ls hC
  refine lv_aload_nN hC.1 hC.2.1 hd rfl (lv_at hC.2.2.2.2.2.2.2.2.2.2.2.2.2.1 j hj) ?_
  exact k p l e s m args below meth c H locs cells slots mc ms A ls hC

theorem ev_aloadN {i : Nat} (j : Nat) (hj : L[j]? = some (i, .null)) (hd : decode cc pc = .ok (.aload i, 2)) (k : Ev E own cc nL ret mn Q d kc ks (pc + 2) L (.null :: st) h) : Ev E own cc nL ret mn Q d kc ks pc L (st) h := by
  intro p l e s m args below meth c H locs cells slots mc ms A ls hC
  refine lv_aloadN hC.1 hC.2.1 hd (lv_at hC.2.2.2.2.2.2.2.2.2.2.2.2.2.1 j hj) ?_
  exact k p l e s m args below meth c H locs cells slots mc ms A ls hC

theorem Cx.locs' {L' : List (Nat × Value)} {p : Program} {s : State} {m : MethodId} {args : Array Value} {meth : Method} {c : Code} {H : Heap} {locs : List Loc} {cells slots mc ms : Nat} {A : Nat → Prop} {ls ls' : Array Slot} (hC : Cx E own cc nL ret mn kc ks L h p s m args meth c H locs cells slots mc ms A ls) (hl : lv_has ls' nL L') : Cx E own cc nL ret mn kc ks L' h p s m args meth c H locs cells slots mc ms A ls' := by
  obtain ⟨a1, a2, a3, a4, a5, a6, a7, a8, a9, a10, a11, a12, a13, a14, a15, a16⟩ := hC
  exact ⟨a1, a2, a3, a4, a5, a6, a7, a8, a9, a10, a11, a12, a13, hl, a15, a16⟩
theorem Cx.heap' {h' : AH} {p : Program} {s : State} {m : MethodId} {args : Array Value} {meth : Method} {c : Code} {H H' : Heap} {locs locs' : List Loc} {cells slots mc ms : Nat} {A : Nat → Prop} {ls : Array Slot} (hC : Cx E own cc nL ret mn kc ks L h p s m args meth c H locs cells slots mc ms A ls) (hH : Hold E.1 A h' H') (hS : va_S A s.heap H' locs') : Cx E own cc nL ret mn kc ks L h' p s m args meth c H' locs' cells slots mc ms A ls := by
  obtain ⟨a1, a2, a3, a4, a5, a6, a7, a8, a9, a10, a11, a12, a13, a14, a15, a16⟩ := hC
  exact ⟨a1, a2, a3, a4, a5, a6, a7, a8, a9, a10, a11, hH, hS, a14, a15, a16⟩
theorem Cx.grow' {kc' ks' kc0 ks0 : Nat} {h' : AH} {p : Program} {s : State} {m : MethodId} {args : Array Value} {meth : Method} {c : Code} {H H' : Heap} {locs locs' : List Loc} {cells slots mc ms : Nat} {A : Nat → Prop} {ls : Array Slot} (hC : Cx E own cc nL ret mn kc0 ks0 L h p s m args meth c H locs cells slots mc ms A ls) (h1 : kc + kc' = kc0) (h2 : ks + ks' = ks0) (hH : Hold E.1 A h' H') (hS : va_S A s.heap H' locs') : Cx E own cc nL ret mn kc ks L h' p s m args meth c H' locs' (cells + kc') (slots + ks') mc ms A ls := by
  obtain ⟨a1, a2, a3, a4, a5, a6, a7, a8, a9, a10, a11, a12, a13, a14, a15, a16⟩ := hC
  exact ⟨a1, a2, a3, a4, a5, a6, a7, a8, a9, a10, a11, hH, hS, a14, by omega, by omega⟩

theorem ev_istore_n {f : Fin 4} {x : Int32} {L' : List (Nat × Value)} (hd : decode cc pc = .ok (.istore_n f, 1)) (hn : (f : Nat) < nL) (hl : ((f : Nat), (.int x : Value)) :: L.filter (fun q => !(q.1 == (f : Nat)) && !(q.1 + 1 == (f : Nat) && q.2.category == 2)) = L') (k : Ev E own cc nL ret mn Q d kc ks (pc + 1) L' (st) h) : Ev E own cc nL ret mn Q d kc ks pc L (.int x :: st) h := by
  intro p l e s m args below meth c H locs cells slots mc ms A ls hC
  refine lv_istore_n hC.1 hC.2.1 hd rfl hC.2.2.2.2.2.2.2.2.2.2.2.2.2.1 hn hl (fun ls' hl' => ?_)
  exact k p l e s m args below meth c H locs cells slots mc ms A ls' (hC.locs' hl')

theorem ev_istore {i : Nat} {x : Int32} {L' : List (Nat × Value)} (hd : decode cc pc = .ok (.istore i, 2)) (hn : i < nL) (hl : (i, (.int x : Value)) :: L.filter (fun q => !(q.1 == i) && !(q.1 + 1 == i && q.2.category == 2)) = L') (k : Ev E own cc nL ret mn Q d kc ks (pc + 2) L' (st) h) : Ev E own cc nL ret mn Q d kc ks pc L (.int x :: st) h := by
  intro p l e s m args below meth c H locs cells slots mc ms A ls hC
  refine lv_istore hC.1 hC.2.1 hd hC.2.2.2.2.2.2.2.2.2.2.2.2.2.1 hn hl (fun ls' hl' => ?_)
  exact k p l e s m args below meth c H locs cells slots mc ms A ls' (hC.locs' hl')

theorem ev_lstore_n {f : Fin 4} {x : Int64} {L' : List (Nat × Value)} (hd : decode cc pc = .ok (.lstore_n f, 1)) (hn : (f : Nat) + 1 < nL) (hl : ((f : Nat), (.long x : Value)) :: L.filter (fun q => !(q.1 == (f : Nat)) && (!(q.1 == (f : Nat) + 1) && !(q.1 + 1 == (f : Nat) && q.2.category == 2))) = L') (k : Ev E own cc nL ret mn Q d kc ks (pc + 1) L' (st) h) : Ev E own cc nL ret mn Q d kc ks pc L (.long x :: st) h := by
  intro p l e s m args below meth c H locs cells slots mc ms A ls hC
  refine lv_lstore_n hC.1 hC.2.1 hd rfl hC.2.2.2.2.2.2.2.2.2.2.2.2.2.1 hn hl (fun ls' hl' => ?_)
  exact k p l e s m args below meth c H locs cells slots mc ms A ls' (hC.locs' hl')

theorem ev_lstore {i : Nat} {x : Int64} {L' : List (Nat × Value)} (hd : decode cc pc = .ok (.lstore i, 2)) (hn : i + 1 < nL) (hl : (i, (.long x : Value)) :: L.filter (fun q => !(q.1 == i) && (!(q.1 == i + 1) && !(q.1 + 1 == i && q.2.category == 2))) = L') (k : Ev E own cc nL ret mn Q d kc ks (pc + 2) L' (st) h) : Ev E own cc nL ret mn Q d kc ks pc L (.long x :: st) h := by
  intro p l e s m args below meth c H locs cells slots mc ms A ls hC
  refine lv_lstore hC.1 hC.2.1 hd hC.2.2.2.2.2.2.2.2.2.2.2.2.2.1 hn hl (fun ls' hl' => ?_)
  exact k p l e s m args below meth c H locs cells slots mc ms A ls' (hC.locs' hl')

theorem ev_dstore_n {f : Fin 4} {x : UInt64} {L' : List (Nat × Value)} (hd : decode cc pc = .ok (.dstore_n f, 1)) (hn : (f : Nat) + 1 < nL) (hl : ((f : Nat), (.double x : Value)) :: L.filter (fun q => !(q.1 == (f : Nat)) && (!(q.1 == (f : Nat) + 1) && !(q.1 + 1 == (f : Nat) && q.2.category == 2))) = L') (k : Ev E own cc nL ret mn Q d kc ks (pc + 1) L' (st) h) : Ev E own cc nL ret mn Q d kc ks pc L (.double x :: st) h := by
  intro p l e s m args below meth c H locs cells slots mc ms A ls hC
  refine lv_dstore_n hC.1 hC.2.1 hd rfl hC.2.2.2.2.2.2.2.2.2.2.2.2.2.1 hn hl (fun ls' hl' => ?_)
  exact k p l e s m args below meth c H locs cells slots mc ms A ls' (hC.locs' hl')

theorem ev_dstore {i : Nat} {x : UInt64} {L' : List (Nat × Value)} (hd : decode cc pc = .ok (.dstore i, 2)) (hn : i + 1 < nL) (hl : (i, (.double x : Value)) :: L.filter (fun q => !(q.1 == i) && (!(q.1 == i + 1) && !(q.1 + 1 == i && q.2.category == 2))) = L') (k : Ev E own cc nL ret mn Q d kc ks (pc + 2) L' (st) h) : Ev E own cc nL ret mn Q d kc ks pc L (.double x :: st) h := by
  intro p l e s m args below meth c H locs cells slots mc ms A ls hC
  refine lv_dstore hC.1 hC.2.1 hd hC.2.2.2.2.2.2.2.2.2.2.2.2.2.1 hn hl (fun ls' hl' => ?_)
  exact k p l e s m args below meth c H locs cells slots mc ms A ls' (hC.locs' hl')

theorem ev_astore_n {f : Fin 4} {x : Nat} {L' : List (Nat × Value)} (hd : decode cc pc = .ok (.astore_n f, 1)) (hn : (f : Nat) < nL) (hl : ((f : Nat), (.ref x : Value)) :: L.filter (fun q => !(q.1 == (f : Nat)) && !(q.1 + 1 == (f : Nat) && q.2.category == 2)) = L') (k : Ev E own cc nL ret mn Q d kc ks (pc + 1) L' (st) h) : Ev E own cc nL ret mn Q d kc ks pc L (.ref x :: st) h := by
  intro p l e s m args below meth c H locs cells slots mc ms A ls hC
  refine lv_astore_n hC.1 hC.2.1 hd rfl hC.2.2.2.2.2.2.2.2.2.2.2.2.2.1 hn hl (fun ls' hl' => ?_)
  exact k p l e s m args below meth c H locs cells slots mc ms A ls' (hC.locs' hl')

theorem ev_astore {i : Nat} {x : Nat} {L' : List (Nat × Value)} (hd : decode cc pc = .ok (.astore i, 2)) (hn : i < nL) (hl : (i, (.ref x : Value)) :: L.filter (fun q => !(q.1 == i) && !(q.1 + 1 == i && q.2.category == 2)) = L') (k : Ev E own cc nL ret mn Q d kc ks (pc + 2) L' (st) h) : Ev E own cc nL ret mn Q d kc ks pc L (.ref x :: st) h := by
  intro p l e s m args below meth c H locs cells slots mc ms A ls hC
  refine lv_astore hC.1 hC.2.1 hd hC.2.2.2.2.2.2.2.2.2.2.2.2.2.1 hn hl (fun ls' hl' => ?_)
  exact k p l e s m args below meth c H locs cells slots mc ms A ls' (hC.locs' hl')

theorem ev_astore_nN {f : Fin 4}  {L' : List (Nat × Value)} (hd : decode cc pc = .ok (.astore_n f, 1)) (hn : (f : Nat) < nL) (hl : ((f : Nat), (.null : Value)) :: L.filter (fun q => !(q.1 == (f : Nat)) && !(q.1 + 1 == (f : Nat) && q.2.category == 2)) = L') (k : Ev E own cc nL ret mn Q d kc ks (pc + 1) L' (st) h) : Ev E own cc nL ret mn Q d kc ks pc L (.null :: st) h := by
  intro p l e s m args below meth c H locs cells slots mc ms A ls hC
  refine lv_astore_nN hC.1 hC.2.1 hd rfl hC.2.2.2.2.2.2.2.2.2.2.2.2.2.1 hn hl (fun ls' hl' => ?_)
  exact k p l e s m args below meth c H locs cells slots mc ms A ls' (hC.locs' hl')

theorem ev_astoreN {i : Nat}  {L' : List (Nat × Value)} (hd : decode cc pc = .ok (.astore i, 2)) (hn : i < nL) (hl : (i, (.null : Value)) :: L.filter (fun q => !(q.1 == i) && !(q.1 + 1 == i && q.2.category == 2)) = L') (k : Ev E own cc nL ret mn Q d kc ks (pc + 2) L' (st) h) : Ev E own cc nL ret mn Q d kc ks pc L (.null :: st) h := by
  intro p l e s m args below meth c H locs cells slots mc ms A ls hC
  refine lv_astoreN hC.1 hC.2.1 hd hC.2.2.2.2.2.2.2.2.2.2.2.2.2.1 hn hl (fun ls' hl' => ?_)
  exact k p l e s m args below meth c H locs cells slots mc ms A ls' (hC.locs' hl')

theorem ev_iinc {i : Nat} {n a : Int} {L' : List (Nat × Value)} (j : Nat) (hj : L[j]? = some (i, vI a)) (hd : decode cc pc = .ok (.iinc i n, 3)) (hn : i < nL) (hl : (i, vI (a + n)) :: L.filter (fun q => !(q.1 == i) && !(q.1 + 1 == i && q.2.category == 2)) = L') (k : Ev E own cc nL ret mn Q d kc ks (pc + 3) L' (st) h) : Ev E own cc nL ret mn Q d kc ks pc L (st) h := by
  intro p l e s m args below meth c H locs cells slots mc ms A ls hC
  refine lv_iinc (v := iI (a + n)) hC.1 hC.2.1 hd hC.2.2.2.2.2.2.2.2.2.2.2.2.2.1 (k := j) hj (iI_add a n) hn hl (fun ls' hl' => ?_)
  exact k p l e s m args below meth c H locs cells slots mc ms A ls' (hC.locs' hl')

theorem ev_iadd {a b : Int} (hd : decode cc pc = .ok (.iadd, 1)) (k : Ev E own cc nL ret mn Q d kc ks (pc + 1) L (vI (a + b) :: st) h) : Ev E own cc nL ret mn Q d kc ks pc L (vI b :: vI a :: st) h := by
  intro p l e s m args below meth c H locs cells slots mc ms A ls hC
  refine lv_iadd hC.1 hC.2.1 hd  ?_
  rw [iI_add]
  exact k p l e s m args below meth c H locs cells slots mc ms A ls hC

theorem ev_isub {a b : Int} (hd : decode cc pc = .ok (.isub, 1)) (k : Ev E own cc nL ret mn Q d kc ks (pc + 1) L (vI (a - b) :: st) h) : Ev E own cc nL ret mn Q d kc ks pc L (vI b :: vI a :: st) h := by
  intro p l e s m args below meth c H locs cells slots mc ms A ls hC
  refine lv_isub hC.1 hC.2.1 hd  ?_
  rw [iI_sub]
  exact k p l e s m args below meth c H locs cells slots mc ms A ls hC

theorem ev_imul {a b : Int} (hd : decode cc pc = .ok (.imul, 1)) (k : Ev E own cc nL ret mn Q d kc ks (pc + 1) L (vI (a * b) :: st) h) : Ev E own cc nL ret mn Q d kc ks pc L (vI b :: vI a :: st) h := by
  intro p l e s m args below meth c H locs cells slots mc ms A ls hC
  refine lv_imul hC.1 hC.2.1 hd  ?_
  rw [iI_mul]
  exact k p l e s m args below meth c H locs cells slots mc ms A ls hC

theorem ev_ineg {a : Int} (hd : decode cc pc = .ok (.ineg, 1)) (k : Ev E own cc nL ret mn Q d kc ks (pc + 1) L (vI (-a) :: st) h) : Ev E own cc nL ret mn Q d kc ks pc L (vI a :: st) h := by
  intro p l e s m args below meth c H locs cells slots mc ms A ls hC
  refine lv_ineg hC.1 hC.2.1 hd  ?_
  rw [iI_neg]
  exact k p l e s m args below meth c H locs cells slots mc ms A ls hC

theorem ev_ladd {a b : Int} (hd : decode cc pc = .ok (.ladd, 1)) (k : Ev E own cc nL ret mn Q d kc ks (pc + 1) L (vL (a + b) :: st) h) : Ev E own cc nL ret mn Q d kc ks pc L (vL b :: vL a :: st) h := by
  intro p l e s m args below meth c H locs cells slots mc ms A ls hC
  refine lv_ladd hC.1 hC.2.1 hd  ?_
  rw [lI_add]
  exact k p l e s m args below meth c H locs cells slots mc ms A ls hC

theorem ev_lsub {a b : Int} (hd : decode cc pc = .ok (.lsub, 1)) (k : Ev E own cc nL ret mn Q d kc ks (pc + 1) L (vL (a - b) :: st) h) : Ev E own cc nL ret mn Q d kc ks pc L (vL b :: vL a :: st) h := by
  intro p l e s m args below meth c H locs cells slots mc ms A ls hC
  refine lv_lsub hC.1 hC.2.1 hd  ?_
  rw [lI_sub]
  exact k p l e s m args below meth c H locs cells slots mc ms A ls hC

theorem ev_lmul {a b : Int} (hd : decode cc pc = .ok (.lmul, 1)) (k : Ev E own cc nL ret mn Q d kc ks (pc + 1) L (vL (a * b) :: st) h) : Ev E own cc nL ret mn Q d kc ks pc L (vL b :: vL a :: st) h := by
  intro p l e s m args below meth c H locs cells slots mc ms A ls hC
  refine lv_lmul hC.1 hC.2.1 hd  ?_
  rw [lI_mul]
  exact k p l e s m args below meth c H locs cells slots mc ms A ls hC

def andZ (a b : Int) : Int := (iI a &&& iI b).toInt
def orZ (a b : Int) : Int := (iI a ||| iI b).toInt
def xorZ (a b : Int) : Int := (iI a ^^^ iI b).toInt
def shlZ (a b : Int) : Int := (iI a <<< (iI b &&& 31)).toInt
def shrZ (a b : Int) : Int := (iI a >>> (iI b &&& 31)).toInt
def i2sZ (a : Int) : Int := (iI a).toInt16.toInt32.toInt
def d2iZ (x : UInt64) : Int := (FP.d2i x).toInt
def updZ (f : Int → Int) (z w : Int) : Int → Int := fun j => if j = z then w else f j
def updR (f : Int → Option Nat) (z : Int) (w : Option Nat) : Int → Option Nat := fun j => if j = z then w else f j

theorem ev_iand {a b : Int} (hd : decode cc pc = .ok (.iand, 1)) (k : Ev E own cc nL ret mn Q d kc ks (pc + 1) L (vI (andZ a b) :: st) h) : Ev E own cc nL ret mn Q d kc ks pc L (vI b :: vI a :: st) h := by
  intro p l e s m args below meth c H locs cells slots mc ms A ls hC
  refine lv_iand hC.1 hC.2.1 hd ?_
  have k2 := k p l e s m args below meth c H locs cells slots mc ms A ls hC
  dsimp only [andZ, vI] at k2
  rw [iI_of] at k2
  exact k2

theorem ev_ior {a b : Int} (hd : decode cc pc = .ok (.ior, 1)) (k : Ev E own cc nL ret mn Q d kc ks (pc + 1) L (vI (orZ a b) :: st) h) : Ev E own cc nL ret mn Q d kc ks pc L (vI b :: vI a :: st) h := by
  intro p l e s m args below meth c H locs cells slots mc ms A ls hC
  refine lv_ior hC.1 hC.2.1 hd ?_
  have k2 := k p l e s m args below meth c H locs cells slots mc ms A ls hC
  dsimp only [orZ, vI] at k2
  rw [iI_of] at k2
  exact k2

theorem ev_ixor {a b : Int} (hd : decode cc pc = .ok (.ixor, 1)) (k : Ev E own cc nL ret mn Q d kc ks (pc + 1) L (vI (xorZ a b) :: st) h) : Ev E own cc nL ret mn Q d kc ks pc L (vI b :: vI a :: st) h := by
  intro p l e s m args below meth c H locs cells slots mc ms A ls hC
  refine lv_ixor hC.1 hC.2.1 hd ?_
  have k2 := k p l e s m args below meth c H locs cells slots mc ms A ls hC
  dsimp only [xorZ, vI] at k2
  rw [iI_of] at k2
  exact k2

theorem ev_ishl {a b : Int} (hd : decode cc pc = .ok (.ishl, 1)) (k : Ev E own cc nL ret mn Q d kc ks (pc + 1) L (vI (shlZ a b) :: st) h) : Ev E own cc nL ret mn Q d kc ks pc L (vI b :: vI a :: st) h := by
  intro p l e s m args below meth c H locs cells slots mc ms A ls hC
  refine lv_ishl hC.1 hC.2.1 hd ?_
  have k2 := k p l e s m args below meth c H locs cells slots mc ms A ls hC
  dsimp only [shlZ, vI] at k2
  rw [iI_of] at k2
  exact k2

theorem ev_ishr {a b : Int} (hd : decode cc pc = .ok (.ishr, 1)) (k : Ev E own cc nL ret mn Q d kc ks (pc + 1) L (vI (shrZ a b) :: st) h) : Ev E own cc nL ret mn Q d kc ks pc L (vI b :: vI a :: st) h := by
  intro p l e s m args below meth c H locs cells slots mc ms A ls hC
  refine lv_ishr hC.1 hC.2.1 hd ?_
  have k2 := k p l e s m args below meth c H locs cells slots mc ms A ls hC
  dsimp only [shrZ, vI] at k2
  rw [iI_of] at k2
  exact k2

theorem ev_idiv {a b : Int} (hd : decode cc pc = .ok (.idiv, 1)) (ha : InR a) (hb : InR b) (h0 : b ≠ 0) (hr : InR (a.tdiv b)) (k : Ev E own cc nL ret mn Q d kc ks (pc + 1) L (vI (a.tdiv b) :: st) h) : Ev E own cc nL ret mn Q d kc ks pc L (vI b :: vI a :: st) h := by
  intro p l e s m args below meth c H locs cells slots mc ms A ls hC
  refine lv_idiv hC.1 hC.2.1 hd (fun z => h0 ((iI_eq hb (by decide)).mp z)) ?_
  rw [iI_div ha hb hr]
  exact k p l e s m args below meth c H locs cells slots mc ms A ls hC

theorem ev_ldiv {a b : Int} (hd : decode cc pc = .ok (.ldiv, 1)) (ha : InL a) (hb : InL b) (h0 : b ≠ 0) (hr : InL (a.tdiv b)) (k : Ev E own cc nL ret mn Q d kc ks (pc + 1) L (vL (a.tdiv b) :: st) h) : Ev E own cc nL ret mn Q d kc ks pc L (vL b :: vL a :: st) h := by
  intro p l e s m args below meth c H locs cells slots mc ms A ls hC
  refine lv_ldiv hC.1 hC.2.1 hd (fun z => h0 ((lI_eq hb (by decide)).mp z)) ?_
  rw [lI_div ha hb hr]
  exact k p l e s m args below meth c H locs cells slots mc ms A ls hC

theorem ev_irem {a b : Int} (hd : decode cc pc = .ok (.irem, 1)) (ha : InR a) (hb : InR b) (h0 : b ≠ 0) (hr : InR (a.tdiv b)) (k : Ev E own cc nL ret mn Q d kc ks (pc + 1) L (vI (a.tmod b) :: st) h) : Ev E own cc nL ret mn Q d kc ks pc L (vI b :: vI a :: st) h := by
  intro p l e s m args below meth c H locs cells slots mc ms A ls hC
  refine lv_irem hC.1 hC.2.1 hd (fun z => h0 ((iI_eq hb (by decide)).mp z)) ?_
  have e1 : a.tmod b = a - a.tdiv b * b := by have := Int.tdiv_mul_add_tmod a b; omega
  rw [iI_div ha hb hr, iI_mul, iI_sub, ← e1]
  exact k p l e s m args below meth c H locs cells slots mc ms A ls hC

theorem ev_i2l {a : Int} (hd : decode cc pc = .ok (.i2l, 1)) (ha : InR a) (k : Ev E own cc nL ret mn Q d kc ks (pc + 1) L (vL a :: st) h) : Ev E own cc nL ret mn Q d kc ks pc L (vI a :: st) h := by
  intro p l e s m args below meth c H locs cells slots mc ms A ls hC
  refine lv_i2l hC.1 hC.2.1 hd (iI_l ha) ?_
  exact k p l e s m args below meth c H locs cells slots mc ms A ls hC

theorem ev_l2i {a : Int} (hd : decode cc pc = .ok (.l2i, 1)) (k : Ev E own cc nL ret mn Q d kc ks (pc + 1) L (vI a :: st) h) : Ev E own cc nL ret mn Q d kc ks pc L (vL a :: st) h := by
  intro p l e s m args below meth c H locs cells slots mc ms A ls hC
  refine lv_l2i hC.1 hC.2.1 hd (lI_i a) ?_
  exact k p l e s m args below meth c H locs cells slots mc ms A ls hC

theorem ev_i2s {a : Int} (hd : decode cc pc = .ok (.i2s, 1)) (k : Ev E own cc nL ret mn Q d kc ks (pc + 1) L (vI (i2sZ a) :: st) h) : Ev E own cc nL ret mn Q d kc ks pc L (vI a :: st) h := by
  intro p l e s m args below meth c H locs cells slots mc ms A ls hC
  refine lv_i2s hC.1 hC.2.1 hd (iI_of _).symm ?_
  exact k p l e s m args below meth c H locs cells slots mc ms A ls hC

theorem ev_dadd {x y : UInt64} (hd : decode cc pc = .ok (.dadd, 1)) (hn : vf_n64 (FP.dadd x y)) (k : Ev E own cc nL ret mn Q d kc ks (pc + 1) L (.double (FP.dadd x y) :: st) h) : Ev E own cc nL ret mn Q d kc ks pc L (.double y :: .double x :: st) h := by
  intro p l e s m args below meth c H locs cells slots mc ms A ls hC
  refine lv_dadd hC.1 hC.2.1 hd hn ?_
  exact k p l e s m args below meth c H locs cells slots mc ms A ls hC

theorem ev_dsub {x y : UInt64} (hd : decode cc pc = .ok (.dsub, 1)) (hn : vf_n64 (FP.dsub x y)) (k : Ev E own cc nL ret mn Q d kc ks (pc + 1) L (.double (FP.dsub x y) :: st) h) : Ev E own cc nL ret mn Q d kc ks pc L (.double y :: .double x :: st) h := by
  intro p l e s m args below meth c H locs cells slots mc ms A ls hC
  refine lv_dsub hC.1 hC.2.1 hd hn ?_
  exact k p l e s m args below meth c H locs cells slots mc ms A ls hC

theorem ev_dmul {x y : UInt64} (hd : decode cc pc = .ok (.dmul, 1)) (hn : vf_n64 (FP.dmul x y)) (k : Ev E own cc nL ret mn Q d kc ks (pc + 1) L (.double (FP.dmul x y) :: st) h) : Ev E own cc nL ret mn Q d kc ks pc L (.double y :: .double x :: st) h := by
  intro p l e s m args below meth c H locs cells slots mc ms A ls hC
  refine lv_dmul hC.1 hC.2.1 hd hn ?_
  exact k p l e s m args below meth c H locs cells slots mc ms A ls hC

theorem ev_ddiv {x y : UInt64} (hd : decode cc pc = .ok (.ddiv, 1)) (hn : vf_n64 (FP.ddiv x y)) (k : Ev E own cc nL ret mn Q d kc ks (pc + 1) L (.double (FP.ddiv x y) :: st) h) : Ev E own cc nL ret mn Q d kc ks pc L (.double y :: .double x :: st) h := by
  intro p l e s m args below meth c H locs cells slots mc ms A ls hC
  refine lv_ddiv hC.1 hC.2.1 hd hn ?_
  exact k p l e s m args below meth c H locs cells slots mc ms A ls hC

theorem ev_i2d {a : Int} (hd : decode cc pc = .ok (.i2d, 1)) (k : Ev E own cc nL ret mn Q d kc ks (pc + 1) L (.double (FP.i2d (iI a)) :: st) h) : Ev E own cc nL ret mn Q d kc ks pc L (vI a :: st) h := by
  intro p l e s m args below meth c H locs cells slots mc ms A ls hC
  refine lv_i2d hC.1 hC.2.1 hd  ?_
  exact k p l e s m args below meth c H locs cells slots mc ms A ls hC

theorem ev_d2i {x : UInt64} (hd : decode cc pc = .ok (.d2i, 1)) (k : Ev E own cc nL ret mn Q d kc ks (pc + 1) L (vI (d2iZ x) :: st) h) : Ev E own cc nL ret mn Q d kc ks pc L (.double x :: st) h := by
  intro p l e s m args below meth c H locs cells slots mc ms A ls hC
  refine lv_d2i hC.1 hC.2.1 hd ?_
  have k2 := k p l e s m args below meth c H locs cells slots mc ms A ls hC
  dsimp only [d2iZ, vI] at k2
  rw [iI_of] at k2
  exact k2

theorem ev_dup {v : Value} (hd : decode cc pc = .ok (.dup, 1)) (hv : v.category = 1) (k : Ev E own cc nL ret mn Q d kc ks (pc + 1) L (v :: v :: st) h) : Ev E own cc nL ret mn Q d kc ks pc L (v :: st) h := by
  intro p l e s m args below meth c H locs cells slots mc ms A ls hC
  refine lv_dup hC.1 hC.2.1 hd hv ?_
  exact k p l e s m args below meth c H locs cells slots mc ms A ls hC

theorem ev_pop {v : Value} (hd : decode cc pc = .ok (.pop, 1)) (hv : v.category = 1) (k : Ev E own cc nL ret mn Q d kc ks (pc + 1) L (st) h) : Ev E own cc nL ret mn Q d kc ks pc L (v :: st) h := by
  intro p l e s m args below meth c H locs cells slots mc ms A ls hC
  refine lv_pop hC.1 hC.2.1 hd hv ?_
  exact k p l e s m args below meth c H locs cells slots mc ms A ls hC

theorem ev_dup2 {v w : Value} (hd : decode cc pc = .ok (.dup2, 1)) (hv : v.category = 1) (hw : w.category = 1) (k : Ev E own cc nL ret mn Q d kc ks (pc + 1) L (v :: w :: v :: w :: st) h) : Ev E own cc nL ret mn Q d kc ks pc L (v :: w :: st) h := by
  intro p l e s m args below meth c H locs cells slots mc ms A ls hC
  refine lv_dup2_11 hC.1 hC.2.1 hd hv hw ?_
  exact k p l e s m args below meth c H locs cells slots mc ms A ls hC

theorem ev_if_eq {off : Int} {tgt : Nat} {a : Int} (hd : decode cc pc = .ok (.ifCond .eq off, 3)) (ha : InR a) (ht : (pc : Int) + off = (tgt : Int)) (kt : a = 0 → Ev E own cc nL ret mn Q d kc ks tgt L st h) (kf : ¬ (a = 0) → Ev E own cc nL ret mn Q d kc ks (pc + 3) L st h) : Ev E own cc nL ret mn Q d kc ks pc L (vI a :: st) h := by
  intro p l e s m args below meth c H locs cells slots mc ms A ls hC
  have e1 := (iI_eq ha (by decide) : _ ↔ a = 0)
  exact lv_if_eq hC.1 hC.2.1 hd ht (fun z => kt (e1.mp z) p l e s m args below meth c H locs cells slots mc ms A ls hC) (fun z => kf (fun y => z (e1.mpr y)) p l e s m args below meth c H locs cells slots mc ms A ls hC)

theorem ev_if_ne {off : Int} {tgt : Nat} {a : Int} (hd : decode cc pc = .ok (.ifCond .ne off, 3)) (ha : InR a) (ht : (pc : Int) + off = (tgt : Int)) (kt : a ≠ 0 → Ev E own cc nL ret mn Q d kc ks tgt L st h) (kf : a = 0 → Ev E own cc nL ret mn Q d kc ks (pc + 3) L st h) : Ev E own cc nL ret mn Q d kc ks pc L (vI a :: st) h := by
  intro p l e s m args below meth c H locs cells slots mc ms A ls hC
  have e1 := (not_congr (iI_eq ha (by decide)) : _ ↔ a ≠ 0)
  exact lv_if_ne hC.1 hC.2.1 hd ht (fun z => kt (e1.mp z) p l e s m args below meth c H locs cells slots mc ms A ls hC) (fun z => kf ((iI_eq ha (by decide)).mp z) p l e s m args below meth c H locs cells slots mc ms A ls hC)

theorem ev_if_lt {off : Int} {tgt : Nat} {a : Int} (hd : decode cc pc = .ok (.ifCond .lt off, 3)) (ha : InR a) (ht : (pc : Int) + off = (tgt : Int)) (kt : a < 0 → Ev E own cc nL ret mn Q d kc ks tgt L st h) (kf : ¬ (a < 0) → Ev E own cc nL ret mn Q d kc ks (pc + 3) L st h) : Ev E own cc nL ret mn Q d kc ks pc L (vI a :: st) h := by
  intro p l e s m args below meth c H locs cells slots mc ms A ls hC
  have e1 := (iI_lt ha (by decide) : _ ↔ a < 0)
  exact lv_if_lt hC.1 hC.2.1 hd ht (fun z => kt (e1.mp z) p l e s m args below meth c H locs cells slots mc ms A ls hC) (fun z => kf (fun y => z (e1.mpr y)) p l e s m args below meth c H locs cells slots mc ms A ls hC)

theorem ev_if_ge {off : Int} {tgt : Nat} {a : Int} (hd : decode cc pc = .ok (.ifCond .ge off, 3)) (ha : InR a) (ht : (pc : Int) + off = (tgt : Int)) (kt : 0 ≤ a → Ev E own cc nL ret mn Q d kc ks tgt L st h) (kf : ¬ (0 ≤ a) → Ev E own cc nL ret mn Q d kc ks (pc + 3) L st h) : Ev E own cc nL ret mn Q d kc ks pc L (vI a :: st) h := by
  intro p l e s m args below meth c H locs cells slots mc ms A ls hC
  have e1 := (iI_le (by decide) ha : _ ↔ 0 ≤ a)
  exact lv_if_ge hC.1 hC.2.1 hd ht (fun z => kt (e1.mp z) p l e s m args below meth c H locs cells slots mc ms A ls hC) (fun z => kf (fun y => z (e1.mpr y)) p l e s m args below meth c H locs cells slots mc ms A ls hC)

theorem ev_if_gt {off : Int} {tgt : Nat} {a : Int} (hd : decode cc pc = .ok (.ifCond .gt off, 3)) (ha : InR a) (ht : (pc : Int) + off = (tgt : Int)) (kt : 0 < a → Ev E own cc nL ret mn Q d kc ks tgt L st h) (kf : ¬ (0 < a) → Ev E own cc nL ret mn Q d kc ks (pc + 3) L st h) : Ev E own cc nL ret mn Q d kc ks pc L (vI a :: st) h := by
  intro p l e s m args below meth c H locs cells slots mc ms A ls hC
  have e1 := (iI_lt (by decide) ha : _ ↔ 0 < a)
  exact lv_if_gt hC.1 hC.2.1 hd ht (fun z => kt (e1.mp z) p l e s m args below meth c H locs cells slots mc ms A ls hC) (fun z => kf (fun y => z (e1.mpr y)) p l e s m args below meth c H locs cells slots mc ms A ls hC)

theorem ev_if_le {off : Int} {tgt : Nat} {a : Int} (hd : decode cc pc = .ok (.ifCond .le off, 3)) (ha : InR a) (ht : (pc : Int) + off = (tgt : Int)) (kt : a ≤ 0 → Ev E own cc nL ret mn Q d kc ks tgt L st h) (kf : ¬ (a ≤ 0) → Ev E own cc nL ret mn Q d kc ks (pc + 3) L st h) : Ev E own cc nL ret mn Q d kc ks pc L (vI a :: st) h := by
  intro p l e s m args below meth c H locs cells slots mc ms A ls hC
  have e1 := (iI_le ha (by decide) : _ ↔ a ≤ 0)
  exact lv_if_le hC.1 hC.2.1 hd ht (fun z => kt (e1.mp z) p l e s m args below meth c H locs cells slots mc ms A ls hC) (fun z => kf (fun y => z (e1.mpr y)) p l e s m args below meth c H locs cells slots mc ms A ls hC)

theorem ev_icmp_eq {off : Int} {tgt : Nat} {a b : Int} (hd : decode cc pc = .ok (.if_icmp .eq off, 3)) (ha : InR a) (hb : InR b) (ht : (pc : Int) + off = (tgt : Int)) (kt : a = b → Ev E own cc nL ret mn Q d kc ks tgt L st h) (kf : ¬ (a = b) → Ev E own cc nL ret mn Q d kc ks (pc + 3) L st h) : Ev E own cc nL ret mn Q d kc ks pc L (vI b :: vI a :: st) h := by
  intro p l e s m args below meth c H locs cells slots mc ms A ls hC
  have e1 := (iI_eq ha hb : _ ↔ a = b)
  exact lv_icmp_eq hC.1 hC.2.1 hd ht (fun z => kt (e1.mp z) p l e s m args below meth c H locs cells slots mc ms A ls hC) (fun z => kf (fun y => z (e1.mpr y)) p l e s m args below meth c H locs cells slots mc ms A ls hC)

theorem ev_icmp_ne {off : Int} {tgt : Nat} {a b : Int} (hd : decode cc pc = .ok (.if_icmp .ne off, 3)) (ha : InR a) (hb : InR b) (ht : (pc : Int) + off = (tgt : Int)) (kt : a ≠ b → Ev E own cc nL ret mn Q d kc ks tgt L st h) (kf : a = b → Ev E own cc nL ret mn Q d kc ks (pc + 3) L st h) : Ev E own cc nL ret mn Q d kc ks pc L (vI b :: vI a :: st) h := by
  intro p l e s m args below meth c H locs cells slots mc ms A ls hC
  have e1 := (not_congr (iI_eq ha hb) : _ ↔ a ≠ b)
  exact lv_icmp_ne hC.1 hC.2.1 hd ht (fun z => kt (e1.mp z) p l e s m args below meth c H locs cells slots mc ms A ls hC) (fun z => kf ((iI_eq ha hb).mp z) p l e s m args below meth c H locs cells slots mc ms A ls hC)

theorem ev_icmp_lt {off : Int} {tgt : Nat} {a b : Int} (hd : decode cc pc = .ok (.if_icmp .lt off, 3)) (ha : InR a) (hb : InR b) (ht : (pc : Int) + off = (tgt : Int)) (kt : a < b → Ev E own cc nL ret mn Q d kc ks tgt L st h) (kf : ¬ (a < b) → Ev E own cc nL ret mn Q d kc ks (pc + 3) L st h) : Ev E own cc nL ret mn Q d kc ks pc L (vI b :: vI a :: st) h := by
  intro p l e s m args below meth c H locs cells slots mc ms A ls hC
  have e1 := (iI_lt ha hb : _ ↔ a < b)
  exact lv_icmp_lt hC.1 hC.2.1 hd ht (fun z => kt (e1.mp z) p l e s m args below meth c H locs cells slots mc ms A ls hC) (fun z => kf (fun y => z (e1.mpr y)) p l e s m args below meth c H locs cells slots mc ms A ls hC)

theorem ev_icmp_ge {off : Int} {tgt : Nat} {a b : Int} (hd : decode cc pc = .ok (.if_icmp .ge off, 3)) (ha : InR a) (hb : InR b) (ht : (pc : Int) + off = (tgt : Int)) (kt : b ≤ a → Ev E own cc nL ret mn Q d kc ks tgt L st h) (kf : ¬ (b ≤ a) → Ev E own cc nL ret mn Q d kc ks (pc + 3) L st h) : Ev E own cc nL ret mn Q d kc ks pc L (vI b :: vI a :: st) h := by
  intro p l e s m args below meth c H locs cells slots mc ms A ls hC
  have e1 := (iI_le hb ha : _ ↔ b ≤ a)
  exact lv_icmp_ge hC.1 hC.2.1 hd ht (fun z => kt (e1.mp z) p l e s m args below meth c H locs cells slots mc ms A ls hC) (fun z => kf (fun y => z (e1.mpr y)) p l e s m args below meth c H locs cells slots mc ms A ls hC)

theorem ev_icmp_gt {off : Int} {tgt : Nat} {a b : Int} (hd : decode cc pc = .ok (.if_icmp .gt off, 3)) (ha : InR a) (hb : InR b) (ht : (pc : Int) + off = (tgt : Int)) (kt : b < a → Ev E own cc nL ret mn Q d kc ks tgt L st h) (kf : ¬ (b < a) → Ev E own cc nL ret mn Q d kc ks (pc + 3) L st h) : Ev E own cc nL ret mn Q d kc ks pc L (vI b :: vI a :: st) h := by
  intro p l e s m args below meth c H locs cells slots mc ms A ls hC
  have e1 := (iI_lt hb ha : _ ↔ b < a)
  exact lv_icmp_gt hC.1 hC.2.1 hd ht (fun z => kt (e1.mp z) p l e s m args below meth c H locs cells slots mc ms A ls hC) (fun z => kf (fun y => z (e1.mpr y)) p l e s m args below meth c H locs cells slots mc ms A ls hC)

theorem ev_icmp_le {off : Int} {tgt : Nat} {a b : Int} (hd : decode cc pc = .ok (.if_icmp .le off, 3)) (ha : InR a) (hb : InR b) (ht : (pc : Int) + off = (tgt : Int)) (kt : a ≤ b → Ev E own cc nL ret mn Q d kc ks tgt L st h) (kf : ¬ (a ≤ b) → Ev E own cc nL ret mn Q d kc ks (pc + 3) L st h) : Ev E own cc nL ret mn Q d kc ks pc L (vI b :: vI a :: st) h := by
  intro p l e s m args below meth c H locs cells slots mc ms A ls hC
  have e1 := (iI_le ha hb : _ ↔ a ≤ b)
  exact lv_icmp_le hC.1 hC.2.1 hd ht (fun z => kt (e1.mp z) p l e s m args below meth c H locs cells slots mc ms A ls hC) (fun z => kf (fun y => z (e1.mpr y)) p l e s m args below meth c H locs cells slots mc ms A ls hC)

theorem ev_goto {off : Int} {tgt : Nat} (hd : decode cc pc = .ok (.goto off, 3)) (ht : (pc : Int) + off = (tgt : Int)) (k : Ev E own cc nL ret mn Q d kc ks tgt L st h) : Ev E own cc nL ret mn Q d kc ks pc L st h := by
  intro p l e s m args below meth c H locs cells slots mc ms A ls hC
  exact lv_goto hC.1 hC.2.1 hd ht (k p l e s m args below meth c H locs cells slots mc ms A ls hC)
theorem ev_ifnull {off : Int} {x : Nat} (hd : decode cc pc = .ok (.ifnull off, 3)) (k : Ev E own cc nL ret mn Q d kc ks (pc + 3) L st h) : Ev E own cc nL ret mn Q d kc ks pc L (.ref x :: st) h := by
  intro p l e s m args below meth c H locs cells slots mc ms A ls hC
  exact lv_ifnull hC.1 hC.2.1 hd (k p l e s m args below meth c H locs cells slots mc ms A ls hC)
theorem ev_ifnullN {off : Int} {tgt : Nat} (hd : decode cc pc = .ok (.ifnull off, 3)) (ht : (pc : Int) + off = (tgt : Int)) (k : Ev E own cc nL ret mn Q d kc ks tgt L st h) : Ev E own cc nL ret mn Q d kc ks pc L (.null :: st) h := by
  intro p l e s m args below meth c H locs cells slots mc ms A ls hC
  exact lv_ifnullN hC.1 hC.2.1 hd ht (k p l e s m args below meth c H locs cells slots mc ms A ls hC)
theorem ev_ifnonnull {off : Int} {tgt x : Nat} (hd : decode cc pc = .ok (.ifnonnull off, 3)) (ht : (pc : Int) + off = (tgt : Int)) (k : Ev E own cc nL ret mn Q d kc ks tgt L st h) : Ev E own cc nL ret mn Q d kc ks pc L (.ref x :: st) h := by
  intro p l e s m args below meth c H locs cells slots mc ms A ls hC
  exact lv_ifnonnull hC.1 hC.2.1 hd ht (k p l e s m args below meth c H locs cells slots mc ms A ls hC)
theorem ev_ifnonnullN {off : Int} (hd : decode cc pc = .ok (.ifnonnull off, 3)) (k : Ev E own cc nL ret mn Q d kc ks (pc + 3) L st h) : Ev E own cc nL ret mn Q d kc ks pc L (.null :: st) h := by
  intro p l e s m args below meth c H locs cells slots mc ms A ls hC
  exact lv_ifnonnullN hC.1 hC.2.1 hd (k p l e s m args below meth c H locs cells slots mc ms A ls hC)

theorem lcmp_val {a b : Int} (ha : InL a) (hb : InL b) : (lg_cmp (lI a) (lI b)).toInt = if a < b then -1 else if a = b then 0 else 1 := by
  have c2 := lI_lt hb ha
  have c3 := lI_eq ha hb
  unfold lg_cmp
  by_cases q1 : a < b
  · rw [if_neg (fun z => by have := c2.mp z; omega), if_neg (fun z => by have := c3.mp z; omega), if_pos q1]; rfl
  · by_cases q2 : a = b
    · rw [if_neg (fun z => by have := c2.mp z; omega), if_pos (c3.mpr q2), if_neg q1, if_pos q2]; rfl
    · rw [if_pos (c2.mpr (by omega)), if_neg q1, if_neg q2]; rfl

theorem ev_lcmp_eq {off : Int} {tgt : Nat} {a b : Int} (hd : decode cc pc = .ok (.lcmp, 1)) (hd2 : decode cc (pc + 1) = .ok (.ifCond .eq off, 3)) (ha : InL a) (hb : InL b) (ht : ((pc + 1 : Nat) : Int) + off = (tgt : Int)) (kt : a = b → Ev E own cc nL ret mn Q d kc ks tgt L st h) (kf : ¬ (a = b) → Ev E own cc nL ret mn Q d kc ks (pc + 4) L st h) : Ev E own cc nL ret mn Q d kc ks pc L (vL b :: vL a :: st) h := by
  intro p l e s m args below meth c H locs cells slots mc ms A ls hC
  refine W.lcmp hC.1 hC.2.1 hd ?_
  have e1 := lcmp_val ha hb
  have e2 := iI_of (lg_cmp (lI a) (lI b))
  rw [e1] at e2
  rw [← e2]
  refine (ev_if_eq (E := E) (own := own) (nL := nL) (ret := ret) (mn := mn) (Q := Q) (d := d) (kc := kc) (ks := ks) (L := L) (st := st) (h := h) hd2 ?_ ht (fun z => kt ?_) (fun z => kf ?_)) p l e s m args below meth c H locs cells slots mc ms A ls hC
  · unfold InR; split <;> first | omega | (split <;> omega)
  · revert z; split <;> first | omega | (split <;> omega)
  · revert z; split <;> first | omega | (split <;> omega)

theorem ev_lcmp_ne {off : Int} {tgt : Nat} {a b : Int} (hd : decode cc pc = .ok (.lcmp, 1)) (hd2 : decode cc (pc + 1) = .ok (.ifCond .ne off, 3)) (ha : InL a) (hb : InL b) (ht : ((pc + 1 : Nat) : Int) + off = (tgt : Int)) (kt : a ≠ b → Ev E own cc nL ret mn Q d kc ks tgt L st h) (kf : a = b → Ev E own cc nL ret mn Q d kc ks (pc + 4) L st h) : Ev E own cc nL ret mn Q d kc ks pc L (vL b :: vL a :: st) h := by
  intro p l e s m args below meth c H locs cells slots mc ms A ls hC
  refine W.lcmp hC.1 hC.2.1 hd ?_
  have e1 := lcmp_val ha hb
  have e2 := iI_of (lg_cmp (lI a) (lI b))
  rw [e1] at e2
  rw [← e2]
  refine (ev_if_ne (E := E) (own := own) (nL := nL) (ret := ret) (mn := mn) (Q := Q) (d := d) (kc := kc) (ks := ks) (L := L) (st := st) (h := h) hd2 ?_ ht (fun z => kt ?_) (fun z => kf ?_)) p l e s m args below meth c H locs cells slots mc ms A ls hC
  · unfold InR; split <;> first | omega | (split <;> omega)
  · revert z; split <;> first | omega | (split <;> omega)
  · revert z; split <;> first | omega | (split <;> omega)

theorem ev_lcmp_lt {off : Int} {tgt : Nat} {a b : Int} (hd : decode cc pc = .ok (.lcmp, 1)) (hd2 : decode cc (pc + 1) = .ok (.ifCond .lt off, 3)) (ha : InL a) (hb : InL b) (ht : ((pc + 1 : Nat) : Int) + off = (tgt : Int)) (kt : a < b → Ev E own cc nL ret mn Q d kc ks tgt L st h) (kf : ¬ (a < b) → Ev E own cc nL ret mn Q d kc ks (pc + 4) L st h) : Ev E own cc nL ret mn Q d kc ks pc L (vL b :: vL a :: st) h := by
  intro p l e s m args below meth c H locs cells slots mc ms A ls hC
  refine W.lcmp hC.1 hC.2.1 hd ?_
  have e1 := lcmp_val ha hb
  have e2 := iI_of (lg_cmp (lI a) (lI b))
  rw [e1] at e2
  rw [← e2]
  refine (ev_if_lt (E := E) (own := own) (nL := nL) (ret := ret) (mn := mn) (Q := Q) (d := d) (kc := kc) (ks := ks) (L := L) (st := st) (h := h) hd2 ?_ ht (fun z => kt ?_) (fun z => kf ?_)) p l e s m args below meth c H locs cells slots mc ms A ls hC
  · unfold InR; split <;> first | omega | (split <;> omega)
  · revert z; split <;> first | omega | (split <;> omega)
  · revert z; split <;> first | omega | (split <;> omega)

theorem ev_lcmp_ge {off : Int} {tgt : Nat} {a b : Int} (hd : decode cc pc = .ok (.lcmp, 1)) (hd2 : decode cc (pc + 1) = .ok (.ifCond .ge off, 3)) (ha : InL a) (hb : InL b) (ht : ((pc + 1 : Nat) : Int) + off = (tgt : Int)) (kt : b ≤ a → Ev E own cc nL ret mn Q d kc ks tgt L st h) (kf : ¬ (b ≤ a) → Ev E own cc nL ret mn Q d kc ks (pc + 4) L st h) : Ev E own cc nL ret mn Q d kc ks pc L (vL b :: vL a :: st) h := by
  intro p l e s m args below meth c H locs cells slots mc ms A ls hC
  refine W.lcmp hC.1 hC.2.1 hd ?_
  have e1 := lcmp_val ha hb
  have e2 := iI_of (lg_cmp (lI a) (lI b))
  rw [e1] at e2
  rw [← e2]
  refine (ev_if_ge (E := E) (own := own) (nL := nL) (ret := ret) (mn := mn) (Q := Q) (d := d) (kc := kc) (ks := ks) (L := L) (st := st) (h := h) hd2 ?_ ht (fun z => kt ?_) (fun z => kf ?_)) p l e s m args below meth c H locs cells slots mc ms A ls hC
  · unfold InR; split <;> first | omega | (split <;> omega)
  · revert z; split <;> first | omega | (split <;> omega)
  · revert z; split <;> first | omega | (split <;> omega)

theorem ev_lcmp_gt {off : Int} {tgt : Nat} {a b : Int} (hd : decode cc pc = .ok (.lcmp, 1)) (hd2 : decode cc (pc + 1) = .ok (.ifCond .gt off, 3)) (ha : InL a) (hb : InL b) (ht : ((pc + 1 : Nat) : Int) + off = (tgt : Int)) (kt : b < a → Ev E own cc nL ret mn Q d kc ks tgt L st h) (kf : ¬ (b < a) → Ev E own cc nL ret mn Q d kc ks (pc + 4) L st h) : Ev E own cc nL ret mn Q d kc ks pc L (vL b :: vL a :: st) h := by
  intro p l e s m args below meth c H locs cells slots mc ms A ls hC
  refine W.lcmp hC.1 hC.2.1 hd ?_
  have e1 := lcmp_val ha hb
  have e2 := iI_of (lg_cmp (lI a) (lI b))
  rw [e1] at e2
  rw [← e2]
  refine (ev_if_gt (E := E) (own := own) (nL := nL) (ret := ret) (mn := mn) (Q := Q) (d := d) (kc := kc) (ks := ks) (L := L) (st := st) (h := h) hd2 ?_ ht (fun z => kt ?_) (fun z => kf ?_)) p l e s m args below meth c H locs cells slots mc ms A ls hC
  · unfold InR; split <;> first | omega | (split <;> omega)
  · revert z; split <;> first | omega | (split <;> omega)
  · revert z; split <;> first | omega | (split <;> omega)

theorem ev_lcmp_le {off : Int} {tgt : Nat} {a b : Int} (hd : decode cc pc = .ok (.lcmp, 1)) (hd2 : decode cc (pc + 1) = .ok (.ifCond .le off, 3)) (ha : InL a) (hb : InL b) (ht : ((pc + 1 : Nat) : Int) + off = (tgt : Int)) (kt : a ≤ b → Ev E own cc nL ret mn Q d kc ks tgt L st h) (kf : ¬ (a ≤ b) → Ev E own cc nL ret mn Q d kc ks (pc + 4) L st h) : Ev E own cc nL ret mn Q d kc ks pc L (vL b :: vL a :: st) h := by
  intro p l e s m args below meth c H locs cells slots mc ms A ls hC
  refine W.lcmp hC.1 hC.2.1 hd ?_
  have e1 := lcmp_val ha hb
  have e2 := iI_of (lg_cmp (lI a) (lI b))
  rw [e1] at e2
  rw [← e2]
  refine (ev_if_le (E := E) (own := own) (nL := nL) (ret := ret) (mn := mn) (Q := Q) (d := d) (kc := kc) (ks := ks) (L := L) (st := st) (h := h) hd2 ?_ ht (fun z => kt ?_) (fun z => kf ?_)) p l e s m args below meth c H locs cells slots mc ms A ls hC
  · unfold InR; split <;> first | omega | (split <;> omega)
  · revert z; split <;> first | omega | (split <;> omega)
  · revert z; split <;> first | omega | (split <;> omega)

theorem ev_tableOut {dflt lo hi a : Int} {offs : Array Int} {len tgt : Nat} (hd : decode cc pc = .ok (.tableswitch dflt lo hi offs, len)) (ha : InR a) (hx : a < lo ∨ hi < a) (ht : (pc : Int) + dflt = (tgt : Int)) (k : Ev E own cc nL ret mn Q d kc ks tgt L st h) : Ev E own cc nL ret mn Q d kc ks pc L (vI a :: st) h := by
  intro p l e s m args below meth c H locs cells slots mc ms A ls hC
  exact lv_tableOut hC.1 hC.2.1 hd (by rw [iI_toInt ha]; exact hx) ht (k p l e s m args below meth c H locs cells slots mc ms A ls hC)
theorem ev_tableIn {dflt lo hi a : Int} {offs : Array Int} {len tgt : Nat} {off : Int} (hd : decode cc pc = .ok (.tableswitch dflt lo hi offs, len)) (ha : InR a) (h1 : ¬ a < lo) (h2 : ¬ hi < a) (ho : offs[(a - lo).toNat]? = some off) (ht : (pc : Int) + off = (tgt : Int)) (k : Ev E own cc nL ret mn Q d kc ks tgt L st h) : Ev E own cc nL ret mn Q d kc ks pc L (vI a :: st) h := by
  intro p l e s m args below meth c H locs cells slots mc ms A ls hC
  exact lv_tableIn hC.1 hC.2.1 hd (by rw [iI_toInt ha]; exact h1) (by rw [iI_toInt ha]; exact h2) (by rw [iI_toInt ha]; exact ho) ht (k p l e s m args below meth c H locs cells slots mc ms A ls hC)

end RULES
