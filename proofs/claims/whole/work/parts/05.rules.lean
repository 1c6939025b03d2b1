section ITR
variable {g : it_G} {l : Launch} {d : Nat} {M : it_M} {kc ks pc : Nat} {L : it_L} {st : List Value} {κ : it_KK} {S : it_SS} {P : Option Value → it_KK → it_SS → Prop}
theorem it_at {ls : Array Slot} {nL i : Nat} {v : Value} (h : lv_has ls nL (it_lv g L)) (hL : L[i]? = some (some v)) : ls[i]? = some (.val (it_tr g v)) := h.2.2 (i, it_tr g v) (it_lv_mem.mpr ⟨v, hL, rfl⟩)
theorem ev_iconst {n : Int} {v : Int32} (hd : decode M.2.1 pc = .ok (.iconst n, 1)) (hv : Int32.ofInt n = v) (k : it_Ev g l d M kc ks (pc + 1) L (.int v :: st) κ S P) : it_Ev g l d M kc ks pc L st κ S P := fun p e R s m args below meth c H locs ls Q C F X hl hq => lv_iconst C.1 C.2.1 hd hv (k p e R s m args below meth c H locs ls Q C F X hl hq)
theorem ev_bipush {n : Int} {v : Int32} (hd : decode M.2.1 pc = .ok (.bipush n, 2)) (hv : (Int8.ofInt n).toInt32 = v) (k : it_Ev g l d M kc ks (pc + 2) L (.int v :: st) κ S P) : it_Ev g l d M kc ks pc L st κ S P := fun p e R s m args below meth c H locs ls Q C F X hl hq => lv_bipush C.1 C.2.1 hd hv (k p e R s m args below meth c H locs ls Q C F X hl hq)
theorem ev_sipush {n : Int} {v : Int32} (hd : decode M.2.1 pc = .ok (.sipush n, 3)) (hv : (Int16.ofInt n).toInt32 = v) (k : it_Ev g l d M kc ks (pc + 3) L (.int v :: st) κ S P) : it_Ev g l d M kc ks pc L st κ S P := fun p e R s m args below meth c H locs ls Q C F X hl hq => lv_sipush C.1 C.2.1 hd hv (k p e R s m args below meth c H locs ls Q C F X hl hq)
theorem ev_lconst {n : Fin 2} {v : Int64} (hd : decode M.2.1 pc = .ok (.lconst n, 1)) (hv : Int64.ofNat n = v) (k : it_Ev g l d M kc ks (pc + 1) L (.long v :: st) κ S P) : it_Ev g l d M kc ks pc L st κ S P := fun p e R s m args below meth c H locs ls Q C F X hl hq => lv_lconst C.1 C.2.1 hd hv (k p e R s m args below meth c H locs ls Q C F X hl hq)
theorem ev_ldc {i : Nat} {v : Int32} (hd : decode M.2.1 pc = .ok (.ldc i, 2)) (hc : Cond.constant M.1.cls i v ∈ it_tb) (k : it_Ev g l d M kc ks (pc + 2) L (.int v :: st) κ S P) : it_Ev g l d M kc ks pc L st κ S P := fun p e R s m args below meth c H locs ls Q C F X hl hq => lv_ldc C.1 C.2.1 C.2.2.2.1 (C.2.2.2.2.1 _ hc) hd (k p e R s m args below meth c H locs ls Q C F X hl hq)
theorem ev_ldcw {i : Nat} {v : Int32} (hd : decode M.2.1 pc = .ok (.ldc_w i, 3)) (hc : Cond.constant M.1.cls i v ∈ it_tb) (k : it_Ev g l d M kc ks (pc + 3) L (.int v :: st) κ S P) : it_Ev g l d M kc ks pc L st κ S P := fun p e R s m args below meth c H locs ls Q C F X hl hq => lv_ldcw C.1 C.2.1 C.2.2.2.1 (C.2.2.2.2.1 _ hc) hd (k p e R s m args below meth c H locs ls Q C F X hl hq)
theorem ev_ldc2 {i : Nat} {v : Int64} (hd : decode M.2.1 pc = .ok (.ldc2_w i, 3)) (hc : Cond.constantLong M.1.cls i v ∈ it_tb) (k : it_Ev g l d M kc ks (pc + 3) L (.long v :: st) κ S P) : it_Ev g l d M kc ks pc L st κ S P := fun p e R s m args below meth c H locs ls Q C F X hl hq => lv_ldc2 C.1 C.2.1 C.2.2.2.1 (C.2.2.2.2.1 _ hc) hd (k p e R s m args below meth c H locs ls Q C F X hl hq)
theorem ev_iload_n {i : Fin 4} {x : Int32} (hd : decode M.2.1 pc = .ok (.iload_n i, 1)) (hL : L[(i : Nat)]? = some (some (.int x))) (k : it_Ev g l d M kc ks (pc + 1) L (.int x :: st) κ S P) : it_Ev g l d M kc ks pc L st κ S P := fun p e R s m args below meth c H locs ls Q C F X hl hq => lv_iload_n C.1 C.2.1 hd rfl (it_at hl hL) (k p e R s m args below meth c H locs ls Q C F X hl hq)
theorem ev_iload {i : Nat} {x : Int32} (hd : decode M.2.1 pc = .ok (.iload i, 2)) (hL : L[i]? = some (some (.int x))) (k : it_Ev g l d M kc ks (pc + 2) L (.int x :: st) κ S P) : it_Ev g l d M kc ks pc L st κ S P := fun p e R s m args below meth c H locs ls Q C F X hl hq => lv_iload C.1 C.2.1 hd (it_at hl hL) (k p e R s m args below meth c H locs ls Q C F X hl hq)
theorem ev_lload_n {i : Fin 4} {x : Int64} (hd : decode M.2.1 pc = .ok (.lload_n i, 1)) (hL : L[(i : Nat)]? = some (some (.long x))) (k : it_Ev g l d M kc ks (pc + 1) L (.long x :: st) κ S P) : it_Ev g l d M kc ks pc L st κ S P := fun p e R s m args below meth c H locs ls Q C F X hl hq => lv_lload_n C.1 C.2.1 hd rfl (it_at hl hL) (k p e R s m args below meth c H locs ls Q C F X hl hq)
theorem ev_lload {i : Nat} {x : Int64} (hd : decode M.2.1 pc = .ok (.lload i, 2)) (hL : L[i]? = some (some (.long x))) (k : it_Ev g l d M kc ks (pc + 2) L (.long x :: st) κ S P) : it_Ev g l d M kc ks pc L st κ S P := fun p e R s m args below meth c H locs ls Q C F X hl hq => lv_lload C.1 C.2.1 hd (it_at hl hL) (k p e R s m args below meth c H locs ls Q C F X hl hq)
theorem ev_aload_n {i : Fin 4} {x : Nat} (hd : decode M.2.1 pc = .ok (.aload_n i, 1)) (hL : L[(i : Nat)]? = some (some (.ref x))) (k : it_Ev g l d M kc ks (pc + 1) L (.ref x :: st) κ S P) : it_Ev g l d M kc ks pc L st κ S P := fun p e R s m args below meth c H locs ls Q C F X hl hq => lv_aload_n C.1 C.2.1 hd rfl (it_at hl hL) (k p e R s m args below meth c H locs ls Q C F X hl hq)
theorem ev_aload {i : Nat} {x : Nat} (hd : decode M.2.1 pc = .ok (.aload i, 2)) (hL : L[i]? = some (some (.ref x))) (k : it_Ev g l d M kc ks (pc + 2) L (.ref x :: st) κ S P) : it_Ev g l d M kc ks pc L st κ S P := fun p e R s m args below meth c H locs ls Q C F X hl hq => lv_aload C.1 C.2.1 hd (it_at hl hL) (k p e R s m args below meth c H locs ls Q C F X hl hq)
theorem ev_aload_nO {i : Fin 4} {x : Nat} (hd : decode M.2.1 pc = .ok (.aload_n i, 1)) (hL : L[(i : Nat)]? = some (some (.retAddr x))) (k : it_Ev g l d M kc ks (pc + 1) L (.retAddr x :: st) κ S P) : it_Ev g l d M kc ks pc L st κ S P := fun p e R s m args below meth c H locs ls Q C F X hl hq => lv_aload_n C.1 C.2.1 hd rfl (it_at hl hL) (k p e R s m args below meth c H locs ls Q C F X hl hq)
theorem ev_aloadO {i : Nat} {x : Nat} (hd : decode M.2.1 pc = .ok (.aload i, 2)) (hL : L[i]? = some (some (.retAddr x))) (k : it_Ev g l d M kc ks (pc + 2) L (.retAddr x :: st) κ S P) : it_Ev g l d M kc ks pc L st κ S P := fun p e R s m args below meth c H locs ls Q C F X hl hq => lv_aload C.1 C.2.1 hd (it_at hl hL) (k p e R s m args below meth c H locs ls Q C F X hl hq)
theorem ev_istore_n {i : Fin 4} {x : Int32} (hd : decode M.2.1 pc = .ok (.istore_n i, 1)) (hn : (i : Nat) < M.2.2.1) (k : it_Ev g l d M kc ks (pc + 1) (it_set L i (.int x)) st κ S P) : it_Ev g l d M kc ks pc L (.int x :: st) κ S P := fun p e R s m args below meth c H locs ls Q C F X hl hq => lv_istore_n C.1 C.2.1 hd rfl hl hn rfl (fun ls1 hl1 => k p e R s m args below meth c H locs ls1 Q C F X (it_has_set rfl hl1) hq)
theorem ev_istore {i : Nat} {x : Int32} (hd : decode M.2.1 pc = .ok (.istore i, 2)) (hn : (i : Nat) < M.2.2.1) (k : it_Ev g l d M kc ks (pc + 2) (it_set L i (.int x)) st κ S P) : it_Ev g l d M kc ks pc L (.int x :: st) κ S P := fun p e R s m args below meth c H locs ls Q C F X hl hq => lv_istore C.1 C.2.1 hd hl hn rfl (fun ls1 hl1 => k p e R s m args below meth c H locs ls1 Q C F X (it_has_set rfl hl1) hq)
theorem ev_lstore_n {i : Fin 4} {x : Int64} (hd : decode M.2.1 pc = .ok (.lstore_n i, 1)) (hn : (i : Nat) + 1 < M.2.2.1) (k : it_Ev g l d M kc ks (pc + 1) (it_set2 L i (.long x)) st κ S P) : it_Ev g l d M kc ks pc L (.long x :: st) κ S P := fun p e R s m args below meth c H locs ls Q C F X hl hq => lv_lstore_n C.1 C.2.1 hd rfl hl hn rfl (fun ls1 hl1 => k p e R s m args below meth c H locs ls1 Q C F X (it_has_set2 rfl hl1) hq)
theorem ev_lstore {i : Nat} {x : Int64} (hd : decode M.2.1 pc = .ok (.lstore i, 2)) (hn : (i : Nat) + 1 < M.2.2.1) (k : it_Ev g l d M kc ks (pc + 2) (it_set2 L i (.long x)) st κ S P) : it_Ev g l d M kc ks pc L (.long x :: st) κ S P := fun p e R s m args below meth c H locs ls Q C F X hl hq => lv_lstore C.1 C.2.1 hd hl hn rfl (fun ls1 hl1 => k p e R s m args below meth c H locs ls1 Q C F X (it_has_set2 rfl hl1) hq)
theorem ev_astore_n {i : Fin 4} {x : Nat} (hd : decode M.2.1 pc = .ok (.astore_n i, 1)) (hn : (i : Nat) < M.2.2.1) (k : it_Ev g l d M kc ks (pc + 1) (it_set L i (.ref x)) st κ S P) : it_Ev g l d M kc ks pc L (.ref x :: st) κ S P := fun p e R s m args below meth c H locs ls Q C F X hl hq => lv_astore_n C.1 C.2.1 hd rfl hl hn rfl (fun ls1 hl1 => k p e R s m args below meth c H locs ls1 Q C F X (it_has_set rfl hl1) hq)
theorem ev_astore {i : Nat} {x : Nat} (hd : decode M.2.1 pc = .ok (.astore i, 2)) (hn : (i : Nat) < M.2.2.1) (k : it_Ev g l d M kc ks (pc + 2) (it_set L i (.ref x)) st κ S P) : it_Ev g l d M kc ks pc L (.ref x :: st) κ S P := fun p e R s m args below meth c H locs ls Q C F X hl hq => lv_astore C.1 C.2.1 hd hl hn rfl (fun ls1 hl1 => k p e R s m args below meth c H locs ls1 Q C F X (it_has_set rfl hl1) hq)
theorem ev_iinc {i : Nat} {n : Int} {x c1 : Int32} (hd : decode M.2.1 pc = .ok (.iinc i n, 3)) (hc : Int32.ofInt n = c1) (hL : L[i]? = some (some (.int x))) (hn : i < M.2.2.1) (k : it_Ev g l d M kc ks (pc + 3) (it_set L i (.int (x + c1))) st κ S P) : it_Ev g l d M kc ks pc L st κ S P := by
  intro p e R s m args below meth c H locs ls Q C F X hl hq
  obtain ⟨j, hj⟩ := List.mem_iff_getElem?.mp (it_lv_mem (g := g) (L := L) (q := (i, .int x)).mpr ⟨.int x, hL, rfl⟩)
  exact lv_iinc (v := x + c1) C.1 C.2.1 hd hl hj (by rw [hc]) hn rfl (fun ls1 hl1 => k p e R s m args below meth c H locs ls1 Q C F X (it_has_set rfl hl1) hq)
theorem ev_iadd {x y : Int32} (hd : decode M.2.1 pc = .ok (.iadd, 1)) (k : it_Ev g l d M kc ks (pc + 1) L (.int (x + y) :: st) κ S P) : it_Ev g l d M kc ks pc L (.int y :: .int x :: st) κ S P := fun p e R s m args below meth c H locs ls Q C F X hl hq => lv_iadd C.1 C.2.1 hd (k p e R s m args below meth c H locs ls Q C F X hl hq)
theorem ev_isub {x y : Int32} (hd : decode M.2.1 pc = .ok (.isub, 1)) (k : it_Ev g l d M kc ks (pc + 1) L (.int (x - y) :: st) κ S P) : it_Ev g l d M kc ks pc L (.int y :: .int x :: st) κ S P := fun p e R s m args below meth c H locs ls Q C F X hl hq => lv_isub C.1 C.2.1 hd (k p e R s m args below meth c H locs ls Q C F X hl hq)
theorem ev_imul {x y : Int32} (hd : decode M.2.1 pc = .ok (.imul, 1)) (k : it_Ev g l d M kc ks (pc + 1) L (.int (x * y) :: st) κ S P) : it_Ev g l d M kc ks pc L (.int y :: .int x :: st) κ S P := fun p e R s m args below meth c H locs ls Q C F X hl hq => lv_imul C.1 C.2.1 hd (k p e R s m args below meth c H locs ls Q C F X hl hq)
theorem ev_iand {x y : Int32} (hd : decode M.2.1 pc = .ok (.iand, 1)) (k : it_Ev g l d M kc ks (pc + 1) L (.int (x &&& y) :: st) κ S P) : it_Ev g l d M kc ks pc L (.int y :: .int x :: st) κ S P := fun p e R s m args below meth c H locs ls Q C F X hl hq => lv_iand C.1 C.2.1 hd (k p e R s m args below meth c H locs ls Q C F X hl hq)
theorem ev_ior {x y : Int32} (hd : decode M.2.1 pc = .ok (.ior, 1)) (k : it_Ev g l d M kc ks (pc + 1) L (.int (x ||| y) :: st) κ S P) : it_Ev g l d M kc ks pc L (.int y :: .int x :: st) κ S P := fun p e R s m args below meth c H locs ls Q C F X hl hq => lv_ior C.1 C.2.1 hd (k p e R s m args below meth c H locs ls Q C F X hl hq)
theorem ev_ixor {x y : Int32} (hd : decode M.2.1 pc = .ok (.ixor, 1)) (k : it_Ev g l d M kc ks (pc + 1) L (.int (x ^^^ y) :: st) κ S P) : it_Ev g l d M kc ks pc L (.int y :: .int x :: st) κ S P := fun p e R s m args below meth c H locs ls Q C F X hl hq => lv_ixor C.1 C.2.1 hd (k p e R s m args below meth c H locs ls Q C F X hl hq)
theorem ev_ishl {x y : Int32} (hd : decode M.2.1 pc = .ok (.ishl, 1)) (k : it_Ev g l d M kc ks (pc + 1) L (.int (x <<< (y &&& 31)) :: st) κ S P) : it_Ev g l d M kc ks pc L (.int y :: .int x :: st) κ S P := fun p e R s m args below meth c H locs ls Q C F X hl hq => lv_ishl C.1 C.2.1 hd (k p e R s m args below meth c H locs ls Q C F X hl hq)
theorem ev_ishr {x y : Int32} (hd : decode M.2.1 pc = .ok (.ishr, 1)) (k : it_Ev g l d M kc ks (pc + 1) L (.int (x >>> (y &&& 31)) :: st) κ S P) : it_Ev g l d M kc ks pc L (.int y :: .int x :: st) κ S P := fun p e R s m args below meth c H locs ls Q C F X hl hq => lv_ishr C.1 C.2.1 hd (k p e R s m args below meth c H locs ls Q C F X hl hq)
theorem ev_iushr {x y : Int32} (hd : decode M.2.1 pc = .ok (.iushr, 1)) (k : it_Ev g l d M kc ks (pc + 1) L (.int ((x.toUInt32 >>> (y.toUInt32 &&& Int32.toUInt32 31)).toInt32) :: st) κ S P) : it_Ev g l d M kc ks pc L (.int y :: .int x :: st) κ S P := fun p e R s m args below meth c H locs ls Q C F X hl hq => lv_iushr C.1 C.2.1 hd rfl (k p e R s m args below meth c H locs ls Q C F X hl hq)
theorem ev_idiv {x y : Int32} (hd : decode M.2.1 pc = .ok (.idiv, 1)) (hne : ¬ y = 0) (k : it_Ev g l d M kc ks (pc + 1) L (.int (x / y) :: st) κ S P) : it_Ev g l d M kc ks pc L (.int y :: .int x :: st) κ S P := fun p e R s m args below meth c H locs ls Q C F X hl hq => lv_idiv C.1 C.2.1 hd hne (k p e R s m args below meth c H locs ls Q C F X hl hq)
theorem ev_irem {x y : Int32} (hd : decode M.2.1 pc = .ok (.irem, 1)) (hne : ¬ y = 0) (k : it_Ev g l d M kc ks (pc + 1) L (.int (x - x / y * y) :: st) κ S P) : it_Ev g l d M kc ks pc L (.int y :: .int x :: st) κ S P := fun p e R s m args below meth c H locs ls Q C F X hl hq => lv_irem C.1 C.2.1 hd hne (k p e R s m args below meth c H locs ls Q C F X hl hq)
theorem ev_ladd {x y : Int64} (hd : decode M.2.1 pc = .ok (.ladd, 1)) (k : it_Ev g l d M kc ks (pc + 1) L (.long (x + y) :: st) κ S P) : it_Ev g l d M kc ks pc L (.long y :: .long x :: st) κ S P := fun p e R s m args below meth c H locs ls Q C F X hl hq => lv_ladd C.1 C.2.1 hd (k p e R s m args below meth c H locs ls Q C F X hl hq)
theorem ev_lsub {x y : Int64} (hd : decode M.2.1 pc = .ok (.lsub, 1)) (k : it_Ev g l d M kc ks (pc + 1) L (.long (x - y) :: st) κ S P) : it_Ev g l d M kc ks pc L (.long y :: .long x :: st) κ S P := fun p e R s m args below meth c H locs ls Q C F X hl hq => lv_lsub C.1 C.2.1 hd (k p e R s m args below meth c H locs ls Q C F X hl hq)
theorem ev_lmul {x y : Int64} (hd : decode M.2.1 pc = .ok (.lmul, 1)) (k : it_Ev g l d M kc ks (pc + 1) L (.long (x * y) :: st) κ S P) : it_Ev g l d M kc ks pc L (.long y :: .long x :: st) κ S P := fun p e R s m args below meth c H locs ls Q C F X hl hq => lv_lmul C.1 C.2.1 hd (k p e R s m args below meth c H locs ls Q C F X hl hq)
theorem ev_ldiv {x y : Int64} (hd : decode M.2.1 pc = .ok (.ldiv, 1)) (hne : ¬ y = 0) (k : it_Ev g l d M kc ks (pc + 1) L (.long (x / y) :: st) κ S P) : it_Ev g l d M kc ks pc L (.long y :: .long x :: st) κ S P := fun p e R s m args below meth c H locs ls Q C F X hl hq => lv_ldiv C.1 C.2.1 hd hne (k p e R s m args below meth c H locs ls Q C F X hl hq)
theorem ev_lrem {x y : Int64} (hd : decode M.2.1 pc = .ok (.lrem, 1)) (hne : ¬ y = 0) (k : it_Ev g l d M kc ks (pc + 1) L (.long (x - x / y * y) :: st) κ S P) : it_Ev g l d M kc ks pc L (.long y :: .long x :: st) κ S P := fun p e R s m args below meth c H locs ls Q C F X hl hq => lv_lrem C.1 C.2.1 hd hne (k p e R s m args below meth c H locs ls Q C F X hl hq)
theorem ev_lcmp {x y : Int64} (hd : decode M.2.1 pc = .ok (.lcmp, 1)) (k : it_Ev g l d M kc ks (pc + 1) L (.int (lg_cmp x y) :: st) κ S P) : it_Ev g l d M kc ks pc L (.long y :: .long x :: st) κ S P := fun p e R s m args below meth c H locs ls Q C F X hl hq => W.lcmp C.1 C.2.1 hd (k p e R s m args below meth c H locs ls Q C F X hl hq)
theorem ev_ineg {x : Int32} (hd : decode M.2.1 pc = .ok (.ineg, 1)) (k : it_Ev g l d M kc ks (pc + 1) L (.int (-x) :: st) κ S P) : it_Ev g l d M kc ks pc L (.int x :: st) κ S P := fun p e R s m args below meth c H locs ls Q C F X hl hq => lv_ineg C.1 C.2.1 hd (k p e R s m args below meth c H locs ls Q C F X hl hq)
theorem ev_lneg {x : Int64} (hd : decode M.2.1 pc = .ok (.lneg, 1)) (k : it_Ev g l d M kc ks (pc + 1) L (.long (-x) :: st) κ S P) : it_Ev g l d M kc ks pc L (.long x :: st) κ S P := fun p e R s m args below meth c H locs ls Q C F X hl hq => lv_lneg C.1 C.2.1 hd (k p e R s m args below meth c H locs ls Q C F X hl hq)
theorem ev_i2b {x : Int32} (hd : decode M.2.1 pc = .ok (.i2b, 1)) (k : it_Ev g l d M kc ks (pc + 1) L (.int (x.toInt8.toInt32) :: st) κ S P) : it_Ev g l d M kc ks pc L (.int x :: st) κ S P := fun p e R s m args below meth c H locs ls Q C F X hl hq => lv_i2b C.1 C.2.1 hd rfl (k p e R s m args below meth c H locs ls Q C F X hl hq)
theorem ev_i2s {x : Int32} (hd : decode M.2.1 pc = .ok (.i2s, 1)) (k : it_Ev g l d M kc ks (pc + 1) L (.int (x.toInt16.toInt32) :: st) κ S P) : it_Ev g l d M kc ks pc L (.int x :: st) κ S P := fun p e R s m args below meth c H locs ls Q C F X hl hq => lv_i2s C.1 C.2.1 hd rfl (k p e R s m args below meth c H locs ls Q C F X hl hq)
theorem ev_i2c {x : Int32} (hd : decode M.2.1 pc = .ok (.i2c, 1)) (k : it_Ev g l d M kc ks (pc + 1) L (.int ((x.toUInt32 % 65536).toInt32) :: st) κ S P) : it_Ev g l d M kc ks pc L (.int x :: st) κ S P := fun p e R s m args below meth c H locs ls Q C F X hl hq => lv_i2c C.1 C.2.1 hd rfl (k p e R s m args below meth c H locs ls Q C F X hl hq)
theorem ev_i2l {x : Int32} (hd : decode M.2.1 pc = .ok (.i2l, 1)) (k : it_Ev g l d M kc ks (pc + 1) L (.long x.toInt64 :: st) κ S P) : it_Ev g l d M kc ks pc L (.int x :: st) κ S P := fun p e R s m args below meth c H locs ls Q C F X hl hq => lv_i2l C.1 C.2.1 hd rfl (k p e R s m args below meth c H locs ls Q C F X hl hq)
theorem ev_l2i {x : Int64} (hd : decode M.2.1 pc = .ok (.l2i, 1)) (k : it_Ev g l d M kc ks (pc + 1) L (.int x.toInt32 :: st) κ S P) : it_Ev g l d M kc ks pc L (.long x :: st) κ S P := fun p e R s m args below meth c H locs ls Q C F X hl hq => lv_l2i C.1 C.2.1 hd rfl (k p e R s m args below meth c H locs ls Q C F X hl hq)
theorem ev_dup {v : Value} (hd : decode M.2.1 pc = .ok (.dup, 1)) (hv : v.category = 1) (k : it_Ev g l d M kc ks (pc + 1) L (v :: v :: st) κ S P) : it_Ev g l d M kc ks pc L (v :: st) κ S P := fun p e R s m args below meth c H locs ls Q C F X hl hq => lv_dup C.1 C.2.1 hd ((it_tr_cat g v).trans hv) (k p e R s m args below meth c H locs ls Q C F X hl hq)
theorem ev_pop {v : Value} (hd : decode M.2.1 pc = .ok (.pop, 1)) (hv : v.category = 1) (k : it_Ev g l d M kc ks (pc + 1) L st κ S P) : it_Ev g l d M kc ks pc L (v :: st) κ S P := fun p e R s m args below meth c H locs ls Q C F X hl hq => lv_pop C.1 C.2.1 hd ((it_tr_cat g v).trans hv) (k p e R s m args below meth c H locs ls Q C F X hl hq)
theorem ev_if_eq {x : Int32} {off : Int} {tgt : Nat} (hd : decode M.2.1 pc = .ok (.ifCond .eq off, 3)) (ht : (pc : Int) + off = (tgt : Int)) (kt : x = 0 → it_Ev g l d M kc ks tgt L st κ S P) (kf : ¬ x = 0 → it_Ev g l d M kc ks (pc + 3) L st κ S P) : it_Ev g l d M kc ks pc L (.int x :: st) κ S P := fun p e R s m args below meth c H locs ls Q C F X hl hq => lv_if_eq C.1 C.2.1 hd ht (fun h => kt h p e R s m args below meth c H locs ls Q C F X hl hq) (fun h => kf h p e R s m args below meth c H locs ls Q C F X hl hq)
theorem ev_icmp_eq {x y : Int32} {off : Int} {tgt : Nat} (hd : decode M.2.1 pc = .ok (.if_icmp .eq off, 3)) (ht : (pc : Int) + off = (tgt : Int)) (kt : x = y → it_Ev g l d M kc ks tgt L st κ S P) (kf : ¬ x = y → it_Ev g l d M kc ks (pc + 3) L st κ S P) : it_Ev g l d M kc ks pc L (.int y :: .int x :: st) κ S P := fun p e R s m args below meth c H locs ls Q C F X hl hq => lv_icmp_eq C.1 C.2.1 hd ht (fun h => kt h p e R s m args below meth c H locs ls Q C F X hl hq) (fun h => kf h p e R s m args below meth c H locs ls Q C F X hl hq)
theorem ev_if_ne {x : Int32} {off : Int} {tgt : Nat} (hd : decode M.2.1 pc = .ok (.ifCond .ne off, 3)) (ht : (pc : Int) + off = (tgt : Int)) (kt : ¬ x = 0 → it_Ev g l d M kc ks tgt L st κ S P) (kf : x = 0 → it_Ev g l d M kc ks (pc + 3) L st κ S P) : it_Ev g l d M kc ks pc L (.int x :: st) κ S P := fun p e R s m args below meth c H locs ls Q C F X hl hq => lv_if_ne C.1 C.2.1 hd ht (fun h => kt h p e R s m args below meth c H locs ls Q C F X hl hq) (fun h => kf h p e R s m args below meth c H locs ls Q C F X hl hq)
theorem ev_icmp_ne {x y : Int32} {off : Int} {tgt : Nat} (hd : decode M.2.1 pc = .ok (.if_icmp .ne off, 3)) (ht : (pc : Int) + off = (tgt : Int)) (kt : ¬ x = y → it_Ev g l d M kc ks tgt L st κ S P) (kf : x = y → it_Ev g l d M kc ks (pc + 3) L st κ S P) : it_Ev g l d M kc ks pc L (.int y :: .int x :: st) κ S P := fun p e R s m args below meth c H locs ls Q C F X hl hq => lv_icmp_ne C.1 C.2.1 hd ht (fun h => kt h p e R s m args below meth c H locs ls Q C F X hl hq) (fun h => kf h p e R s m args below meth c H locs ls Q C F X hl hq)
theorem ev_if_lt {x : Int32} {off : Int} {tgt : Nat} (hd : decode M.2.1 pc = .ok (.ifCond .lt off, 3)) (ht : (pc : Int) + off = (tgt : Int)) (kt : x < 0 → it_Ev g l d M kc ks tgt L st κ S P) (kf : ¬ x < 0 → it_Ev g l d M kc ks (pc + 3) L st κ S P) : it_Ev g l d M kc ks pc L (.int x :: st) κ S P := fun p e R s m args below meth c H locs ls Q C F X hl hq => lv_if_lt C.1 C.2.1 hd ht (fun h => kt h p e R s m args below meth c H locs ls Q C F X hl hq) (fun h => kf h p e R s m args below meth c H locs ls Q C F X hl hq)
theorem ev_icmp_lt {x y : Int32} {off : Int} {tgt : Nat} (hd : decode M.2.1 pc = .ok (.if_icmp .lt off, 3)) (ht : (pc : Int) + off = (tgt : Int)) (kt : x < y → it_Ev g l d M kc ks tgt L st κ S P) (kf : ¬ x < y → it_Ev g l d M kc ks (pc + 3) L st κ S P) : it_Ev g l d M kc ks pc L (.int y :: .int x :: st) κ S P := fun p e R s m args below meth c H locs ls Q C F X hl hq => lv_icmp_lt C.1 C.2.1 hd ht (fun h => kt h p e R s m args below meth c H locs ls Q C F X hl hq) (fun h => kf h p e R s m args below meth c H locs ls Q C F X hl hq)
theorem ev_if_ge {x : Int32} {off : Int} {tgt : Nat} (hd : decode M.2.1 pc = .ok (.ifCond .ge off, 3)) (ht : (pc : Int) + off = (tgt : Int)) (kt : 0 ≤ x → it_Ev g l d M kc ks tgt L st κ S P) (kf : ¬ 0 ≤ x → it_Ev g l d M kc ks (pc + 3) L st κ S P) : it_Ev g l d M kc ks pc L (.int x :: st) κ S P := fun p e R s m args below meth c H locs ls Q C F X hl hq => lv_if_ge C.1 C.2.1 hd ht (fun h => kt h p e R s m args below meth c H locs ls Q C F X hl hq) (fun h => kf h p e R s m args below meth c H locs ls Q C F X hl hq)
theorem ev_icmp_ge {x y : Int32} {off : Int} {tgt : Nat} (hd : decode M.2.1 pc = .ok (.if_icmp .ge off, 3)) (ht : (pc : Int) + off = (tgt : Int)) (kt : y ≤ x → it_Ev g l d M kc ks tgt L st κ S P) (kf : ¬ y ≤ x → it_Ev g l d M kc ks (pc + 3) L st κ S P) : it_Ev g l d M kc ks pc L (.int y :: .int x :: st) κ S P := fun p e R s m args below meth c H locs ls Q C F X hl hq => lv_icmp_ge C.1 C.2.1 hd ht (fun h => kt h p e R s m args below meth c H locs ls Q C F X hl hq) (fun h => kf h p e R s m args below meth c H locs ls Q C F X hl hq)
theorem ev_if_gt {x : Int32} {off : Int} {tgt : Nat} (hd : decode M.2.1 pc = .ok (.ifCond .gt off, 3)) (ht : (pc : Int) + off = (tgt : Int)) (kt : 0 < x → it_Ev g l d M kc ks tgt L st κ S P) (kf : ¬ 0 < x → it_Ev g l d M kc ks (pc + 3) L st κ S P) : it_Ev g l d M kc ks pc L (.int x :: st) κ S P := fun p e R s m args below meth c H locs ls Q C F X hl hq => lv_if_gt C.1 C.2.1 hd ht (fun h => kt h p e R s m args below meth c H locs ls Q C F X hl hq) (fun h => kf h p e R s m args below meth c H locs ls Q C F X hl hq)
theorem ev_icmp_gt {x y : Int32} {off : Int} {tgt : Nat} (hd : decode M.2.1 pc = .ok (.if_icmp .gt off, 3)) (ht : (pc : Int) + off = (tgt : Int)) (kt : y < x → it_Ev g l d M kc ks tgt L st κ S P) (kf : ¬ y < x → it_Ev g l d M kc ks (pc + 3) L st κ S P) : it_Ev g l d M kc ks pc L (.int y :: .int x :: st) κ S P := fun p e R s m args below meth c H locs ls Q C F X hl hq => lv_icmp_gt C.1 C.2.1 hd ht (fun h => kt h p e R s m args below meth c H locs ls Q C F X hl hq) (fun h => kf h p e R s m args below meth c H locs ls Q C F X hl hq)
theorem ev_if_le {x : Int32} {off : Int} {tgt : Nat} (hd : decode M.2.1 pc = .ok (.ifCond .le off, 3)) (ht : (pc : Int) + off = (tgt : Int)) (kt : x ≤ 0 → it_Ev g l d M kc ks tgt L st κ S P) (kf : ¬ x ≤ 0 → it_Ev g l d M kc ks (pc + 3) L st κ S P) : it_Ev g l d M kc ks pc L (.int x :: st) κ S P := fun p e R s m args below meth c H locs ls Q C F X hl hq => lv_if_le C.1 C.2.1 hd ht (fun h => kt h p e R s m args below meth c H locs ls Q C F X hl hq) (fun h => kf h p e R s m args below meth c H locs ls Q C F X hl hq)
theorem ev_icmp_le {x y : Int32} {off : Int} {tgt : Nat} (hd : decode M.2.1 pc = .ok (.if_icmp .le off, 3)) (ht : (pc : Int) + off = (tgt : Int)) (kt : x ≤ y → it_Ev g l d M kc ks tgt L st κ S P) (kf : ¬ x ≤ y → it_Ev g l d M kc ks (pc + 3) L st κ S P) : it_Ev g l d M kc ks pc L (.int y :: .int x :: st) κ S P := fun p e R s m args below meth c H locs ls Q C F X hl hq => lv_icmp_le C.1 C.2.1 hd ht (fun h => kt h p e R s m args below meth c H locs ls Q C F X hl hq) (fun h => kf h p e R s m args below meth c H locs ls Q C F X hl hq)
theorem ev_goto {off : Int} {tgt : Nat} (hd : decode M.2.1 pc = .ok (.goto off, 3)) (ht : (pc : Int) + off = (tgt : Int)) (k : it_Ev g l d M kc ks tgt L st κ S P) : it_Ev g l d M kc ks pc L st κ S P := fun p e R s m args below meth c H locs ls Q C F X hl hq => lv_goto C.1 C.2.1 hd ht (k p e R s m args below meth c H locs ls Q C F X hl hq)
theorem ev_ifnonnull {off : Int} {tgt x : Nat} (hd : decode M.2.1 pc = .ok (.ifnonnull off, 3)) (ht : (pc : Int) + off = (tgt : Int)) (k : it_Ev g l d M kc ks tgt L st κ S P) : it_Ev g l d M kc ks pc L (.ref x :: st) κ S P := fun p e R s m args below meth c H locs ls Q C F X hl hq => lv_ifnonnull C.1 C.2.1 hd ht (k p e R s m args below meth c H locs ls Q C F X hl hq)
theorem ev_tableIn {dflt lo hi : Int} {offs : Array Int} {len : Nat} {x : Int32} {off : Int} {tgt : Nat} (hd : decode M.2.1 pc = .ok (.tableswitch dflt lo hi offs, len)) (h1 : ¬ x.toInt < lo) (h2 : ¬ hi < x.toInt) (ho : offs[(x.toInt - lo).toNat]? = some off) (ht : (pc : Int) + off = (tgt : Int)) (k : it_Ev g l d M kc ks tgt L st κ S P) : it_Ev g l d M kc ks pc L (.int x :: st) κ S P := fun p e R s m args below meth c H locs ls Q C F X hl hq => lv_tableIn C.1 C.2.1 hd h1 h2 ho ht (k p e R s m args below meth c H locs ls Q C F X hl hq)
theorem ev_tableOut {dflt lo hi : Int} {offs : Array Int} {len : Nat} {x : Int32} {tgt : Nat} (hd : decode M.2.1 pc = .ok (.tableswitch dflt lo hi offs, len)) (h : x.toInt < lo ∨ hi < x.toInt) (ht : (pc : Int) + dflt = (tgt : Int)) (k : it_Ev g l d M kc ks tgt L st κ S P) : it_Ev g l d M kc ks pc L (.int x :: st) κ S P := fun p e R s m args below meth c H locs ls Q C F X hl hq => lv_tableOut C.1 C.2.1 hd h ht (k p e R s m args below meth c H locs ls Q C F X hl hq)
theorem ev_lookup {dflt : Int} {ps : Array (Int × Int)} {len : Nat} {x : Int32} {off : Int} {tgt : Nat} (hd : decode M.2.1 pc = .ok (.lookupswitch dflt ps, len)) (hp : (ps.toList.zip (ps.toList.drop 1)).all (fun (a, next) => a.1 < next.1) = true) (ho : Op.lookupswitch.offset ps.toList dflt x.toInt = off) (ht : (pc : Int) + off = (tgt : Int)) (k : it_Ev g l d M kc ks tgt L st κ S P) : it_Ev g l d M kc ks pc L (.int x :: st) κ S P := fun p e R s m args below meth c H locs ls Q C F X hl hq => lv_lookup C.1 C.2.1 hd hp ho ht (k p e R s m args below meth c H locs ls Q C F X hl hq)
theorem ev_ret {v : Option Value} {L1 : it_L} (hr : it_ret M pc v) (hc : kc ≤ M.2.2.2.2.1) (hs : ks ≤ M.2.2.2.2.2) (h : P v κ S) : it_Ev g l d M kc ks pc L1 v.toList κ S P := fun p e R s m args below meth c H locs ls Q C F X hl hq => W.widen hc hs (hq v κ S H locs pc ls h F hr)
theorem ev_mono {P1 : Option Value → it_KK → it_SS → Prop} (h : it_Ev g l d M kc ks pc L st κ S P1) (hP : ∀ v κ' S', P1 v κ' S' → P v κ' S') : it_Ev g l d M kc ks pc L st κ S P := fun p e R s m args below meth c H locs ls Q C F X hl hq => h p e R s m args below meth c H locs ls Q C F X hl (fun v κ' S' H' locs' pc' ls' h1 => hq v κ' S' H' locs' pc' ls' (hP v κ' S' h1))
theorem ev_forget {L1 : it_L} (hL : ∀ (i : Nat) (v : Value), L1[i]? = some (some v) → L[i]? = some (some v)) (h : it_Ev g l d M kc ks pc L1 st κ S P) : it_Ev g l d M kc ks pc L st κ S P := fun p e R s m args below meth c H locs ls Q C F X hl hq => h p e R s m args below meth c H locs ls Q C F X ⟨hl.1, hl.2.1, fun q hq => by
  obtain ⟨v, hv, h2⟩ := it_lv_mem.mp hq
  exact hl.2.2 q (it_lv_mem.mpr ⟨v, hL _ _ hv, h2⟩)⟩ hq
def it_sub : it_L → it_L → Bool
  | [], _ => true
  | none :: r, [] => it_sub r []
  | some _ :: _, [] => false
  | none :: r, _ :: q => it_sub r q
  | some a :: r, some b :: q => decide (a = b) && it_sub r q
  | some _ :: _, none :: _ => false
theorem ev_depth {d1 : Nat} (hd : d1 ≤ d) (h : it_Ev g l d1 M kc ks pc L st κ S P) : it_Ev g l d M kc ks pc L st κ S P := fun p e R s m args below meth c H locs ls Q C F X hl hq => h p e R s m args below meth c H locs ls Q ⟨C.1, C.2.1, C.2.2.1, C.2.2.2.1, C.2.2.2.2.1, C.2.2.2.2.2.1, Nat.le_trans hd C.2.2.2.2.2.2.1, Nat.le_trans (Nat.mul_le_mul_left 60 hd) C.2.2.2.2.2.2.2.1, C.2.2.2.2.2.2.2.2⟩ F X hl hq
/-- field k of class ci, by entry i of a class's own table -/
def it_fl (own : String) (i ci k : Nat) : Prop := ∃ (C : String) (T : u_T) (N : Nat), it_cl[ci]? = some (C, T, N) ∧ k < N ∧ (∀ w ∈ u_ws C T N, w ∈ it_tb) ∧ Cond.fieldLink own i C (T k).2.1 (T k).2.2.1 ∈ it_tb ∧ (T k).1 = C
/-- it may be written, and holds what is of a type -/
def it_fw (ci k : Nat) (fin : Bool) (ty : FieldType) : Prop := ∃ (C : String) (T : u_T) (N : Nat) (t : Nat → FieldType), it_cl[ci]? = some (C, T, N) ∧ (∀ k, k < N → parseFieldDescriptor (T k).2.2.1 = some (t k)) ∧ (∀ a, a < N → ∀ b, b < N → a ≠ b → (T a).2.1 ≠ (T b).2.1) ∧ (T k).2.2.2 = fin ∧ t k = ty ∧ (it_mask ci).length = N
theorem it_fr.D {s : State} {H : Heap} {locs : List Loc} (F : it_fr g κ S s H locs) : ∀ q, s.heap.size ≤ q → it_A g q := fun q h => Nat.le_trans F.2.1 h
theorem ev_get {a ci k i n : Nat} {r : Bool} {v : Value} (hd : decode M.2.1 pc = .ok (.getfield i, 3)) (hf : it_fl M.1.cls i ci k) (ha : a < κ.1) (hk : κ.2.1 a = (ci + 3, n)) (hm : (it_mask ci)[k]? = some r) (hv : it_fld g κ S ci a k r = it_tr g v) (kk : it_Ev g l d M kc ks (pc + 3) L (v :: st) κ S P) : it_Ev g l d M kc ks pc L (.ref a :: st) κ S P := by
  intro p e R s m args below meth c H locs ls Q C F X hl hq
  obtain ⟨cn, T, N, h1, h2, h3, h4, h5⟩ := hf
  refine va_get C.1 C.2.1 (C.2.2.2.2.1) h3 C.2.2.2.1 F.2.2.2.1 F.2.2.1 a (by rw [it_ws_get ha, it_ce_ob hk]) h1 k h2 (C.2.2.2.2.1 _ h4) (fun x hx => by rw [h5] at hx; exact hx) (v := it_tr g v) (by rw [it_fs_get hm, hv]) hd (kk p e R s m args below meth c H locs ls Q C F X hl hq)
theorem ev_getI {a ci k i : Nat} (hd : decode M.2.1 pc = .ok (.getfield i, 3)) (hf : it_fl M.1.cls i ci k) (ho : it_ob κ a ci) (hm : (it_mask ci)[k]? = some false) (kk : it_Ev g l d M kc ks (pc + 3) L (.int (S a k) :: st) κ S P) : it_Ev g l d M kc ks pc L (.ref a :: st) κ S P :=
  ev_get hd hf ho.1 ho.2.1 hm (v := .int (S a k)) rfl kk
theorem ev_getR {a ci k i : Nat} (hd : decode M.2.1 pc = .ok (.getfield i, 3)) (hf : it_fl M.1.cls i ci k) (ho : it_ob κ a ci) (hm : (it_mask ci)[k]? = some true) (kk : it_Ev g l d M kc ks (pc + 3) L (.ref (it_lay ci k a) :: st) κ S P) : it_Ev g l d M kc ks pc L (.ref a :: st) κ S P :=
  ev_get hd hf ho.1 ho.2.1 hm (v := .ref (it_lay ci k a)) (by simp [it_fld, ho.2.2 k hm, it_tr]) kk
theorem it_fr.put {s : State} {H H1 : Heap} {locs locs1 : List Loc} {κ1 : it_KK} {S1 : it_SS} (F : it_fr g κ S s H locs) (hc : κ1.1 = κ.1) (X : it_ex g κ kc s) (hM : kc < 1000) (hz : H1.size ≤ s.heap.size + kc) (hP : va_P g.2.1 it_cl (it_ws g κ1 S1) H1) (hS : va_S (it_A g) H H1 locs1) : it_fr g κ1 S1 s H1 locs1 := ⟨by
  have h1 := X hM
  have h2 := F.1
  have h3 := hS.1
  rw [hc]
  omega, F.2.1, hP, F.2.2.2.1, F.2.2.2.2.1, it_S_trans F.2.2.2.2.2 hS⟩
theorem ev_put {a ci k i n : Nat} {x : Int32} {ty : FieldType} (hd : decode M.2.1 pc = .ok (.putfield i, 3)) (hM : kc < 1000) (hf : it_fl M.1.cls i ci k) (hw : it_fw ci k false ty) (ha : a < κ.1) (hk : κ.2.1 a = (ci + 3, n)) (hm : (it_mask ci)[k]? = some false) (hn : narrow ty (.int x) = .int x) (hfi : fits ty (.int x) = true) (kk : it_Ev g l d M kc ks (pc + 3) L st κ (it_up S a k x) P) : it_Ev g l d M kc ks pc L (.int x :: .ref a :: st) κ S P := by
  intro p e R s m args below meth c H locs ls Q C F X hl hq
  obtain ⟨cn, T, N, h1, h2, h3, h4, h5⟩ := hf
  obtain ⟨cn', T', N', t, g1, g2, g3, g4, g5, g6⟩ := hw
  rw [h1] at g1
  cases g1
  refine va_put C.1 C.2.1 (C.2.2.2.2.1) h3 t g2 g3 C.2.2.2.1 F.2.2.2.1 F.2.2.1 (it_ws_D g κ S) (it_S_here F.2.2.2.2.2) a (by rw [it_ws_get ha, it_ce_ob hk]) h1 k h2 (C.2.2.2.2.1 _ h4) (fun y hy => by rw [h5] at hy; exact hy) g4 (ty := ty) (v := .int x) (by rw [g2 k h2, g5]) hn hfi (by rw [it_fs_len, g6]; exact h2) hd (fun H1 locs1 hP1 hD1 hS1 => it_W_sz fun hz => ?_)
  have hws : (it_ws g κ S).set a (g.1 + a, .inr (ci, (it_fs g κ S ci a).set k (.int x))) = it_ws g κ (it_up S a k x) := by
    rw [it_fs_up hm, ← it_ce_ob (g := g) (S := it_up S a k x) hk]
    exact it_ws_set rfl (fun b hb => it_ce_ne hb)
  rw [hws] at hP1
  exact kk p e R s m args below meth c H1 locs1 ls Q C (F.put rfl X hM hz hP1 hS1) X hl hq
theorem ev_putI {a ci k i : Nat} {x : Int32} (hd : decode M.2.1 pc = .ok (.putfield i, 3)) (hM : kc < 1000) (hf : it_fl M.1.cls i ci k) (hw : it_fw ci k false .int) (ho : it_ob κ a ci) (hm : (it_mask ci)[k]? = some false) (kk : it_Ev g l d M kc ks (pc + 3) L st κ (it_up S a k x) P) : it_Ev g l d M kc ks pc L (.int x :: .ref a :: st) κ S P :=
  ev_put hd hM hf hw ho.1 ho.2.1 hm rfl rfl kk
/-- one reference is there now -/
def it_on (κ : it_KK) (a k : Nat) : it_KK := (κ.1, κ.2.1, fun b j => if b = a ∧ j = k then true else κ.2.2 b j)
theorem it_ce_on {a b k : Nat} (h : b ≠ a) : it_ce g (it_on κ a k) S b = it_ce g κ S b := by
  have h1 : ∀ t, it_rf g (it_on κ a k) t b = it_rf g κ t b := fun t => by
    funext j
    simp [it_rf, it_on, h]
  have h2 : ∀ ci, it_fs g (it_on κ a k) S ci b = it_fs g κ S ci b := fun ci => by
    simp [it_fs, it_fld, it_on, h]
  simp only [it_ce, h1, h2]
  rfl
theorem it_fs_on {ci a k : Nat} (h : (it_mask ci)[k]? = some true) : (it_fs g κ S ci a).set k (.ref (g.1 + it_lay ci k a)) = it_fs g (it_on κ a k) S ci a := by
  apply List.ext_getElem?
  intro i
  rw [List.getElem?_set]
  have hl : k < (it_mask ci).length := (List.getElem?_eq_some_iff.mp h).1
  by_cases hi : k = i
  · subst hi
    rw [if_pos rfl, if_pos (by rw [it_fs_len]; exact hl), it_fs_get h]
    simp [it_fld, it_on]
  · rw [if_neg hi]
    simp only [it_fs, List.getElem?_mapIdx]
    cases hm : (it_mask ci)[i]? with
    | none => rfl
    | some r => simp [it_fld, it_on, Ne.symm hi]
theorem ev_putR {a ci k i n r : Nat} {ty : FieldType} (hd : decode M.2.1 pc = .ok (.putfield i, 3)) (hM : kc < 1000) (hin : M.1.name = "<init>") (hf : it_fl M.1.cls i ci k) (hcl : ∃ q, it_cl[ci]? = some q ∧ q.1 = M.1.cls) (hw : it_fw ci k true ty) (ha : a < κ.1) (hk : κ.2.1 a = (ci + 3, n)) (hm : (it_mask ci)[k]? = some true) (hr : r = it_lay ci k a) (hn : narrow ty (.ref (g.1 + r)) = .ref (g.1 + r)) (hfi : fits ty (.ref (g.1 + r)) = true) (kk : it_Ev g l d M kc ks (pc + 3) L st (it_on κ a k) S P) : it_Ev g l d M kc ks pc L (.ref r :: .ref a :: st) κ S P := by
  intro p e R s m args below meth c H locs ls Q C F X hl hq
  subst hr
  obtain ⟨cn, T, N, h1, h2, h3, h4, h5⟩ := hf
  obtain ⟨cn', T', N', t, g1, g2, g3, g4, g5, g6⟩ := hw
  obtain ⟨q, q1, q2⟩ := hcl
  rw [h1] at g1 q1
  cases g1
  cases q1
  refine va_putF C.1 C.2.1 (C.2.2.2.2.1) h3 t g2 g3 C.2.2.2.1 F.2.2.2.1 F.2.2.1 (it_ws_D g κ S) (it_S_here F.2.2.2.2.2) a (by rw [it_ws_get ha, it_ce_ob hk]) h1 k h2 (C.2.2.2.2.1 _ h4) (fun y hy => by rw [h5] at hy; exact hy) g4 (C.2.2.2.2.2.1 hin) (h5.trans q2) (ty := ty) (v := .ref (g.1 + it_lay ci k a)) (by rw [g2 k h2, g5]) hn hfi (by rw [it_fs_len, g6]; exact h2) hd (fun H1 locs1 hP1 hD1 hS1 => it_W_sz fun hz => ?_)
  have hws : (it_ws g κ S).set a (g.1 + a, .inr (ci, (it_fs g κ S ci a).set k (.ref (g.1 + it_lay ci k a)))) = it_ws g (it_on κ a k) S := by
    rw [it_fs_on hm, ← it_ce_ob (g := g) (κ := it_on κ a k) (S := S) (a := a) (n := n) hk]
    exact it_ws_set rfl (fun b hb => it_ce_on hb)
  rw [hws] at hP1
  exact kk p e R s m args below meth c H1 locs1 ls Q C (F.put rfl X hM hz hP1 hS1) X hl hq
theorem ev_iald {a n : Nat} {i : Int32} (hd : decode M.2.1 pc = .ok (.iaload, 1)) (hA : it_ar κ a n) (hi : vp_in i n) (kk : it_Ev g l d M kc ks (pc + 1) L (.int (S a i.toNatClampNeg) :: st) κ S P) : it_Ev g l d M kc ks pc L (.int i :: .ref a :: st) κ S P := by
  intro p e R s m args below meth c H locs ls Q C F X hl hq
  exact va_iald C.1 C.2.1 F.2.2.2.1 F.2.2.1 a 0 (by rw [it_ws_get hA.1, it_ce_ar hA.2]) rfl hi hd (kk p e R s m args below meth c H locs ls Q C F X hl hq)
theorem ev_iast {a n : Nat} {i x : Int32} (hd : decode M.2.1 pc = .ok (.iastore, 1)) (hM : kc < 1000) (hA : it_ar κ a n) (hi : vp_in i n) (kk : it_Ev g l d M kc ks (pc + 1) L st κ (it_up S a i.toNatClampNeg x) P) : it_Ev g l d M kc ks pc L (.int x :: .int i :: .ref a :: st) κ S P := by
  intro p e R s m args below meth c H locs ls Q C F X hl hq
  refine va_iast C.1 C.2.1 F.2.2.2.1 F.2.2.1 (it_ws_D g κ S) (it_S_here F.2.2.2.2.2) a 0 (by rw [it_ws_get hA.1, it_ce_ar hA.2]) rfl hi hd (fun H1 locs1 hP1 hD1 hS1 => it_W_sz fun hz => ?_)
  have hws : (it_ws g κ S).set a (g.1 + a, .inl (g.2.2.1 0, n, .inl (upd (S a) i.toNatClampNeg x))) = it_ws g κ (it_up S a i.toNatClampNeg x) := by
    rw [← it_up_eq, ← it_ce_ar (g := g) (S := it_up S a i.toNatClampNeg x) hA.2]
    exact it_ws_set rfl (fun b hb => it_ce_ne hb)
  rw [hws] at hP1
  exact kk p e R s m args below meth c H1 locs1 ls Q C (F.put rfl X hM hz hP1 hS1) X hl hq
theorem ev_alen {a n : Nat} (hd : decode M.2.1 pc = .ok (.arraylength, 1)) (hA : it_ar κ a n) (kk : it_Ev g l d M kc ks (pc + 1) L (.int (Int32.ofNat n) :: st) κ S P) : it_Ev g l d M kc ks pc L (.ref a :: st) κ S P := by
  intro p e R s m args below meth c H locs ls Q C F X hl hq
  exact va_alen C.1 C.2.1 F.2.2.2.1 F.2.2.1 a 0 (x := (n, .inl (S a))) (by rw [it_ws_get hA.1, it_ce_ar hA.2]) rfl rfl hd (kk p e R s m args below meth c H locs ls Q C F X hl hq)
/-- an array of references, some of which are there -/
def it_rr (κ : it_KK) (a t n : Nat) : Prop := a < κ.1 ∧ κ.2.1 a = (t, n) ∧ (t = 1 ∨ t = 2)
theorem it_ce_rr {a t n : Nat} (h : it_rr κ a t n) : it_ce g κ S a = .inl (g.2.2.1 t, n, .inr (.inr (.inr (.inr (it_rf g κ t a))))) := by
  obtain ⟨-, h1, rfl | rfl⟩ := h <;> simp [it_ce, h1]
theorem ev_aald {a t n : Nat} {i : Int32} (hd : decode M.2.1 pc = .ok (.aaload, 1)) (hA : it_rr κ a t n) (hi : vp_in i n) (ho : κ.2.2 a i.toNatClampNeg = true) (kk : it_Ev g l d M kc ks (pc + 1) L (.ref (it_el t i.toNatClampNeg) :: st) κ S P) : it_Ev g l d M kc ks pc L (.int i :: .ref a :: st) κ S P := by
  intro p e R s m args below meth c H locs ls Q C F X hl hq
  have h1 := kk p e R s m args below meth c H locs ls Q C F X hl hq
  have h2 : va_rf (it_rf g κ t a i.toNatClampNeg) = it_tr g (.ref (it_el t i.toNatClampNeg)) := by simp [it_rf, ho, va_rf, it_tr]
  rw [List.map_cons, ← h2] at h1
  rcases hA.2.2 with h | h <;> subst h
  · exact va_aldq C.1 C.2.1 F.2.2.2.1 F.2.2.1 a 1 (by rw [it_ws_get hA.1, it_ce_rr hA]) rfl hi hd h1
  · exact va_aldq C.1 C.2.1 F.2.2.2.1 F.2.2.1 a 2 (by rw [it_ws_get hA.1, it_ce_rr hA]) rfl hi hd h1
def it_tcl (t : Nat) : Nat := if t = 1 then 4 else 2
theorem ev_aast {a t n r m0 : Nat} {i : Int32} (hd : decode M.2.1 pc = .ok (.aastore, 1)) (hM : kc < 1000) (hA : it_rr κ a t n) (hi : vp_in i n) (hr : r < κ.1) (hk : κ.2.1 r = (it_tcl t + 3, m0)) (he : r = it_el t i.toNatClampNeg) (kk : it_Ev g l d M kc ks (pc + 1) L st (it_on κ a i.toNatClampNeg) S P) : it_Ev g l d M kc ks pc L (.ref r :: .int i :: .ref a :: st) κ S P := by
  intro p e R s m args below meth c H locs ls Q C F X hl hq
  have key : ∀ (H1 : Heap) (locs1 : List Loc), va_P g.2.1 it_cl ((it_ws g κ S).set a (g.1 + a, .inl (g.2.2.1 t, n, .inr (.inr (.inr (.inr (va_up (it_rf g κ t a) i.toNatClampNeg (some (g.1 + r))))))))) H1 → va_D (it_A g) ((it_ws g κ S).set a (g.1 + a, .inl (g.2.2.1 t, n, .inr (.inr (.inr (.inr (va_up (it_rf g κ t a) i.toNatClampNeg (some (g.1 + r))))))))) → va_S (it_A g) H H1 locs1 → W p l e R s m args below meth c H1 locs1 kc ks Q (F0 m (pc + 1) ls (st.map (it_tr g))) := by
    intro H1 locs1 hP1 hD1 hS1
    refine it_W_sz fun hz => ?_
    have hA1 : it_rr (it_on κ a i.toNatClampNeg) a t n := hA
    have hws : (it_ws g κ S).set a (g.1 + a, .inl (g.2.2.1 t, n, .inr (.inr (.inr (.inr (va_up (it_rf g κ t a) i.toNatClampNeg (some (g.1 + r)))))))) = it_ws g (it_on κ a i.toNatClampNeg) S := by
      have h2 : va_up (it_rf g κ t a) i.toNatClampNeg (some (g.1 + r)) = it_rf g (it_on κ a i.toNatClampNeg) t a := by
        funext j
        by_cases hj : j = i.toNatClampNeg
        · subst hj
          simp [va_up, it_rf, it_on, he]
        · simp [va_up, it_rf, it_on, hj]
      rw [h2, ← it_ce_rr (g := g) (S := S) hA1]
      exact it_ws_set rfl (fun b hb => it_ce_on hb)
    rw [hws] at hP1
    exact kk p e R s m args below meth c H1 locs1 ls Q C (F.put rfl X hM hz hP1 hS1) X hl hq
  rcases hA.2.2 with h | h <;> subst h
  · exact va_astq C.1 C.2.1 F.2.2.2.1 F.2.2.1 (it_ws_D g κ S) (it_S_here F.2.2.2.2.2) a 1 r 4 (by rw [it_ws_get hA.1, it_ce_rr hA]) rfl (by rw [it_ws_get hr, it_ce_ob (ci := 4) hk]) rfl hi hd key
  · exact va_astq C.1 C.2.1 F.2.2.2.1 F.2.2.1 (it_ws_D g κ S) (it_S_here F.2.2.2.2.2) a 2 r 2 (by rw [it_ws_get hA.1, it_ce_rr hA]) rfl (by rw [it_ws_get hr, it_ce_ob (ci := 2) hk]) rfl hi hd key
theorem it_ce_congr {κ1 : it_KK} {S1 : it_SS} {b : Nat} (h1 : κ1.2.1 b = κ.2.1 b) (h2 : κ1.2.2 b = κ.2.2 b) (h3 : S1 b = S b) : it_ce g κ1 S1 b = it_ce g κ S b := by
  have h4 : ∀ t, it_rf g κ1 t b = it_rf g κ t b := fun t => by
    funext j
    simp [it_rf, h2]
  have h5 : ∀ ci, it_fs g κ1 S1 ci b = it_fs g κ S ci b := fun ci => by
    simp [it_fs, it_fld, h2, h3]
  simp only [it_ce, h1, h3, h4, h5]
def it_new (κ : it_KK) (t n : Nat) : it_KK := (κ.1 + 1, fun b => if b = κ.1 then (t, n) else κ.2.1 b, fun b j => if b = κ.1 then false else κ.2.2 b j)
def it_zero (S : it_SS) (a : Nat) : it_SS := fun b => if b = a then (fun _ => 0) else S b
def it_dupl (S : it_SS) (a b : Nat) : it_SS := fun q => if q = b then S a else S q
def it_cpy (S : it_SS) (a0 a1 sp dp n : Nat) : it_SS := fun q => if q = a1 then va_cpy (S a0) (S a1) sp dp n else S q
/-- the new cell lies where the next one lies -/
theorem it_fresh {q : Nat} {x : va_E} {H1 : Heap} {s : State} (X : it_ex g κ kc s) (hM : kc < 1000) (hz : H1.size ≤ s.heap.size + (kc + 1)) (hP : va_P g.2.1 it_cl (it_ws g κ S ++ [(q, x)]) H1) (hD : va_D (it_A g) (it_ws g κ S ++ [(q, x)])) : q = g.1 + κ.1 ∧ H1.size = g.1 + κ.1 + 1 := by
  have h1 := X hM
  have hlast : (it_ws g κ S ++ [(q, x)])[κ.1]? = some (q, x) := by
    rw [List.getElem?_append_right (by rw [it_ws_len]; exact Nat.le_refl _), it_ws_len]
    simp
  have h2 : q < H1.size := (hP _ _ hlast).lt
  have h3 : g.1 ≤ q := hD.2 _ _ hlast
  have h4 : ∀ i, i < κ.1 → q ≠ g.1 + i := by
    intro i hi he
    have := hD.1 i κ.1 (g.1 + i, it_ce g κ S i) (q, x) (by rw [List.getElem?_append_left (by rw [it_ws_len]; exact hi), it_ws_get hi]) hlast he.symm
    omega
  have h5 : ¬ q - g.1 < κ.1 := fun h => h4 (q - g.1) h (by omega)
  omega
theorem it_fr.push {κ1 : it_KK} {S1 : it_SS} {q : Nat} {x : va_E} {s : State} {H H1 : Heap} {locs : List Loc} (F : it_fr g κ S s H locs) (X : it_ex g κ kc s) (hM : kc < 1000) (hz : H1.size ≤ s.heap.size + (kc + 1)) (hP : va_P g.2.1 it_cl (it_ws g κ S ++ [(q, x)]) H1) (hD : va_D (it_A g) (it_ws g κ S ++ [(q, x)])) (hS : va_S (it_A g) s.heap H1 locs)
    (hn : κ1.1 = κ.1 + 1) (hc : ∀ b, b < κ.1 → it_ce g κ1 S1 b = it_ce g κ S b) (hx : it_ce g κ1 S1 κ.1 = x) : q = g.1 + κ.1 ∧ it_fr g κ1 S1 s H1 locs ∧ it_ex g κ1 (kc + 1) s := by
  obtain ⟨h1, h2⟩ := it_fresh X hM hz hP hD
  rw [it_ws_push hn hc h1 hx] at hP
  exact ⟨h1, ⟨by rw [hn, h2]; omega, F.2.1, hP, F.2.2.2.1, F.2.2.2.2.1, hS⟩, fun _ => by rw [hn, ← Nat.add_assoc, ← Nat.add_assoc, X hM]⟩
/-- class ci, by entry i of a class's own table, can be made -/
def it_nw (own : String) (i ci : Nat) : Prop := ∃ (C : String) (T : u_T) (N : Nat) (t : Nat → FieldType), it_cl[ci]? = some (C, T, N) ∧ (∀ w ∈ u_ws C T N, w ∈ it_tb) ∧ (∀ k, k < N → parseFieldDescriptor (T k).2.2.1 = some (t k)) ∧ Cond.classLink own i C ∈ it_tb ∧ Cond.instantiable C N ∈ it_tb ∧ Cond.initialized C ∈ it_tb ∧ (∀ k r, (it_mask ci)[k]? = some r → defaultValue (t k) = if r = true then .null else .int 0) ∧ (it_mask ci).length = N
theorem ev_new {ci i N : Nat} (hd : decode M.2.1 pc = .ok (.new i, 3)) (hM : kc < 1000) (hw : it_nw M.1.cls i ci) (hN : (it_mask ci).length = N) (hc : kc + 1 ≤ M.2.2.2.2.1) (hs : ks + N ≤ M.2.2.2.2.2) (kk : it_Ev g l d M (kc + 1) (ks + N) (pc + 3) L (.ref κ.1 :: st) (it_new κ (ci + 3) 0) (it_zero S κ.1) P) : it_Ev g l d M kc ks pc L st κ S P := by
  intro p e R s m args below meth c H locs ls Q C F X hl hq
  obtain ⟨cn, T, N', t, h1, h2, h3, h4, h5, h6, h7, h8⟩ := hw
  have hNN : N' = N := h8.symm.trans hN
  subst hNN
  refine va_new (fs := it_fs g (it_new κ (ci + 3) 0) (it_zero S κ.1) ci κ.1) C.1 C.2.1 (C.2.2.2.2.1) h2 t h3 C.2.2.2.1 (C.2.2.2.2.1 _ h4) (C.2.2.2.2.1 _ h5) (C.2.2.2.2.1 _ h6) F.2.2.2.1 F.2.2.1 (it_ws_D g κ S) F.2.2.2.2.2 F.D h1 ?_ (Nat.le_trans hc C.2.2.2.2.2.2.2.2.1) (Nat.le_trans hs C.2.2.2.2.2.2.2.2.2) hd (fun q H1 hP1 hD1 hS1 => it_W_sz fun hz => ?_)
  · intro j hj
    have hjm : ∃ r, (it_mask ci)[j]? = some r := ⟨_, List.getElem?_eq_getElem (by rw [h8]; exact hj)⟩
    obtain ⟨r, hr⟩ := hjm
    rw [h7 j r hr, vp_V, List.getD_eq_getElem?_getD, it_fs_get hr]
    cases r <;> simp [it_fld, it_new, it_zero]
  · obtain ⟨e1, F1, X1⟩ := F.push (κ1 := it_new κ (ci + 3) 0) (S1 := it_zero S κ.1) X hM hz hP1 hD1 hS1 rfl (fun b hb => it_ce_congr (by simp [it_new, Nat.ne_of_lt hb]) (by funext j; simp [it_new, Nat.ne_of_lt hb]) (by simp [it_zero, Nat.ne_of_lt hb])) (it_ce_ob (n := 0) (by simp [it_new]))
    subst e1
    exact kk p e R s m args below meth c H1 locs ls Q C F1 X1 hl hq
theorem ev_newa {n : Int32} {N : Nat} (hd : decode M.2.1 pc = .ok (.newarray .int, 2)) (hM : kc < 1000) (hw : Cond.arrayClass .int ∈ it_tb) (hn : ¬ n < 0) (hN : n.toNatClampNeg = N) (hb : N * 4 ≤ 536870912) (hc : kc + 1 ≤ M.2.2.2.2.1) (hs : ks + N ≤ M.2.2.2.2.2) (kk : it_Ev g l d M (kc + 1) (ks + N) (pc + 2) L (.ref κ.1 :: st) (it_new κ 0 N) (it_zero S κ.1) P) : it_Ev g l d M kc ks pc L (.int n :: st) κ S P := by
  intro p e R s m args below meth c H locs ls Q C F X hl hq
  refine va_newa (atype := .int) (ty := .int) (N' := N) (a0 := (N, .inl (fun _ => 0))) C.1 C.2.1 (C.2.2.2.2.1 _ hw) rfl F.2.2.2.1 F.2.2.1 (it_ws_D g κ S) F.2.2.2.2.2 F.D (fun cA => rfl) hn hN hb (Nat.le_trans hc C.2.2.2.2.2.2.2.2.1) (Nat.le_trans hs C.2.2.2.2.2.2.2.2.2) hd (fun q cA H1 hK1 hP1 hD1 hS1 => it_W_sz fun hz => ?_)
  have hcA : g.2.2.1 0 = cA := by
    have h1 := (hK1.2 3 (cA, .int) rfl).2
    have h2 := (F.2.2.2.1.2 0 (g.2.2.1 0, .int) rfl).2
    exact Option.some.inj (h2.symm.trans h1)
  subst hcA
  obtain ⟨e1, F1, X1⟩ := F.push (κ1 := it_new κ 0 N) (S1 := it_zero S κ.1) X hM hz hP1 hD1 hS1 rfl (fun b hb => it_ce_congr (by simp [it_new, Nat.ne_of_lt hb]) (by funext j; simp [it_new, Nat.ne_of_lt hb]) (by simp [it_zero, Nat.ne_of_lt hb])) (by rw [it_ce_ar (n := N) (by simp [it_new])]; simp [it_zero])
  subst e1
  exact kk p e R s m args below meth c H1 locs ls Q C F1 X1 hl hq
theorem ev_newq {n : Int32} {N i t : Nat} {cn : String} (hd : decode M.2.1 pc = .ok (.anewarray i, 3)) (hM : kc < 1000) (ht : (t = 1 ∧ cn = it_R4) ∨ (t = 2 ∧ cn = it_R2)) (hw : Cond.classLink M.1.cls i cn ∈ it_tb) (hn : ¬ n < 0) (hN : n.toNatClampNeg = N) (hb : N * 4 ≤ 536870912) (hc : kc + 1 ≤ M.2.2.2.2.1) (hs : ks + N ≤ M.2.2.2.2.2) (kk : it_Ev g l d M (kc + 1) (ks + N) (pc + 3) L (.ref κ.1 :: st) (it_new κ t N) (it_zero S κ.1) P) : it_Ev g l d M kc ks pc L (.int n :: st) κ S P := by
  intro p e R s m args below meth c H locs ls Q C F X hl hq
  have hao : va_AO cn s := by
    rcases ht with ⟨-, h⟩ | ⟨-, h⟩ <;> subst h
    · exact F.2.2.2.2.1.1.1
    · exact F.2.2.2.2.1.1.2.1
  refine va_newq (C := cn) (N' := N) C.1 C.2.1 C.2.2.2.1 (C.2.2.2.2.1 _ hw) hao F.2.2.2.1 F.2.2.1 (it_ws_D g κ S) F.2.2.2.2.2 F.D hn hN hb (Nat.le_trans hc C.2.2.2.2.2.2.2.2.1) (Nat.le_trans hs C.2.2.2.2.2.2.2.2.2) hd (fun q cA H1 hK1 hP1 hD1 hS1 => it_W_sz fun hz => ?_)
  have hcA : g.2.2.1 t = cA := by
    obtain ⟨_, _, -, -, -, h1⟩ := (hK1.2 3 (cA, .object cn) rfl).2
    rcases ht with ⟨rfl, rfl⟩ | ⟨rfl, rfl⟩
    · obtain ⟨_, _, -, -, -, h2⟩ := (F.2.2.2.1.2 1 (g.2.2.1 1, .object it_R4) rfl).2
      exact Option.some.inj (h2.symm.trans h1)
    · obtain ⟨_, _, -, -, -, h2⟩ := (F.2.2.2.1.2 2 (g.2.2.1 2, .object it_R2) rfl).2
      exact Option.some.inj (h2.symm.trans h1)
  subst hcA
  have ht2 : t = 1 ∨ t = 2 := ht.elim (fun h => Or.inl h.1) (fun h => Or.inr h.1)
  have hrr : it_rr (it_new κ t N) κ.1 t N := ⟨Nat.lt_succ_self _, by simp [it_new], ht2⟩
  obtain ⟨e1, F1, X1⟩ := F.push (κ1 := it_new κ t N) (S1 := it_zero S κ.1) X hM hz hP1 hD1 hS1 rfl (fun b hb => it_ce_congr (by simp [it_new, Nat.ne_of_lt hb]) (by funext j; simp [it_new, Nat.ne_of_lt hb]) (by simp [it_zero, Nat.ne_of_lt hb])) (by
    rw [it_ce_rr hrr]
    have : it_rf g (it_new κ t N) t κ.1 = fun _ => none := by
      funext j
      simp [it_rf, it_new]
    rw [this])
  subst e1
  exact kk p e R s m args below meth c H1 locs ls Q C F1 X1 hl hq
theorem ev_copy {a0 a1 n0 n1 i : Nat} {sp dp n : Int32} (hd : decode M.2.1 pc = .ok (.invokestatic i, 3)) (hM : kc < 1000) (hdd : 1 ≤ d) (hst : (st.map fun v => v.category).sum ≤ 8) (hm : Cond.methodLink M.1.cls i arraycopyName ∈ it_tb ∧ Cond.native arraycopyName ∈ it_tb ∧ Cond.static arraycopyName ∈ it_tb ∧ Cond.initialized "java/lang/System" ∈ it_tb) (h0 : it_ar κ a0 n0) (h1 : it_ar κ a1 n1) (g1 : ¬ sp < 0) (g2 : ¬ dp < 0) (g3 : ¬ n < 0) (g4 : sp.toNatClampNeg + n.toNatClampNeg ≤ n0) (g5 : dp.toNatClampNeg + n.toNatClampNeg ≤ n1) (kk : it_Ev g l d M kc ks (pc + 3) L st κ (it_cpy S a0 a1 sp.toNatClampNeg dp.toNatClampNeg n.toNatClampNeg) P) : it_Ev g l d M kc ks pc L (.int n :: .int dp :: .ref a1 :: .int sp :: .ref a0 :: st) κ S P := by
  intro p e R s m args below meth c H locs ls Q C F X hl hq
  refine va_copyi (ty := .int) C.1 C.2.1 (C.2.2.1.trans hl.1.symm) C.2.2.2.1 (C.2.2.2.2.1 _ hm.1) (C.2.2.2.2.1 _ hm.2.1) (C.2.2.2.2.1 _ hm.2.2.1) (C.2.2.2.2.1 _ hm.2.2.2) F.2.2.2.1 F.2.2.1 (it_ws_D g κ S) (it_S_here F.2.2.2.2.2) a0 a1 0 0 (by rw [it_ws_get h0.1, it_ce_ar h0.2]) (by rw [it_ws_get h1.1, it_ce_ar h1.2]) rfl rfl rfl g1 g2 g3 g4 g5 (fun _ _ => rfl) (Nat.le_trans hdd C.2.2.2.2.2.2.1) ?_ hd (fun H1 locs1 hP1 hD1 hS1 => it_W_sz fun hz => ?_)
  · have h2 : ((st.map (it_tr g)).map fun v => v.category).sum = (st.map fun v => v.category).sum := by
      rw [List.map_map]
      congr 1
      exact List.map_congr_left (fun v _ => it_tr_cat g v)
    rw [h2]
    have h3 : nativeFrameWords "java/lang/System" "arraycopy" 5 + 11 ≤ 40 := by decide
    have h4 := C.2.2.2.2.2.2.2.1
    omega
  · have hws : (it_ws g κ S).set a1 (g.1 + a1, .inl (g.2.2.1 0, n1, .inl (va_cpy (S a0) (S a1) sp.toNatClampNeg dp.toNatClampNeg n.toNatClampNeg))) = it_ws g κ (it_cpy S a0 a1 sp.toNatClampNeg dp.toNatClampNeg n.toNatClampNeg) := by
      have h2 : va_cpy (S a0) (S a1) sp.toNatClampNeg dp.toNatClampNeg n.toNatClampNeg = it_cpy S a0 a1 sp.toNatClampNeg dp.toNatClampNeg n.toNatClampNeg a1 := by simp [it_cpy]
      rw [h2, ← it_ce_ar (g := g) (S := it_cpy S a0 a1 sp.toNatClampNeg dp.toNatClampNeg n.toNatClampNeg) h1.2]
      exact it_ws_set rfl (fun b hb => it_ce_congr rfl rfl (by simp [it_cpy, hb]))
    rw [hws] at hP1
    exact kk p e R s m args below meth c H1 locs1 ls Q C (F.put rfl X hM hz hP1 hS1) X hl hq
theorem it_rest (st : List Value) : ((st.map (it_tr g)).map fun v => v.category).sum = (st.map fun v => v.category).sum := by
  rw [List.map_map]
  congr 1
  exact List.map_congr_left (fun v _ => it_tr_cat g v)
theorem ev_clone {a n i : Nat} (hd : decode M.2.1 pc = .ok (.invokevirtual i, 3)) (hM : kc < 1000) (hdd : 1 ≤ d) (hst : (st.map fun v => v.category).sum ≤ 8) (hm : Cond.methodLink M.1.cls i ⟨"[I", "clone", "()Ljava/lang/Object;"⟩ ∈ it_tb ∧ Cond.sameMethod "[I" "java/lang/Object" "clone" "()Ljava/lang/Object;" ∈ it_tb ∧ Cond.native ⟨"java/lang/Object", "clone", "()Ljava/lang/Object;"⟩ ∈ it_tb ∧ Cond.instanceMethod ⟨"java/lang/Object", "clone", "()Ljava/lang/Object;"⟩ ∈ it_tb ∧ Cond.selects "[I" ⟨"[I", "clone", "()Ljava/lang/Object;"⟩ ⟨"java/lang/Object", "clone", "()Ljava/lang/Object;"⟩ ∈ it_tb) (hA : it_ar κ a n) (hc : kc + 1 ≤ M.2.2.2.2.1) (hs : ks + n ≤ M.2.2.2.2.2) (kk : it_Ev g l d M (kc + 1) (ks + n) (pc + 3) L (.ref κ.1 :: st) (it_new κ 0 n) (it_dupl S a κ.1) P) : it_Ev g l d M kc ks pc L (.ref a :: st) κ S P := by
  intro p e R s m args below meth c H locs ls Q C F X hl hq
  refine va_clone (ad := "[I") (ty := .int) (x := (n, .inl (S a))) C.1 C.2.1 (C.2.2.1.trans hl.1.symm) C.2.2.2.1 (C.2.2.2.2.1 _ hm.1) (C.2.2.2.2.1 _ hm.2.1) (C.2.2.2.2.1 _ hm.2.2.1) (C.2.2.2.2.1 _ hm.2.2.2.1) (C.2.2.2.2.1 _ hm.2.2.2.2) F.2.2.2.2.1.1.2.2.1 F.2.2.2.1 F.2.2.1 (it_ws_D g κ S) F.2.2.2.2.2 F.D a 0 (by rw [it_ws_get hA.1, it_ce_ar hA.2]) rfl (F.2.2.2.1.2 0 (g.2.2.1 0, .int) rfl).2 ?_ (Nat.le_trans hdd C.2.2.2.2.2.2.1) ?_ (Nat.le_trans hc C.2.2.2.2.2.2.2.2.1) (Nat.le_trans hs C.2.2.2.2.2.2.2.2.2) hd (fun q H1 hK1 hP1 hD1 hS1 => it_W_sz fun hz => ?_)
  · intro j v hv
    have hv : (arrV (g.2.2.1 0) n (fun j => .int (S a j))).slots[j]? = some v := hv
    have hj : j < n := by
      have := (Array.getElem?_eq_some_iff.mp hv).1
      rwa [arrV_size] at this
    rw [arrV_read _ _ hj] at hv
    cases hv
    rfl
  · rw [it_rest]
    have h4 := C.2.2.2.2.2.2.2.1
    omega
  · obtain ⟨e1, F1, X1⟩ := F.push (κ1 := it_new κ 0 n) (S1 := it_dupl S a κ.1) X hM hz hP1 hD1 hS1 rfl (fun b hb => it_ce_congr (by simp [it_new, Nat.ne_of_lt hb]) (by funext j; simp [it_new, Nat.ne_of_lt hb]) (by simp [it_dupl, Nat.ne_of_lt hb])) (by rw [it_ce_ar (n := n) (by simp [it_new])]; simp [it_dupl])
    subst e1
    exact kk p e R s m args below meth c H1 locs ls Q C F1 X1 hl hq
theorem ev_castA {a n i : Nat} (hd : decode M.2.1 pc = .ok (.checkcast i, 3)) (hm : Cond.classLink M.1.cls i "[I" ∈ it_tb) (hA : it_ar κ a n) (kk : it_Ev g l d M kc ks (pc + 3) L (.ref a :: st) κ S P) : it_Ev g l d M kc ks pc L (.ref a :: st) κ S P := by
  intro p e R s m args below meth c H locs ls Q C F X hl hq
  exact va_castA (nm := "[I") C.1 C.2.1 C.2.2.2.1 (C.2.2.2.2.1 _ hm) F.2.2.1 a (by rw [it_ws_get hA.1, it_ce_ar hA.2]) (F.2.2.2.1.2 0 (g.2.2.1 0, .int) rfl).2 hd (kk p e R s m args below meth c H locs ls Q C F X hl hq)
end ITR
