/-- as Z, with ce cells of sl slots made already -/
def Y (p : Program) (l : Launch) (e : Env) (R : Room) (s : State) (m : MethodId) (args : Array Value) (below : List Frame) (meth : Method) (c : Code) (nL : Nat) (D : va_G) (A : Nat → Prop) (Q : State → Prop) (ce sl : Nat) (w : va_W) (lv : List (Nat × Value)) (pc : Nat) (st : List Value) : Prop :=
  ∀ (H : Heap) (locs : List Loc) (ls : Array Slot), va_P D vwCl w H → va_D A w → va_S A s.heap H locs → lv_has ls nL lv → W p l e R s m args below meth c H locs ce sl Q (F0 m pc ls st)
section YR
variable {p : Program} {l : Launch} {e : Env} {R : Room} {s : State} {m : MethodId} {args : Array Value} {below : List Frame} {meth : Method} {c : Code} {Q : State → Prop}
variable {cc : ByteArray} {nL : Nat} {Ts : List Cond} {own : String} {D : va_G} {tys : List (ClassId × FieldType)} {A : Nat → Prop} {w : va_W} {lv : List (Nat × Value)} {pc : Nat} {st : List Value} {ce sl : Nat}
theorem Y.iconst (C : Cx p R s m args meth c cc nL Ts own D tys A) {n : Int} {v : Int32} (d : decode cc pc = .ok (.iconst n, 1))
    (hv : Int32.ofInt n = v) (k : Y p l e R s m args below meth c nL D A Q ce sl w lv (pc + 1) (.int v :: st)) : Y p l e R s m args below meth c nL D A Q ce sl w lv pc st :=
  fun H locs ls hP hD hS hl => lv_iconst C.1 C.2.1 d hv (k H locs ls hP hD hS hl)
theorem Y.bipush (C : Cx p R s m args meth c cc nL Ts own D tys A) {n : Int} {v : Int32} (d : decode cc pc = .ok (.bipush n, 2))
    (hv : (Int8.ofInt n).toInt32 = v) (k : Y p l e R s m args below meth c nL D A Q ce sl w lv (pc + 2) (.int v :: st)) : Y p l e R s m args below meth c nL D A Q ce sl w lv pc st :=
  fun H locs ls hP hD hS hl => lv_bipush C.1 C.2.1 d hv (k H locs ls hP hD hS hl)
theorem Y.sipush (C : Cx p R s m args meth c cc nL Ts own D tys A) {n : Int} {v : Int32} (d : decode cc pc = .ok (.sipush n, 3))
    (hv : (Int16.ofInt n).toInt32 = v) (k : Y p l e R s m args below meth c nL D A Q ce sl w lv (pc + 3) (.int v :: st)) : Y p l e R s m args below meth c nL D A Q ce sl w lv pc st :=
  fun H locs ls hP hD hS hl => lv_sipush C.1 C.2.1 d hv (k H locs ls hP hD hS hl)
theorem Y.lconst (C : Cx p R s m args meth c cc nL Ts own D tys A) {n : Fin 2} {v : Int64} (d : decode cc pc = .ok (.lconst n, 1))
    (hv : Int64.ofNat (n : Nat) = v) (k : Y p l e R s m args below meth c nL D A Q ce sl w lv (pc + 1) (.long v :: st)) : Y p l e R s m args below meth c nL D A Q ce sl w lv pc st :=
  fun H locs ls hP hD hS hl => lv_lconst C.1 C.2.1 d hv (k H locs ls hP hD hS hl)
theorem Y.ldc2 (C : Cx p R s m args meth c cc nL Ts own D tys A) {index : Nat} {v : Int64} (d : decode cc pc = .ok (.ldc2_w index, 3))
    (hv : Cond.constantLong own index v ∈ Ts) (k : Y p l e R s m args below meth c nL D A Q ce sl w lv (pc + 3) (.long v :: st)) : Y p l e R s m args below meth c nL D A Q ce sl w lv pc st :=
  fun H locs ls hP hD hS hl => lv_ldc2 C.1 C.2.1 C.2.2.2.1 (C.2.2.2.2.1 _ hv) d (k H locs ls hP hD hS hl)
theorem Y.ldc (C : Cx p R s m args meth c cc nL Ts own D tys A) {index : Nat} {v : Int32} (d : decode cc pc = .ok (.ldc index, 2))
    (hv : Cond.constant own index v ∈ Ts) (k : Y p l e R s m args below meth c nL D A Q ce sl w lv (pc + 2) (.int v :: st)) : Y p l e R s m args below meth c nL D A Q ce sl w lv pc st :=
  fun H locs ls hP hD hS hl => lv_ldc C.1 C.2.1 C.2.2.2.1 (C.2.2.2.2.1 _ hv) d (k H locs ls hP hD hS hl)
theorem Y.iload_n (C : Cx p R s m args meth c cc nL Ts own D tys A) {k4 : Fin 4} {i : Nat} {x : Int32} (d : decode cc pc = .ok (.iload_n k4, 1))
    (j : Nat) (hj : lv[j]? = some (i, .int x)) (hi : (k4 : Nat) = i) (k : Y p l e R s m args below meth c nL D A Q ce sl w lv (pc + 1) (.int x :: st)) : Y p l e R s m args below meth c nL D A Q ce sl w lv pc st :=
  fun H locs ls hP hD hS hl => lv_iload_n C.1 C.2.1 d hi (lv_at hl j hj) (k H locs ls hP hD hS hl)
theorem Y.iload (C : Cx p R s m args meth c cc nL Ts own D tys A) {i : Nat} {x : Int32} (d : decode cc pc = .ok (.iload i, 2))
    (j : Nat) (hj : lv[j]? = some (i, .int x)) (k : Y p l e R s m args below meth c nL D A Q ce sl w lv (pc + 2) (.int x :: st)) : Y p l e R s m args below meth c nL D A Q ce sl w lv pc st :=
  fun H locs ls hP hD hS hl => lv_iload C.1 C.2.1 d (lv_at hl j hj) (k H locs ls hP hD hS hl)
theorem Y.istore_n (C : Cx p R s m args meth c cc nL Ts own D tys A) {k4 : Fin 4} {i : Nat} {x : Int32} {lv' : List (Nat × Value)} (d : decode cc pc = .ok (.istore_n k4, 1))
    (hi : (k4 : Nat) = i) (hn : i < nL) (hv : (i, Value.int x) :: lv.filter (fun q => !(q.1 == i) && !(q.1 + 1 == i && q.2.category == 2)) = lv') (k : Y p l e R s m args below meth c nL D A Q ce sl w lv' (pc + 1) st) : Y p l e R s m args below meth c nL D A Q ce sl w lv pc (.int x :: st) :=
  fun H locs ls hP hD hS hl => lv_istore_n C.1 C.2.1 d hi hl hn hv (fun ls' h' => k H locs ls' hP hD hS h')
theorem Y.istore (C : Cx p R s m args meth c cc nL Ts own D tys A) {i : Nat} {x : Int32} {lv' : List (Nat × Value)} (d : decode cc pc = .ok (.istore i, 2))
    (hn : i < nL) (hv : (i, Value.int x) :: lv.filter (fun q => !(q.1 == i) && !(q.1 + 1 == i && q.2.category == 2)) = lv') (k : Y p l e R s m args below meth c nL D A Q ce sl w lv' (pc + 2) st) : Y p l e R s m args below meth c nL D A Q ce sl w lv pc (.int x :: st) :=
  fun H locs ls hP hD hS hl => lv_istore C.1 C.2.1 d hl hn hv (fun ls' h' => k H locs ls' hP hD hS h')
theorem Y.lload_n (C : Cx p R s m args meth c cc nL Ts own D tys A) {k4 : Fin 4} {i : Nat} {x : Int64} (d : decode cc pc = .ok (.lload_n k4, 1))
    (j : Nat) (hj : lv[j]? = some (i, .long x)) (hi : (k4 : Nat) = i) (k : Y p l e R s m args below meth c nL D A Q ce sl w lv (pc + 1) (.long x :: st)) : Y p l e R s m args below meth c nL D A Q ce sl w lv pc st :=
  fun H locs ls hP hD hS hl => lv_lload_n C.1 C.2.1 d hi (lv_at hl j hj) (k H locs ls hP hD hS hl)
theorem Y.lload (C : Cx p R s m args meth c cc nL Ts own D tys A) {i : Nat} {x : Int64} (d : decode cc pc = .ok (.lload i, 2))
    (j : Nat) (hj : lv[j]? = some (i, .long x)) (k : Y p l e R s m args below meth c nL D A Q ce sl w lv (pc + 2) (.long x :: st)) : Y p l e R s m args below meth c nL D A Q ce sl w lv pc st :=
  fun H locs ls hP hD hS hl => lv_lload C.1 C.2.1 d (lv_at hl j hj) (k H locs ls hP hD hS hl)
theorem Y.lstore_n (C : Cx p R s m args meth c cc nL Ts own D tys A) {k4 : Fin 4} {i : Nat} {x : Int64} {lv' : List (Nat × Value)} (d : decode cc pc = .ok (.lstore_n k4, 1))
    (hi : (k4 : Nat) = i) (hn : i + 1 < nL) (hv : (i, Value.long x) :: lv.filter (fun q => !(q.1 == i) && (!(q.1 == i + 1) && !(q.1 + 1 == i && q.2.category == 2))) = lv') (k : Y p l e R s m args below meth c nL D A Q ce sl w lv' (pc + 1) st) : Y p l e R s m args below meth c nL D A Q ce sl w lv pc (.long x :: st) :=
  fun H locs ls hP hD hS hl => lv_lstore_n C.1 C.2.1 d hi hl hn hv (fun ls' h' => k H locs ls' hP hD hS h')
theorem Y.lstore (C : Cx p R s m args meth c cc nL Ts own D tys A) {i : Nat} {x : Int64} {lv' : List (Nat × Value)} (d : decode cc pc = .ok (.lstore i, 2))
    (hn : i + 1 < nL) (hv : (i, Value.long x) :: lv.filter (fun q => !(q.1 == i) && (!(q.1 == i + 1) && !(q.1 + 1 == i && q.2.category == 2))) = lv') (k : Y p l e R s m args below meth c nL D A Q ce sl w lv' (pc + 2) st) : Y p l e R s m args below meth c nL D A Q ce sl w lv pc (.long x :: st) :=
  fun H locs ls hP hD hS hl => lv_lstore C.1 C.2.1 d hl hn hv (fun ls' h' => k H locs ls' hP hD hS h')
theorem Y.aload_n (C : Cx p R s m args meth c cc nL Ts own D tys A) {k4 : Fin 4} {i : Nat} {x : Nat} (d : decode cc pc = .ok (.aload_n k4, 1))
    (j : Nat) (hj : lv[j]? = some (i, .ref x)) (hi : (k4 : Nat) = i) (k : Y p l e R s m args below meth c nL D A Q ce sl w lv (pc + 1) (.ref x :: st)) : Y p l e R s m args below meth c nL D A Q ce sl w lv pc st :=
  fun H locs ls hP hD hS hl => lv_aload_n C.1 C.2.1 d hi (lv_at hl j hj) (k H locs ls hP hD hS hl)
theorem Y.aload (C : Cx p R s m args meth c cc nL Ts own D tys A) {i : Nat} {x : Nat} (d : decode cc pc = .ok (.aload i, 2))
    (j : Nat) (hj : lv[j]? = some (i, .ref x)) (k : Y p l e R s m args below meth c nL D A Q ce sl w lv (pc + 2) (.ref x :: st)) : Y p l e R s m args below meth c nL D A Q ce sl w lv pc st :=
  fun H locs ls hP hD hS hl => lv_aload C.1 C.2.1 d (lv_at hl j hj) (k H locs ls hP hD hS hl)
theorem Y.astore_n (C : Cx p R s m args meth c cc nL Ts own D tys A) {k4 : Fin 4} {i : Nat} {x : Nat} {lv' : List (Nat × Value)} (d : decode cc pc = .ok (.astore_n k4, 1))
    (hi : (k4 : Nat) = i) (hn : i < nL) (hv : (i, Value.ref x) :: lv.filter (fun q => !(q.1 == i) && !(q.1 + 1 == i && q.2.category == 2)) = lv') (k : Y p l e R s m args below meth c nL D A Q ce sl w lv' (pc + 1) st) : Y p l e R s m args below meth c nL D A Q ce sl w lv pc (.ref x :: st) :=
  fun H locs ls hP hD hS hl => lv_astore_n C.1 C.2.1 d hi hl hn hv (fun ls' h' => k H locs ls' hP hD hS h')
theorem Y.astore (C : Cx p R s m args meth c cc nL Ts own D tys A) {i : Nat} {x : Nat} {lv' : List (Nat × Value)} (d : decode cc pc = .ok (.astore i, 2))
    (hn : i < nL) (hv : (i, Value.ref x) :: lv.filter (fun q => !(q.1 == i) && !(q.1 + 1 == i && q.2.category == 2)) = lv') (k : Y p l e R s m args below meth c nL D A Q ce sl w lv' (pc + 2) st) : Y p l e R s m args below meth c nL D A Q ce sl w lv pc (.ref x :: st) :=
  fun H locs ls hP hD hS hl => lv_astore C.1 C.2.1 d hl hn hv (fun ls' h' => k H locs ls' hP hD hS h')
theorem Y.iinc (C : Cx p R s m args meth c cc nL Ts own D tys A) {i : Nat} {n : Int} {x v : Int32} {lv' : List (Nat × Value)} (d : decode cc pc = .ok (.iinc i n, 3))
    (j : Nat) (hj : lv[j]? = some (i, .int x)) (hv : x + Int32.ofInt n = v) (hn : i < nL) (hw : (i, Value.int v) :: lv.filter (fun q => !(q.1 == i) && !(q.1 + 1 == i && q.2.category == 2)) = lv') (k : Y p l e R s m args below meth c nL D A Q ce sl w lv' (pc + 3) st) : Y p l e R s m args below meth c nL D A Q ce sl w lv pc st :=
  fun H locs ls hP hD hS hl => lv_iinc C.1 C.2.1 d hl (k := j) hj hv hn hw (fun ls' h' => k H locs ls' hP hD hS h')
theorem Y.iadd (C : Cx p R s m args meth c cc nL Ts own D tys A) {x y v : Int32} (d : decode cc pc = .ok (.iadd, 1)) (hv : x + y = v) (k : Y p l e R s m args below meth c nL D A Q ce sl w lv (pc + 1) (.int v :: st)) : Y p l e R s m args below meth c nL D A Q ce sl w lv pc (.int y :: .int x :: st) := by
  subst hv
  exact fun H locs ls hP hD hS hl => lv_iadd C.1 C.2.1 d (k H locs ls hP hD hS hl)
theorem Y.isub (C : Cx p R s m args meth c cc nL Ts own D tys A) {x y v : Int32} (d : decode cc pc = .ok (.isub, 1)) (hv : x - y = v) (k : Y p l e R s m args below meth c nL D A Q ce sl w lv (pc + 1) (.int v :: st)) : Y p l e R s m args below meth c nL D A Q ce sl w lv pc (.int y :: .int x :: st) := by
  subst hv
  exact fun H locs ls hP hD hS hl => lv_isub C.1 C.2.1 d (k H locs ls hP hD hS hl)
theorem Y.imul (C : Cx p R s m args meth c cc nL Ts own D tys A) {x y v : Int32} (d : decode cc pc = .ok (.imul, 1)) (hv : x * y = v) (k : Y p l e R s m args below meth c nL D A Q ce sl w lv (pc + 1) (.int v :: st)) : Y p l e R s m args below meth c nL D A Q ce sl w lv pc (.int y :: .int x :: st) := by
  subst hv
  exact fun H locs ls hP hD hS hl => lv_imul C.1 C.2.1 d (k H locs ls hP hD hS hl)
theorem Y.iand (C : Cx p R s m args meth c cc nL Ts own D tys A) {x y v : Int32} (d : decode cc pc = .ok (.iand, 1)) (hv : x &&& y = v) (k : Y p l e R s m args below meth c nL D A Q ce sl w lv (pc + 1) (.int v :: st)) : Y p l e R s m args below meth c nL D A Q ce sl w lv pc (.int y :: .int x :: st) := by
  subst hv
  exact fun H locs ls hP hD hS hl => lv_iand C.1 C.2.1 d (k H locs ls hP hD hS hl)
theorem Y.ior (C : Cx p R s m args meth c cc nL Ts own D tys A) {x y v : Int32} (d : decode cc pc = .ok (.ior, 1)) (hv : x ||| y = v) (k : Y p l e R s m args below meth c nL D A Q ce sl w lv (pc + 1) (.int v :: st)) : Y p l e R s m args below meth c nL D A Q ce sl w lv pc (.int y :: .int x :: st) := by
  subst hv
  exact fun H locs ls hP hD hS hl => lv_ior C.1 C.2.1 d (k H locs ls hP hD hS hl)
theorem Y.ixor (C : Cx p R s m args meth c cc nL Ts own D tys A) {x y v : Int32} (d : decode cc pc = .ok (.ixor, 1)) (hv : x ^^^ y = v) (k : Y p l e R s m args below meth c nL D A Q ce sl w lv (pc + 1) (.int v :: st)) : Y p l e R s m args below meth c nL D A Q ce sl w lv pc (.int y :: .int x :: st) := by
  subst hv
  exact fun H locs ls hP hD hS hl => lv_ixor C.1 C.2.1 d (k H locs ls hP hD hS hl)
theorem Y.irem (C : Cx p R s m args meth c cc nL Ts own D tys A) {x y v : Int32} (d : decode cc pc = .ok (.irem, 1)) (hne : ¬ y = 0) (hv : x - x / y * y = v) (k : Y p l e R s m args below meth c nL D A Q ce sl w lv (pc + 1) (.int v :: st)) : Y p l e R s m args below meth c nL D A Q ce sl w lv pc (.int y :: .int x :: st) := by
  subst hv
  exact fun H locs ls hP hD hS hl => lv_irem C.1 C.2.1 d hne (k H locs ls hP hD hS hl)
theorem Y.ladd (C : Cx p R s m args meth c cc nL Ts own D tys A) {x y v : Int64} (d : decode cc pc = .ok (.ladd, 1)) (hv : x + y = v) (k : Y p l e R s m args below meth c nL D A Q ce sl w lv (pc + 1) (.long v :: st)) : Y p l e R s m args below meth c nL D A Q ce sl w lv pc (.long y :: .long x :: st) := by
  subst hv
  exact fun H locs ls hP hD hS hl => lv_ladd C.1 C.2.1 d (k H locs ls hP hD hS hl)
theorem Y.lmul (C : Cx p R s m args meth c cc nL Ts own D tys A) {x y v : Int64} (d : decode cc pc = .ok (.lmul, 1)) (hv : x * y = v) (k : Y p l e R s m args below meth c nL D A Q ce sl w lv (pc + 1) (.long v :: st)) : Y p l e R s m args below meth c nL D A Q ce sl w lv pc (.long y :: .long x :: st) := by
  subst hv
  exact fun H locs ls hP hD hS hl => lv_lmul C.1 C.2.1 d (k H locs ls hP hD hS hl)
theorem Y.land (C : Cx p R s m args meth c cc nL Ts own D tys A) {x y v : Int64} (d : decode cc pc = .ok (.land, 1)) (hv : x &&& y = v) (k : Y p l e R s m args below meth c nL D A Q ce sl w lv (pc + 1) (.long v :: st)) : Y p l e R s m args below meth c nL D A Q ce sl w lv pc (.long y :: .long x :: st) := by
  subst hv
  exact fun H locs ls hP hD hS hl => lv_land C.1 C.2.1 d (k H locs ls hP hD hS hl)
theorem Y.lor (C : Cx p R s m args meth c cc nL Ts own D tys A) {x y v : Int64} (d : decode cc pc = .ok (.lor, 1)) (hv : x ||| y = v) (k : Y p l e R s m args below meth c nL D A Q ce sl w lv (pc + 1) (.long v :: st)) : Y p l e R s m args below meth c nL D A Q ce sl w lv pc (.long y :: .long x :: st) := by
  subst hv
  exact fun H locs ls hP hD hS hl => lv_lor C.1 C.2.1 d (k H locs ls hP hD hS hl)
theorem Y.ishl (C : Cx p R s m args meth c cc nL Ts own D tys A) {x y v : Int32} (d : decode cc pc = .ok (.ishl, 1)) (hv : x <<< (y &&& 31) = v) (k : Y p l e R s m args below meth c nL D A Q ce sl w lv (pc + 1) (.int v :: st)) : Y p l e R s m args below meth c nL D A Q ce sl w lv pc (.int y :: .int x :: st) := by
  subst hv
  exact fun H locs ls hP hD hS hl => lv_ishl C.1 C.2.1 d (k H locs ls hP hD hS hl)
theorem Y.ishr (C : Cx p R s m args meth c cc nL Ts own D tys A) {x y v : Int32} (d : decode cc pc = .ok (.ishr, 1)) (hv : x >>> (y &&& 31) = v) (k : Y p l e R s m args below meth c nL D A Q ce sl w lv (pc + 1) (.int v :: st)) : Y p l e R s m args below meth c nL D A Q ce sl w lv pc (.int y :: .int x :: st) := by
  subst hv
  exact fun H locs ls hP hD hS hl => lv_ishr C.1 C.2.1 d (k H locs ls hP hD hS hl)
theorem Y.iushr (C : Cx p R s m args meth c cc nL Ts own D tys A) {x y v : Int32} (d : decode cc pc = .ok (.iushr, 1)) (hv : (x.toUInt32 >>> (y.toUInt32 &&& Int32.toUInt32 31)).toInt32 = v) (k : Y p l e R s m args below meth c nL D A Q ce sl w lv (pc + 1) (.int v :: st)) : Y p l e R s m args below meth c nL D A Q ce sl w lv pc (.int y :: .int x :: st) := fun H locs ls hP hD hS hl => lv_iushr C.1 C.2.1 d hv (k H locs ls hP hD hS hl)
theorem Y.lushr (C : Cx p R s m args meth c cc nL Ts own D tys A) {x v : Int64} {y : Int32} (d : decode cc pc = .ok (.lushr, 1)) (hv : (x.toUInt64 >>> (y.toInt64.toUInt64 &&& Int64.toUInt64 63)).toInt64 = v) (k : Y p l e R s m args below meth c nL D A Q ce sl w lv (pc + 1) (.long v :: st)) : Y p l e R s m args below meth c nL D A Q ce sl w lv pc (.int y :: .long x :: st) := fun H locs ls hP hD hS hl => lv_lushr C.1 C.2.1 d hv (k H locs ls hP hD hS hl)
theorem Y.lshl (C : Cx p R s m args meth c cc nL Ts own D tys A) {x v : Int64} {y : Int32} (d : decode cc pc = .ok (.lshl, 1)) (hv : x <<< (y.toInt64 &&& 63) = v) (k : Y p l e R s m args below meth c nL D A Q ce sl w lv (pc + 1) (.long v :: st)) : Y p l e R s m args below meth c nL D A Q ce sl w lv pc (.int y :: .long x :: st) := fun H locs ls hP hD hS hl => lv_lshl C.1 C.2.1 d hv (k H locs ls hP hD hS hl)
theorem Y.lcmp (C : Cx p R s m args meth c cc nL Ts own D tys A) {x y : Int64} {v : Int32} (d : decode cc pc = .ok (.lcmp, 1)) (hv : lg_cmp x y = v) (k : Y p l e R s m args below meth c nL D A Q ce sl w lv (pc + 1) (.int v :: st)) : Y p l e R s m args below meth c nL D A Q ce sl w lv pc (.long y :: .long x :: st) := by
  subst hv
  exact fun H locs ls hP hD hS hl => W.lcmp C.1 C.2.1 d (k H locs ls hP hD hS hl)
theorem Y.i2l (C : Cx p R s m args meth c cc nL Ts own D tys A) {x : Int32} {v : Int64} (d : decode cc pc = .ok (.i2l, 1)) (hv : x.toInt64 = v) (k : Y p l e R s m args below meth c nL D A Q ce sl w lv (pc + 1) (.long v :: st)) : Y p l e R s m args below meth c nL D A Q ce sl w lv pc (.int x :: st) := fun H locs ls hP hD hS hl => lv_i2l C.1 C.2.1 d hv (k H locs ls hP hD hS hl)
theorem Y.l2i (C : Cx p R s m args meth c cc nL Ts own D tys A) {x : Int64} {v : Int32} (d : decode cc pc = .ok (.l2i, 1)) (hv : x.toInt32 = v) (k : Y p l e R s m args below meth c nL D A Q ce sl w lv (pc + 1) (.int v :: st)) : Y p l e R s m args below meth c nL D A Q ce sl w lv pc (.long x :: st) := fun H locs ls hP hD hS hl => lv_l2i C.1 C.2.1 d hv (k H locs ls hP hD hS hl)
theorem Y.i2c (C : Cx p R s m args meth c cc nL Ts own D tys A) {x : Int32} {v : Int32} (d : decode cc pc = .ok (.i2c, 1)) (hv : (x.toUInt32 % 65536).toInt32 = v) (k : Y p l e R s m args below meth c nL D A Q ce sl w lv (pc + 1) (.int v :: st)) : Y p l e R s m args below meth c nL D A Q ce sl w lv pc (.int x :: st) := fun H locs ls hP hD hS hl => lv_i2c C.1 C.2.1 d hv (k H locs ls hP hD hS hl)
theorem Y.dup (C : Cx p R s m args meth c cc nL Ts own D tys A) {va : Value} (d : decode cc pc = .ok (.dup, 1)) (h1 : va.category = 1) (k : Y p l e R s m args below meth c nL D A Q ce sl w lv (pc + 1) (va :: va :: st)) : Y p l e R s m args below meth c nL D A Q ce sl w lv pc (va :: st) := fun H locs ls hP hD hS hl => lv_dup C.1 C.2.1 d h1 (k H locs ls hP hD hS hl)
theorem Y.pop (C : Cx p R s m args meth c cc nL Ts own D tys A) {va : Value} (d : decode cc pc = .ok (.pop, 1)) (h1 : va.category = 1) (k : Y p l e R s m args below meth c nL D A Q ce sl w lv (pc + 1) st) : Y p l e R s m args below meth c nL D A Q ce sl w lv pc (va :: st) := fun H locs ls hP hD hS hl => lv_pop C.1 C.2.1 d h1 (k H locs ls hP hD hS hl)
theorem Y.dup_x1 (C : Cx p R s m args meth c cc nL Ts own D tys A) {va vb : Value} (d : decode cc pc = .ok (.dup_x1, 1)) (h1 : va.category = 1) (h2 : vb.category = 1) (k : Y p l e R s m args below meth c nL D A Q ce sl w lv (pc + 1) (va :: vb :: va :: st)) : Y p l e R s m args below meth c nL D A Q ce sl w lv pc (va :: vb :: st) := fun H locs ls hP hD hS hl => lv_dup_x1 C.1 C.2.1 d h1 h2 (k H locs ls hP hD hS hl)
theorem Y.dup2 (C : Cx p R s m args meth c cc nL Ts own D tys A) {va vb : Value} (d : decode cc pc = .ok (.dup2, 1)) (h1 : va.category = 1) (h2 : vb.category = 1) (k : Y p l e R s m args below meth c nL D A Q ce sl w lv (pc + 1) (va :: vb :: va :: vb :: st)) : Y p l e R s m args below meth c nL D A Q ce sl w lv pc (va :: vb :: st) := fun H locs ls hP hD hS hl => lv_dup2_11 C.1 C.2.1 d h1 h2 (k H locs ls hP hD hS hl)
theorem Y.if_eq (C : Cx p R s m args meth c cc nL Ts own D tys A) {x : Int32} {off : Int} (tgt : Nat) (d : decode cc pc = .ok (.ifCond .eq off, 3)) (ht : (pc : Int) + off = (tgt : Int)) (kt : x = 0 → Y p l e R s m args below meth c nL D A Q ce sl w lv tgt st) (kf : ¬ x = 0 → Y p l e R s m args below meth c nL D A Q ce sl w lv (pc + 3) st) : Y p l e R s m args below meth c nL D A Q ce sl w lv pc (.int x :: st) :=
  fun H locs ls hP hD hS hl => lv_if_eq C.1 C.2.1 d ht (fun h => kt h H locs ls hP hD hS hl) (fun h => kf h H locs ls hP hD hS hl)
theorem Y.icmp_eq (C : Cx p R s m args meth c cc nL Ts own D tys A) {x y : Int32} {off : Int} (tgt : Nat) (d : decode cc pc = .ok (.if_icmp .eq off, 3)) (ht : (pc : Int) + off = (tgt : Int)) (kt : x = y → Y p l e R s m args below meth c nL D A Q ce sl w lv tgt st) (kf : ¬ x = y → Y p l e R s m args below meth c nL D A Q ce sl w lv (pc + 3) st) : Y p l e R s m args below meth c nL D A Q ce sl w lv pc (.int y :: .int x :: st) :=
  fun H locs ls hP hD hS hl => lv_icmp_eq C.1 C.2.1 d ht (fun h => kt h H locs ls hP hD hS hl) (fun h => kf h H locs ls hP hD hS hl)
theorem Y.if_ne (C : Cx p R s m args meth c cc nL Ts own D tys A) {x : Int32} {off : Int} (tgt : Nat) (d : decode cc pc = .ok (.ifCond .ne off, 3)) (ht : (pc : Int) + off = (tgt : Int)) (kt : ¬ x = 0 → Y p l e R s m args below meth c nL D A Q ce sl w lv tgt st) (kf : x = 0 → Y p l e R s m args below meth c nL D A Q ce sl w lv (pc + 3) st) : Y p l e R s m args below meth c nL D A Q ce sl w lv pc (.int x :: st) :=
  fun H locs ls hP hD hS hl => lv_if_ne C.1 C.2.1 d ht (fun h => kt h H locs ls hP hD hS hl) (fun h => kf h H locs ls hP hD hS hl)
theorem Y.icmp_ne (C : Cx p R s m args meth c cc nL Ts own D tys A) {x y : Int32} {off : Int} (tgt : Nat) (d : decode cc pc = .ok (.if_icmp .ne off, 3)) (ht : (pc : Int) + off = (tgt : Int)) (kt : ¬ x = y → Y p l e R s m args below meth c nL D A Q ce sl w lv tgt st) (kf : x = y → Y p l e R s m args below meth c nL D A Q ce sl w lv (pc + 3) st) : Y p l e R s m args below meth c nL D A Q ce sl w lv pc (.int y :: .int x :: st) :=
  fun H locs ls hP hD hS hl => lv_icmp_ne C.1 C.2.1 d ht (fun h => kt h H locs ls hP hD hS hl) (fun h => kf h H locs ls hP hD hS hl)
theorem Y.if_lt (C : Cx p R s m args meth c cc nL Ts own D tys A) {x : Int32} {off : Int} (tgt : Nat) (d : decode cc pc = .ok (.ifCond .lt off, 3)) (ht : (pc : Int) + off = (tgt : Int)) (kt : x < 0 → Y p l e R s m args below meth c nL D A Q ce sl w lv tgt st) (kf : ¬ x < 0 → Y p l e R s m args below meth c nL D A Q ce sl w lv (pc + 3) st) : Y p l e R s m args below meth c nL D A Q ce sl w lv pc (.int x :: st) :=
  fun H locs ls hP hD hS hl => lv_if_lt C.1 C.2.1 d ht (fun h => kt h H locs ls hP hD hS hl) (fun h => kf h H locs ls hP hD hS hl)
theorem Y.icmp_lt (C : Cx p R s m args meth c cc nL Ts own D tys A) {x y : Int32} {off : Int} (tgt : Nat) (d : decode cc pc = .ok (.if_icmp .lt off, 3)) (ht : (pc : Int) + off = (tgt : Int)) (kt : x < y → Y p l e R s m args below meth c nL D A Q ce sl w lv tgt st) (kf : ¬ x < y → Y p l e R s m args below meth c nL D A Q ce sl w lv (pc + 3) st) : Y p l e R s m args below meth c nL D A Q ce sl w lv pc (.int y :: .int x :: st) :=
  fun H locs ls hP hD hS hl => lv_icmp_lt C.1 C.2.1 d ht (fun h => kt h H locs ls hP hD hS hl) (fun h => kf h H locs ls hP hD hS hl)
theorem Y.if_ge (C : Cx p R s m args meth c cc nL Ts own D tys A) {x : Int32} {off : Int} (tgt : Nat) (d : decode cc pc = .ok (.ifCond .ge off, 3)) (ht : (pc : Int) + off = (tgt : Int)) (kt : 0 ≤ x → Y p l e R s m args below meth c nL D A Q ce sl w lv tgt st) (kf : ¬ 0 ≤ x → Y p l e R s m args below meth c nL D A Q ce sl w lv (pc + 3) st) : Y p l e R s m args below meth c nL D A Q ce sl w lv pc (.int x :: st) :=
  fun H locs ls hP hD hS hl => lv_if_ge C.1 C.2.1 d ht (fun h => kt h H locs ls hP hD hS hl) (fun h => kf h H locs ls hP hD hS hl)
theorem Y.icmp_ge (C : Cx p R s m args meth c cc nL Ts own D tys A) {x y : Int32} {off : Int} (tgt : Nat) (d : decode cc pc = .ok (.if_icmp .ge off, 3)) (ht : (pc : Int) + off = (tgt : Int)) (kt : y ≤ x → Y p l e R s m args below meth c nL D A Q ce sl w lv tgt st) (kf : ¬ y ≤ x → Y p l e R s m args below meth c nL D A Q ce sl w lv (pc + 3) st) : Y p l e R s m args below meth c nL D A Q ce sl w lv pc (.int y :: .int x :: st) :=
  fun H locs ls hP hD hS hl => lv_icmp_ge C.1 C.2.1 d ht (fun h => kt h H locs ls hP hD hS hl) (fun h => kf h H locs ls hP hD hS hl)
theorem Y.if_gt (C : Cx p R s m args meth c cc nL Ts own D tys A) {x : Int32} {off : Int} (tgt : Nat) (d : decode cc pc = .ok (.ifCond .gt off, 3)) (ht : (pc : Int) + off = (tgt : Int)) (kt : 0 < x → Y p l e R s m args below meth c nL D A Q ce sl w lv tgt st) (kf : ¬ 0 < x → Y p l e R s m args below meth c nL D A Q ce sl w lv (pc + 3) st) : Y p l e R s m args below meth c nL D A Q ce sl w lv pc (.int x :: st) :=
  fun H locs ls hP hD hS hl => lv_if_gt C.1 C.2.1 d ht (fun h => kt h H locs ls hP hD hS hl) (fun h => kf h H locs ls hP hD hS hl)
theorem Y.icmp_gt (C : Cx p R s m args meth c cc nL Ts own D tys A) {x y : Int32} {off : Int} (tgt : Nat) (d : decode cc pc = .ok (.if_icmp .gt off, 3)) (ht : (pc : Int) + off = (tgt : Int)) (kt : y < x → Y p l e R s m args below meth c nL D A Q ce sl w lv tgt st) (kf : ¬ y < x → Y p l e R s m args below meth c nL D A Q ce sl w lv (pc + 3) st) : Y p l e R s m args below meth c nL D A Q ce sl w lv pc (.int y :: .int x :: st) :=
  fun H locs ls hP hD hS hl => lv_icmp_gt C.1 C.2.1 d ht (fun h => kt h H locs ls hP hD hS hl) (fun h => kf h H locs ls hP hD hS hl)
theorem Y.if_le (C : Cx p R s m args meth c cc nL Ts own D tys A) {x : Int32} {off : Int} (tgt : Nat) (d : decode cc pc = .ok (.ifCond .le off, 3)) (ht : (pc : Int) + off = (tgt : Int)) (kt : x ≤ 0 → Y p l e R s m args below meth c nL D A Q ce sl w lv tgt st) (kf : ¬ x ≤ 0 → Y p l e R s m args below meth c nL D A Q ce sl w lv (pc + 3) st) : Y p l e R s m args below meth c nL D A Q ce sl w lv pc (.int x :: st) :=
  fun H locs ls hP hD hS hl => lv_if_le C.1 C.2.1 d ht (fun h => kt h H locs ls hP hD hS hl) (fun h => kf h H locs ls hP hD hS hl)
theorem Y.icmp_le (C : Cx p R s m args meth c cc nL Ts own D tys A) {x y : Int32} {off : Int} (tgt : Nat) (d : decode cc pc = .ok (.if_icmp .le off, 3)) (ht : (pc : Int) + off = (tgt : Int)) (kt : x ≤ y → Y p l e R s m args below meth c nL D A Q ce sl w lv tgt st) (kf : ¬ x ≤ y → Y p l e R s m args below meth c nL D A Q ce sl w lv (pc + 3) st) : Y p l e R s m args below meth c nL D A Q ce sl w lv pc (.int y :: .int x :: st) :=
  fun H locs ls hP hD hS hl => lv_icmp_le C.1 C.2.1 d ht (fun h => kt h H locs ls hP hD hS hl) (fun h => kf h H locs ls hP hD hS hl)
theorem Y.goto (C : Cx p R s m args meth c cc nL Ts own D tys A) {off : Int} (tgt : Nat) (d : decode cc pc = .ok (.goto off, 3)) (ht : (pc : Int) + off = (tgt : Int)) (k : Y p l e R s m args below meth c nL D A Q ce sl w lv tgt st) : Y p l e R s m args below meth c nL D A Q ce sl w lv pc st := fun H locs ls hP hD hS hl => lv_goto C.1 C.2.1 d ht (k H locs ls hP hD hS hl)
theorem Y.lookup (C : Cx p R s m args meth c cc nL Ts own D tys A) {dflt : Int} {ps : Array (Int × Int)} {len : Nat} {x : Int32} {off : Int} (tgt : Nat) (d : decode cc pc = .ok (.lookupswitch dflt ps, len)) (hp : (ps.toList.zip (ps.toList.drop 1)).all (fun (a, next) => a.1 < next.1) = true) (ho : Op.lookupswitch.offset ps.toList dflt x.toInt = off) (ht : (pc : Int) + off = (tgt : Int)) (k : Y p l e R s m args below meth c nL D A Q ce sl w lv tgt st) : Y p l e R s m args below meth c nL D A Q ce sl w lv pc (.int x :: st) := fun H locs ls hP hD hS hl => lv_lookup C.1 C.2.1 d hp ho ht (k H locs ls hP hD hS hl)
theorem Y.get (C : Cx p R s m args meth c cc nL Ts own D tys A) {ref Cn : String} {T : u_T} {N ci index a : Nat} (hin : ∀ w ∈ u_ws Cn T N, w ∈ Ts) (q0 : Nat) {fs : List Value} (he : w[q0]? = some (a, .inr (ci, fs))) (hc : vwCl[ci]? = some (Cn, T, N)) (k0 : Nat) (hk : k0 < N) (hlink : Cond.fieldLink own index ref (T k0).2.1 (T k0).2.2.1 ∈ Ts) (href : ref = (T k0).1) {v : Value} (hv : fs[k0]? = some v) (d : decode cc pc = .ok (.getfield index, 3)) (k : Y p l e R s m args below meth c nL D A Q ce sl w lv (pc + 3) (v :: st)) : Y p l e R s m args below meth c nL D A Q ce sl w lv pc (.ref a :: st) :=
  fun H locs ls hP hD hS hl => va_get (D := D) (ci := ci) C.1 C.2.1 C.2.2.2.2.1 hin C.2.2.2.1 C.2.2.2.2.2.2.1 hP q0 he hc k0 hk (C.2.2.2.2.1 _ hlink) (fun _ h9 => by rw [href]; exact h9) hv d (k H locs ls hP hD hS hl)
theorem Y.getN (C : Cx p R s m args meth c cc nL Ts own D tys A) {ref Cn : String} {T : u_T} {N ci index a : Nat} (hin : ∀ w ∈ u_ws Cn T N, w ∈ Ts) (q0 : Nat) {fs : List Value} (he : w[q0]? = some (a, .inr (ci, fs))) (hc : vwCl[ci]? = some (Cn, T, N)) (k0 : Nat) (hk : k0 < N) {host : String} (hlink : (own, index, ref, (T k0).2.1, (T k0).2.2.1, host) ∈ zn_f) (href : ref = (T k0).1) {v : Value} (hv : fs[k0]? = some v) (d : decode cc pc = .ok (.getfield index, 3)) (k : Y p l e R s m args below meth c nL D A Q ce sl w lv (pc + 3) (v :: st)) : Y p l e R s m args below meth c nL D A Q ce sl w lv pc (.ref a :: st) :=
  fun H locs ls hP hD hS hl => va_getN (D := D) (ci := ci) C.1 C.2.1 C.2.2.2.2.1 hin C.2.2.2.1 C.2.2.2.2.2.2.1 hP q0 he hc k0 hk (va_Nw.use rfl (C.2.2.2.2.2.2.2.1.1 _ hlink)) (fun _ h9 => by rw [href]; exact h9) hv d (k H locs ls hP hD hS hl)
theorem Y.put (C : Cx p R s m args meth c cc nL Ts own D tys A) {ref Cn : String} {T : u_T} {N ci index a : Nat} (hin : ∀ w ∈ u_ws Cn T N, w ∈ Ts) (q0 : Nat) {fs : List Value} (he : w[q0]? = some (a, .inr (ci, fs))) (hc : vwCl[ci]? = some (Cn, T, N)) (k0 : Nat) (hk : k0 < N) (ty0 : Nat → FieldType) (hty : ∀ k, k < N → parseFieldDescriptor (T k).2.2.1 = some (ty0 k)) (hnm : ∀ a, a < N → ∀ b, b < N → a ≠ b → (T a).2.1 ≠ (T b).2.1) (hlink : Cond.fieldLink own index ref (T k0).2.1 (T k0).2.2.1 ∈ Ts) (href : ref = (T k0).1) (hfin : (T k0).2.2.2 = false) {v : Value} (hn : narrow (ty0 k0) v = v) (hfit : fits (ty0 k0) v = true) (hl0 : k0 < fs.length) (d : decode cc pc = .ok (.putfield index, 3)) {w' : va_W} (hw : w.set q0 (a, .inr (ci, fs.set k0 v)) = w') (k : Y p l e R s m args below meth c nL D A Q ce sl w' lv (pc + 3) st) : Y p l e R s m args below meth c nL D A Q ce sl w lv pc (v :: .ref a :: st) := by
  subst hw
  exact fun H locs ls hP hD hS hl => va_put (D := D) (ci := ci) C.1 C.2.1 C.2.2.2.2.1 hin ty0 hty hnm C.2.2.2.1 C.2.2.2.2.2.2.1 hP hD hS q0 he hc k0 hk (C.2.2.2.2.1 _ hlink) (fun _ h9 => by rw [href]; exact h9) hfin (hty k0 hk) hn hfit hl0 d (fun H1 locs1 hP1 hD1 hS1 => k H1 locs1 ls hP1 hD1 hS1 hl)
theorem Y.putN (C : Cx p R s m args meth c cc nL Ts own D tys A) {ref Cn : String} {T : u_T} {N ci index a : Nat} (hin : ∀ w ∈ u_ws Cn T N, w ∈ Ts) (q0 : Nat) {fs : List Value} (he : w[q0]? = some (a, .inr (ci, fs))) (hc : vwCl[ci]? = some (Cn, T, N)) (k0 : Nat) (hk : k0 < N) (ty0 : Nat → FieldType) (hty : ∀ k, k < N → parseFieldDescriptor (T k).2.2.1 = some (ty0 k)) (hnm : ∀ a, a < N → ∀ b, b < N → a ≠ b → (T a).2.1 ≠ (T b).2.1) {host : String} (hlink : (own, index, ref, (T k0).2.1, (T k0).2.2.1, host) ∈ zn_f) (href : ref = (T k0).1) (hfin : (T k0).2.2.2 = false) {v : Value} (hn : narrow (ty0 k0) v = v) (hfit : fits (ty0 k0) v = true) (hl0 : k0 < fs.length) (d : decode cc pc = .ok (.putfield index, 3)) {w' : va_W} (hw : w.set q0 (a, .inr (ci, fs.set k0 v)) = w') (k : Y p l e R s m args below meth c nL D A Q ce sl w' lv (pc + 3) st) : Y p l e R s m args below meth c nL D A Q ce sl w lv pc (v :: .ref a :: st) := by
  subst hw
  exact fun H locs ls hP hD hS hl => va_putN (D := D) (ci := ci) C.1 C.2.1 C.2.2.2.2.1 hin ty0 hty hnm C.2.2.2.1 C.2.2.2.2.2.2.1 hP hD hS q0 he hc k0 hk (va_Nw.use rfl (C.2.2.2.2.2.2.2.1.1 _ hlink)) (fun _ h9 => by rw [href]; exact h9) hfin (hty k0 hk) hn hfit hl0 d (fun H1 locs1 hP1 hD1 hS1 => k H1 locs1 ls hP1 hD1 hS1 hl)
theorem Y.iald (C : Cx p R s m args meth c cc nL Ts own D tys A) (q0 t0 : Nat) {a n : Nat} {cA : ClassId} {f : Nat → Int32} (ha : w[q0]? = some (a, .inl (cA, n, .inl f))) (ht : tys[t0]? = some (cA, .int)) {i : Int32} (j : Nat) (hi : i = nI j) (hj : j < n) (hn : n < 2 ^ 31) (d : decode cc pc = .ok (.iaload, 1)) {v : Int32} (hv : f j = v) (k : Y p l e R s m args below meth c nL D A Q ce sl w lv (pc + 1) (.int v :: st)) : Y p l e R s m args below meth c nL D A Q ce sl w lv pc (.int i :: .ref a :: st) := by
  subst hi; subst hv
  have e1 : (nI j).toNatClampNeg = j := nI_clamp (Nat.lt_trans hj hn)
  intro H locs ls hP hD hS hl
  refine va_iald C.1 C.2.1 C.2.2.2.2.2.2.1 hP q0 t0 ha ht (vp_in_nI hj hn) d ?_
  rw [e1]
  exact k H locs ls hP hD hS hl
theorem Y.cald (C : Cx p R s m args meth c cc nL Ts own D tys A) (q0 t0 : Nat) {a n : Nat} {cA : ClassId} {f : Nat → Int32} (ha : w[q0]? = some (a, .inl (cA, n, .inl f))) (ht : tys[t0]? = some (cA, .char)) {i : Int32} (j : Nat) (hi : i = nI j) (hj : j < n) (hn : n < 2 ^ 31) (d : decode cc pc = .ok (.caload, 1)) {v : Int32} (hv : f j = v) (k : Y p l e R s m args below meth c nL D A Q ce sl w lv (pc + 1) (.int v :: st)) : Y p l e R s m args below meth c nL D A Q ce sl w lv pc (.int i :: .ref a :: st) := by
  subst hi; subst hv
  have e1 : (nI j).toNatClampNeg = j := nI_clamp (Nat.lt_trans hj hn)
  intro H locs ls hP hD hS hl
  refine va_cald C.1 C.2.1 C.2.2.2.2.2.2.1 hP q0 t0 ha ht (vp_in_nI hj hn) d ?_
  rw [e1]
  exact k H locs ls hP hD hS hl
theorem Y.zald (C : Cx p R s m args meth c cc nL Ts own D tys A) (q0 t0 : Nat) {a n : Nat} {cA : ClassId} {f : Nat → Int32} (ha : w[q0]? = some (a, .inl (cA, n, .inl f))) (ht : tys[t0]? = some (cA, .boolean)) {i : Int32} (j : Nat) (hi : i = nI j) (hj : j < n) (hn : n < 2 ^ 31) (d : decode cc pc = .ok (.baload, 1)) {v : Int32} (hv : f j = v) (k : Y p l e R s m args below meth c nL D A Q ce sl w lv (pc + 1) (.int v :: st)) : Y p l e R s m args below meth c nL D A Q ce sl w lv pc (.int i :: .ref a :: st) := by
  subst hi; subst hv
  have e1 : (nI j).toNatClampNeg = j := nI_clamp (Nat.lt_trans hj hn)
  intro H locs ls hP hD hS hl
  refine va_zald C.1 C.2.1 C.2.2.2.2.2.2.1 hP q0 t0 ha ht (vp_in_nI hj hn) d ?_
  rw [e1]
  exact k H locs ls hP hD hS hl
theorem Y.iast (C : Cx p R s m args meth c cc nL Ts own D tys A) (q0 t0 : Nat) {a n : Nat} {cA : ClassId} {f : Nat → Int32} (ha : w[q0]? = some (a, .inl (cA, n, .inl f))) (ht : tys[t0]? = some (cA, .int)) {i x : Int32} (j : Nat) (hi : i = nI j) (hj : j < n) (hn : n < 2 ^ 31) (d : decode cc pc = .ok (.iastore, 1)) {v : Int32} (hx : x = v) {w' : va_W} (hw : w.set q0 (a, .inl (cA, n, .inl (upd f j v))) = w') (k : Y p l e R s m args below meth c nL D A Q ce sl w' lv (pc + 1) st) : Y p l e R s m args below meth c nL D A Q ce sl w lv pc (.int x :: .int i :: .ref a :: st) := by
  subst hi; subst hx; subst hw
  have e1 : (nI j).toNatClampNeg = j := nI_clamp (Nat.lt_trans hj hn)
  intro H locs ls hP hD hS hl
  refine va_iast C.1 C.2.1 C.2.2.2.2.2.2.1 hP hD hS q0 t0 ha ht (vp_in_nI hj hn) d (fun H1 locs1 hP1 hD1 hS1 => ?_)
  rw [e1] at hP1 hD1
  exact k H1 locs1 ls hP1 hD1 hS1 hl
theorem Y.cast (C : Cx p R s m args meth c cc nL Ts own D tys A) (q0 t0 : Nat) {a n : Nat} {cA : ClassId} {f : Nat → Int32} (ha : w[q0]? = some (a, .inl (cA, n, .inl f))) (ht : tys[t0]? = some (cA, .char)) {i x : Int32} (j : Nat) (hi : i = nI j) (hj : j < n) (hn : n < 2 ^ 31) (d : decode cc pc = .ok (.castore, 1)) {v : Int32} (hx : (vp_nar .char x) = v) {w' : va_W} (hw : w.set q0 (a, .inl (cA, n, .inl (upd f j v))) = w') (k : Y p l e R s m args below meth c nL D A Q ce sl w' lv (pc + 1) st) : Y p l e R s m args below meth c nL D A Q ce sl w lv pc (.int x :: .int i :: .ref a :: st) := by
  subst hi; subst hx; subst hw
  have e1 : (nI j).toNatClampNeg = j := nI_clamp (Nat.lt_trans hj hn)
  intro H locs ls hP hD hS hl
  refine va_cast C.1 C.2.1 C.2.2.2.2.2.2.1 hP hD hS q0 t0 ha ht (vp_in_nI hj hn) d (fun H1 locs1 hP1 hD1 hS1 => ?_)
  rw [e1] at hP1 hD1
  exact k H1 locs1 ls hP1 hD1 hS1 hl
theorem Y.zast (C : Cx p R s m args meth c cc nL Ts own D tys A) (q0 t0 : Nat) {a n : Nat} {cA : ClassId} {f : Nat → Int32} (ha : w[q0]? = some (a, .inl (cA, n, .inl f))) (ht : tys[t0]? = some (cA, .boolean)) {i x : Int32} (j : Nat) (hi : i = nI j) (hj : j < n) (hn : n < 2 ^ 31) (d : decode cc pc = .ok (.bastore, 1)) {v : Int32} (hx : (vp_nar .boolean x) = v) {w' : va_W} (hw : w.set q0 (a, .inl (cA, n, .inl (upd f j v))) = w') (k : Y p l e R s m args below meth c nL D A Q ce sl w' lv (pc + 1) st) : Y p l e R s m args below meth c nL D A Q ce sl w lv pc (.int x :: .int i :: .ref a :: st) := by
  subst hi; subst hx; subst hw
  have e1 : (nI j).toNatClampNeg = j := nI_clamp (Nat.lt_trans hj hn)
  intro H locs ls hP hD hS hl
  refine va_zast C.1 C.2.1 C.2.2.2.2.2.2.1 hP hD hS q0 t0 ha ht (vp_in_nI hj hn) d (fun H1 locs1 hP1 hD1 hS1 => ?_)
  rw [e1] at hP1 hD1
  exact k H1 locs1 ls hP1 hD1 hS1 hl
theorem Y.alen (C : Cx p R s m args meth c cc nL Ts own D tys A) (q0 t0 : Nat) {a : Nat} {cA : ClassId} {x : vp_A} (ha : w[q0]? = some (a, .inl (cA, x))) {ty : FieldType} (ht : tys[t0]? = some (cA, ty)) {v : Int32} (hv : Int32.ofNat x.1 = v) (d : decode cc pc = .ok (.arraylength, 1)) (k : Y p l e R s m args below meth c nL D A Q ce sl w lv (pc + 1) (.int v :: st)) : Y p l e R s m args below meth c nL D A Q ce sl w lv pc (.ref a :: st) := fun H locs ls hP hD hS hl => va_alen C.1 C.2.1 C.2.2.2.2.2.2.1 hP q0 t0 ha ht hv d (k H locs ls hP hD hS hl)
theorem Y.eqw {w' : va_W} {st' : List Value} (hw : w = w') (hs : st = st') (k : Y p l e R s m args below meth c nL D A Q ce sl w' lv pc st') : Y p l e R s m args below meth c nL D A Q ce sl w lv pc st := by subst hw; subst hs; exact k
theorem Y.callVi (C : Cx p R s m args meth c cc nL Ts own D tys A) {y : MethodName} {bytes : ByteArray} {maxL n idx nA : Nat} {ret : Option FieldType} {ws' ws'' : List Cond} {rv : Int32} {Cn : String} {T : u_T} {N ci b : Nat} {As stk : List Value} {fs : List Value} {w1 : va_W} (hM : Mi l y ws' n D tys (.ref b :: As) w rv w1) (hG : GoodIn Ts (wsV own idx Cn y ws')) (hw' : ws' = .code y bytes maxL ret :: ws'') (hd : y.cls = Cn ∧ y.cls ≠ "java/lang/invoke/MethodHandle" ∧ y.cls ≠ "java/lang/invoke/VarHandle" ∧ (parseMethodDescriptor y.desc).map (fun d => d.parameters.length) = some nA) (hR : n + 1 ≤ R.frames ∧ 8 + (maxL + 11) + 32 * n ≤ R.locals) (q0 : Nat) (he : w[q0]? = some (b, .inr (ci, fs))) (hc : vwCl[ci]? = some (Cn, T, N)) (hn : As.length = nA) (hst : (st.map fun v => v.category).sum ≤ 8) (hs : stk = As.reverse ++ .ref b :: st) (hce : ce ≤ R.cells) (hsl : sl ≤ R.slots) (d : decode cc pc = .ok (.invokevirtual idx, 3)) (k : Y p l e R s m args below meth c nL D A Q ce sl w1 lv (pc + 3) (.int rv :: st)) : Y p l e R s m args below meth c nL D A Q ce sl w lv pc stk := by
  subst hs
  intro H locs ls hP hD hS hl
  have hFc : ∀ q, va_A w H.size q → A q := fun q h => by
    rcases h with ⟨k1, e1, h⟩ | h
    · exact hD.2 k1 _ h
    · exact C.2.2.2.2.2.2.2.2 q (Nat.le_trans hS.1 h)
  refine va_calli (va_runV (b := b) (As := As) (rest := st) ⟨C.1, C.2.1, C.2.2.1, C.2.2.2.1, C.2.2.2.2.1⟩ (hM H.size) (cwV nA C.2.2.2.2.1 hG hw' rfl rfl hd hR) ⟨bP_blind, va_recv C.2.2.2.2.2.2.1 hP hc he, fun U hU hW => ⟨rfl, by rw [hU], by rw [hU]; exact hP, va_K.moved hW.alike C.2.2.2.2.2.2.1, hD.weaken (fun _ _ _ _ => trivial), zn.warm hW C.2.2.2.2.2.2.2.1⟩⟩ rfl hn hl.1 rfl (lv_room hst) d ⟨hce, hsl⟩) hS (fun q _ h => hFc q h) hFc (fun r u t H1 locs1 ht hvm hw hB hz1 hk1 hS1 => ?_)
  cases hw
  obtain ⟨hP1, hK1, hD1⟩ := hB
  rw [ht] at hP1
  exact k H1 locs1 ls hP1 (hD1.weaken (fun k1 q1 _ h => hFc q1.1 h)) hS1 hl
theorem Y.callVv (C : Cx p R s m args meth c cc nL Ts own D tys A) {y : MethodName} {bytes : ByteArray} {maxL n idx nA : Nat} {ret : Option FieldType} {ws' ws'' : List Cond} {Cn : String} {T : u_T} {N ci b : Nat} {As stk : List Value} {fs : List Value} {w1 : va_W} (hM : Mv l y ws' n D tys (.ref b :: As) w w1) (hG : GoodIn Ts (wsV own idx Cn y ws')) (hw' : ws' = .code y bytes maxL ret :: ws'') (hd : y.cls = Cn ∧ y.cls ≠ "java/lang/invoke/MethodHandle" ∧ y.cls ≠ "java/lang/invoke/VarHandle" ∧ (parseMethodDescriptor y.desc).map (fun d => d.parameters.length) = some nA) (hR : n + 1 ≤ R.frames ∧ 8 + (maxL + 11) + 32 * n ≤ R.locals) (q0 : Nat) (he : w[q0]? = some (b, .inr (ci, fs))) (hc : vwCl[ci]? = some (Cn, T, N)) (hn : As.length = nA) (hst : (st.map fun v => v.category).sum ≤ 8) (hs : stk = As.reverse ++ .ref b :: st) (hce : ce ≤ R.cells) (hsl : sl ≤ R.slots) (d : decode cc pc = .ok (.invokevirtual idx, 3)) (k : Y p l e R s m args below meth c nL D A Q ce sl w1 lv (pc + 3) st) : Y p l e R s m args below meth c nL D A Q ce sl w lv pc stk := by
  subst hs
  intro H locs ls hP hD hS hl
  have hFc : ∀ q, va_A w H.size q → A q := fun q h => by
    rcases h with ⟨k1, e1, h⟩ | h
    · exact hD.2 k1 _ h
    · exact C.2.2.2.2.2.2.2.2 q (Nat.le_trans hS.1 h)
  refine va_callv (va_runV (b := b) (As := As) (rest := st) ⟨C.1, C.2.1, C.2.2.1, C.2.2.2.1, C.2.2.2.2.1⟩ (hM H.size) (cwV nA C.2.2.2.2.1 hG hw' rfl rfl hd hR) ⟨bP_blind, va_recv C.2.2.2.2.2.2.1 hP hc he, fun U hU hW => ⟨rfl, by rw [hU], by rw [hU]; exact hP, va_K.moved hW.alike C.2.2.2.2.2.2.1, hD.weaken (fun _ _ _ _ => trivial), zn.warm hW C.2.2.2.2.2.2.2.1⟩⟩ rfl hn hl.1 rfl (lv_room hst) d ⟨hce, hsl⟩) hS (fun q _ h => hFc q h) hFc (fun u t H1 locs1 ht hvm hw hB hz1 hk1 hS1 => ?_)
  obtain ⟨hP1, hK1, hD1⟩ := hB
  rw [ht] at hP1
  exact k H1 locs1 ls hP1 (hD1.weaken (fun k1 q1 _ h => hFc q1.1 h)) hS1 hl
theorem Y.callVNi (C : Cx p R s m args meth c cc nL Ts own D tys A) {y : MethodName} {bytes : ByteArray} {maxL n idx nA : Nat} {ret : Option FieldType} {ws' ws'' : List Cond} {rv : Int32} {Cn : String} {T : u_T} {N ci b : Nat} {As stk : List Value} {fs : List Value} {w1 : va_W} (hM : Mi l y ws' n D tys (.ref b :: As) w rv w1) {host : String} (hG : GoodIn Ts ws') (hw' : ws' = .code y bytes maxL ret :: ws'') (hlk : (own, idx, y, host) ∈ zn_m) (hini : Cond.initialized y.cls ∈ Ts) (hinst : Cond.instanceMethod y ∈ Ts) (hsel : Cond.selects Cn y y ∈ Ts) (hd : y.cls ≠ "java/lang/invoke/MethodHandle" ∧ y.cls ≠ "java/lang/invoke/VarHandle" ∧ (parseMethodDescriptor y.desc).map (fun d => d.parameters.length) = some nA) (hR : n + 1 ≤ R.frames ∧ 8 + (maxL + 11) + 32 * n ≤ R.locals) (q0 : Nat) (he : w[q0]? = some (b, .inr (ci, fs))) (hc : vwCl[ci]? = some (Cn, T, N)) (hn : As.length = nA) (hst : (st.map fun v => v.category).sum ≤ 8) (hs : stk = As.reverse ++ .ref b :: st) (hce : ce ≤ R.cells) (hsl : sl ≤ R.slots) (d : decode cc pc = .ok (.invokevirtual idx, 3)) (k : Y p l e R s m args below meth c nL D A Q ce sl w1 lv (pc + 3) (.int rv :: st)) : Y p l e R s m args below meth c nL D A Q ce sl w lv pc stk := by
  subst hs
  intro H locs ls hP hD hS hl
  have hFc : ∀ q, va_A w H.size q → A q := fun q h => by
    rcases h with ⟨k1, e1, h⟩ | h
    · exact hD.2 k1 _ h
    · exact C.2.2.2.2.2.2.2.2 q (Nat.le_trans hS.1 h)
  refine va_calli (va_runVN (b := b) (As := As) (rest := st) ⟨C.1, C.2.1, C.2.2.1, C.2.2.2.1, C.2.2.2.2.1⟩ (hM H.size) ⟨va_cnB nA C.2.2.2.2.1 hG hw' rfl rfl (C.2.2.2.2.2.2.2.1.2 _ hlk) (C.2.2.2.2.1 _ hini) hd hR, C.2.2.2.2.1 _ hinst, C.2.2.2.2.1 _ hsel⟩ ⟨bP_blind, va_recv C.2.2.2.2.2.2.1 hP hc he, fun U hU hW => ⟨rfl, by rw [hU], by rw [hU]; exact hP, va_K.moved hW.alike C.2.2.2.2.2.2.1, hD.weaken (fun _ _ _ _ => trivial), zn.warm hW C.2.2.2.2.2.2.2.1⟩⟩ rfl hn hl.1 rfl (lv_room hst) d ⟨hce, hsl⟩) hS (fun q _ h => hFc q h) hFc (fun r u t H1 locs1 ht hvm hw hB hz1 hk1 hS1 => ?_)
  cases hw
  obtain ⟨hP1, hK1, hD1⟩ := hB
  rw [ht] at hP1
  exact k H1 locs1 ls hP1 (hD1.weaken (fun k1 q1 _ h => hFc q1.1 h)) hS1 hl
theorem Y.callVNv (C : Cx p R s m args meth c cc nL Ts own D tys A) {y : MethodName} {bytes : ByteArray} {maxL n idx nA : Nat} {ret : Option FieldType} {ws' ws'' : List Cond} {Cn : String} {T : u_T} {N ci b : Nat} {As stk : List Value} {fs : List Value} {w1 : va_W} (hM : Mv l y ws' n D tys (.ref b :: As) w w1) {host : String} (hG : GoodIn Ts ws') (hw' : ws' = .code y bytes maxL ret :: ws'') (hlk : (own, idx, y, host) ∈ zn_m) (hini : Cond.initialized y.cls ∈ Ts) (hinst : Cond.instanceMethod y ∈ Ts) (hsel : Cond.selects Cn y y ∈ Ts) (hd : y.cls ≠ "java/lang/invoke/MethodHandle" ∧ y.cls ≠ "java/lang/invoke/VarHandle" ∧ (parseMethodDescriptor y.desc).map (fun d => d.parameters.length) = some nA) (hR : n + 1 ≤ R.frames ∧ 8 + (maxL + 11) + 32 * n ≤ R.locals) (q0 : Nat) (he : w[q0]? = some (b, .inr (ci, fs))) (hc : vwCl[ci]? = some (Cn, T, N)) (hn : As.length = nA) (hst : (st.map fun v => v.category).sum ≤ 8) (hs : stk = As.reverse ++ .ref b :: st) (hce : ce ≤ R.cells) (hsl : sl ≤ R.slots) (d : decode cc pc = .ok (.invokevirtual idx, 3)) (k : Y p l e R s m args below meth c nL D A Q ce sl w1 lv (pc + 3) st) : Y p l e R s m args below meth c nL D A Q ce sl w lv pc stk := by
  subst hs
  intro H locs ls hP hD hS hl
  have hFc : ∀ q, va_A w H.size q → A q := fun q h => by
    rcases h with ⟨k1, e1, h⟩ | h
    · exact hD.2 k1 _ h
    · exact C.2.2.2.2.2.2.2.2 q (Nat.le_trans hS.1 h)
  refine va_callv (va_runVN (b := b) (As := As) (rest := st) ⟨C.1, C.2.1, C.2.2.1, C.2.2.2.1, C.2.2.2.2.1⟩ (hM H.size) ⟨va_cnB nA C.2.2.2.2.1 hG hw' rfl rfl (C.2.2.2.2.2.2.2.1.2 _ hlk) (C.2.2.2.2.1 _ hini) hd hR, C.2.2.2.2.1 _ hinst, C.2.2.2.2.1 _ hsel⟩ ⟨bP_blind, va_recv C.2.2.2.2.2.2.1 hP hc he, fun U hU hW => ⟨rfl, by rw [hU], by rw [hU]; exact hP, va_K.moved hW.alike C.2.2.2.2.2.2.1, hD.weaken (fun _ _ _ _ => trivial), zn.warm hW C.2.2.2.2.2.2.2.1⟩⟩ rfl hn hl.1 rfl (lv_room hst) d ⟨hce, hsl⟩) hS (fun q _ h => hFc q h) hFc (fun u t H1 locs1 ht hvm hw hB hz1 hk1 hS1 => ?_)
  obtain ⟨hP1, hK1, hD1⟩ := hB
  rw [ht] at hP1
  exact k H1 locs1 ls hP1 (hD1.weaken (fun k1 q1 _ h => hFc q1.1 h)) hS1 hl
theorem Y.callSi (C : Cx p R s m args meth c cc nL Ts own D tys A) {y : MethodName} {bytes : ByteArray} {maxL n idx nA : Nat} {ret : Option FieldType} {ws' ws'' : List Cond} {rv : Int32} {As stk : List Value} (hM : Mi l y ws' n D [] As [] rv []) (hG : GoodIn Ts (wsS own idx y ws')) (hw' : ws' = .code y bytes maxL ret :: ws'') (hd : y.cls = own ∧ y.cls ≠ "java/lang/invoke/MethodHandle" ∧ y.cls ≠ "java/lang/invoke/VarHandle" ∧ (parseMethodDescriptor y.desc).map (fun d => d.parameters.length) = some nA) (hR : n + 1 ≤ R.frames ∧ 8 + (maxL + 11) + 32 * n ≤ R.locals) (hn : As.length = nA) (hst : (st.map fun v => v.category).sum ≤ 8) (hs : stk = As.reverse ++ st) (hce : ce ≤ R.cells) (hsl : sl ≤ R.slots) (d : decode cc pc = .ok (.invokestatic idx, 3)) (k : Y p l e R s m args below meth c nL D A Q ce sl w lv (pc + 3) (.int rv :: st)) : Y p l e R s m args below meth c nL D A Q ce sl w lv pc stk := by
  subst hs
  intro H locs ls hP hD hS hl
  have hFc : ∀ q, va_A [] H.size q → A q := fun q h => by
    rcases h with ⟨k1, e1, h⟩ | h
    · simp at h
    · exact C.2.2.2.2.2.2.2.2 q (Nat.le_trans hS.1 h)
  refine va_calli (va_runS (As := As) (rest := st) ⟨C.1, C.2.1, C.2.2.1, C.2.2.2.1, C.2.2.2.2.1⟩ (hM H.size) (cwS nA C.2.2.2.2.1 hG hw' rfl rfl hd hR) ⟨bP_blind, fun U hU hW => ⟨rfl, by rw [hU], fun k1 q1 h1 => by simp at h1, (va_K.moved hW.alike C.2.2.2.2.2.2.1).sub (tys' := []) [] rfl, ⟨fun i j p q h => by simp at h, fun k1 q1 h1 => by simp at h1⟩, zn.warm hW C.2.2.2.2.2.2.2.1⟩⟩ rfl hn hl.1 rfl (lv_room hst) d ⟨hce, hsl⟩) hS (fun q _ h => hFc q h) hFc (fun r u t H1 locs1 ht hvm hw hB hz1 hk1 hS1 => ?_)
  cases hw
  refine k H1 locs1 ls (hP.kept (fun k1 q1 h1 => hk1 q1.1 (hP k1 q1 h1).lt (fun z => ?_))) hD hS1 hl
  rcases z with ⟨k2, e2, h2⟩ | h2
  · simp at h2
  · exact absurd (hP k1 q1 h1).lt (by omega)
theorem Y.callSNi (C : Cx p R s m args meth c cc nL Ts own D tys A) {y : MethodName} {bytes : ByteArray} {maxL n idx nA : Nat} {ret : Option FieldType} {ws' ws'' : List Cond} {rv : Int32} {As stk : List Value} (hM : Mi l y ws' n D [] As [] rv []) {host : String} (hG : GoodIn Ts ws') (hw' : ws' = .code y bytes maxL ret :: ws'') (hlk : (own, idx, y, host) ∈ zn_m) (hini : Cond.initialized y.cls ∈ Ts) (hstat : Cond.static y ∈ Ts) (hd : y.cls ≠ "java/lang/invoke/MethodHandle" ∧ y.cls ≠ "java/lang/invoke/VarHandle" ∧ (parseMethodDescriptor y.desc).map (fun d => d.parameters.length) = some nA) (hR : n + 1 ≤ R.frames ∧ 8 + (maxL + 11) + 32 * n ≤ R.locals) (hn : As.length = nA) (hst : (st.map fun v => v.category).sum ≤ 8) (hs : stk = As.reverse ++ st) (hce : ce ≤ R.cells) (hsl : sl ≤ R.slots) (d : decode cc pc = .ok (.invokestatic idx, 3)) (k : Y p l e R s m args below meth c nL D A Q ce sl w lv (pc + 3) (.int rv :: st)) : Y p l e R s m args below meth c nL D A Q ce sl w lv pc stk := by
  subst hs
  intro H locs ls hP hD hS hl
  have hFc : ∀ q, va_A [] H.size q → A q := fun q h => by
    rcases h with ⟨k1, e1, h⟩ | h
    · simp at h
    · exact C.2.2.2.2.2.2.2.2 q (Nat.le_trans hS.1 h)
  refine va_calli (va_runSN (As := As) (rest := st) ⟨C.1, C.2.1, C.2.2.1, C.2.2.2.1, C.2.2.2.2.1⟩ (hM H.size) ⟨va_cnB nA C.2.2.2.2.1 hG hw' rfl rfl (C.2.2.2.2.2.2.2.1.2 _ hlk) (C.2.2.2.2.1 _ hini) hd hR, C.2.2.2.2.1 _ hstat, trivial⟩ ⟨bP_blind, fun U hU hW => ⟨rfl, by rw [hU], fun k1 q1 h1 => by simp at h1, (va_K.moved hW.alike C.2.2.2.2.2.2.1).sub (tys' := []) [] rfl, ⟨fun i j p q h => by simp at h, fun k1 q1 h1 => by simp at h1⟩, zn.warm hW C.2.2.2.2.2.2.2.1⟩⟩ rfl hn hl.1 rfl (lv_room hst) d ⟨hce, hsl⟩) hS (fun q _ h => hFc q h) hFc (fun r u t H1 locs1 ht hvm hw hB hz1 hk1 hS1 => ?_)
  cases hw
  refine k H1 locs1 ls (hP.kept (fun k1 q1 h1 => hk1 q1.1 (hP k1 q1 h1).lt (fun z => ?_))) hD hS1 hl
  rcases z with ⟨k2, e2, h2⟩ | h2
  · simp at h2
  · exact absurd (hP k1 q1 h1).lt (by omega)

theorem Y.sub {lv' : List (Nat × Value)} (ks : List Nat) (h : lv_pick lv ks = lv') (k : Y p l e R s m args below meth c nL D A Q ce sl w lv' pc st) : Y p l e R s m args below meth c nL D A Q ce sl w lv pc st :=
  fun H locs ls hP hD hS hl => k H locs ls hP hD hS (lv_sub hl ks h)
theorem Y.perm {w' : va_W} (ps : List Nat) (h1 : ps.filterMap (fun i => w[i]?) = w') (h2 : ps.map (fun i => w[i]?) = w'.map some) (h3 : va_nd ps = true) (k : Y p l e R s m args below meth c nL D A Q ce sl w' lv pc st) : Y p l e R s m args below meth c nL D A Q ce sl w lv pc st :=
  fun H locs ls hP hD hS hl => k H locs ls (hP.sub ps h1) (hD.sub ps h3 h2) hS hl
theorem Y.objInit (C : Cx p R s m args meth c cc nL Ts own D tys A) {idx a : Nat} (hl1 : Cond.methodLink own idx objectInit ∈ Ts) (hl2 : Cond.instanceMethod objectInit ∈ Ts) (hl3 : Cond.code objectInit ⟨#[0xb1]⟩ 1 none ∈ Ts) (hR : 1 ≤ R.frames ∧ (st.map fun v => v.category).sum + 12 ≤ R.locals) (d : decode cc pc = .ok (.invokespecial idx, 3)) (k : Y p l e R s m args below meth c nL D A Q ce sl w lv (pc + 3) st) : Y p l e R s m args below meth c nL D A Q ce sl w lv pc (.ref a :: st) := by
  intro H locs ls hP hD hS hl
  refine W.objInit C.1 C.2.1 C.2.2.2.1 (C.2.2.2.2.1 _ hl1) (C.2.2.2.2.1 _ hl2) (C.2.2.2.2.1 _ hl3) rfl (by rw [C.2.2.1]; exact hl.1) rfl d hR.1 (by show 2 * 0 + _ + 12 ≤ R.locals; omega) ?_
  exact k H locs ls hP hD hS hl
/-- a new array of a kind whose class is known -/
theorem Y.newarr (C : Cx p R s m args meth c cc nL Ts own D tys A) {atype : ArrayType} {ty : FieldType} (hty : newarray.typeOf atype = ty) (harr : Cond.arrayClass ty ∈ Ts) (t0 : Nat) {cA : ClassId} (ht : tys[t0]? = some (cA, ty)) (hpr : va_RA s cA ty = (s.vm.findClass ("[" ++ ty.toString) = some cA)) {n : Int32} (N' : Nat) {a0 : vp_A} (ha : ∀ cA : ClassId, vp_cell cA a0 = arrV cA N' (fun _ => defaultValue ty)) (hn : n = nI N') (hN : N' < 2 ^ 20) (hb8 : componentBytes ty ≤ 8) (hcells : ce + 1 ≤ R.cells) (hslots : sl + N' ≤ R.slots) (d : decode cc pc = .ok (.newarray atype, 2))
    (k : ∀ q : Nat, Y p l e R s m args below meth c nL D A Q (ce + 1) (sl + N') (w ++ [(q, .inl (cA, a0))]) lv (pc + 2) (.ref q :: st)) : Y p l e R s m args below meth c nL D A Q ce sl w lv pc (.int n :: st) := by
  subst hn
  intro H locs ls hP hD hS hl
  have hK := C.2.2.2.2.2.2.1
  refine va_newa C.1 C.2.1 (by rw [hty]; exact C.2.2.2.2.1 _ harr) hty hK hP hD hS C.2.2.2.2.2.2.2.2 ha (nI_pos (by omega)) (nI_clamp (by omega)) (Nat.le_trans (Nat.mul_le_mul (Nat.le_of_lt hN) hb8) (by decide)) hcells hslots d (fun q cB H1 hK1 hP1 hD1 hS1 => ?_)
  have h1 : va_RA s cA ty := (hK.2 t0 _ ht).2
  have h2 : va_RA s cB ty := (hK1.2 tys.length (cB, ty) (by simp)).2
  have e : cB = cA := by
    have h3 : va_RA s cB ty = (s.vm.findClass ("[" ++ ty.toString) = some cB) := by
      cases ty <;> first | rfl | (exfalso; revert hpr; cases atype <;> cases hty)
    rw [hpr] at h1
    rw [h3] at h2
    exact Option.some.inj (h2.symm.trans h1)
  subst e
  exact k q H1 locs ls hP1 hD1 hS1 hl
theorem Y.new (C : Cx p R s m args meth c cc nL Ts own D tys A) {Cn : String} {T : u_T} {N ci index : Nat} (hin : ∀ w ∈ u_ws Cn T N, w ∈ Ts) (ty : Nat → FieldType) (hty : ∀ k, k < N → parseFieldDescriptor (T k).2.2.1 = some (ty k)) (hcl : Cond.classLink own index Cn ∈ Ts) (hinst : Cond.instantiable Cn N ∈ Ts) (hini : Cond.initialized Cn ∈ Ts) (hc : vwCl[ci]? = some (Cn, T, N)) {fs : List Value} (hfs : ∀ j, j < N → defaultValue (ty j) = vp_V fs j) (hcells : ce + 1 ≤ R.cells) (hslots : sl + N ≤ R.slots) (d : decode cc pc = .ok (.new index, 3))
    (k : ∀ q : Nat, Y p l e R s m args below meth c nL D A Q (ce + 1) (sl + N) (w ++ [(q, .inr (ci, fs))]) lv (pc + 3) (.ref q :: st)) : Y p l e R s m args below meth c nL D A Q ce sl w lv pc st := by
  intro H locs ls hP hD hS hl
  exact va_new C.1 C.2.1 C.2.2.2.2.1 hin ty hty C.2.2.2.1 (C.2.2.2.2.1 _ hcl) (C.2.2.2.2.1 _ hinst) (C.2.2.2.2.1 _ hini) C.2.2.2.2.2.2.1 hP hD hS C.2.2.2.2.2.2.2.2 hc hfs hcells hslots d (fun q H1 hP1 hD1 hS1 => k q H1 locs ls hP1 hD1 hS1 hl)
theorem Y.putF (C : Cx p R s m args meth c cc nL Ts own D tys A) {Cn : String} {T : u_T} {N ci index a : Nat} (hin : ∀ w ∈ u_ws Cn T N, w ∈ Ts) (q0 : Nat) {fs : List Value} (he : w[q0]? = some (a, .inr (ci, fs))) (hc : vwCl[ci]? = some (Cn, T, N)) (k0 : Nat) (hk : k0 < N) (ty0 : Nat → FieldType) (hty : ∀ k, k < N → parseFieldDescriptor (T k).2.2.1 = some (ty0 k)) (hnm : ∀ a, a < N → ∀ b, b < N → a ≠ b → (T a).2.1 ≠ (T b).2.1) (hlink : Cond.fieldLink own index (T k0).1 (T k0).2.1 (T k0).2.2.1 ∈ Ts) (hfin : (T k0).2.2.2 = true) (hin2 : meth.name = "<init>") (hdecl : (T k0).1 = own) {v : Value} (hn : narrow (ty0 k0) v = v) (hfit : fits (ty0 k0) v = true) (hl0 : k0 < fs.length) (d : decode cc pc = .ok (.putfield index, 3)) {w' : va_W} (hw : w.set q0 (a, .inr (ci, fs.set k0 v)) = w') (k : Y p l e R s m args below meth c nL D A Q ce sl w' lv (pc + 3) st) : Y p l e R s m args below meth c nL D A Q ce sl w lv pc (v :: .ref a :: st) := by
  subst hw
  intro H locs ls hP hD hS hl
  exact va_putF (D := D) (ci := ci) C.1 C.2.1 C.2.2.2.2.1 hin ty0 hty hnm C.2.2.2.1 C.2.2.2.2.2.2.1 hP hD hS q0 he hc k0 hk (C.2.2.2.2.1 _ hlink) (fun _ h9 => h9) hfin hin2 hdecl (hty k0 hk) hn hfit hl0 d (fun H1 locs1 hP1 hD1 hS1 => k H1 locs1 ls hP1 hD1 hS1 hl)
end YR
/-- a contract of a method that makes mc cells of ms slots; where they lie is the choice of a -/
abbrev qK (D : va_G) (tys : List (ClassId × FieldType)) (w : va_W) (w1 : (Nat → Nat) → va_W) (sz : Nat) : Array Value → State → Outcome → State → Prop := va_Qv (fun (_ : Nat → Nat) => True) (fun a => bQ D tys w (w1 a) sz) (va_A w sz)
def rmK (n mc ms : Nat) : Room := { frames := n, cells := mc, slots := ms, locals := 32 * n }
def Mk (l : Launch) (y : MethodName) (ws : List Cond) (n mc ms : Nat) (D : va_G) (tys : List (ClassId × FieldType)) (av : List Value) (w : va_W) (w1 : (Nat → Nat) → va_W) : Prop :=
  ∀ sz, Met l y ws (rmK n mc ms) (va_Pc av (bP D tys w sz)) (qK D tys w w1 sz) mc ms (va_A w sz)
section YE
variable {p : Program} {l : Launch} {e : Env} {R : Room} {s : State} {m : MethodId} {args : Array Value} {below : List Frame} {meth : Method} {c : Code} {Q : State → Prop}
variable {cc : ByteArray} {nL : Nat} {Ts : List Cond} {own : String} {D : va_G} {tys : List (ClassId × FieldType)} {A : Nat → Prop} {w : va_W} {lv : List (Nat × Value)} {pc : Nat} {st : List Value} {ce sl : Nat}
theorem Mk.of {y : MethodName} {ws ws' : List Cond} {n mc ms maxL : Nat} {av : List Value} {w1 : (Nat → Nat) → va_W} (hy : plainName y.cls = true) (hw : ws = Cond.code y cc maxL none :: ws') (hlen : (lg_sl av).length ≤ maxL)
    (body : ∀ (p : Program) (e : Env) (s : State) (m : MethodId) (below : List Frame) (meth : Method) (c : Code) (A : Nat → Prop), Cx p (rmK n mc ms) s m av.toArray meth c cc maxL ws y.cls D tys A → meth.sig.returnType = none → A = va_A w s.heap.size → meth.name = y.name →
      Y p l e (rmK n mc ms) s m av.toArray below meth c maxL D A (MQ below (qK D tys w w1 s.heap.size) av.toArray s mc ms (va_A w s.heap.size)) 0 0 w (lv_args 0 av) 0 []) : Mk l y ws n mc ms D tys av w w1 := by
  intro sz
  refine Met.ofW (cc := cc) (maxL := maxL) (ret := none) hy hw ?_
  intro p e s m args below meth c s₁ B hml hv
  obtain ⟨rfl, hsz, hP, hK, hD0, hN⟩ := hv
  subst hsz
  have hl := lv_entry av (n := maxL) hlen
  rw [lg_entry_eq]
  exact body p e s m below meth c (va_A w s.heap.size) ⟨B.exec, B.bytes, hml, findClass_of_methodNamed B.named, atoms_spec (ws := ws) B.pre, B.notSynchronized, hK, hN, fun q h => Or.inr h⟩ B.returns rfl (name_of_methodNamed B.named B.method).1 s.heap [] _ hP (hD0.self (sz := s.heap.size)) va_S.rf hl
theorem Y.vret (C : Cx p R s m args meth c cc nL Ts own D tys A) (hr : meth.sig.returnType = none) {w0 : va_W} {w1 : (Nat → Nat) → va_W} {sz mc ms : Nat} (hA : A = va_A w0 sz) (d : decode cc pc = .ok (.return_, 1)) (hc : ce = mc) (hs : sl = ms) (a : Nat → Nat) (hw : w = w1 a) :
    Y p l e R s m args below meth c nL D A (MQ below (qK D tys w0 w1 sz) args s mc ms (va_A w0 sz)) ce sl w lv pc [] := by
  subst hw; subst hA; subst hc; subst hs
  intro H locs ls hP hD hS hl
  exact W.vret C.1 C.2.1 hr (fun t ht hW => ⟨⟨a, rfl, trivial, by rw [ht]; exact hP, va_K.moved hW.alike C.2.2.2.2.2.2.1, hD⟩, hS.F ht⟩) hS.2.2 d (hlocks := C.2.2.2.2.2.1)
theorem Y.callIN (C : Cx p R s m args meth c cc nL Ts own D tys A) {tysC : List (ClassId × FieldType)} {y : MethodName} {bytes : ByteArray} {maxL n mc ms idx b : Nat} {ws' ws'' : List Cond} {wc wr : va_W} {w1 : (Nat → Nat) → va_W} (hM : Mk l y ws' n mc ms D tysC [.ref b] wc w1) (its : List Nat) (hts : its.filterMap (fun i => tys[i]?) = tysC) (hG : GoodIn Ts ws') (hw' : ws' = .code y bytes maxL none :: ws'') {host : String} (hlk : (own, idx, y, host) ∈ zn_m) (hini : Cond.initialized y.cls ∈ Ts) (hinst : Cond.instanceMethod y ∈ Ts) (hyn : y.name = "<init>") (hd : y.cls ≠ "java/lang/invoke/MethodHandle" ∧ y.cls ≠ "java/lang/invoke/VarHandle" ∧ (parseMethodDescriptor y.desc).map (fun d => d.parameters.length) = some 0) (hR : n + 1 ≤ R.frames ∧ 8 + (maxL + 11) + 32 * n ≤ R.locals) (isC isR : List Nat) (hC : isC.map (fun i => w[i]?) = wc.map some) (hC' : isC.filterMap (fun i => w[i]?) = wc) (hnC : va_nd isC = true) (hRr : isR.map (fun i => w[i]?) = wr.map some) (hnR : va_nd isR = true) (hdis : ∀ i ∈ isR, i ∉ isC) (hst : (st.map fun v => v.category).sum ≤ 8) (hcells : ce + mc ≤ R.cells) (hslots : sl + ms ≤ R.slots) (d : decode cc pc = .ok (.invokespecial idx, 3))
    (k : ∀ a : Nat → Nat, Y p l e R s m args below meth c nL D A Q (ce + mc) (sl + ms) (wr ++ w1 a) lv (pc + 3) st) : Y p l e R s m args below meth c nL D A Q ce sl w lv pc (.ref b :: st) := by
  intro H locs ls hP hD hS hl
  have hPc := hP.sub isC hC'
  have hDc := hD.sub isC hnC hC
  have hFc := va_free (wc := wc) hD hS C.2.2.2.2.2.2.2.2 isC hC
  refine va_callv (va_runIN (b := b) (As := []) (rest := st) ⟨C.1, C.2.1, C.2.2.1, C.2.2.2.1, C.2.2.2.2.1⟩ (hM H.size) ⟨va_cnB 0 C.2.2.2.2.1 hG hw' rfl rfl (C.2.2.2.2.2.2.2.1.2 _ hlk) (C.2.2.2.2.1 _ hini) hd hR, hyn, C.2.2.2.2.1 _ hinst⟩ ⟨bP_blind, fun U hU hW => ⟨rfl, by rw [hU], by rw [hU]; exact hPc, (va_K.moved hW.alike C.2.2.2.2.2.2.1).sub its hts, hDc.weaken (fun _ _ _ _ => trivial), zn.warm hW C.2.2.2.2.2.2.2.1⟩⟩ rfl rfl hl.1 rfl (lv_room hst) d ⟨hcells, hslots⟩) hS (fun q _ h => hFc q h) hFc (fun u t H1 locs1 ht hvm hw hB hz1 hk1 hS1 => ?_)
  obtain ⟨hP1, hK1, hD1⟩ := hB
  rw [ht] at hP1
  obtain ⟨hP2, hD2⟩ := va_join (wr := wr) (w1 := w1 u) hP hD isC isR hC hRr hnR hdis hk1 hFc hP1 hD1
  exact k u H1 locs1 ls hP2 hD2 hS1 hl
theorem Y.callI (C : Cx p R s m args meth c cc nL Ts own D tys A) {tysC : List (ClassId × FieldType)} {y : MethodName} {bytes : ByteArray} {maxL n mc ms idx b : Nat} {ws' ws'' : List Cond} {wc wr : va_W} {w1 : (Nat → Nat) → va_W} (hM : Mk l y ws' n mc ms D tysC [.ref b] wc w1) (its : List Nat) (hts : its.filterMap (fun i => tys[i]?) = tysC) (hG : GoodIn Ts ws') (hw' : ws' = .code y bytes maxL none :: ws'') (hlk : Cond.methodLink own idx y ∈ Ts) (hini : Cond.initialized y.cls ∈ Ts) (hinst : Cond.instanceMethod y ∈ Ts) (hyn : y.name = "<init>") (hd : y.cls ≠ "java/lang/invoke/MethodHandle" ∧ y.cls ≠ "java/lang/invoke/VarHandle" ∧ (parseMethodDescriptor y.desc).map (fun d => d.parameters.length) = some 0) (hR : n + 1 ≤ R.frames ∧ 8 + (maxL + 11) + 32 * n ≤ R.locals) (isC isR : List Nat) (hC : isC.map (fun i => w[i]?) = wc.map some) (hC' : isC.filterMap (fun i => w[i]?) = wc) (hnC : va_nd isC = true) (hRr : isR.map (fun i => w[i]?) = wr.map some) (hnR : va_nd isR = true) (hdis : ∀ i ∈ isR, i ∉ isC) (hst : (st.map fun v => v.category).sum ≤ 8) (hcells : ce + mc ≤ R.cells) (hslots : sl + ms ≤ R.slots) (d : decode cc pc = .ok (.invokespecial idx, 3))
    (k : ∀ a : Nat → Nat, Y p l e R s m args below meth c nL D A Q (ce + mc) (sl + ms) (wr ++ w1 a) lv (pc + 3) st) : Y p l e R s m args below meth c nL D A Q ce sl w lv pc (.ref b :: st) := by
  intro H locs ls hP hD hS hl
  have hPc := hP.sub isC hC'
  have hDc := hD.sub isC hnC hC
  have hFc := va_free (wc := wc) hD hS C.2.2.2.2.2.2.2.2 isC hC
  refine va_callv (va_runI (b := b) (As := []) (rest := st) ⟨C.1, C.2.1, C.2.2.1, C.2.2.2.1, C.2.2.2.2.1⟩ (hM H.size) (cwI 0 C.2.2.2.2.1 hG hw' rfl rfl (C.2.2.2.2.1 _ hini) (C.2.2.2.2.1 _ hlk) (C.2.2.2.2.1 _ hinst) hyn hd hR) ⟨bP_blind, fun U hU hW => ⟨rfl, by rw [hU], by rw [hU]; exact hPc, (va_K.moved hW.alike C.2.2.2.2.2.2.1).sub its hts, hDc.weaken (fun _ _ _ _ => trivial), zn.warm hW C.2.2.2.2.2.2.2.1⟩⟩ rfl rfl hl.1 rfl (lv_room hst) d ⟨hcells, hslots⟩) hS (fun q _ h => hFc q h) hFc (fun u t H1 locs1 ht hvm hw hB hz1 hk1 hS1 => ?_)
  obtain ⟨hP1, hK1, hD1⟩ := hB
  rw [ht] at hP1
  obtain ⟨hP2, hD2⟩ := va_join (wr := wr) (w1 := w1 u) hP hD isC isR hC hRr hnR hdis hk1 hFc hP1 hD1
  exact k u H1 locs1 ls hP2 hD2 hS1 hl
end YE
/-- addresses, one behind another -/
def adr (l : List Nat) (k : Nat) : Nat := l.getD k 0

