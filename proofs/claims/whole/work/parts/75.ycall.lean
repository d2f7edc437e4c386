abbrev IOBN : String := "java/lang/IndexOutOfBoundsException"
abbrev ISEN : String := "java/lang/IllegalStateException"
/-- as bPX, and an index outside is no wrong state -/
def bPW (D : va_G) (tys : List (ClassId × FieldType)) (w : va_W) (sz : Nat) (U : State) : Prop := bPX D tys w sz U ∧ va_Nc IOBN ISEN U
theorem bPW_blind {D : va_G} {tys : List (ClassId × FieldType)} {w : va_W} {sz : Nat} {av : List Value} : FrameBlind (va_Pc av (bPW D tys w sz)) := fun a U g mk q => by
  obtain ⟨q0, q1, q2⟩ := q
  obtain ⟨r0, r1⟩ := bPX_blind a U g mk (show va_Pc av (bPX D tys w sz) a U from ⟨q0, q1⟩)
  exact ⟨r0, r1, va_Nc.moved (u := U) (U := U.calling g mk a) (Vm.Alike.refl U.vm) q2⟩
/-- the contract of a method with a table that catches all that is thrown in it -/
def Wi (l : Launch) (y : MethodName) (ws : List Cond) (n : Nat) (D : va_G) (tys : List (ClassId × FieldType)) (av : List Value) (w : va_W) (rv : Int32) (w1 : va_W) : Prop :=
  ∀ sz, Met l y ws (rmX n) (va_Pc av (bPW D tys w sz)) (qI D tys w rv w1 sz) 1 6 (va_A w sz)
section YX
variable {p : Program} {l : Launch} {e : Env} {R : Room} {s : State} {m : MethodId} {args : Array Value} {below : List Frame} {meth : Method} {c : Code} {Q : State → Prop}
variable {cc : ByteArray} {nL : Nat} {Ts : List Cond} {own : String} {D : va_G} {tys : List (ClassId × FieldType)} {A : Nat → Prop} {w : va_W} {lv : List (Nat × Value)} {pc : Nat} {st : List Value} {ce sl : Nat}
theorem Y.callXi (C : Cx p R s m args meth c cc nL Ts own D tys A) (hzt : zt A s) {y : MethodName} {bytes : ByteArray} {maxL n idx nA : Nat} {ret : Option FieldType} {ws' ws'' : List Cond} {rv : Int32} {Cn : String} {T : u_T} {N ci b : Nat} {As stk : List Value} {fs : List Value} {ok : Prop} {w1 wE : va_W} {E : String} (hM : Xi l y ws' n D tys (.ref b :: As) w ok rv w1 E wE) (hG : GoodIn Ts (wsV own idx Cn y ws')) (hw' : ws' = .code y bytes maxL ret :: ws'') (hd : y.cls = Cn ∧ y.cls ≠ "java/lang/invoke/MethodHandle" ∧ y.cls ≠ "java/lang/invoke/VarHandle" ∧ (parseMethodDescriptor y.desc).map (fun d => d.parameters.length) = some nA) (hR : n + 1 ≤ R.frames ∧ 8 + (maxL + 11) + 32 * n ≤ R.locals) (q0 : Nat) (he : w[q0]? = some (b, .inr (ci, fs))) (hc : vwCl[ci]? = some (Cn, T, N)) (hn : As.length = nA) (hst : (st.map fun v => v.category).sum ≤ 8) (hs : stk = As.reverse ++ .ref b :: st) (hce : ce + 1 ≤ R.cells) (hsl : sl + 6 ≤ R.slots) (d : decode cc pc = .ok (.invokevirtual idx, 3))
    (pre : List ExceptionTableEntry) (x : ExceptionTableEntry) (suf : List ExceptionTableEntry) (hsplit : c.exceptionTable.toList = pre ++ x :: suf) (hpass : ∀ z ∈ pre, covers z pc = false ∨ (z.catchType ≠ 0 ∧ ∃ nm : String, Cond.classLink own z.catchType nm ∈ Ts ∧ va_Nc E nm s)) (hx : covers x pc = true) (h0 : x.catchType ≠ 0) (hlink : Cond.classLink own x.catchType E ∈ Ts) (hcast : E ∈ zt_c)
    (k : ok → Y p l e R s m args below meth c nL D A Q (ce + 1) (sl + 6) w1 lv (pc + 3) (.int rv :: st)) (kx : ¬ ok → ∀ q : Nat, Y p l e R s m args below meth c nL D A Q (ce + 1) (sl + 6) wE lv x.handlerPc [.ref q]) : Y p l e R s m args below meth c nL D A Q ce sl w lv pc stk := by
  subst hs
  intro H locs ls hP hD hS hl
  have hFc : ∀ q, va_A w H.size q → A q := fun q h => by
    rcases h with ⟨k1, e1, h⟩ | h
    · exact hD.2 k1 _ h
    · exact C.2.2.2.2.2.2.2.2 q (Nat.le_trans hS.1 h)
  refine vx_calli (vx_runV (b := b) (As := As) (rest := st) ⟨C.1, C.2.1, C.2.2.1, C.2.2.2.1, C.2.2.2.2.1⟩ (hM H.size) (cwV nA C.2.2.2.2.1 hG hw' rfl rfl hd hR) ⟨bPX_blind, va_recv C.2.2.2.2.2.2.1 hP hc he, fun U hU hW => ⟨rfl, ⟨by rw [hU], by rw [hU]; exact hP, va_K.moved hW.alike C.2.2.2.2.2.2.1, hD.weaken (fun _ _ _ _ => trivial), zn.warm hW C.2.2.2.2.2.2.2.1⟩, hzt.to hS hU hW hFc⟩⟩ rfl hn hl.1 rfl (lv_room hst) d ⟨hce, hsl⟩) hS (fun q _ h => hFc q h) hFc (fun q _ h => hFc q h) (fun E' ce0 q9 u t H1 locs1 ht hvm hpx hBX hz1 hk1 hS1 hce1 hcv hcl => ?_) (fun r u t H1 locs1 ht hvm hw hB hz1 hk1 hS1 => ?_)
  · obtain ⟨rfl, hP1, hK1, hD1⟩ := hBX
    rw [ht] at hP1
    exact ct_catch (own := own) (name := E') (E := E') C.2.2.2.1 pre x suf hsplit (fun z hz => (hpass z hz).imp id (fun h => ⟨h.1, h.2.choose, C.2.2.2.2.1 _ h.2.choose_spec.1, h.2.choose_spec.2⟩)) hx h0 (C.2.2.2.2.1 _ hlink) (va_Nw.use rfl (hzt.2.1 _ hcast)) hce1 hcv hcl (kx hpx q9 H1 locs1 ls hP1 (hD1.weaken (fun k1 q1 _ h => hFc q1.1 h)) hS1 hl)
  · obtain ⟨hP1, hK1, hD1⟩ := hB
    rw [ht] at hP1
    obtain ⟨hok, rfl⟩ := hw
    exact k hok H1 locs1 ls hP1 (hD1.weaken (fun k1 q1 _ h => hFc q1.1 h)) hS1 hl
theorem Y.callXv (C : Cx p R s m args meth c cc nL Ts own D tys A) (hzt : zt A s) {y : MethodName} {bytes : ByteArray} {maxL n idx nA : Nat} {ret : Option FieldType} {ws' ws'' : List Cond} {Cn : String} {T : u_T} {N ci b : Nat} {As stk : List Value} {fs : List Value} {ok : Prop} {w1 wE : va_W} {E : String} (hM : Xv l y ws' n D tys (.ref b :: As) w ok w1 E wE) (hG : GoodIn Ts (wsV own idx Cn y ws')) (hw' : ws' = .code y bytes maxL ret :: ws'') (hd : y.cls = Cn ∧ y.cls ≠ "java/lang/invoke/MethodHandle" ∧ y.cls ≠ "java/lang/invoke/VarHandle" ∧ (parseMethodDescriptor y.desc).map (fun d => d.parameters.length) = some nA) (hR : n + 1 ≤ R.frames ∧ 8 + (maxL + 11) + 32 * n ≤ R.locals) (q0 : Nat) (he : w[q0]? = some (b, .inr (ci, fs))) (hc : vwCl[ci]? = some (Cn, T, N)) (hn : As.length = nA) (hst : (st.map fun v => v.category).sum ≤ 8) (hs : stk = As.reverse ++ .ref b :: st) (hce : ce + 1 ≤ R.cells) (hsl : sl + 6 ≤ R.slots) (d : decode cc pc = .ok (.invokevirtual idx, 3))
    (pre : List ExceptionTableEntry) (x : ExceptionTableEntry) (suf : List ExceptionTableEntry) (hsplit : c.exceptionTable.toList = pre ++ x :: suf) (hpass : ∀ z ∈ pre, covers z pc = false ∨ (z.catchType ≠ 0 ∧ ∃ nm : String, Cond.classLink own z.catchType nm ∈ Ts ∧ va_Nc E nm s)) (hx : covers x pc = true) (h0 : x.catchType ≠ 0) (hlink : Cond.classLink own x.catchType E ∈ Ts) (hcast : E ∈ zt_c)
    (k : ok → Y p l e R s m args below meth c nL D A Q (ce + 1) (sl + 6) w1 lv (pc + 3) st) (kx : ¬ ok → ∀ q : Nat, Y p l e R s m args below meth c nL D A Q (ce + 1) (sl + 6) wE lv x.handlerPc [.ref q]) : Y p l e R s m args below meth c nL D A Q ce sl w lv pc stk := by
  subst hs
  intro H locs ls hP hD hS hl
  have hFc : ∀ q, va_A w H.size q → A q := fun q h => by
    rcases h with ⟨k1, e1, h⟩ | h
    · exact hD.2 k1 _ h
    · exact C.2.2.2.2.2.2.2.2 q (Nat.le_trans hS.1 h)
  refine vx_callv (vx_runV (b := b) (As := As) (rest := st) ⟨C.1, C.2.1, C.2.2.1, C.2.2.2.1, C.2.2.2.2.1⟩ (hM H.size) (cwV nA C.2.2.2.2.1 hG hw' rfl rfl hd hR) ⟨bPX_blind, va_recv C.2.2.2.2.2.2.1 hP hc he, fun U hU hW => ⟨rfl, ⟨by rw [hU], by rw [hU]; exact hP, va_K.moved hW.alike C.2.2.2.2.2.2.1, hD.weaken (fun _ _ _ _ => trivial), zn.warm hW C.2.2.2.2.2.2.2.1⟩, hzt.to hS hU hW hFc⟩⟩ rfl hn hl.1 rfl (lv_room hst) d ⟨hce, hsl⟩) hS (fun q _ h => hFc q h) hFc (fun q _ h => hFc q h) (fun E' ce0 q9 u t H1 locs1 ht hvm hpx hBX hz1 hk1 hS1 hce1 hcv hcl => ?_) (fun u t H1 locs1 ht hvm hw hB hz1 hk1 hS1 => ?_)
  · obtain ⟨rfl, hP1, hK1, hD1⟩ := hBX
    rw [ht] at hP1
    exact ct_catch (own := own) (name := E') (E := E') C.2.2.2.1 pre x suf hsplit (fun z hz => (hpass z hz).imp id (fun h => ⟨h.1, h.2.choose, C.2.2.2.2.1 _ h.2.choose_spec.1, h.2.choose_spec.2⟩)) hx h0 (C.2.2.2.2.1 _ hlink) (va_Nw.use rfl (hzt.2.1 _ hcast)) hce1 hcv hcl (kx hpx q9 H1 locs1 ls hP1 (hD1.weaken (fun k1 q1 _ h => hFc q1.1 h)) hS1 hl)
  · obtain ⟨hP1, hK1, hD1⟩ := hB
    rw [ht] at hP1
    exact k hw H1 locs1 ls hP1 (hD1.weaken (fun k1 q1 _ h => hFc q1.1 h)) hS1 hl
theorem Wi.of {y : MethodName} {ws ws' : List Cond} {n maxL : Nat} {av : List Value} {rv : Int32} {w1 : va_W} {ty : FieldType} {hh : List (Nat × Nat × Nat × Nat)} (hy : plainName y.cls = true) (hw : ws = Cond.codeWith y cc maxL (some ty) hh :: ws') (hlen : (lg_sl av).length ≤ maxL)
    (body : ∀ (p : Program) (e : Env) (s : State) (m : MethodId) (below : List Frame) (meth : Method) (c : Code) (A : Nat → Prop), Cx p (rmX n) s m av.toArray meth c cc maxL ws y.cls D tys A → meth.sig.returnType = some ty → A = va_A w s.heap.size → zt A s → va_Nc IOBN ISEN s → c.exceptionTable.toList = tableOf hh →
      Y p l e (rmX n) s m av.toArray below meth c maxL D A (MQ below (qI D tys w rv w1 s.heap.size) av.toArray s 1 6 (va_A w s.heap.size)) 0 0 w (lv_args 0 av) 0 []) : Wi l y ws n D tys av w rv w1 := by
  intro sz
  refine va_MetW (cc := cc) (maxL := maxL) (ret := some ty) (hh := hh) hy hw ?_
  intro p e s m args below meth c s₁ B hml hv
  obtain ⟨rfl, ⟨⟨hsz, hP, hK, hD0, hN⟩, hz⟩, hNc⟩ := hv
  subst hsz
  have hl := lv_entry av (n := maxL) hlen
  have hts := atoms_spec (ws := ws) B.pre
  rw [lg_entry_eq]
  exact body p e s m below meth c (va_A w s.heap.size) ⟨B.exec, B.bytes, hml, findClass_of_methodNamed B.named, hts, B.notSynchronized, hK, hN, fun q h => Or.inr h⟩ B.returns rfl hz hNc (vx_table (x := y) B (hts (Cond.codeWith y cc maxL (some ty) hh) (by rw [hw]; exact List.mem_cons_self))) s.heap [] _ hP (hD0.self (sz := s.heap.size)) va_S.rf hl
theorem Y.wiret (C : Cx p R s m args meth c cc nL Ts own D tys A) (hr : meth.sig.returnType = some .int) {w0 w1 : va_W} {rv v : Int32} {sz : Nat} (hA : A = va_A w0 sz) (d : decode cc pc = .ok (.ireturn, 1)) (hce : ce ≤ 1) (hsl : sl ≤ 6) (hv : v = rv) (hw : w = w1) :
    Y p l e R s m args below meth c nL D A (MQ below (qI D tys w0 rv w1 sz) args s 1 6 (va_A w0 sz)) ce sl w lv pc [.int v] := by
  subst hv; subst hw; subst hA
  intro H locs ls hP hD hS hl
  refine W.widen (k := 1) (n := 6) hce hsl ?_
  exact W.iret C.1 C.2.1 hr (fun t ht hW => ⟨⟨v, (), rfl, rfl, by rw [ht]; exact hP, va_K.moved hW.alike C.2.2.2.2.2.2.1, hD⟩, hS.F ht⟩) hS.2.2 d (hlocks := C.2.2.2.2.2.1)
theorem Y.last (C : Cx p R s m args meth c cc nL Ts own D tys A) (q0 t0 : Nat) {a : Nat} {cA : ClassId} {n : Nat} {f : Nat → Int64} (ha : w[q0]? = some (a, .inl (cA, n, .inr (.inl f)))) (ht : tys[t0]? = some (cA, .long)) {i : Int32} {x : Int64} (hin : vp_in i n) {w' : va_W} (hw : w.set q0 (a, .inl (cA, n, .inr (.inl (vp_updL f i.toNatClampNeg x)))) = w') (d : decode cc pc = .ok (.lastore, 1))
    (k : Y p l e R s m args below meth c nL D A Q ce sl w' lv (pc + 1) st) : Y p l e R s m args below meth c nL D A Q ce sl w lv pc (.long x :: .int i :: .ref a :: st) := by
  subst hw
  exact fun H locs ls hP hD hS hl => va_last C.1 C.2.1 C.2.2.2.2.2.2.1 hP hD hS q0 t0 ha ht hin d (fun H1 locs1 hP1 hD1 hS1 => k H1 locs1 ls hP1 hD1 hS1 hl)
theorem Y.lald (C : Cx p R s m args meth c cc nL Ts own D tys A) (q0 t0 : Nat) {a : Nat} {cA : ClassId} {n : Nat} {f : Nat → Int64} (ha : w[q0]? = some (a, .inl (cA, n, .inr (.inl f)))) (ht : tys[t0]? = some (cA, .long)) {i : Int32} {v : Int64} (hin : vp_in i n) (hv : f i.toNatClampNeg = v) (d : decode cc pc = .ok (.laload, 1))
    (k : Y p l e R s m args below meth c nL D A Q ce sl w lv (pc + 1) (.long v :: st)) : Y p l e R s m args below meth c nL D A Q ce sl w lv pc (.int i :: .ref a :: st) := by
  subst hv
  exact fun H locs ls hP hD hS hl => va_lald C.1 C.2.1 C.2.2.2.2.2.2.1 hP q0 t0 ha ht hin d (k H locs ls hP hD hS hl)
end YX
