/-- the same cells, where the reader's code is at cr and the code that is ready at cq -/
abbrev wXg (aO aR aT aC aK aF aS aM aA aB aV aN aX bC bK bF bS cr cq : Nat) (cC cI : ClassId) (rdy : Bool) (tx : Nat → Int32) (len : Nat) (r : RS) (K F S : Nat → Int32) (sz stm ops : Nat) (g : MS) : va_W :=
  (aO, .inr (3, [.ref aR, .ref aM, .ref cq, .int (b2i rdy)])) :: (aR, .inr (2, [.ref aT, .int (nI len), .ref cr, .int (nI r.1), .int (nI r.2.1), .long (lN r.2.2.1), .int r.2.2.2.1, .int (nI r.2.2.2.2.1)])) :: (aT, .inl (cC, 480, .inl tx)) ::
   ([(aC, .inr (0, [.ref aK, .ref aF, .ref aS, .int (nI r.2.2.2.2.2.2.2.2.1), .int (nI r.2.2.2.2.2.2.2.2.2.1), .int (nI r.2.2.2.2.2.2.2.2.2.2)])), (aK, .inl (cI, 480, .inl r.2.2.2.2.2.1)), (aF, .inl (cI, 480, .inl r.2.2.2.2.2.2.1)), (aS, .inl (cI, 480, .inl r.2.2.2.2.2.2.2.1))] ++ wM aM aA aB aV aN aX bC bK bF bS cI K F S sz stm ops g)
abbrev qR (D : va_G) (tys : List (ClassId × FieldType)) (w : va_W) (ra : Nat) (w1 : va_W) (sz : Nat) : Array Value → State → Outcome → State → Prop := va_Qr (fun (_ : Unit) => True) (fun _ a t => a = ra ∧ bQ D tys w w1 sz t) (va_A w sz)
def Mr (l : Launch) (y : MethodName) (ws : List Cond) (n : Nat) (D : va_G) (tys : List (ClassId × FieldType)) (av : List Value) (w : va_W) (ra : Nat) (w1 : va_W) : Prop :=
  ∀ sz, Met l y ws (rmN n) (va_Pc av (bP D tys w sz)) (qR D tys w ra w1 sz) 0 0 (va_A w sz)
section ZM
variable {p : Program} {l : Launch} {e : Env} {R : Room} {s : State} {m : MethodId} {args : Array Value} {below : List Frame} {meth : Method} {c : Code} {Q : State → Prop}
variable {cc : ByteArray} {nL : Nat} {Ts : List Cond} {own : String} {D : va_G} {tys : List (ClassId × FieldType)} {A : Nat → Prop} {w : va_W} {lv : List (Nat × Value)} {pc : Nat} {st : List Value}
theorem Z.perm {w' : va_W} (ps : List Nat) (h1 : ps.filterMap (fun i => w[i]?) = w') (h2 : ps.map (fun i => w[i]?) = w'.map some) (h3 : va_nd ps = true) (k : Z p l e R s m args below meth c nL D A Q w' lv pc st) : Z p l e R s m args below meth c nL D A Q w lv pc st :=
  fun H locs ls hP hD hS hl => k H locs ls (hP.sub ps h1) (hD.sub ps h3 h2) hS hl
theorem Mr.of {y : MethodName} {ws ws' : List Cond} {n maxL : Nat} {av : List Value} {ra : Nat} {w1 : va_W} {ty : FieldType} (hy : plainName y.cls = true) (hw : ws = Cond.code y cc maxL (some ty) :: ws') (hlen : (lg_sl av).length ≤ maxL)
    (body : ∀ (p : Program) (e : Env) (s : State) (m : MethodId) (below : List Frame) (meth : Method) (c : Code) (A : Nat → Prop), Cx p (rmN n) s m av.toArray meth c cc maxL ws y.cls D tys A → meth.sig.returnType = some ty → A = va_A w s.heap.size →
      Z p l e (rmN n) s m av.toArray below meth c maxL D A (MQ below (qR D tys w ra w1 s.heap.size) av.toArray s 0 0 (va_A w s.heap.size)) w (lv_args 0 av) 0 []) : Mr l y ws n D tys av w ra w1 := by
  intro sz
  refine Met.ofW (cc := cc) (maxL := maxL) (ret := some ty) hy hw ?_
  intro p e s m args below meth c s₁ B hml hv
  obtain ⟨rfl, hsz, hP, hK, hD0, hN⟩ := hv
  subst hsz
  have hl := lv_entry av (n := maxL) hlen
  rw [lg_entry_eq]
  exact body p e s m below meth c (va_A w s.heap.size) ⟨B.exec, B.bytes, hml, findClass_of_methodNamed B.named, atoms_spec (ws := ws) B.pre, B.notSynchronized, hK, hN, fun q h => Or.inr h⟩ B.returns rfl s.heap [] _ hP (hD0.self (sz := s.heap.size)) va_S.rf hl
theorem Z.aret (C : Cx p R s m args meth c cc nL Ts own D tys A) {rt : FieldType} (hr : meth.sig.returnType = some rt) (hrt : (∃ n, rt = .object n) ∨ ∃ t, rt = .array t) {w0 w1 : va_W} {ra : Nat} {sz : Nat} (hA : A = va_A w0 sz) (d : decode cc pc = .ok (.areturn, 1)) (hw : w = w1) :
    Z p l e R s m args below meth c nL D A (MQ below (qR D tys w0 ra w1 sz) args s 0 0 (va_A w0 sz)) w lv pc [.ref ra] := by
  subst hw; subst hA
  intro H locs ls hP hD hS hl
  exact W.aret C.1 C.2.1 hr hrt (Or.inr ⟨_, rfl⟩) (fun t ht hW => ⟨⟨(), ra, rfl, trivial, rfl, by rw [ht]; exact hP, va_K.moved hW.alike C.2.2.2.2.2.2.1, hD⟩, hS.F ht⟩) hS.2.2 d (hlocks := C.2.2.2.2.2.1)
theorem Z.callVNr (C : Cx p R s m args meth c cc nL Ts own D tys A) {y : MethodName} {bytes : ByteArray} {maxL n idx nA : Nat} {ret : Option FieldType} {ws' ws'' : List Cond} {Cn : String} {T : u_T} {N ci b ra : Nat} {As stk : List Value} {fs : List Value} {w1 : va_W} (hM : Mr l y ws' n D tys (.ref b :: As) w ra w1) {host : String} (hG : GoodIn Ts ws') (hw' : ws' = .code y bytes maxL ret :: ws'') (hlk : (own, idx, y, host) ∈ zn_m) (hini : Cond.initialized y.cls ∈ Ts) (hinst : Cond.instanceMethod y ∈ Ts) (hsel : Cond.selects Cn y y ∈ Ts) (hd : y.cls ≠ "java/lang/invoke/MethodHandle" ∧ y.cls ≠ "java/lang/invoke/VarHandle" ∧ (parseMethodDescriptor y.desc).map (fun d => d.parameters.length) = some nA) (hR : n + 1 ≤ R.frames ∧ 8 + (maxL + 11) + 32 * n ≤ R.locals) (q0 : Nat) (he : w[q0]? = some (b, .inr (ci, fs))) (hc : vwCl[ci]? = some (Cn, T, N)) (hn : As.length = nA) (hst : (st.map fun v => v.category).sum ≤ 8) (hs : stk = As.reverse ++ .ref b :: st) (d : decode cc pc = .ok (.invokevirtual idx, 3)) (k : Z p l e R s m args below meth c nL D A Q w1 lv (pc + 3) (.ref ra :: st)) : Z p l e R s m args below meth c nL D A Q w lv pc stk := by
  subst hs
  intro H locs ls hP hD hS hl
  have hFc : ∀ q, va_A w H.size q → A q := fun q h => by
    rcases h with ⟨k1, e1, h⟩ | h
    · exact hD.2 k1 _ h
    · exact C.2.2.2.2.2.2.2.2 q (Nat.le_trans hS.1 h)
  refine va_callr (va_runVN (b := b) (As := As) (rest := st) ⟨C.1, C.2.1, C.2.2.1, C.2.2.2.1, C.2.2.2.2.1⟩ (hM H.size) ⟨va_cnB nA C.2.2.2.2.1 hG hw' rfl rfl (C.2.2.2.2.2.2.2.1.2 _ hlk) (C.2.2.2.2.1 _ hini) hd hR, C.2.2.2.2.1 _ hinst, C.2.2.2.2.1 _ hsel⟩ ⟨bP_blind, va_recv C.2.2.2.2.2.2.1 hP hc he, fun U hU hW => ⟨rfl, by rw [hU], by rw [hU]; exact hP, va_K.moved hW.alike C.2.2.2.2.2.2.1, hD.weaken (fun _ _ _ _ => trivial), zn.warm hW C.2.2.2.2.2.2.2.1⟩⟩ rfl hn hl.1 rfl (lv_room hst) d ⟨Nat.zero_le _, Nat.zero_le _⟩) hS (fun q _ h => hFc q h) hFc (fun u ra' t H1 locs1 ht hvm hw hB hz1 hk1 hS1 => ?_)
  obtain ⟨rfl, hP1, hK1, hD1⟩ := hB
  rw [ht] at hP1
  exact k H1 locs1 ls hP1 (hD1.weaken (fun k1 q1 _ h => hFc q1.1 h)) hS1 hl
end ZM
set_option maxHeartbeats 4000000 in
set_option maxRecDepth 100000 in
theorem c_exchanged {l : Launch} {D : va_G} {aO aR aT aC aK aF aS aM aA aB aV aN aX bC bK bF bS : Nat} {cC cI : ClassId}  {rdy : Bool} {tx : Nat → Int32} {len : Nat} {r : RS} {K F S : Nat → Int32} {sz stm ops : Nat} {g : MS}  : Mr l yX2_exchanged wsX2_exchanged 1 D [(cC, .char), (cI, .int)] [.ref aR, .ref bC] (wXg aO aR aT aC aK aF aS aM aA aB aV aN aX bC bK bF bS aC bC cC cI rdy tx len r K F S sz stm ops g) aC (wXg aO aR aT aC aK aF aS aM aA aB aV aN aX bC bK bF bS bC bC cC cI rdy tx len r K F S sz stm ops g) := by
  refine Mr.of (cc := cX2_exchanged) (maxL := 3) (by decide) rfl (Nat.le_of_ble_eq_true rfl) ?_
  intro p e s m below meth c A C hr hA
  have in2 : ∀ w ∈ wsX20, w ∈ wsX2_exchanged := by decide +kernel
  show Z p l e (rmN _) s m _ below meth c _ D A _ _ [(0, .ref aR), (1, .ref bC)] 0 []
  refine Z.aload_n C dX2_exchanged_0 0 rfl rfl ?_
  refine Z.get C in2 1 rfl rfl 2 (by decide) (by decide +kernel) rfl rfl dX2_exchanged_1 ?_
  refine Z.astore_n C (lv' := [(2, .ref aC), (0, .ref aR), (1, .ref bC)]) dX2_exchanged_4 rfl (by decide) rfl ?_
  refine Z.aload_n C dX2_exchanged_5 1 rfl rfl ?_
  refine Z.aload_n C dX2_exchanged_6 2 rfl rfl ?_
  refine Z.put C in2 1 rfl rfl 2 (by decide) tyX2 tyX2_ok nmX2 (by decide +kernel) rfl rfl rfl rfl (Nat.le_of_ble_eq_true rfl) dX2_exchanged_7 (w' := (wXg aO aR aT aC aK aF aS aM aA aB aV aN aX bC bK bF bS bC bC cC cI rdy tx len r K F S sz stm ops g)) rfl ?_
  refine Z.aload_n C dX2_exchanged_10 0 rfl rfl ?_
  exact Z.aret C hr (Or.inl ⟨_, rfl⟩) hA dX2_exchanged_11 rfl

set_option maxHeartbeats 4000000 in
set_option maxRecDepth 100000 in
theorem c_compileX {l : Launch} {D : va_G} {aO aR aT aC aK aF aS aM aA aB aV aN aX bC bK bF bS : Nat} {cC cI : ClassId} {rdy : Bool} {tx : Nat → Int32} {len : Nat} {r : RS} {K F S : Nat → Int32} {sz stm ops : Nat} {g : MS}  (hlt : l.stackTraces = false) (hI : InvR len r) : Xi l yX3_compile wsX3_compile 100 D [(cC, .char), (cI, .int)] [.ref aO] (wX aO aR aT aC aK aF aS aM aA aB aV aN aX bC bK bF bS cC cI rdy tx len r K F S sz stm ops g) ((mText tx len r).1 = true) (nI (mText tx len r).2.2.2.2.2.2.2.2.2.2.1) (wX aO aR aT bC bK bF bS aM aA aB aV aN aX aC aK aF aS cC cI true tx len (rC (mText tx len r).2 (K, F, S, sz, stm, ops)) (mText tx len r).2.2.2.2.2.2.1 (mText tx len r).2.2.2.2.2.2.2.1 (mText tx len r).2.2.2.2.2.2.2.2.1 (mText tx len r).2.2.2.2.2.2.2.2.2.1 (mText tx len r).2.2.2.2.2.2.2.2.2.2.1 (mText tx len r).2.2.2.2.2.2.2.2.2.2.2 g) ("java/lang/IllegalArgumentException") (wX aO aR aT aC aK aF aS aM aA aB aV aN aX bC bK bF bS cC cI rdy tx len (mText tx len r).2 K F S sz stm ops g) := by
  refine Xi.of (cc := cX3_compile) (maxL := 1) (by decide) rfl (Nat.le_of_ble_eq_true rfl) ?_
  intro p e s m below meth c A C hr hA hzt htb
  have in0 : ∀ w ∈ wsX00, w ∈ wsX3_compile := by decide +kernel
  have in3 : ∀ w ∈ wsX30, w ∈ wsX3_compile := by decide +kernel
  show Z p l e (rmX _) s m _ below meth c _ D A _ _ [(0, .ref aO)] 0 []
  refine Z.aload_n C dX3_compile_0 0 rfl rfl ?_
  refine Z.get C in3 0 rfl rfl 0 (by decide) (by decide +kernel) rfl rfl dX3_compile_1 ?_
  refine Z.callVNi C (nA := 0) (As := []) (st := []) (host := "RoundCompiler") (frMiR (c_text r hI)) gX3_compile_X2_readText_n46 rfl (by decide +kernel) (by decide +kernel) (by decide +kernel) (by decide +kernel) (by decide +kernel) (rm_ok (by omega) (by decide)) 1 rfl rfl rfl (Nat.le_of_ble_eq_true rfl) rfl dX3_compile_4 ?_
  generalize e1 : mText tx len r = x1
  refine Z.if_ne C 20 dX3_compile_7 (by decide) (fun c2 => ?_) (fun c2 => ?_)
  · skip
    replace c2 : x1.1 = true := b2i_n0.mp c2
    refine Z.aload_n C dX3_compile_20 0 rfl rfl ?_
    refine Z.aload_n C dX3_compile_21 0 rfl rfl ?_
    refine Z.get C in3 0 rfl rfl 0 (by decide) (by decide +kernel) rfl rfl dX3_compile_22 ?_
    refine Z.aload_n C dX3_compile_25 0 rfl rfl ?_
    refine Z.get C in3 0 rfl rfl 2 (by decide) (by decide +kernel) rfl rfl dX3_compile_26 ?_
    refine Z.callVNr C (nA := 1) (As := [.ref bC]) (st := [.ref aO]) (host := "RoundCompiler") (c_exchanged (aO := aO) (aR := aR) (aT := aT) (aC := aC) (aK := aK) (aF := aF) (aS := aS) (aM := aM) (aA := aA) (aB := aB) (aV := aV) (aN := aN) (aX := aX) (bC := bC) (bK := bK) (bF := bF) (bS := bS) (rdy := rdy) (tx := tx) (len := len) (r := x1.2) (K := K) (F := F) (S := S) (sz := sz) (stm := stm) (ops := ops) (g := g)) gX3_compile_X2_exchanged_n57 rfl (by decide +kernel) (by decide +kernel) (by decide +kernel) (by decide +kernel) (by decide +kernel) (rm_ok (by omega) (by decide)) 1 rfl rfl rfl (Nat.le_of_ble_eq_true rfl) rfl dX3_compile_29 ?_
    refine Z.put C in3 0 rfl rfl 2 (by decide) tyX3 tyX3_ok nmX3 (by decide +kernel) rfl rfl rfl rfl (Nat.le_of_ble_eq_true rfl) dX3_compile_32 (w' := (wXg aO aR aT aC aK aF aS aM aA aB aV aN aX bC bK bF bS bC aC cC cI rdy tx len x1.2 K F S sz stm ops g)) rfl ?_
    refine Z.aload_n C dX3_compile_35 0 rfl rfl ?_
    refine Z.iconst C (v := (nI 1)) dX3_compile_36 (by decide) ?_
    refine Z.put C in3 0 rfl rfl 3 (by decide) tyX3 tyX3_ok nmX3 (by decide +kernel) rfl rfl (by decide) (by decide) (Nat.le_of_ble_eq_true rfl) dX3_compile_37 (w' := (wXg aO aR aT aC aK aF aS aM aA aB aV aN aX bC bK bF bS bC aC cC cI true tx len x1.2 K F S sz stm ops g)) rfl ?_
    refine Z.aload_n C dX3_compile_40 0 rfl rfl ?_
    refine Z.get C in3 0 rfl rfl 2 (by decide) (by decide +kernel) rfl rfl dX3_compile_41 ?_
    refine Z.getN C (host := "RoundCompiler") in0 3 rfl rfl 4 (by decide) (by decide +kernel) rfl rfl dX3_compile_44 ?_
    refine Z.perm (w' := (wX aO aR aT bC bK bF bS aM aA aB aV aN aX aC aK aF aS cC cI true tx len (rC x1.2 (K, F, S, sz, stm, ops)) x1.2.2.2.2.2.2.1 x1.2.2.2.2.2.2.2.1 x1.2.2.2.2.2.2.2.2.1 x1.2.2.2.2.2.2.2.2.2.1 x1.2.2.2.2.2.2.2.2.2.2.1 x1.2.2.2.2.2.2.2.2.2.2.2 g)) [0, 1, 2, 13, 14, 15, 16, 7, 8, 9, 10, 11, 12, 3, 4, 5, 6] rfl rfl (by decide) ?_
    refine Z.xiret C hr hA dX3_compile_47 ?_ ?_ ?_
    · exact c2
    · rfl
    · rfl
  · skip
    replace c2 : x1.1 = false := b2i_0.mp c2
    refine Z.throw C hlt hzt htb (X := "java/lang/IllegalArgumentException") (text := "the text has a fault") (ik := 50) (is := 52) (ic := 54) (by decide) (by decide +kernel) (by decide +kernel) (by decide +kernel) (by decide) (by decide +kernel) (by decide +kernel) (by decide +kernel) dX3_compile_10 dX3_compile_13 dX3_compile_14 dX3_compile_16 dX3_compile_19 ⟨by decide, by decide, by decide, by decide⟩ hA ?_ ?_ ?_
    · (simp [c2])
    · rfl
    · rfl
