def zt_d : List MethodName := [⟨"java/lang/RuntimeException", "<init>", "(Ljava/lang/String;)V"⟩, ⟨"java/lang/Exception", "<init>", "(Ljava/lang/String;)V"⟩, ⟨"java/lang/Throwable", "<init>", "(Ljava/lang/String;)V"⟩]
def zt_c : List String := ["java/lang/IllegalArgumentException", "java/lang/IllegalStateException", "java/lang/IndexOutOfBoundsException"]
def zt_s : List (Nat × String) := [(52, "the text has a fault"), (72, "no program is ready"), (81, "the program used a word outside of memory"), (87, "no such name"), (97, "no such address"), (102, "memory does not have so many words")]
/-- what a throw needs of a state: the exceptions' tables, the texts, Throwable's statics outside of A -/
def zt (A : Nat → Prop) (U : State) : Prop := (∀ q ∈ zt_d, va_Nw (.declares q) U) ∧ (∀ q ∈ zt_c, va_Nw (.castable q q) U) ∧ (∀ q ∈ zt_s, ∃ sa, vk_R RX3 q.1 q.2 sa U) ∧ vx_Zq Bundle.tN "UNASSIGNED_STACK" Bundle.steD A U U.heap ∧ vx_Zq Bundle.tN "SUPPRESSED_SENTINEL" Bundle.listD A U U.heap
theorem zt.to {A B : Nat → Prop} {s U : State} {H : Heap} {locs : List Loc} (h : zt A s) (hS : va_S A s.heap H locs) (hU : U.heap = H) (hW : s.WarmedH U.vm) (hAB : ∀ q, B q → A q) : zt B U :=
  ⟨fun q hq => va_Nw.warmD hW (h.1 q hq), fun q hq => va_Nw.warmC hW (h.2.1 q hq), fun q hq => (h.2.2.1 q hq).imp (fun sa z => vk_R.warm hW z),
    by rw [hU]; exact ((vx_Zq.moved hW.alike h.2.2.2.1).kept (fun a h1 h2 => hS.2.1 a h1 h2)).narrow hAB, by rw [hU]; exact ((vx_Zq.moved hW.alike h.2.2.2.2).kept (fun a h1 h2 => hS.2.1 a h1 h2)).narrow hAB⟩
theorem zt.calling {A : Nat → Prop} {U : State} (h : zt A U) (g : JFrame) (mk : MethodId) (a : Array Value) : zt A (U.calling g mk a) :=
  ⟨fun q hq => va_Nw.same (u := U) rfl rfl (h.1 q hq), fun q hq => va_Nw.same (u := U) rfl rfl (h.2.1 q hq), fun q hq => (h.2.2.1 q hq).imp (fun sa z => vk_R.same (u := U) rfl z),
    vx_Zq.moved (u := U) (Vm.Alike.refl U.vm) h.2.2.2.1, vx_Zq.moved (u := U) (Vm.Alike.refl U.vm) h.2.2.2.2⟩
def bPX (D : va_G) (tys : List (ClassId × FieldType)) (w : va_W) (sz : Nat) (U : State) : Prop := bP D tys w sz U ∧ zt (va_A w sz) U
theorem bPX_blind {D : va_G} {tys : List (ClassId × FieldType)} {w : va_W} {sz : Nat} {av : List Value} : FrameBlind (va_Pc av (bPX D tys w sz)) := fun a U g mk q => by
  obtain ⟨q0, ⟨q1, qP, qK, qD, qN⟩, qz⟩ := q
  exact ⟨q0, ⟨q1, qP, va_K.moved (u := U) (U := U.calling g mk a) (Vm.Alike.refl U.vm) qK, qD, zn.same (u := U) rfl qN⟩, qz.calling g mk a⟩
def rmX (n : Nat) : Room := { frames := n, cells := 1, slots := 6, locals := 32 * n }
abbrev xX (D : va_G) (tys : List (ClassId × FieldType)) (w : va_W) (ok : Prop) (E : String) (wE : va_W) (sz : Nat) : String → State → State → Prop := vx_X (fun (_ : Unit) => ¬ ok) (fun E' _ t => E' = E ∧ bQ D tys w wE sz t) (va_A w sz)
abbrev xI (D : va_G) (tys : List (ClassId × FieldType)) (w : va_W) (ok : Prop) (rv : Int32) (w1 : va_W) (sz : Nat) : Array Value → State → Outcome → State → Prop := va_Qi (fun r (_ : Unit) => ok ∧ r = rv) (fun _ => bQ D tys w w1 sz) (va_A w sz)
abbrev xV (D : va_G) (tys : List (ClassId × FieldType)) (w : va_W) (ok : Prop) (w1 : va_W) (sz : Nat) : Array Value → State → Outcome → State → Prop := va_Qv (fun (_ : Unit) => ok) (fun _ => bQ D tys w w1 sz) (va_A w sz)
abbrev XQI (below : List Frame) (D : va_G) (tys : List (ClassId × FieldType)) (av : List Value) (w : va_W) (ok : Prop) (rv : Int32) (w1 : va_W) (E : String) (wE : va_W) (s : State) : State → Prop := vx_MQ below (xI D tys w ok rv w1 s.heap.size) (xX D tys w ok E wE s.heap.size) av.toArray s 1 6 (va_A w s.heap.size)
abbrev XQV (below : List Frame) (D : va_G) (tys : List (ClassId × FieldType)) (av : List Value) (w : va_W) (ok : Prop) (w1 : va_W) (E : String) (wE : va_W) (s : State) : State → Prop := vx_MQ below (xV D tys w ok w1 s.heap.size) (xX D tys w ok E wE s.heap.size) av.toArray s 1 6 (va_A w s.heap.size)
/-- a contract of a method that may throw: if ok it answers rv and leaves w1, if not it throws an E and leaves wE -/
def Xi (l : Launch) (y : MethodName) (ws : List Cond) (n : Nat) (D : va_G) (tys : List (ClassId × FieldType)) (av : List Value) (w : va_W) (ok : Prop) (rv : Int32) (w1 : va_W) (E : String) (wE : va_W) : Prop :=
  ∀ sz, vx_Met l y ws (rmX n) (va_Pc av (bPX D tys w sz)) (xI D tys w ok rv w1 sz) (xX D tys w ok E wE sz) 1 6 (va_A w sz)
def Xv (l : Launch) (y : MethodName) (ws : List Cond) (n : Nat) (D : va_G) (tys : List (ClassId × FieldType)) (av : List Value) (w : va_W) (ok : Prop) (w1 : va_W) (E : String) (wE : va_W) : Prop :=
  ∀ sz, vx_Met l y ws (rmX n) (va_Pc av (bPX D tys w sz)) (xV D tys w ok w1 sz) (xX D tys w ok E wE sz) 1 6 (va_A w sz)
section ZX
variable {p : Program} {l : Launch} {e : Env} {R : Room} {s : State} {m : MethodId} {args : Array Value} {below : List Frame} {meth : Method} {c : Code} {Q : State → Prop}
variable {cc : ByteArray} {nL : Nat} {Ts : List Cond} {own : String} {D : va_G} {tys : List (ClassId × FieldType)} {A : Nat → Prop} {w : va_W} {lv : List (Nat × Value)} {pc : Nat} {st : List Value}
theorem Xi.of {y : MethodName} {ws ws' : List Cond} {n maxL : Nat} {av : List Value} {ok : Prop} {rv : Int32} {w1 wE : va_W} {E : String} {ty : FieldType} (hy : plainName y.cls = true) (hw : ws = Cond.code y cc maxL (some ty) :: ws') (hlen : (lg_sl av).length ≤ maxL)
    (body : ∀ (p : Program) (e : Env) (s : State) (m : MethodId) (below : List Frame) (meth : Method) (c : Code) (A : Nat → Prop), Cx p (rmX n) s m av.toArray meth c cc maxL ws y.cls D tys A → meth.sig.returnType = some ty → A = va_A w s.heap.size → zt A s → (∀ x ∈ c.exceptionTable.toList, False) →
      Z p l e (rmX n) s m av.toArray below meth c maxL D A (XQI below D tys av w ok rv w1 E wE s) w (lv_args 0 av) 0 []) : Xi l y ws n D tys av w ok rv w1 E wE := by
  intro sz
  refine vx_ofW (cc := cc) (maxL := maxL) (ret := some ty) hy hw ?_
  intro p e s m args below meth c s₁ B hml htb hv
  obtain ⟨rfl, ⟨hsz, hP, hK, hD0, hN⟩, hz⟩ := hv
  subst hsz
  have hl := lv_entry av (n := maxL) hlen
  rw [lg_entry_eq]
  exact body p e s m below meth c (va_A w s.heap.size) ⟨B.exec, B.bytes, hml, findClass_of_methodNamed B.named, atoms_spec (ws := ws) B.pre, B.notSynchronized, hK, hN, fun q h => Or.inr h⟩ B.returns rfl hz htb s.heap [] _ hP (hD0.self (sz := s.heap.size)) va_S.rf hl
theorem Xv.of {y : MethodName} {ws ws' : List Cond} {n maxL : Nat} {av : List Value} {ok : Prop} {w1 wE : va_W} {E : String} (hy : plainName y.cls = true) (hw : ws = Cond.code y cc maxL none :: ws') (hlen : (lg_sl av).length ≤ maxL)
    (body : ∀ (p : Program) (e : Env) (s : State) (m : MethodId) (below : List Frame) (meth : Method) (c : Code) (A : Nat → Prop), Cx p (rmX n) s m av.toArray meth c cc maxL ws y.cls D tys A → meth.sig.returnType = none → A = va_A w s.heap.size → zt A s → (∀ x ∈ c.exceptionTable.toList, False) →
      Z p l e (rmX n) s m av.toArray below meth c maxL D A (XQV below D tys av w ok w1 E wE s) w (lv_args 0 av) 0 []) : Xv l y ws n D tys av w ok w1 E wE := by
  intro sz
  refine vx_ofW (cc := cc) (maxL := maxL) (ret := none) hy hw ?_
  intro p e s m args below meth c s₁ B hml htb hv
  obtain ⟨rfl, ⟨hsz, hP, hK, hD0, hN⟩, hz⟩ := hv
  subst hsz
  have hl := lv_entry av (n := maxL) hlen
  rw [lg_entry_eq]
  exact body p e s m below meth c (va_A w s.heap.size) ⟨B.exec, B.bytes, hml, findClass_of_methodNamed B.named, atoms_spec (ws := ws) B.pre, B.notSynchronized, hK, hN, fun q h => Or.inr h⟩ B.returns rfl hz htb s.heap [] _ hP (hD0.self (sz := s.heap.size)) va_S.rf hl
theorem Z.xiret (C : Cx p R s m args meth c cc nL Ts own D tys A) (hr : meth.sig.returnType = some .int) {w0 w1 : va_W} {ok : Prop} {rv v : Int32} {sz : Nat} {XC : String → State → State → Prop} (hA : A = va_A w0 sz) (d : decode cc pc = .ok (.ireturn, 1)) (hok : ok) (hv : v = rv) (hw : w = w1) :
    Z p l e R s m args below meth c nL D A (vx_MQ below (xI D tys w0 ok rv w1 sz) XC args s 1 6 (va_A w0 sz)) w lv pc [.int v] := by
  subst hv; subst hw; subst hA
  intro H locs ls hP hD hS hl
  refine W.widen (k := 1) (n := 6) (by omega) (by omega) (vx_ret ?_)
  exact W.iret C.1 C.2.1 hr (fun t ht hW => ⟨⟨v, (), rfl, ⟨hok, rfl⟩, by rw [ht]; exact hP, va_K.moved hW.alike C.2.2.2.2.2.2.1, hD⟩, hS.F ht⟩) hS.2.2 d (hlocks := C.2.2.2.2.2.1)
theorem Z.xvret (C : Cx p R s m args meth c cc nL Ts own D tys A) (hr : meth.sig.returnType = none) {w0 w1 : va_W} {ok : Prop} {sz : Nat} {XC : String → State → State → Prop} (hA : A = va_A w0 sz) (d : decode cc pc = .ok (.return_, 1)) (hok : ok) (hw : w = w1) :
    Z p l e R s m args below meth c nL D A (vx_MQ below (xV D tys w0 ok w1 sz) XC args s 1 6 (va_A w0 sz)) w lv pc [] := by
  subst hw; subst hA
  intro H locs ls hP hD hS hl
  refine W.widen (k := 1) (n := 6) (by omega) (by omega) (vx_ret ?_)
  exact W.vret C.1 C.2.1 hr (fun t ht hW => ⟨⟨(), rfl, hok, by rw [ht]; exact hP, va_K.moved hW.alike C.2.2.2.2.2.2.1, hD⟩, hS.F ht⟩) hS.2.2 d (hlocks := C.2.2.2.2.2.1)
abbrev zt_B (X : String) : List Cond := [.declares ⟨"java/lang/RuntimeException", "<init>", "(Ljava/lang/String;)V"⟩, .declares ⟨"java/lang/Exception", "<init>", "(Ljava/lang/String;)V"⟩, .declares ⟨"java/lang/Throwable", "<init>", "(Ljava/lang/String;)V"⟩, .castable X X]
/-- throw new X("a text") -/
theorem Z.throw (C : Cx p R s m args meth c cc nL Ts RX3 D tys A) (hlt : l.stackTraces = false) (hz : zt A s) (htb : ∀ x ∈ c.exceptionTable.toList, False) {X text : String} {ik is ic : Nat} (hX : X ∈ zt_c) (hfit : Bundle.fit X = true) (hk : Cond.classLink RX3 ik X ∈ Ts) (hi : Cond.initialized X ∈ Ts) (hst : (is, text) ∈ zt_s)
    (hm : ∀ w ∈ (vx_atS RX3 ic X ["java/lang/RuntimeException", "java/lang/Exception"]).filter goodWord, w ∈ Ts) (hB : ∀ w ∈ (vx_atS RX3 ic X ["java/lang/RuntimeException", "java/lang/Exception"]).filter (fun w => !goodWord w), w ∈ zt_B X) (hg : ∀ w ∈ Cond.classLink RX3 ik X :: Cond.initialized X :: vx_atS RX3 ic X ["java/lang/RuntimeException", "java/lang/Exception"], vx_ot w = true)
    (d0 : decode cc pc = .ok (.new ik, 3)) (d3 : decode cc (pc + 3) = .ok (.dup, 1)) (d4 : decode cc (pc + 4) = .ok (.ldc is, 2)) (d6 : decode cc (pc + 6) = .ok (.invokespecial ic, 3)) (d9 : decode cc (pc + 9) = .ok (.athrow, 1)) (hR : 5 < R.frames ∧ 82 ≤ R.locals ∧ 1 ≤ R.cells ∧ 6 ≤ R.slots)
    {w0 wE : va_W} {sz : Nat} {ok : Prop} {E : String} {Qc : Array Value → State → Outcome → State → Prop} (hA : A = va_A w0 sz) (hnok : ¬ ok) (hE : X = E) (hw : w = wE) :
    Z p l e R s m args below meth c nL D A (vx_MQ below Qc (xX D tys w0 ok E wE sz) args s 1 6 (va_A w0 sz)) w lv pc [] := by
  subst hE; subst hw
  intro H locs ls hP hD hS hl
  obtain ⟨sa, hsa⟩ := hz.2.2.1 _ hst
  have hbad : ∀ w ∈ zt_B X, w.before args s = true := by
    intro w hw
    simp only [zt_B, List.mem_cons, List.not_mem_nil, or_false] at hw
    rcases hw with rfl | rfl | rfl | rfl
    · exact va_Nw.use rfl (hz.1 _ (by decide))
    · exact va_Nw.use rfl (hz.1 _ (by decide))
    · exact va_Nw.use rfl (hz.1 _ (by decide))
    · exact va_Nw.use rfl (hz.2.1 _ hX)
  refine vx_throwS (names := ["java/lang/RuntimeException", "java/lang/Exception"]) (sa := sa) (text := text) (cls := X) (A := A) C.1 C.2.1 hlt C.2.2.2.1 hfit (by decide) (C.2.2.2.2.1 _ hk) (C.2.2.2.2.1 _ hi) hsa (vx_hat (fun w h => C.2.2.2.2.1 w (hm w h)) hB hbad) hg hz.2.2.2.1 hz.2.2.2.2 hS (hl.1.trans C.2.2.1.symm) d0 d3 d4 d6 d9 (fun x h => (htb x h).elim) hR.1 (by show 0 + 82 ≤ R.locals; omega) (by omega) (by omega) C.2.2.2.2.2.1 (fun t hvm hle hk9 => ?_) (fun z hz => by rw [← hA]; exact hS.2.2 z hz) (by omega) (by omega)
  subst hA
  exact ⟨(), hnok, ⟨rfl, hP.kept (fun k q h => hk9 q.1 (hP k q h).lt), va_K.moved hvm C.2.2.2.2.2.2.1, hD⟩, Nat.le_trans hS.1 hle, fun q h1 h2 => by rw [hk9 q (Nat.lt_of_lt_of_le h1 hS.1)]; exact hS.2.1 q h1 h2⟩
end ZX

