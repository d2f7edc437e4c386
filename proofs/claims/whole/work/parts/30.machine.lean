theorem nI_cl {x : Int32} (h : 0 ≤ x) : x = nI x.toNatClampNeg := by
  obtain ⟨j, hj, rfl⟩ := nI_of (Int32.not_lt.mpr h)
  rw [nI_clamp hj]
theorem nI_clb {x : Int32} {n : Nat} (h : 0 ≤ x) (hn : n < 2 ^ 31) (h2 : ¬ nI n ≤ x) : x.toNatClampNeg < n := by
  obtain ⟨j, hj, rfl⟩ := nI_of (Int32.not_lt.mpr h)
  rw [nI_clamp hj]
  exact Nat.not_le.mp (fun q => h2 ((nI_leI hn hj).mpr q))
section ZR2
variable {p : Program} {l : Launch} {e : Env} {R : Room} {s : State} {m : MethodId} {args : Array Value} {below : List Frame} {meth : Method} {c : Code} {Q : State → Prop}
variable {cc : ByteArray} {nL : Nat} {Ts : List Cond} {own : String} {D : va_G} {tys : List (ClassId × FieldType)} {A : Nat → Prop} {w : va_W} {lv : List (Nat × Value)} {pc : Nat} {st : List Value}
/-- a static call over the same world -/
theorem Z.callXv (C : Cx p R s m args meth c cc nL Ts own D tys A) {y : MethodName} {bytes : ByteArray} {maxL n idx nA : Nat} {ret : Option FieldType} {ws' ws'' : List Cond} {As stk : List Value} {w1 : va_W} (hM : Mv l y ws' n D tys As w w1) (hG : GoodIn Ts (va_wsS own idx y ws')) (hw' : ws' = .code y bytes maxL ret :: ws'') (hd : y.cls ≠ "java/lang/invoke/MethodHandle" ∧ y.cls ≠ "java/lang/invoke/VarHandle" ∧ (parseMethodDescriptor y.desc).map (fun d => d.parameters.length) = some nA) (hR : n + 1 ≤ R.frames ∧ 8 + (maxL + 11) + 32 * n ≤ R.locals) (hn : As.length = nA) (hst : (st.map fun v => v.category).sum ≤ 8) (hs : stk = As.reverse ++ st) (d : decode cc pc = .ok (.invokestatic idx, 3)) (k : Z p l e R s m args below meth c nL D A Q w1 lv (pc + 3) st) : Z p l e R s m args below meth c nL D A Q w lv pc stk := by
  subst hs
  intro H locs ls hP hD hS hl
  have hFc : ∀ q, va_A w H.size q → A q := fun q h => by
    rcases h with ⟨k1, e1, h⟩ | h
    · exact hD.2 k1 _ h
    · exact C.2.2.2.2.2.2.2.2 q (Nat.le_trans hS.1 h)
  refine va_callv (va_runS (As := As) (rest := st) ⟨C.1, C.2.1, C.2.2.1, C.2.2.2.1, C.2.2.2.2.1⟩ (hM H.size) (va_cwS nA C.2.2.2.2.1 hG hw' rfl rfl hd hR) ⟨bP_blind, fun U hU hW => ⟨rfl, by rw [hU], by rw [hU]; exact hP, va_K.moved hW.alike C.2.2.2.2.2.2.1, hD.weaken (fun _ _ _ _ => trivial), zn.warm hW C.2.2.2.2.2.2.2.1⟩⟩ rfl hn hl.1 rfl (lv_room hst) d ⟨Nat.zero_le _, Nat.zero_le _⟩) hS (fun q _ h => hFc q h) hFc (fun u t H1 locs1 ht hvm hw hB hz1 hk1 hS1 => ?_)
  obtain ⟨hP1, hK1, hD1⟩ := hB
  rw [ht] at hP1
  exact k H1 locs1 ls hP1 (hD1.weaken (fun k1 q1 _ h => hFc q1.1 h)) hS1 hl
/-- System.arraycopy of whole rows of ints, from 0 to 0 -/
theorem Z.copy (C : Cx p R s m args meth c cc nL Ts own D tys A) {idx : Nat} (hl1 : Cond.methodLink own idx arraycopyName ∈ Ts) (hl2 : Cond.native arraycopyName ∈ Ts) (hl3 : Cond.static arraycopyName ∈ Ts) (hl4 : Cond.initialized "java/lang/System" ∈ Ts) (q0 q1 t0 : Nat) {a0 a : Nat} {cA : ClassId} {n0 : Nat} {f g : Nat → Int32} (ha0 : w[q0]? = some (a0, .inl (cA, n0, .inl f))) (ha1 : w[q1]? = some (a, .inl (cA, n0, .inl g))) (ht0 : tys[t0]? = some (cA, .int)) (hn : n0 < 2 ^ 31) (hR : 1 ≤ R.frames ∧ (st.map fun v => v.category).sum + 18 ≤ R.locals) (d : decode cc pc = .ok (.invokestatic idx, 3)) {w' : va_W} (hw : w.set q1 (a, .inl (cA, n0, .inl (va_cpy f g 0 0 n0))) = w') (k : Z p l e R s m args below meth c nL D A Q w' lv (pc + 3) st) : Z p l e R s m args below meth c nL D A Q w lv pc (.int (nI n0) :: .int (nI 0) :: .ref a :: .int (nI 0) :: .ref a0 :: st) := by
  subst hw
  intro H locs ls hP hD hS hl
  have e0 : (nI 0).toNatClampNeg = 0 := by decide
  have en : (nI n0).toNatClampNeg = n0 := nI_clamp hn
  have hk := fun H1 locs1 => k H1 locs1 ls
  refine va_copyi C.1 C.2.1 (by rw [hl.1]; exact C.2.2.1) C.2.2.2.1 (C.2.2.2.2.1 _ hl1) (C.2.2.2.2.1 _ hl2) (C.2.2.2.2.1 _ hl3) (C.2.2.2.2.1 _ hl4) C.2.2.2.2.2.2.1 hP hD hS q0 q1 t0 t0 ha0 ha1 ht0 ht0 rfl (by decide) (by decide) (nI_pos hn) (by rw [e0, en]; omega) (by rw [e0, en]; omega) (fun _ _ => rfl) hR.1 hR.2 d (fun H1 locs1 hP1 hD1 hS1 => ?_)
  rw [e0, en] at hP1 hD1
  exact hk H1 locs1 hP1 hD1 hS1 hl
end ZR2
/-- the machine's state: memory, memoryBefore, values, names, stack, top, steps, failed -/
abbrev MS : Type := (Nat → Int32) × (Nat → Int32) × (Nat → Int32) × (Nat → Int32) × (Nat → Int32) × Nat × Nat × Bool
abbrev wM (aM aA aB aV aN aX aC aK aF aS : Nat) (cI : ClassId) (K F S : Nat → Int32) (sz stm ops : Nat) (g : MS) : va_W :=
  [(aM, .inr (1, [.ref aA, .ref aB, .ref aV, .ref aN, .ref aX, .int (nI g.2.2.2.2.2.1), .int (nI g.2.2.2.2.2.2.1), .int (b2i g.2.2.2.2.2.2.2)])), (aA, .inl (cI, 192, .inl g.1)), (aB, .inl (cI, 192, .inl g.2.1)), (aV, .inl (cI, 26, .inl g.2.2.1)), (aN, .inl (cI, 26, .inl g.2.2.2.1)), (aX, .inl (cI, 16, .inl g.2.2.2.2.1)),
   (aC, .inr (0, [.ref aK, .ref aF, .ref aS, .int (nI sz), .int (nI stm), .int (nI ops)])), (aK, .inl (cI, 480, .inl K)), (aF, .inl (cI, 480, .inl F)), (aS, .inl (cI, 480, .inl S))]
def InvM (sz : Nat) (g : MS) : Prop := g.2.2.2.2.2.1 ≤ 16 ∧ sz ≤ 480
def isAddrF (a : Int32) : Bool := decide (0 ≤ a ∧ ¬ (192 : Int32) ≤ a)
def mPush (v : Int32) (g : MS) : MS := if g.2.2.2.2.2.1 < 16 then (g.1, g.2.1, g.2.2.1, g.2.2.2.1, upd g.2.2.2.2.1 g.2.2.2.2.2.1 v, g.2.2.2.2.2.1 + 1, g.2.2.2.2.2.2) else g
def mPop (g : MS) : Int32 × MS := if 0 < g.2.2.2.2.2.1 then (g.2.2.2.2.1 (g.2.2.2.2.2.1 - 1), (g.1, g.2.1, g.2.2.1, g.2.2.2.1, g.2.2.2.2.1, g.2.2.2.2.2.1 - 1, g.2.2.2.2.2.2)) else (0, g)
def namedF (g : MS) (x : Int32) : Int32 := if 0 ≤ x ∧ ¬ (26 : Int32) ≤ x then g.2.2.2.1 x.toNatClampNeg else 0
def mName (x v : Int32) (g : MS) : MS := if 0 ≤ x ∧ ¬ (26 : Int32) ≤ x then (g.1, g.2.1, g.2.2.1, upd g.2.2.2.1 x.toNatClampNeg v, g.2.2.2.2) else g
def mLoad (a : Int32) (g : MS) : Int32 × MS := if isAddrF a = true then (g.1 a.toNatClampNeg, g) else (0, (g.1, g.2.1, g.2.2.1, g.2.2.2.1, g.2.2.2.2.1, g.2.2.2.2.2.1, g.2.2.2.2.2.2.1, true))
def mStoreM (a v : Int32) (g : MS) : MS := if isAddrF a = true then (upd g.1 a.toNatClampNeg v, g.2) else (g.1, g.2.1, g.2.2.1, g.2.2.2.1, g.2.2.2.2.1, g.2.2.2.2.2.1, g.2.2.2.2.2.2.1, true)
theorem isAddr_t {a : Int32} (h : isAddrF a = true) : 0 ≤ a ∧ ¬ (192 : Int32) ≤ a := of_decide_eq_true h
/-- the turn of a loop: the answer, and the state -/
def mAgain (F S : Nat → Int32) (sz : Nat) (x : Int32) (g : MS) : Bool × MS :=
  if 0 ≤ x then (if nI sz ≤ x then (false, g) else if S x.toNatClampNeg ≤ namedF g (F x.toNatClampNeg) + 1 then (false, g) else (true, mName (F x.toNatClampNeg) (namedF g (F x.toNatClampNeg) + 1) g)) else (false, g)
def mStep1 (g : MS) : MS := (g.1, g.2.1, g.2.2.1, g.2.2.2.1, g.2.2.2.2.1, g.2.2.2.2.2.1, g.2.2.2.2.2.2.1 + 1, g.2.2.2.2.2.2.2)
/-- one instruction of kind k, with the argument f, at x -/
def mDo (F S : Nat → Int32) (sz : Nat) (k f x : Int32) (g : MS) : Int32 × MS :=
  if k = 1 then (x + 1, mPush f g)
  else if k = 2 then (x + 1, mPush (namedF g f) g)
  else if k = 3 then (x + 1, mPush (mLoad (mPop g).1 (mPop g).2).1 (mLoad (mPop g).1 (mPop g).2).2)
  else if k = 4 then (x + 1, mStep1 (mName f (mPop g).1 (mPop g).2))
  else if k = 5 then (x + 1, mStep1 (mStoreM (mPop (mPop g).2).1 (mPop g).1 (mPop (mPop g).2).2))
  else if k = 6 then (x + 1, mName f 0 g)
  else if k = 7 then (if (mAgain F S sz f g).1 = true then f + 1 else x + 1, (mAgain F S sz f g).2)
  else if k = 8 then (if (mPop g).1 = 0 then f else x + 1, (mPop g).2)
  else if k = 60 ∨ k = 62 ∨ k = 126 then (x + 1, mPush (ofOneF k (mPop g).1 f) (mPop g).2)
  else (x + 1, mPush (ofTwoF k (mPop (mPop g).2).1 (mPop g).1) (mPop (mPop g).2).2)
def mBehind (K F S : Nat → Int32) (sz : Nat) (x : Int32) (g : MS) : Int32 × MS := if 0 ≤ x then (if nI sz ≤ x then (nI sz, g) else mDo F S sz (K x.toNatClampNeg) (F x.toNatClampNeg) x g) else (nI sz, g)
theorem mPush_inv {v : Int32} {sz : Nat} {g : MS} (h : InvM sz g) : InvM sz (mPush v g) := by
  unfold mPush; split
  · rename_i q; exact ⟨q, h.2⟩
  · exact h
theorem mPop_inv {sz : Nat} {g : MS} (h : InvM sz g) : InvM sz (mPop g).2 := by
  unfold mPop; split
  · exact ⟨Nat.le_trans (Nat.sub_le _ _) h.1, h.2⟩
  · exact h
theorem mName_inv {x v : Int32} {sz : Nat} {g : MS} (h : InvM sz g) : InvM sz (mName x v g) := by unfold mName; split <;> exact h
theorem mLoad_inv {a : Int32} {sz : Nat} {g : MS} (h : InvM sz g) : InvM sz (mLoad a g).2 := by unfold mLoad; split <;> exact h
theorem mStoreM_inv {a v : Int32} {sz : Nat} {g : MS} (h : InvM sz g) : InvM sz (mStoreM a v g) := by unfold mStoreM; split <;> exact h
theorem mAgain_inv {F S : Nat → Int32} {z : Nat} {x : Int32} {sz : Nat} {g : MS} (h : InvM sz g) : InvM sz (mAgain F S z x g).2 := by
  unfold mAgain; split
  · split
    · exact h
    · split
      · exact h
      · exact mName_inv h
  · exact h
theorem mStep1_inv {sz : Nat} {g : MS} (h : InvM sz g) : InvM sz (mStep1 g) := h
theorem mDo_inv {F S : Nat → Int32} {z : Nat} {k f x : Int32} {sz : Nat} {g : MS} (h : InvM sz g) : InvM sz (mDo F S z k f x g).2 := by
  have h1 := mPop_inv h
  have h2 := mPop_inv h1
  unfold mDo
  split
  · exact mPush_inv h
  split
  · exact mPush_inv h
  split
  · exact mPush_inv (mLoad_inv h1)
  split
  · exact mStep1_inv (mName_inv h1)
  split
  · exact mStep1_inv (mStoreM_inv h2)
  split
  · exact mName_inv h
  split
  · exact mAgain_inv h
  split
  · exact h1
  split
  · exact mPush_inv h1
  · exact mPush_inv h2
theorem mBehind_inv {K F S : Nat → Int32} {z : Nat} {x : Int32} {sz : Nat} {g : MS} (h : InvM sz g) : InvM sz (mBehind K F S z x g).2 := by
  unfold mBehind; split
  · split
    · exact h
    · exact mDo_inv h
  · exact h

