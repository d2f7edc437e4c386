set_option maxHeartbeats 4000000 in
set_option maxRecDepth 100000 in
theorem c_valueX {l : Launch} {D : va_G} {aO aR aT aC aK aF aS aM aA aB aV aN aX bC bK bF bS : Nat} {cC cI : ClassId} {rdy : Bool} {tx : Nat → Int32} {len : Nat} {r : RS} {K F S : Nat → Int32} {sz stm ops : Nat} {g : MS} (p0 : Int32) (hlt : l.stackTraces = false)  : Xi l yX3_value wsX3_value 10 D [(cC, .char), (cI, .int)] [.ref aO, .int p0] (wX aO aR aT aC aK aF aS aM aA aB aV aN aX bC bK bF bS cC cI rdy tx len r K F S sz stm ops g) (0 ≤ p0 ∧ ¬ (26 : Int32) ≤ p0) (g.2.2.1 p0.toNatClampNeg) (wX aO aR aT aC aK aF aS aM aA aB aV aN aX bC bK bF bS cC cI rdy tx len r K F S sz stm ops g) ("java/lang/IndexOutOfBoundsException") (wX aO aR aT aC aK aF aS aM aA aB aV aN aX bC bK bF bS cC cI rdy tx len r K F S sz stm ops g) := by
  refine Xi.of (cc := cX3_value) (maxL := 2) (by decide) rfl (Nat.le_of_ble_eq_true rfl) ?_
  intro p e s m below meth c A C hr hA hzt htb
  have in1 : ∀ w ∈ wsX10, w ∈ wsX3_value := by decide +kernel
  have in3 : ∀ w ∈ wsX30, w ∈ wsX3_value := by decide +kernel
  show Z p l e (rmX _) s m _ below meth c _ D A _ _ [(0, .ref aO), (1, .int p0)] 0 []
  refine Z.iload_n C dX3_value_0 1 rfl rfl ?_
  refine Z.if_lt C 10 dX3_value_1 (by decide) (fun c1 => ?_) (fun c1 => ?_)
  · skip
    replace c1 : ¬ (0 : Int32) ≤ p0 := Int32.not_le.mpr c1
    refine Z.throw C hlt hzt htb (X := "java/lang/IndexOutOfBoundsException") (text := "no such name") (ik := 79) (is := 87) (ic := 83) (by decide) (by decide +kernel) (by decide +kernel) (by decide +kernel) (by decide) (by decide +kernel) (by decide +kernel) (by decide +kernel) dX3_value_10 dX3_value_13 dX3_value_14 dX3_value_16 dX3_value_19 ⟨by decide, by decide, by decide, by decide⟩ hA ?_ ?_ ?_
    · (simp [(eq_false c1)])
    · first | rfl | (simp [(eq_false c1)])
    · rfl
  · skip
    replace c1 : (0 : Int32) ≤ p0 := Int32.not_lt.mp c1
    refine Z.iload_n C dX3_value_4 1 rfl rfl ?_
    refine Z.bipush C (v := (nI 26)) dX3_value_5 (by decide) ?_
    refine Z.icmp_lt C 20 dX3_value_7 (by decide) (fun c2 => ?_) (fun c2 => ?_)
    · skip
      replace c2 : ¬ (26 : Int32) ≤ p0 := Int32.not_le.mpr c2
      refine Z.aload_n C dX3_value_20 0 rfl rfl ?_
      refine Z.get C in3 0 rfl rfl 1 (by decide) (by decide +kernel) rfl rfl dX3_value_21 ?_
      refine Z.getN C (host := "RoundCompiler") in1 7 rfl rfl 2 (by decide) (by decide +kernel) rfl rfl dX3_value_24 ?_
      refine Z.iload_n C dX3_value_27 1 rfl rfl ?_
      refine Z.iald C 10 1 rfl rfl p0.toNatClampNeg (nI_cl (by assumption)) (nI_clb (by assumption) (by omega) (by first | assumption | omega)) (by decide) dX3_value_28 (v := (g.2.2.1 p0.toNatClampNeg)) rfl ?_
      refine Z.xiret C hr hA dX3_value_29 ?_ ?_ ?_
      · (simp [(eq_true c1), (eq_false c2)])
      · first | rfl | (simp [(eq_true c1), (eq_false c2)])
      · first | rfl | (simp [(eq_true c1), (eq_false c2)])
    · skip
      replace c2 : (26 : Int32) ≤ p0 := Int32.not_lt.mp c2
      refine Z.throw C hlt hzt htb (X := "java/lang/IndexOutOfBoundsException") (text := "no such name") (ik := 79) (is := 87) (ic := 83) (by decide) (by decide +kernel) (by decide +kernel) (by decide +kernel) (by decide) (by decide +kernel) (by decide +kernel) (by decide +kernel) dX3_value_10 dX3_value_13 dX3_value_14 dX3_value_16 dX3_value_19 ⟨by decide, by decide, by decide, by decide⟩ hA ?_ ?_ ?_
      · (simp [(eq_true c1), (eq_true c2)])
      · first | rfl | (simp [(eq_true c1), (eq_true c2)])
      · rfl
set_option maxHeartbeats 4000000 in
set_option maxRecDepth 100000 in
theorem c_peekX {l : Launch} {D : va_G} {aO aR aT aC aK aF aS aM aA aB aV aN aX bC bK bF bS : Nat} {cC cI : ClassId} {rdy : Bool} {tx : Nat → Int32} {len : Nat} {r : RS} {K F S : Nat → Int32} {sz stm ops : Nat} {g : MS} (p0 : Int32) (hlt : l.stackTraces = false)  : Xi l yX3_peek wsX3_peek 10 D [(cC, .char), (cI, .int)] [.ref aO, .int p0] (wX aO aR aT aC aK aF aS aM aA aB aV aN aX bC bK bF bS cC cI rdy tx len r K F S sz stm ops g) (isAddrF p0 = true) (g.1 p0.toNatClampNeg) (wX aO aR aT aC aK aF aS aM aA aB aV aN aX bC bK bF bS cC cI rdy tx len r K F S sz stm ops g) ("java/lang/IndexOutOfBoundsException") (wX aO aR aT aC aK aF aS aM aA aB aV aN aX bC bK bF bS cC cI rdy tx len r K F S sz stm ops g) := by
  refine Xi.of (cc := cX3_peek) (maxL := 2) (by decide) rfl (Nat.le_of_ble_eq_true rfl) ?_
  intro p e s m below meth c A C hr hA hzt htb
  have in1 : ∀ w ∈ wsX10, w ∈ wsX3_peek := by decide +kernel
  have in3 : ∀ w ∈ wsX30, w ∈ wsX3_peek := by decide +kernel
  show Z p l e (rmX _) s m _ below meth c _ D A _ _ [(0, .ref aO), (1, .int p0)] 0 []
  refine Z.iload_n C dX3_peek_0 1 rfl rfl ?_
  refine Z.callSi C (nA := 1) (As := [.int p0]) (st := []) (c_isAddress p0) gX3_peek_X3_isAddress rfl (by decide +kernel) (rm_ok (by omega) (by decide)) rfl (Nat.le_of_ble_eq_true rfl) rfl dX3_peek_1 ?_
  refine Z.if_ne C 17 dX3_peek_4 (by decide) (fun c1 => ?_) (fun c1 => ?_)
  · skip
    replace c1 : isAddrF p0 = true := b2i_n0.mp c1
    have ⟨c1a, c1b⟩ := isAddr_t c1
    refine Z.aload_n C dX3_peek_17 0 rfl rfl ?_
    refine Z.get C in3 0 rfl rfl 1 (by decide) (by decide +kernel) rfl rfl dX3_peek_18 ?_
    refine Z.getN C (host := "RoundCompiler") in1 7 rfl rfl 0 (by decide) (by decide +kernel) rfl rfl dX3_peek_21 ?_
    refine Z.iload_n C dX3_peek_24 1 rfl rfl ?_
    refine Z.iald C 8 1 rfl rfl p0.toNatClampNeg (nI_cl (by assumption)) (nI_clb (by assumption) (by omega) (by first | assumption | omega)) (by decide) dX3_peek_25 (v := (g.1 p0.toNatClampNeg)) rfl ?_
    refine Z.xiret C hr hA dX3_peek_26 ?_ ?_ ?_
    · (simp [c1])
    · first | rfl | (simp [c1])
    · first | rfl | (simp [c1])
  · skip
    replace c1 : isAddrF p0 = false := b2i_0.mp c1
    refine Z.throw C hlt hzt htb (X := "java/lang/IndexOutOfBoundsException") (text := "no such address") (ik := 79) (is := 97) (ic := 83) (by decide) (by decide +kernel) (by decide +kernel) (by decide +kernel) (by decide) (by decide +kernel) (by decide +kernel) (by decide +kernel) dX3_peek_7 dX3_peek_10 dX3_peek_11 dX3_peek_13 dX3_peek_16 ⟨by decide, by decide, by decide, by decide⟩ hA ?_ ?_ ?_
    · (simp [c1])
    · first | rfl | (simp [c1])
    · rfl
set_option maxHeartbeats 4000000 in
set_option maxRecDepth 100000 in
theorem c_pokeX {l : Launch} {D : va_G} {aO aR aT aC aK aF aS aM aA aB aV aN aX bC bK bF bS : Nat} {cC cI : ClassId} {rdy : Bool} {tx : Nat → Int32} {len : Nat} {r : RS} {K F S : Nat → Int32} {sz stm ops : Nat} {g : MS} (p0 : Int32) (p1 : Int32) (hlt : l.stackTraces = false)  : Xv l yX3_poke wsX3_poke 10 D [(cC, .char), (cI, .int)] [.ref aO, .int p0, .int p1] (wX aO aR aT aC aK aF aS aM aA aB aV aN aX bC bK bF bS cC cI rdy tx len r K F S sz stm ops g) (isAddrF p0 = true) (wX aO aR aT aC aK aF aS aM aA aB aV aN aX bC bK bF bS cC cI rdy tx len r K F S sz stm ops (upd g.1 p0.toNatClampNeg p1, g.2)) ("java/lang/IndexOutOfBoundsException") (wX aO aR aT aC aK aF aS aM aA aB aV aN aX bC bK bF bS cC cI rdy tx len r K F S sz stm ops g) := by
  refine Xv.of (cc := cX3_poke) (maxL := 3) (by decide) rfl (Nat.le_of_ble_eq_true rfl) ?_
  intro p e s m below meth c A C hr hA hzt htb
  have in1 : ∀ w ∈ wsX10, w ∈ wsX3_poke := by decide +kernel
  have in3 : ∀ w ∈ wsX30, w ∈ wsX3_poke := by decide +kernel
  show Z p l e (rmX _) s m _ below meth c _ D A _ _ [(0, .ref aO), (1, .int p0), (2, .int p1)] 0 []
  refine Z.iload_n C dX3_poke_0 1 rfl rfl ?_
  refine Z.callSi C (nA := 1) (As := [.int p0]) (st := []) (c_isAddress p0) gX3_poke_X3_isAddress rfl (by decide +kernel) (rm_ok (by omega) (by decide)) rfl (Nat.le_of_ble_eq_true rfl) rfl dX3_poke_1 ?_
  refine Z.if_ne C 17 dX3_poke_4 (by decide) (fun c1 => ?_) (fun c1 => ?_)
  · skip
    replace c1 : isAddrF p0 = true := b2i_n0.mp c1
    have ⟨c1a, c1b⟩ := isAddr_t c1
    refine Z.aload_n C dX3_poke_17 0 rfl rfl ?_
    refine Z.get C in3 0 rfl rfl 1 (by decide) (by decide +kernel) rfl rfl dX3_poke_18 ?_
    refine Z.getN C (host := "RoundCompiler") in1 7 rfl rfl 0 (by decide) (by decide +kernel) rfl rfl dX3_poke_21 ?_
    refine Z.iload_n C dX3_poke_24 1 rfl rfl ?_
    refine Z.iload_n C dX3_poke_25 2 rfl rfl ?_
    refine Z.iast C 8 1 rfl rfl p0.toNatClampNeg (nI_cl (by assumption)) (nI_clb (by assumption) (by omega) (by first | assumption | omega)) (by decide) dX3_poke_26 (v := p1) rfl (w' := (wX aO aR aT aC aK aF aS aM aA aB aV aN aX bC bK bF bS cC cI rdy tx len r K F S sz stm ops ((upd g.1 p0.toNatClampNeg p1), g.2))) rfl ?_
    refine Z.xvret C hr hA dX3_poke_27 ?_ ?_
    · (simp [c1])
    · first | rfl | (simp [c1])
  · skip
    replace c1 : isAddrF p0 = false := b2i_0.mp c1
    refine Z.throw C hlt hzt htb (X := "java/lang/IndexOutOfBoundsException") (text := "no such address") (ik := 79) (is := 97) (ic := 83) (by decide) (by decide +kernel) (by decide +kernel) (by decide +kernel) (by decide) (by decide +kernel) (by decide +kernel) (by decide +kernel) dX3_poke_7 dX3_poke_10 dX3_poke_11 dX3_poke_13 dX3_poke_16 ⟨by decide, by decide, by decide, by decide⟩ hA ?_ ?_ ?_
    · (simp [c1])
    · first | rfl | (simp [c1])
    · rfl
def fillM (first by_ : Int32) : Nat → Nat → (Nat → Int32) → Nat → Int32
  | 0, _, f => f
  | n + 1, k, f => fillM first by_ n (k + 1) (upd f k (first + nI k * by_))
set_option maxHeartbeats 4000000 in
set_option maxRecDepth 100000 in
theorem c_fillOkX {l : Launch} {D : va_G} {aO aR aT aC aK aF aS aM aA aB aV aN aX bC bK bF bS : Nat} {cC cI : ClassId} {rdy : Bool} {tx : Nat → Int32} {len : Nat} {r : RS} {K F S : Nat → Int32} {sz stm ops : Nat} {g : MS} (p1 : Int32) (p2 : Int32) (hlt : l.stackTraces = false) (j : Nat) (hj : j ≤ 192) : Xv l yX3_fill wsX3_fill 10 D [(cC, .char), (cI, .int)] [.ref aO, .int (nI j), .int p1, .int p2] (wX aO aR aT aC aK aF aS aM aA aB aV aN aX bC bK bF bS cC cI rdy tx len r K F S sz stm ops g) True (wX aO aR aT aC aK aF aS aM aA aB aV aN aX bC bK bF bS cC cI rdy tx len r K F S sz stm ops (fillM p1 p2 j 0 g.1, g.2)) ("java/lang/IllegalArgumentException") (wX aO aR aT aC aK aF aS aM aA aB aV aN aX bC bK bF bS cC cI rdy tx len r K F S sz stm ops g) := by
  refine Xv.of (cc := cX3_fill) (maxL := 5) (by decide) rfl (Nat.le_of_ble_eq_true rfl) ?_
  intro p e s m below meth c A C hr hA hzt htb
  have in1 : ∀ w ∈ wsX10, w ∈ wsX3_fill := by decide +kernel
  have in3 : ∀ w ∈ wsX30, w ∈ wsX3_fill := by decide +kernel
  show Z p l e (rmX _) s m _ below meth c _ D A _ _ [(0, .ref aO), (1, .int (nI j)), (2, .int p1), (3, .int p2)] 0 []
  refine Z.iload_n C dX3_fill_0 1 rfl rfl ?_
  refine Z.if_lt C 11 dX3_fill_1 (by decide) (fun c1 => ?_) (fun c1 => ?_)
  · skip
    replace c1 : j < 0 := (nI_ltI (by omega) (by omega)).mp c1
    exact absurd c1 (by omega)
  · skip
    replace c1 : ¬ j < 0 := mt (nI_ltI (by omega) (by omega)).mpr c1
    refine Z.iload_n C dX3_fill_4 1 rfl rfl ?_
    refine Z.sipush C (v := (nI 192)) dX3_fill_5 (by decide) ?_
    refine Z.icmp_le C 21 dX3_fill_8 (by decide) (fun c2 => ?_) (fun c2 => ?_)
    · skip
      replace c2 : ¬ 192 < j := Nat.not_lt.mpr ((nI_leI (by omega) (by omega)).mp c2)
      refine Z.iconst C (v := (nI 0)) dX3_fill_21 (by decide) ?_
      refine Z.istore C (lv' := [(4, .int (nI 0)), (0, .ref aO), (1, .int (nI j)), (2, .int p1), (3, .int p2)]) dX3_fill_22 (by decide) rfl ?_
      have key24 : ∀ (n : Nat) (k : Nat) (f : Nat → Int32), k + n = j → fillM p1 p2 j 0 g.1 = fillM p1 p2 n k f → Z p l e (rmX 10) s m ([.ref aO, .int (nI j), .int p1, .int p2] : List Value).toArray below meth c 5 D A (XQV below D [(cC, .char), (cI, .int)] [.ref aO, .int (nI j), .int p1, .int p2] (wX aO aR aT aC aK aF aS aM aA aB aV aN aX bC bK bF bS cC cI rdy tx len r K F S sz stm ops g) True (wX aO aR aT aC aK aF aS aM aA aB aV aN aX bC bK bF bS cC cI rdy tx len r K F S sz stm ops (fillM p1 p2 j 0 g.1, g.2)) ("java/lang/IllegalArgumentException") (wX aO aR aT aC aK aF aS aM aA aB aV aN aX bC bK bF bS cC cI rdy tx len r K F S sz stm ops g) s) (wX aO aR aT aC aK aF aS aM aA aB aV aN aX bC bK bF bS cC cI rdy tx len r K F S sz stm ops (f, g.2)) [(4, .int (nI k)), (0, .ref aO), (1, .int (nI j)), (2, .int p1), (3, .int p2)] 24 [] := by
        intro n
        induction n with
        | zero =>
          intro k f hn hm24
          refine Z.iload C dX3_fill_24 0 rfl ?_
          refine Z.iload_n C dX3_fill_26 2 rfl rfl ?_
          refine Z.icmp_ge C 52 dX3_fill_27 (by decide) (fun c3 => ?_) (fun c3 => ?_)
          · skip
            replace c3 : ¬ k < j := Nat.not_lt.mpr ((nI_leI (by omega) (by omega)).mp c3)
            refine Z.xvret C hr hA dX3_fill_52 ?_ ?_
            · trivial
            · (rw [hm24]; rfl)
          · skip
            replace c3 : k < j := Nat.not_le.mp (mt (nI_leI (by omega) (by omega)).mpr c3)
            exact absurd c3 (by omega)
        | succ n ih24 =>
          intro k f hn hm24
          refine Z.iload C dX3_fill_24 0 rfl ?_
          refine Z.iload_n C dX3_fill_26 2 rfl rfl ?_
          refine Z.icmp_ge C 52 dX3_fill_27 (by decide) (fun c4 => ?_) (fun c4 => ?_)
          · skip
            replace c4 : ¬ k < j := Nat.not_lt.mpr ((nI_leI (by omega) (by omega)).mp c4)
            exact absurd c4 (by omega)
          · skip
            replace c4 : k < j := Nat.not_le.mp (mt (nI_leI (by omega) (by omega)).mpr c4)
            refine Z.aload_n C dX3_fill_30 1 rfl rfl ?_
            refine Z.get C in3 0 rfl rfl 1 (by decide) (by decide +kernel) rfl rfl dX3_fill_31 ?_
            refine Z.getN C (host := "RoundCompiler") in1 7 rfl rfl 0 (by decide) (by decide +kernel) rfl rfl dX3_fill_34 ?_
            refine Z.iload C dX3_fill_37 0 rfl ?_
            refine Z.iload_n C dX3_fill_39 3 rfl rfl ?_
            refine Z.iload C dX3_fill_40 0 rfl ?_
            refine Z.iload_n C dX3_fill_42 4 rfl rfl ?_
            refine Z.imul C (v := ((nI k) * p2)) dX3_fill_43 rfl ?_
            refine Z.iadd C (v := (p1 + ((nI k) * p2))) dX3_fill_44 rfl ?_
            refine Z.iast C 8 1 rfl rfl k rfl (by omega) (by decide) dX3_fill_45 (v := (p1 + ((nI k) * p2))) rfl (w' := (wX aO aR aT aC aK aF aS aM aA aB aV aN aX bC bK bF bS cC cI rdy tx len r K F S sz stm ops ((upd f k (p1 + ((nI k) * p2))), g.2))) rfl ?_
            refine Z.iinc C (v := (nI (k + 1))) (lv' := [(4, .int (nI (k + 1))), (0, .ref aO), (1, .int (nI j)), (2, .int p1), (3, .int p2)]) dX3_fill_46 0 rfl (nI_add k 1) (by decide) rfl ?_
            refine Z.goto C 24 dX3_fill_49 (by decide) ?_
            refine Z.sub [0, 1, 2, 3, 4] rfl ?_
            exact ih24 (k + 1) (upd f k (p1 + ((nI k) * p2))) (by omega) (by rw [hm24]; rfl)
      refine Z.sub [0, 1, 2, 3, 4] rfl ?_
      exact key24 j 0 g.1 (by omega) rfl
    · skip
      replace c2 : 192 < j := Nat.not_le.mp (mt (nI_leI (by omega) (by omega)).mpr c2)
      exact absurd c2 (by omega)
set_option maxHeartbeats 4000000 in
set_option maxRecDepth 100000 in
theorem c_fillBadX {l : Launch} {D : va_G} {aO aR aT aC aK aF aS aM aA aB aV aN aX bC bK bF bS : Nat} {cC cI : ClassId} {rdy : Bool} {tx : Nat → Int32} {len : Nat} {r : RS} {K F S : Nat → Int32} {sz stm ops : Nat} {g : MS} (p0 : Int32) (p1 : Int32) (p2 : Int32) (hlt : l.stackTraces = false) (hbad : ¬ 0 ≤ p0 ∨ ¬ p0 ≤ 192) : Xv l yX3_fill wsX3_fill 10 D [(cC, .char), (cI, .int)] [.ref aO, .int p0, .int p1, .int p2] (wX aO aR aT aC aK aF aS aM aA aB aV aN aX bC bK bF bS cC cI rdy tx len r K F S sz stm ops g) False (wX aO aR aT aC aK aF aS aM aA aB aV aN aX bC bK bF bS cC cI rdy tx len r K F S sz stm ops g) ("java/lang/IllegalArgumentException") (wX aO aR aT aC aK aF aS aM aA aB aV aN aX bC bK bF bS cC cI rdy tx len r K F S sz stm ops g) := by
  refine Xv.of (cc := cX3_fill) (maxL := 5) (by decide) rfl (Nat.le_of_ble_eq_true rfl) ?_
  intro p e s m below meth c A C hr hA hzt htb
  show Z p l e (rmX _) s m _ below meth c _ D A _ _ [(0, .ref aO), (1, .int p0), (2, .int p1), (3, .int p2)] 0 []
  refine Z.iload_n C dX3_fill_0 1 rfl rfl ?_
  refine Z.if_lt C 11 dX3_fill_1 (by decide) (fun c1 => ?_) (fun c1 => ?_)
  · skip
    replace c1 : ¬ (0 : Int32) ≤ p0 := Int32.not_le.mpr c1
    refine Z.throw C hlt hzt htb (X := "java/lang/IllegalArgumentException") (text := "memory does not have so many words") (ik := 50) (is := 102) (ic := 54) (by decide) (by decide +kernel) (by decide +kernel) (by decide +kernel) (by decide) (by decide +kernel) (by decide +kernel) (by decide +kernel) dX3_fill_11 dX3_fill_14 dX3_fill_15 dX3_fill_17 dX3_fill_20 ⟨by decide, by decide, by decide, by decide⟩ hA ?_ ?_ ?_
    · exact fun h => h
    · rfl
    · rfl
  · skip
    replace c1 : (0 : Int32) ≤ p0 := Int32.not_lt.mp c1
    refine Z.iload_n C dX3_fill_4 1 rfl rfl ?_
    refine Z.sipush C (v := (nI 192)) dX3_fill_5 (by decide) ?_
    refine Z.icmp_le C 21 dX3_fill_8 (by decide) (fun c2 => ?_) (fun c2 => ?_)
    · skip
      replace c2 : p0 ≤ (192 : Int32) := c2
      exact absurd hbad (fun h => h.elim (fun h => h c1) (fun h => h c2))
    · skip
      replace c2 : ¬ p0 ≤ (192 : Int32) := c2
      refine Z.throw C hlt hzt htb (X := "java/lang/IllegalArgumentException") (text := "memory does not have so many words") (ik := 50) (is := 102) (ic := 54) (by decide) (by decide +kernel) (by decide +kernel) (by decide +kernel) (by decide) (by decide +kernel) (by decide +kernel) (by decide +kernel) dX3_fill_11 dX3_fill_14 dX3_fill_15 dX3_fill_17 dX3_fill_20 ⟨by decide, by decide, by decide, by decide⟩ hA ?_ ?_ ?_
      · exact fun h => h
      · rfl
      · rfl
set_option maxHeartbeats 4000000 in
set_option maxRecDepth 100000 in
theorem c_runX {l : Launch} {D : va_G} {aO aR aT aC aK aF aS aM aA aB aV aN aX bC bK bF bS : Nat} {cC cI : ClassId} {rdy : Bool} {tx : Nat → Int32} {len : Nat} {r : RS} {K F S : Nat → Int32} {sz stm ops : Nat} {g : MS}  (hlt : l.stackTraces = false) (hT : g.2.2.2.2.2.1 ≤ 16) (hS9 : sz ≤ 480) : Xi l yX3_run wsX3_run 10 D [(cC, .char), (cI, .int)] [.ref aO] (wX aO aR aT aC aK aF aS aM aA aB aV aN aX bC bK bF bS cC cI rdy tx len r K F S sz stm ops g) (rdy = true ∧ (mRunC K F S sz g).1 = true) (nI (mRunC K F S sz g).2.2.2.2.2.2.2.1) (wX aO aR aT aC aK aF aS aM aA aB aV aN aX bC bK bF bS cC cI rdy tx len r K F S sz stm ops (if rdy = true then (mRunC K F S sz g).2 else g)) (if rdy = true then "java/lang/IndexOutOfBoundsException" else "java/lang/IllegalStateException") (wX aO aR aT aC aK aF aS aM aA aB aV aN aX bC bK bF bS cC cI rdy tx len r K F S sz stm ops (if rdy = true then (mRunC K F S sz g).2 else g)) := by
  refine Xi.of (cc := cX3_run) (maxL := 1) (by decide) rfl (Nat.le_of_ble_eq_true rfl) ?_
  intro p e s m below meth c A C hr hA hzt htb
  have in1 : ∀ w ∈ wsX10, w ∈ wsX3_run := by decide +kernel
  have in3 : ∀ w ∈ wsX30, w ∈ wsX3_run := by decide +kernel
  show Z p l e (rmX _) s m _ below meth c _ D A _ _ [(0, .ref aO)] 0 []
  refine Z.aload_n C dX3_run_0 0 rfl rfl ?_
  refine Z.get C in3 0 rfl rfl 3 (by decide) (by decide +kernel) rfl rfl dX3_run_1 ?_
  refine Z.if_ne C 17 dX3_run_4 (by decide) (fun c1 => ?_) (fun c1 => ?_)
  · skip
    replace c1 : rdy = true := b2i_n0.mp c1
    refine Z.aload_n C dX3_run_17 0 rfl rfl ?_
    refine Z.get C in3 0 rfl rfl 1 (by decide) (by decide +kernel) rfl rfl dX3_run_18 ?_
    refine Z.aload_n C dX3_run_21 0 rfl rfl ?_
    refine Z.get C in3 0 rfl rfl 2 (by decide) (by decide +kernel) rfl rfl dX3_run_22 ?_
    refine Z.callVNi C (nA := 1) (As := [.ref bC]) (st := []) (host := "RoundCompiler") (frMiM (c_carries g ⟨hT, hS9⟩)) gX3_run_X1_carriesOut_n75 rfl (by decide +kernel) (by decide +kernel) (by decide +kernel) (by decide +kernel) (by decide +kernel) (rm_ok (by omega) (by decide)) 7 rfl rfl rfl (Nat.le_of_ble_eq_true rfl) rfl dX3_run_25 ?_
    generalize e2 : mRunC K F S sz g = x2
    refine Z.if_ne C 41 dX3_run_28 (by decide) (fun c3 => ?_) (fun c3 => ?_)
    · skip
      replace c3 : x2.1 = true := b2i_n0.mp c3
      refine Z.aload_n C dX3_run_41 0 rfl rfl ?_
      refine Z.get C in3 0 rfl rfl 1 (by decide) (by decide +kernel) rfl rfl dX3_run_42 ?_
      refine Z.getN C (host := "RoundCompiler") in1 7 rfl rfl 6 (by decide) (by decide +kernel) rfl rfl dX3_run_45 ?_
      refine Z.xiret C hr hA dX3_run_48 ?_ ?_ ?_
      · (simp [c1, e2, c3])
      · first | rfl | (simp [c1, e2, c3])
      · first | rfl | (simp [c1, e2, c3])
    · skip
      replace c3 : x2.1 = false := b2i_0.mp c3
      refine Z.throw C hlt hzt htb (X := "java/lang/IndexOutOfBoundsException") (text := "the program used a word outside of memory") (ik := 79) (is := 81) (ic := 83) (by decide) (by decide +kernel) (by decide +kernel) (by decide +kernel) (by decide) (by decide +kernel) (by decide +kernel) (by decide +kernel) dX3_run_31 dX3_run_34 dX3_run_35 dX3_run_37 dX3_run_40 ⟨by decide, by decide, by decide, by decide⟩ hA ?_ ?_ ?_
      · (simp [c1, e2, c3])
      · (simp [c1, e2, c3])
      · (simp [c1, e2, c3])
  · skip
    replace c1 : rdy = false := b2i_0.mp c1
    refine Z.throw C hlt hzt htb (X := "java/lang/IllegalStateException") (text := "no program is ready") (ik := 70) (is := 72) (ic := 74) (by decide) (by decide +kernel) (by decide +kernel) (by decide +kernel) (by decide) (by decide +kernel) (by decide +kernel) (by decide +kernel) dX3_run_7 dX3_run_10 dX3_run_11 dX3_run_13 dX3_run_16 ⟨by decide, by decide, by decide, by decide⟩ hA ?_ ?_ ?_
    · (simp [c1])
    · (simp [c1])
    · (simp [c1])
