set_option maxHeartbeats 4000000 in
set_option maxRecDepth 100000 in
theorem c_valueX {l : Launch} {D : va_G} {aO aR aT aC aK aF aS aM aA aB aV aN aX bC bK bF bS : Nat} {cC cI : ClassId} {rdy : Bool} {tx : Nat → Int32} {len : Nat} {r : RS} {K F S : Nat → Int32} {sz stm ops : Nat} {g : MS} (p0 : Int32) (hlt : l.stackTraces = false)  : Xi l yX3_value wsX3_value 10 D [(cC, .char), (cI, .int)] [.ref aO, .int p0] (wX aO aR aT aC aK aF aS aM aA aB aV aN aX bC bK bF bS cC cI rdy tx len r K F S sz stm ops g) (0 ≤ p0 ∧ ¬ (26 : Int32) ≤ p0) (g.2.2.1 p0.toNatClampNeg) (wX aO aR aT aC aK aF aS aM aA aB aV aN aX bC bK bF bS cC cI rdy tx len r K F S sz stm ops g) ("java/lang/IndexOutOfBoundsException") (wX aO aR aT aC aK aF aS aM aA aB aV aN aX bC bK bF bS cC cI rdy tx len r K F S sz stm ops g) := by
  refine Xi.of (cc := cX3_value) (maxL := 2) (by decide) rfl (Nat.le_of_ble_eq_true rfl) ?_
  intro p e s m below meth c A C hr hA hzt htb
  have in1 : ∀ w ∈ wsX10, w ∈ wsX3_value := by decide +kernel
  have in3 : ∀ w ∈ wsX30, w ∈ wsX3_value := by decide +kernel
  show Z p l e (rmX _) s m _ below meth c _ D A _ _ [(0, .ref aO), (1, .int p0)] 0 []
  refine Z.iload_n C dX3_value_0 1 rfl rfl ?_
  refine Z.if_lt C 10 dX3_value_1 (by decide) (fun c1 => ?_) (fun c1 => ?_)
  · skip
    replace c1 : ¬ (0 : Int32) ≤ p0 := Int32.not_le.mpr c1
    refine Z.throw C hlt hzt htb (X := "java/lang/IndexOutOfBoundsException") (text := "no such name") (ik := 79) (is := 87) (ic := 83) (by decide) (by decide +kernel) (by decide +kernel) (by decide +kernel) (by decide) (by decide +kernel) (by decide +kernel) (by decide +kernel) dX3_value_10 dX3_value_13 dX3_value_14 dX3_value_16 dX3_value_19 ⟨by decide, by decide, by decide, by decide⟩ hA ?_ ?_ ?_
    · (simp [(eq_false c1)])
    · first | rfl | (simp [(eq_false c1)])
    · rfl
  · skip
    replace c1 : (0 : Int32) ≤ p0 := Int32.not_lt.mp c1
    refine Z.iload_n C dX3_value_4 1 rfl rfl ?_
    refine Z.bipush C (v := (nI 26)) dX3_value_5 (by decide) ?_
    refine Z.icmp_lt C 20 dX3_value_7 (by decide) (fun c2 => ?_) (fun c2 => ?_)
    · skip
      replace c2 : ¬ (26 : Int32) ≤ p0 := Int32.not_le.mpr c2
      refine Z.aload_n C dX3_value_20 0 rfl rfl ?_
      refine Z.get C in3 0 rfl rfl 1 (by decide) (by decide +kernel) rfl rfl dX3_value_21 ?_
      refine Z.getN C (host := "RoundCompiler") in1 7 rfl rfl 2 (by decide) (by decide +kernel) rfl rfl dX3_value_24 ?_
      refine Z.iload_n C dX3_value_27 1 rfl rfl ?_
      refine Z.iald C 10 1 rfl rfl p0.toNatClampNeg (nI_cl (by assumption)) (nI_clb (by assumption) (by omega) (by first | assumption | omega)) (by decide) dX3_value_28 (v := (g.2.2.1 p0.toNatClampNeg)) rfl ?_
      refine Z.xiret C hr hA dX3_value_29 ?_ ?_ ?_
      · (simp [(eq_true c1), (eq_false c2)])
      · first | rfl | (simp [(eq_true c1), (eq_false c2)])
      · first | rfl | (simp [(eq_true c1), (eq_false c2)])
    · skip
      replace c2 : (26 : Int32) ≤ p0 := Int32.not_lt.mp c2
      refine Z.throw C hlt hzt htb (X := "java/lang/IndexOutOfBoundsException") (text := "no such name") (ik := 79) (is := 87) (ic := 83) (by decide) (by decide +kernel) (by decide +kernel) (by decide +kernel) (by decide) (by decide +kernel) (by decide +kernel) (by decide +kernel) dX3_value_10 dX3_value_13 dX3_value_14 dX3_value_16 dX3_value_19 ⟨by decide, by decide, by decide, by decide⟩ hA ?_ ?_ ?_
      · (simp [(eq_true c1), (eq_true c2)])
      · first | rfl | (simp [(eq_true c1), (eq_true c2)])
      · rfl
set_option maxHeartbeats 4000000 in
set_option maxRecDepth 100000 in
theorem c_peekX {l : Launch} {D : va_G} {aO aR aT aC aK aF aS aM aA aB aV aN aX bC bK bF bS : Nat} {cC cI : ClassId} {rdy : Bool} {tx : Nat → Int32} {len : Nat} {r : RS} {K F S : Nat → Int32} {sz stm ops : Nat} {g : MS} (p0 : Int32) (hlt : l.stackTraces = false)  : Xi l yX3_peek wsX3_peek 10 D [(cC, .char), (cI, .int)] [.ref aO, .int p0] (wX aO aR aT aC aK aF aS aM aA aB aV aN aX bC bK bF bS cC cI rdy tx len r K F S sz stm ops g) (isAddrF p0 = true) (g.1 p0.toNatClampNeg) (wX aO aR aT aC aK aF aS aM aA aB aV aN aX bC bK bF bS cC cI rdy tx len r K F S sz stm ops g) ("java/lang/IndexOutOfBoundsException") (wX aO aR aT aC aK aF aS aM aA aB aV aN aX bC bK bF bS cC cI rdy tx len r K F S sz stm ops g) := by
  refine Xi.of (cc := cX3_peek) (maxL := 2) (by decide) rfl (Nat.le_of_ble_eq_true rfl) ?_
  intro p e s m below meth c A C hr hA hzt htb
  have in1 : ∀ w ∈ wsX10, w ∈ wsX3_peek := by decide +kernel
  have in3 : ∀ w ∈ wsX30, w ∈ wsX3_peek := by decide +kernel
  show Z p l e (rmX _) s m _ below meth c _ D A _ _ [(0, .ref aO), (1, .int p0)] 0 []
  refine Z.iload_n C dX3_peek_0 1 rfl rfl ?_
  refine Z.callSi C (nA := 1) (As := [.int p0]) (st := []) (c_isAddress p0) gX3_peek_X3_isAddress rfl (by decide +kernel) (rm_ok (by omega) (by decide)) rfl (Nat.le_of_ble_eq_true rfl) rfl dX3_peek_1 ?_
  refine Z.if_ne C 17 dX3_peek_4 (by decide) (fun c1 => ?_) (fun c1 => ?_)
  · skip
    replace c1 : isAddrF p0 = true := b2i_n0.mp c1
    have ⟨c1a, c1b⟩ := isAddr_t c1
    refine Z.aload_n C dX3_peek_17 0 rfl rfl ?_
    refine Z.get C in3 0 rfl rfl 1 (by decide) (by decide +kernel) rfl rfl dX3_peek_18 ?_
    refine Z.getN C (host := "RoundCompiler") in1 7 rfl rfl 0 (by decide) (by decide +kernel) rfl rfl dX3_peek_21 ?_
    refine Z.iload_n C dX3_peek_24 1 rfl rfl ?_
    refine Z.iald C 8 1 rfl rfl p0.toNatClampNeg (nI_cl (by assumption)) (nI_clb (by assumption) (by omega) (by first | assumption | omega)) (by decide) dX3_peek_25 (v := (g.1 p0.toNatClampNeg)) rfl ?_
    refine Z.xiret C hr hA dX3_peek_26 ?_ ?_ ?_
    · (simp [c1])
    · first | rfl | (simp [c1])
    · first | rfl | (simp [c1])
  · skip
    replace c1 : isAddrF p0 = false := b2i_0.mp c1
    refine Z.throw C hlt hzt htb (X := "java/lang/IndexOutOfBoundsException") (text := "no such address") (ik := 79) (is := 97) (ic := 83) (by decide) (by decide +kernel) (by decide +kernel) (by decide +kernel) (by decide) (by decide +kernel) (by decide +kernel) (by decide +kernel) dX3_peek_7 dX3_peek_10 dX3_peek_11 dX3_peek_13 dX3_peek_16 ⟨by decide, by decide, by decide, by decide⟩ hA ?_ ?_ ?_
    · (simp [c1])
    · first | rfl | (simp [c1])
    · rfl
set_option maxHeartbeats 4000000 in
set_option maxRecDepth 100000 in
theorem c_pokeX {l : Launch} {D : va_G} {aO aR aT aC aK aF aS aM aA aB aV aN aX bC bK bF bS : Nat} {cC cI : ClassId} {rdy : Bool} {tx : Nat → Int32} {len : Nat} {r : RS} {K F S : Nat → Int32} {sz stm ops : Nat} {g : MS} (p0 : Int32) (p1 : Int32) (hlt : l.stackTraces = false)  : Xv l yX3_poke wsX3_poke 10 D [(cC, .char), (cI, .int)] [.ref aO, .int p0, .int p1] (wX aO aR aT aC aK aF aS aM aA aB aV aN aX bC bK bF bS cC cI rdy tx len r K F S sz stm ops g) (isAddrF p0 = true) (wX aO aR aT aC aK aF aS aM aA aB aV aN aX bC bK bF bS cC cI rdy tx len r K F S sz stm ops (upd g.1 p0.toNatClampNeg p1, g.2)) ("java/lang/IndexOutOfBoundsException") (wX aO aR aT aC aK aF aS aM aA aB aV aN aX bC bK bF bS cC cI rdy tx len r K F S sz stm ops g) := by
  refine Xv.of (cc := cX3_poke) (maxL := 3) (by decide) rfl (Nat.le_of_ble_eq_true rfl) ?_
  intro p e s m below meth c A C hr hA hzt htb
  have in1 : ∀ w ∈ wsX10, w ∈ wsX3_poke := by decide +kernel
  have in3 : ∀ w ∈ wsX30, w ∈ wsX3_poke := by decide +kernel
  show Z p l e (rmX _) s m _ below meth c _ D A _ _ [(0, .ref aO), (1, .int p0), (2, .int p1)] 0 []
  refine Z.iload_n C dX3_poke_0 1 rfl rfl ?_
  refine Z.callSi C (nA := 1) (As := [.int p0]) (st := []) (c_isAddress p0) gX3_poke_X3_isAddress rfl (by decide +kernel) (rm_ok (by omega) (by decide)) rfl (Nat.le_of_ble_eq_true rfl) rfl dX3_poke_1 ?_
  refine Z.if_ne C 17 dX3_poke_4 (by decide) (fun c1 => ?_) (fun c1 => ?_)
  · skip
    replace c1 : isAddrF p0 = true := b2i_n0.mp c1
    have ⟨c1a, c1b⟩ := isAddr_t c1
    refine Z.aload_n C dX3_poke_17 0 rfl rfl ?_
    refine Z.get C in3 0 rfl rfl 1 (by decide) (by decide +kernel) rfl rfl dX3_poke_18 ?_
    refine Z.getN C (host := "RoundCompiler") in1 7 rfl rfl 0 (by decide) (by decide +kernel) rfl rfl dX3_poke_21 ?_
    refine Z.iload_n C dX3_poke_24 1 rfl rfl ?_
    refine Z.iload_n C dX3_poke_25 2 rfl rfl ?_
    refine Z.iast C 8 1 rfl rfl p0.toNatClampNeg (nI_cl (by assumption)) (nI_clb (by assumption) (by omega) (by first | assumption | omega)) (by decide) dX3_poke_26 (v := p1) rfl (w' := (wX aO aR aT aC aK aF aS aM aA aB aV aN aX bC bK bF bS cC cI rdy tx len r K F S sz stm ops ((upd g.1 p0.toNatClampNeg p1), g.2))) rfl ?_
    refine Z.xvret C hr hA dX3_poke_27 ?_ ?_
    · (simp [c1])
    · first | rfl | (simp [c1])
  · skip
    replace c1 : isAddrF p0 = false := b2i_0.mp c1
    refine Z.throw C hlt hzt htb (X := "java/lang/IndexOutOfBoundsException") (text := "no such address") (ik := 79) (is := 97) (ic := 83) (by decide) (by decide +kernel) (by decide +kernel) (by decide +kernel) (by decide) (by decide +kernel) (by decide +kernel) (by decide +kernel) dX3_poke_7 dX3_poke_10 dX3_poke_11 dX3_poke_13 dX3_poke_16 ⟨by decide, by decide, by decide, by decide⟩ hA ?_ ?_ ?_
    · (simp [c1])
    · first | rfl | (simp [c1])
    · rfl
