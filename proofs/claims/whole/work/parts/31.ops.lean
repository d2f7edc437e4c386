set_option maxHeartbeats 4000000 in
set_option maxRecDepth 100000 in
theorem c_isAddress {l : Launch} {D : va_G} (p0 : Int32) : Mi l yX3_isAddress wsX3_isAddress 0 D [] [.int p0] [] (b2i (isAddrF p0)) [] := by
  refine Mi.of (cc := cX3_isAddress) (maxL := 1) (by decide) rfl (Nat.le_of_ble_eq_true rfl) ?_
  intro p e s m below meth c A C hr hA
  show Z p l e (rmN _) s m _ below meth c _ D A _ _ [(0, .int p0)] 0 []
  refine Z.iload_n C dX3_isAddress_0 0 rfl rfl ?_
  refine Z.if_lt C 15 dX3_isAddress_1 (by decide) (fun c1 => ?_) (fun c1 => ?_)
  · skip
    replace c1 : ¬ (0 : Int32) ≤ p0 := Int32.not_le.mpr c1
    refine Z.iconst C (v := (nI 0)) dX3_isAddress_15 (by decide) ?_
    refine Z.zret C hr hA dX3_isAddress_16 (b := false) rfl ?_ ?_
    · first | rfl | (simp [nI_0, isAddrF, (eq_false c1)]; done) | (simp_all [nI_0, isAddrF]; done)
    · rfl
  · skip
    replace c1 : (0 : Int32) ≤ p0 := Int32.not_lt.mp c1
    refine Z.iload_n C dX3_isAddress_4 0 rfl rfl ?_
    refine Z.sipush C (v := (nI 192)) dX3_isAddress_5 (by decide) ?_
    refine Z.icmp_ge C 15 dX3_isAddress_8 (by decide) (fun c2 => ?_) (fun c2 => ?_)
    · skip
      replace c2 : (192 : Int32) ≤ p0 := c2
      refine Z.iconst C (v := (nI 0)) dX3_isAddress_15 (by decide) ?_
      refine Z.zret C hr hA dX3_isAddress_16 (b := false) rfl ?_ ?_
      · first | rfl | (simp [nI_0, isAddrF, (eq_true c1), (eq_true c2)]; done) | (simp_all [nI_0, isAddrF]; done)
      · rfl
    · skip
      replace c2 : ¬ (192 : Int32) ≤ p0 := c2
      refine Z.iconst C (v := (nI 1)) dX3_isAddress_11 (by decide) ?_
      refine Z.goto C 16 dX3_isAddress_12 (by decide) ?_
      refine Z.zret C hr hA dX3_isAddress_16 (b := true) rfl ?_ ?_
      · first | rfl | (simp [nI_0, isAddrF, (eq_true c1), (eq_false c2)]; done) | (simp_all [nI_0, isAddrF]; done)
      · rfl
set_option maxHeartbeats 4000000 in
set_option maxRecDepth 100000 in
theorem c_push {l : Launch} {D : va_G} {aM aA aB aV aN aX aC aK aF aS : Nat} {cC cI : ClassId} {K F S : Nat → Int32} {sz stm ops : Nat} (g : MS) (p0 : Int32) (hI : InvM sz g) : Mv l yX1_push wsX1_push 1 D [(cC, .char), (cI, .int)] [.ref aM, .int p0] (wM aM aA aB aV aN aX aC aK aF aS cI K F S sz stm ops g) (wM aM aA aB aV aN aX aC aK aF aS cI K F S sz stm ops (mPush p0 g)) := by
  refine Mv.of (cc := cX1_push) (maxL := 2) (by decide) rfl (Nat.le_of_ble_eq_true rfl) ?_
  intro p e s m below meth c A C hr hA
  have in1 : ∀ w ∈ wsX10, w ∈ wsX1_push := by decide +kernel
  show Z p l e (rmN _) s m _ below meth c _ D A _ _ [(0, .ref aM), (1, .int p0)] 0 []
  obtain ⟨hI1, hI2⟩ := hI
  refine Z.aload_n C dX1_push_0 0 rfl rfl ?_
  refine Z.get C in1 0 rfl rfl 5 (by decide) (by decide +kernel) rfl rfl dX1_push_1 ?_
  refine Z.aload_n C dX1_push_4 0 rfl rfl ?_
  refine Z.get C in1 0 rfl rfl 4 (by decide) (by decide +kernel) rfl rfl dX1_push_5 ?_
  refine Z.alen C 5 1 rfl rfl (v := nI 16) rfl dX1_push_8 ?_
  refine Z.icmp_ge C 32 dX1_push_9 (by decide) (fun c1 => ?_) (fun c1 => ?_)
  · skip
    replace c1 : ¬ g.2.2.2.2.2.1 < 16 := Nat.not_lt.mpr ((nI_leI (by omega) (by omega)).mp c1)
    refine Z.vret C hr hA dX1_push_32 ?_
    (refine congrArg (wM aM aA aB aV aN aX aC aK aF aS cI K F S sz stm ops) ?_; first | rfl | (simp [nI_0, mPush, (eq_false c1)]; done) | (simp_all [nI_0, mPush]; done))
  · skip
    replace c1 : g.2.2.2.2.2.1 < 16 := Nat.not_le.mp (mt (nI_leI (by omega) (by omega)).mpr c1)
    refine Z.aload_n C dX1_push_12 0 rfl rfl ?_
    refine Z.get C in1 0 rfl rfl 4 (by decide) (by decide +kernel) rfl rfl dX1_push_13 ?_
    refine Z.aload_n C dX1_push_16 0 rfl rfl ?_
    refine Z.get C in1 0 rfl rfl 5 (by decide) (by decide +kernel) rfl rfl dX1_push_17 ?_
    refine Z.iload_n C dX1_push_20 1 rfl rfl ?_
    refine Z.iast C 5 1 rfl rfl g.2.2.2.2.2.1 rfl (by omega) (by decide) dX1_push_21 (v := p0) rfl (w' := (wM aM aA aB aV aN aX aC aK aF aS cI K F S sz stm ops (g.1, g.2.1, g.2.2.1, g.2.2.2.1, (upd g.2.2.2.2.1 g.2.2.2.2.2.1 p0), g.2.2.2.2.2))) rfl ?_
    refine Z.aload_n C dX1_push_22 0 rfl rfl ?_
    refine Z.dup C dX1_push_23 rfl ?_
    refine Z.get C in1 0 rfl rfl 5 (by decide) (by decide +kernel) rfl rfl dX1_push_24 ?_
    refine Z.iconst C (v := (nI 1)) dX1_push_27 (by decide) ?_
    refine Z.iadd C (v := (nI (g.2.2.2.2.2.1 + 1))) dX1_push_28 (nI_add g.2.2.2.2.2.1 1) ?_
    refine Z.put C in1 0 rfl rfl 5 (by decide) tyX1 tyX1_ok nmX1 (by decide +kernel) rfl rfl rfl rfl (Nat.le_of_ble_eq_true rfl) dX1_push_29 (w' := (wM aM aA aB aV aN aX aC aK aF aS cI K F S sz stm ops (g.1, g.2.1, g.2.2.1, g.2.2.2.1, (upd g.2.2.2.2.1 g.2.2.2.2.2.1 p0), g.2.2.2.2.2.1 + 1, g.2.2.2.2.2.2))) rfl ?_
    refine Z.vret C hr hA dX1_push_32 ?_
    (refine congrArg (wM aM aA aB aV aN aX aC aK aF aS cI K F S sz stm ops) ?_; first | rfl | (simp [nI_0, mPush, (eq_true c1)]; done) | (simp_all [nI_0, mPush]; done))
set_option maxHeartbeats 4000000 in
set_option maxRecDepth 100000 in
theorem c_pop {l : Launch} {D : va_G} {aM aA aB aV aN aX aC aK aF aS : Nat} {cC cI : ClassId} {K F S : Nat → Int32} {sz stm ops : Nat} (g : MS)  (hI : InvM sz g) : Mi l yX1_pop wsX1_pop 1 D [(cC, .char), (cI, .int)] [.ref aM] (wM aM aA aB aV aN aX aC aK aF aS cI K F S sz stm ops g) ((mPop g).1) (wM aM aA aB aV aN aX aC aK aF aS cI K F S sz stm ops ((mPop g).2)) := by
  refine Mi.of (cc := cX1_pop) (maxL := 1) (by decide) rfl (Nat.le_of_ble_eq_true rfl) ?_
  intro p e s m below meth c A C hr hA
  have in1 : ∀ w ∈ wsX10, w ∈ wsX1_pop := by decide +kernel
  show Z p l e (rmN _) s m _ below meth c _ D A _ _ [(0, .ref aM)] 0 []
  obtain ⟨hI1, hI2⟩ := hI
  refine Z.aload_n C dX1_pop_0 0 rfl rfl ?_
  refine Z.get C in1 0 rfl rfl 5 (by decide) (by decide +kernel) rfl rfl dX1_pop_1 ?_
  refine Z.if_gt C 9 dX1_pop_4 (by decide) (fun c1 => ?_) (fun c1 => ?_)
  · skip
    replace c1 : 0 < g.2.2.2.2.2.1 := (nI_ltI (by omega) (by omega)).mp c1
    refine Z.aload_n C dX1_pop_9 0 rfl rfl ?_
    refine Z.dup C dX1_pop_10 rfl ?_
    refine Z.get C in1 0 rfl rfl 5 (by decide) (by decide +kernel) rfl rfl dX1_pop_11 ?_
    refine Z.iconst C (v := (nI 1)) dX1_pop_14 (by decide) ?_
    refine Z.isub C (v := (nI (g.2.2.2.2.2.1 - 1))) dX1_pop_15 (pk_sub (a := g.2.2.2.2.2.1) (b := 1) (by omega)) ?_
    refine Z.put C in1 0 rfl rfl 5 (by decide) tyX1 tyX1_ok nmX1 (by decide +kernel) rfl rfl rfl rfl (Nat.le_of_ble_eq_true rfl) dX1_pop_16 (w' := (wM aM aA aB aV aN aX aC aK aF aS cI K F S sz stm ops (g.1, g.2.1, g.2.2.1, g.2.2.2.1, g.2.2.2.2.1, g.2.2.2.2.2.1 - 1, g.2.2.2.2.2.2))) rfl ?_
    refine Z.aload_n C dX1_pop_19 0 rfl rfl ?_
    refine Z.get C in1 0 rfl rfl 4 (by decide) (by decide +kernel) rfl rfl dX1_pop_20 ?_
    refine Z.aload_n C dX1_pop_23 0 rfl rfl ?_
    refine Z.get C in1 0 rfl rfl 5 (by decide) (by decide +kernel) rfl rfl dX1_pop_24 ?_
    refine Z.iald C 5 1 rfl rfl (g.2.2.2.2.2.1 - 1) rfl (by omega) (by decide) dX1_pop_27 (v := (g.2.2.2.2.1 (g.2.2.2.2.2.1 - 1))) rfl ?_
    refine Z.iret C hr hA dX1_pop_28 ?_ ?_
    · first | rfl | (simp [nI_0, mPop, (eq_true c1)]; done) | (simp_all [nI_0, mPop]; done)
    · (refine congrArg (wM aM aA aB aV aN aX aC aK aF aS cI K F S sz stm ops) ?_; first | rfl | (simp [nI_0, mPop, (eq_true c1)]; done) | (simp_all [nI_0, mPop]; done))
  · skip
    replace c1 : ¬ 0 < g.2.2.2.2.2.1 := mt (nI_ltI (by omega) (by omega)).mpr c1
    refine Z.iconst C (v := (nI 0)) dX1_pop_7 (by decide) ?_
    refine Z.iret C hr hA dX1_pop_8 ?_ ?_
    · first | rfl | (simp [nI_0, mPop, (eq_false c1)]; done) | (simp_all [nI_0, mPop]; done)
    · (refine congrArg (wM aM aA aB aV aN aX aC aK aF aS cI K F S sz stm ops) ?_; first | rfl | (simp [nI_0, mPop, (eq_false c1)]; done) | (simp_all [nI_0, mPop]; done))
set_option maxHeartbeats 4000000 in
set_option maxRecDepth 100000 in
theorem c_named {l : Launch} {D : va_G} {aM aA aB aV aN aX aC aK aF aS : Nat} {cC cI : ClassId} {K F S : Nat → Int32} {sz stm ops : Nat} (g : MS) (p0 : Int32) (hI : InvM sz g) : Mi l yX1_named wsX1_named 1 D [(cC, .char), (cI, .int)] [.ref aM, .int p0] (wM aM aA aB aV aN aX aC aK aF aS cI K F S sz stm ops g) (namedF g p0) (wM aM aA aB aV aN aX aC aK aF aS cI K F S sz stm ops g) := by
  refine Mi.of (cc := cX1_named) (maxL := 2) (by decide) rfl (Nat.le_of_ble_eq_true rfl) ?_
  intro p e s m below meth c A C hr hA
  have in1 : ∀ w ∈ wsX10, w ∈ wsX1_named := by decide +kernel
  show Z p l e (rmN _) s m _ below meth c _ D A _ _ [(0, .ref aM), (1, .int p0)] 0 []
  obtain ⟨hI1, hI2⟩ := hI
  refine Z.iload_n C dX1_named_0 1 rfl rfl ?_
  refine Z.if_lt C 19 dX1_named_1 (by decide) (fun c1 => ?_) (fun c1 => ?_)
  · skip
    replace c1 : ¬ (0 : Int32) ≤ p0 := Int32.not_le.mpr c1
    refine Z.iconst C (v := (nI 0)) dX1_named_19 (by decide) ?_
    refine Z.iret C hr hA dX1_named_20 ?_ ?_
    · first | rfl | (simp [nI_0, namedF, (eq_false c1)]; done) | (simp_all [nI_0, namedF]; done)
    · (refine congrArg (wM aM aA aB aV aN aX aC aK aF aS cI K F S sz stm ops) ?_; first | rfl | (simp [nI_0, namedF, (eq_false c1)]; done) | (simp_all [nI_0, namedF]; done))
  · skip
    replace c1 : (0 : Int32) ≤ p0 := Int32.not_lt.mp c1
    refine Z.iload_n C dX1_named_4 1 rfl rfl ?_
    refine Z.bipush C (v := (nI 26)) dX1_named_5 (by decide) ?_
    refine Z.icmp_ge C 19 dX1_named_7 (by decide) (fun c2 => ?_) (fun c2 => ?_)
    · skip
      replace c2 : (26 : Int32) ≤ p0 := c2
      refine Z.iconst C (v := (nI 0)) dX1_named_19 (by decide) ?_
      refine Z.iret C hr hA dX1_named_20 ?_ ?_
      · first | rfl | (simp [nI_0, namedF, (eq_true c1), (eq_true c2)]; done) | (simp_all [nI_0, namedF]; done)
      · (refine congrArg (wM aM aA aB aV aN aX aC aK aF aS cI K F S sz stm ops) ?_; first | rfl | (simp [nI_0, namedF, (eq_true c1), (eq_true c2)]; done) | (simp_all [nI_0, namedF]; done))
    · skip
      replace c2 : ¬ (26 : Int32) ≤ p0 := c2
      refine Z.aload_n C dX1_named_10 0 rfl rfl ?_
      refine Z.get C in1 0 rfl rfl 3 (by decide) (by decide +kernel) rfl rfl dX1_named_11 ?_
      refine Z.iload_n C dX1_named_14 1 rfl rfl ?_
      refine Z.iald C 4 1 rfl rfl p0.toNatClampNeg (nI_cl (by assumption)) (nI_clb (by assumption) (by omega) (by first | assumption | omega)) (by decide) dX1_named_15 (v := (g.2.2.2.1 p0.toNatClampNeg)) rfl ?_
      refine Z.goto C 20 dX1_named_16 (by decide) ?_
      refine Z.iret C hr hA dX1_named_20 ?_ ?_
      · first | rfl | (simp [nI_0, namedF, (eq_true c1), (eq_false c2)]; done) | (simp_all [nI_0, namedF]; done)
      · (refine congrArg (wM aM aA aB aV aN aX aC aK aF aS cI K F S sz stm ops) ?_; first | rfl | (simp [nI_0, namedF, (eq_true c1), (eq_false c2)]; done) | (simp_all [nI_0, namedF]; done))
set_option maxHeartbeats 4000000 in
set_option maxRecDepth 100000 in
theorem c_name {l : Launch} {D : va_G} {aM aA aB aV aN aX aC aK aF aS : Nat} {cC cI : ClassId} {K F S : Nat → Int32} {sz stm ops : Nat} (g : MS) (p0 : Int32) (p1 : Int32) (hI : InvM sz g) : Mv l yX1_name wsX1_name 1 D [(cC, .char), (cI, .int)] [.ref aM, .int p0, .int p1] (wM aM aA aB aV aN aX aC aK aF aS cI K F S sz stm ops g) (wM aM aA aB aV aN aX aC aK aF aS cI K F S sz stm ops (mName p0 p1 g)) := by
  refine Mv.of (cc := cX1_name) (maxL := 3) (by decide) rfl (Nat.le_of_ble_eq_true rfl) ?_
  intro p e s m below meth c A C hr hA
  have in1 : ∀ w ∈ wsX10, w ∈ wsX1_name := by decide +kernel
  show Z p l e (rmN _) s m _ below meth c _ D A _ _ [(0, .ref aM), (1, .int p0), (2, .int p1)] 0 []
  obtain ⟨hI1, hI2⟩ := hI
  refine Z.iload_n C dX1_name_0 1 rfl rfl ?_
  refine Z.if_lt C 17 dX1_name_1 (by decide) (fun c1 => ?_) (fun c1 => ?_)
  · skip
    replace c1 : ¬ (0 : Int32) ≤ p0 := Int32.not_le.mpr c1
    refine Z.vret C hr hA dX1_name_17 ?_
    (refine congrArg (wM aM aA aB aV aN aX aC aK aF aS cI K F S sz stm ops) ?_; first | rfl | (simp [nI_0, mName, (eq_false c1)]; done) | (simp_all [nI_0, mName]; done))
  · skip
    replace c1 : (0 : Int32) ≤ p0 := Int32.not_lt.mp c1
    refine Z.iload_n C dX1_name_4 1 rfl rfl ?_
    refine Z.bipush C (v := (nI 26)) dX1_name_5 (by decide) ?_
    refine Z.icmp_ge C 17 dX1_name_7 (by decide) (fun c2 => ?_) (fun c2 => ?_)
    · skip
      replace c2 : (26 : Int32) ≤ p0 := c2
      refine Z.vret C hr hA dX1_name_17 ?_
      (refine congrArg (wM aM aA aB aV aN aX aC aK aF aS cI K F S sz stm ops) ?_; first | rfl | (simp [nI_0, mName, (eq_true c1), (eq_true c2)]; done) | (simp_all [nI_0, mName]; done))
    · skip
      replace c2 : ¬ (26 : Int32) ≤ p0 := c2
      refine Z.aload_n C dX1_name_10 0 rfl rfl ?_
      refine Z.get C in1 0 rfl rfl 3 (by decide) (by decide +kernel) rfl rfl dX1_name_11 ?_
      refine Z.iload_n C dX1_name_14 1 rfl rfl ?_
      refine Z.iload_n C dX1_name_15 2 rfl rfl ?_
      refine Z.iast C 4 1 rfl rfl p0.toNatClampNeg (nI_cl (by assumption)) (nI_clb (by assumption) (by omega) (by first | assumption | omega)) (by decide) dX1_name_16 (v := p1) rfl (w' := (wM aM aA aB aV aN aX aC aK aF aS cI K F S sz stm ops (g.1, g.2.1, g.2.2.1, (upd g.2.2.2.1 p0.toNatClampNeg p1), g.2.2.2.2))) rfl ?_
      refine Z.vret C hr hA dX1_name_17 ?_
      (refine congrArg (wM aM aA aB aV aN aX aC aK aF aS cI K F S sz stm ops) ?_; first | rfl | (simp [nI_0, mName, (eq_true c1), (eq_false c2)]; done) | (simp_all [nI_0, mName]; done))
set_option maxHeartbeats 4000000 in
set_option maxRecDepth 100000 in
theorem c_loaded {l : Launch} {D : va_G} {aM aA aB aV aN aX aC aK aF aS : Nat} {cC cI : ClassId} {K F S : Nat → Int32} {sz stm ops : Nat} (g : MS) (p0 : Int32) (hI : InvM sz g) : Mi l yX1_loaded wsX1_loaded 1 D [(cC, .char), (cI, .int)] [.ref aM, .int p0] (wM aM aA aB aV aN aX aC aK aF aS cI K F S sz stm ops g) ((mLoad p0 g).1) (wM aM aA aB aV aN aX aC aK aF aS cI K F S sz stm ops ((mLoad p0 g).2)) := by
  refine Mi.of (cc := cX1_loaded) (maxL := 2) (by decide) rfl (Nat.le_of_ble_eq_true rfl) ?_
  intro p e s m below meth c A C hr hA
  have in1 : ∀ w ∈ wsX10, w ∈ wsX1_loaded := by decide +kernel
  show Z p l e (rmN _) s m _ below meth c _ D A _ _ [(0, .ref aM), (1, .int p0)] 0 []
  obtain ⟨hI1, hI2⟩ := hI
  refine Z.iload_n C dX1_loaded_0 1 rfl rfl ?_
  refine Z.callSNi C (nA := 1) (As := [.int p0]) (st := []) (host := "RoundCompiler") (c_isAddress p0) gX1_loaded_X3_isAddress_n102 rfl (by decide +kernel) (by decide +kernel) (by decide +kernel) (by decide +kernel) (rm_ok (by omega) (by decide)) rfl (Nat.le_of_ble_eq_true rfl) rfl dX1_loaded_1 ?_
  refine Z.if_ne C 14 dX1_loaded_4 (by decide) (fun c1 => ?_) (fun c1 => ?_)
  · skip
    replace c1 : isAddrF p0 = true := b2i_n0.mp c1
    have ⟨c1a, c1b⟩ := isAddr_t c1
    refine Z.aload_n C dX1_loaded_14 0 rfl rfl ?_
    refine Z.get C in1 0 rfl rfl 0 (by decide) (by decide +kernel) rfl rfl dX1_loaded_15 ?_
    refine Z.iload_n C dX1_loaded_18 1 rfl rfl ?_
    refine Z.iald C 1 1 rfl rfl p0.toNatClampNeg (nI_cl (by assumption)) (nI_clb (by assumption) (by omega) (by first | assumption | omega)) (by decide) dX1_loaded_19 (v := (g.1 p0.toNatClampNeg)) rfl ?_
    refine Z.iret C hr hA dX1_loaded_20 ?_ ?_
    · first | rfl | (simp [nI_0, mLoad, c1]; done) | (simp_all [nI_0, mLoad]; done)
    · (refine congrArg (wM aM aA aB aV aN aX aC aK aF aS cI K F S sz stm ops) ?_; first | rfl | (simp [nI_0, mLoad, c1]; done) | (simp_all [nI_0, mLoad]; done))
  · skip
    replace c1 : isAddrF p0 = false := b2i_0.mp c1
    refine Z.aload_n C dX1_loaded_7 0 rfl rfl ?_
    refine Z.iconst C (v := (nI 1)) dX1_loaded_8 (by decide) ?_
    refine Z.put C in1 0 rfl rfl 7 (by decide) tyX1 tyX1_ok nmX1 (by decide +kernel) rfl rfl (by decide) (by decide) (Nat.le_of_ble_eq_true rfl) dX1_loaded_9 (w' := (wM aM aA aB aV aN aX aC aK aF aS cI K F S sz stm ops (g.1, g.2.1, g.2.2.1, g.2.2.2.1, g.2.2.2.2.1, g.2.2.2.2.2.1, g.2.2.2.2.2.2.1, true))) rfl ?_
    refine Z.iconst C (v := (nI 0)) dX1_loaded_12 (by decide) ?_
    refine Z.iret C hr hA dX1_loaded_13 ?_ ?_
    · first | rfl | (simp [nI_0, mLoad, c1]; done) | (simp_all [nI_0, mLoad]; done)
    · (refine congrArg (wM aM aA aB aV aN aX aC aK aF aS cI K F S sz stm ops) ?_; first | rfl | (simp [nI_0, mLoad, c1]; done) | (simp_all [nI_0, mLoad]; done))
set_option maxHeartbeats 4000000 in
set_option maxRecDepth 100000 in
theorem c_storeM {l : Launch} {D : va_G} {aM aA aB aV aN aX aC aK aF aS : Nat} {cC cI : ClassId} {K F S : Nat → Int32} {sz stm ops : Nat} (g : MS) (p0 : Int32) (p1 : Int32) (hI : InvM sz g) : Mv l yX1_store wsX1_store 1 D [(cC, .char), (cI, .int)] [.ref aM, .int p0, .int p1] (wM aM aA aB aV aN aX aC aK aF aS cI K F S sz stm ops g) (wM aM aA aB aV aN aX aC aK aF aS cI K F S sz stm ops (mStoreM p0 p1 g)) := by
  refine Mv.of (cc := cX1_store) (maxL := 3) (by decide) rfl (Nat.le_of_ble_eq_true rfl) ?_
  intro p e s m below meth c A C hr hA
  have in1 : ∀ w ∈ wsX10, w ∈ wsX1_store := by decide +kernel
  show Z p l e (rmN _) s m _ below meth c _ D A _ _ [(0, .ref aM), (1, .int p0), (2, .int p1)] 0 []
  obtain ⟨hI1, hI2⟩ := hI
  refine Z.iload_n C dX1_store_0 1 rfl rfl ?_
  refine Z.callSNi C (nA := 1) (As := [.int p0]) (st := []) (host := "RoundCompiler") (c_isAddress p0) gX1_store_X3_isAddress_n102 rfl (by decide +kernel) (by decide +kernel) (by decide +kernel) (by decide +kernel) (rm_ok (by omega) (by decide)) rfl (Nat.le_of_ble_eq_true rfl) rfl dX1_store_1 ?_
  refine Z.if_eq C 17 dX1_store_4 (by decide) (fun c1 => ?_) (fun c1 => ?_)
  · skip
    replace c1 : isAddrF p0 = false := b2i_0.mp c1
    refine Z.aload_n C dX1_store_17 0 rfl rfl ?_
    refine Z.iconst C (v := (nI 1)) dX1_store_18 (by decide) ?_
    refine Z.put C in1 0 rfl rfl 7 (by decide) tyX1 tyX1_ok nmX1 (by decide +kernel) rfl rfl (by decide) (by decide) (Nat.le_of_ble_eq_true rfl) dX1_store_19 (w' := (wM aM aA aB aV aN aX aC aK aF aS cI K F S sz stm ops (g.1, g.2.1, g.2.2.1, g.2.2.2.1, g.2.2.2.2.1, g.2.2.2.2.2.1, g.2.2.2.2.2.2.1, true))) rfl ?_
    refine Z.vret C hr hA dX1_store_22 ?_
    (refine congrArg (wM aM aA aB aV aN aX aC aK aF aS cI K F S sz stm ops) ?_; first | rfl | (simp [nI_0, mStoreM, c1]; done) | (simp_all [nI_0, mStoreM]; done))
  · skip
    replace c1 : isAddrF p0 = true := b2i_n0.mp c1
    have ⟨c1a, c1b⟩ := isAddr_t c1
    refine Z.aload_n C dX1_store_7 0 rfl rfl ?_
    refine Z.get C in1 0 rfl rfl 0 (by decide) (by decide +kernel) rfl rfl dX1_store_8 ?_
    refine Z.iload_n C dX1_store_11 1 rfl rfl ?_
    refine Z.iload_n C dX1_store_12 2 rfl rfl ?_
    refine Z.iast C 1 1 rfl rfl p0.toNatClampNeg (nI_cl (by assumption)) (nI_clb (by assumption) (by omega) (by first | assumption | omega)) (by decide) dX1_store_13 (v := p1) rfl (w' := (wM aM aA aB aV aN aX aC aK aF aS cI K F S sz stm ops ((upd g.1 p0.toNatClampNeg p1), g.2))) rfl ?_
    refine Z.goto C 22 dX1_store_14 (by decide) ?_
    refine Z.vret C hr hA dX1_store_22 ?_
    (refine congrArg (wM aM aA aB aV aN aX aC aK aF aS cI K F S sz stm ops) ?_; first | rfl | (simp [nI_0, mStoreM, c1]; done) | (simp_all [nI_0, mStoreM]; done))
set_option maxHeartbeats 4000000 in
set_option maxRecDepth 100000 in
theorem c_again {l : Launch} {D : va_G} {aM aA aB aV aN aX aC aK aF aS : Nat} {cC cI : ClassId} {K F S : Nat → Int32} {sz stm ops : Nat} (g : MS) (p1 : Int32) (hI : InvM sz g) : Mi l yX1_turnsAgain wsX1_turnsAgain 2 D [(cC, .char), (cI, .int)] [.ref aM, .ref aC, .int p1] (wM aM aA aB aV aN aX aC aK aF aS cI K F S sz stm ops g) (b2i ((mAgain F S sz p1 g).1)) (wM aM aA aB aV aN aX aC aK aF aS cI K F S sz stm ops ((mAgain F S sz p1 g).2)) := by
  refine Mi.of (cc := cX1_turnsAgain) (maxL := 5) (by decide) rfl (Nat.le_of_ble_eq_true rfl) ?_
  intro p e s m below meth c A C hr hA
  have in0 : ∀ w ∈ wsX00, w ∈ wsX1_turnsAgain := by decide +kernel
  show Z p l e (rmN _) s m _ below meth c _ D A _ _ [(0, .ref aM), (1, .ref aC), (2, .int p1)] 0 []
  obtain ⟨hI1, hI2⟩ := hI
  refine Z.iload_n C dX1_turnsAgain_0 2 rfl rfl ?_
  refine Z.if_lt C 12 dX1_turnsAgain_1 (by decide) (fun c1 => ?_) (fun c1 => ?_)
  · skip
    replace c1 : ¬ (0 : Int32) ≤ p1 := Int32.not_le.mpr c1
    refine Z.iconst C (v := (nI 0)) dX1_turnsAgain_12 (by decide) ?_
    refine Z.zret C hr hA dX1_turnsAgain_13 (b := false) rfl ?_ ?_
    · first | rfl | (simp [nI_0, mAgain, (eq_false c1)]; done) | (simp_all [nI_0, mAgain]; done)
    · (refine congrArg (wM aM aA aB aV aN aX aC aK aF aS cI K F S sz stm ops) ?_; first | rfl | (simp [nI_0, mAgain, (eq_false c1)]; done) | (simp_all [nI_0, mAgain]; done))
  · skip
    replace c1 : (0 : Int32) ≤ p1 := Int32.not_lt.mp c1
    refine Z.iload_n C dX1_turnsAgain_4 2 rfl rfl ?_
    refine Z.aload_n C dX1_turnsAgain_5 1 rfl rfl ?_
    refine Z.getN C (host := "RoundCompiler") in0 6 rfl rfl 3 (by decide) (by decide +kernel) rfl rfl dX1_turnsAgain_6 ?_
    refine Z.icmp_lt C 14 dX1_turnsAgain_9 (by decide) (fun c2 => ?_) (fun c2 => ?_)
    · skip
      replace c2 : ¬ nI sz ≤ p1 := Int32.not_le.mpr c2
      refine Z.aload_n C dX1_turnsAgain_14 1 rfl rfl ?_
      refine Z.getN C (host := "RoundCompiler") in0 6 rfl rfl 1 (by decide) (by decide +kernel) rfl rfl dX1_turnsAgain_15 ?_
      refine Z.iload_n C dX1_turnsAgain_18 2 rfl rfl ?_
      refine Z.iald C 8 1 rfl rfl p1.toNatClampNeg (nI_cl (by assumption)) (Nat.lt_of_lt_of_le (nI_clb (by assumption) (by omega) (by assumption)) hI2) (by decide) dX1_turnsAgain_19 (v := (F p1.toNatClampNeg)) rfl ?_
      refine Z.istore_n C (lv' := [(3, .int (F p1.toNatClampNeg)), (0, .ref aM), (1, .ref aC), (2, .int p1)]) dX1_turnsAgain_20 rfl (by decide) rfl ?_
      refine Z.aload_n C dX1_turnsAgain_21 1 rfl rfl ?_
      refine Z.iload_n C dX1_turnsAgain_22 0 rfl rfl ?_
      refine Z.callVi C (nA := 1) (As := [.int (F p1.toNatClampNeg)]) (st := []) (c_named g (F p1.toNatClampNeg) ⟨by first | omega | (dsimp only; omega), by omega⟩) gX1_turnsAgain_X1_named rfl (by decide +kernel) (rm_ok (by omega) (by decide)) 0 rfl rfl rfl (Nat.le_of_ble_eq_true rfl) rfl dX1_turnsAgain_23 ?_
      refine Z.iconst C (v := (nI 1)) dX1_turnsAgain_26 (by decide) ?_
      refine Z.iadd C (v := ((namedF g (F p1.toNatClampNeg)) + (1 : Int32))) dX1_turnsAgain_27 rfl ?_
      refine Z.istore C (lv' := [(4, .int ((namedF g (F p1.toNatClampNeg)) + (1 : Int32))), (3, .int (F p1.toNatClampNeg)), (0, .ref aM), (1, .ref aC), (2, .int p1)]) dX1_turnsAgain_28 (by decide) rfl ?_
      refine Z.iload C dX1_turnsAgain_30 0 rfl ?_
      refine Z.aload_n C dX1_turnsAgain_32 3 rfl rfl ?_
      refine Z.getN C (host := "RoundCompiler") in0 6 rfl rfl 2 (by decide) (by decide +kernel) rfl rfl dX1_turnsAgain_33 ?_
      refine Z.iload_n C dX1_turnsAgain_36 4 rfl rfl ?_
      refine Z.iald C 9 1 rfl rfl p1.toNatClampNeg (nI_cl (by assumption)) (Nat.lt_of_lt_of_le (nI_clb (by assumption) (by omega) (by assumption)) hI2) (by decide) dX1_turnsAgain_37 (v := (S p1.toNatClampNeg)) rfl ?_
      refine Z.icmp_lt C 43 dX1_turnsAgain_38 (by decide) (fun c3 => ?_) (fun c3 => ?_)
      · skip
        replace c3 : ¬ S p1.toNatClampNeg ≤ ((namedF g (F p1.toNatClampNeg)) + (1 : Int32)) := Int32.not_le.mpr c3
        refine Z.aload_n C dX1_turnsAgain_43 2 rfl rfl ?_
        refine Z.iload_n C dX1_turnsAgain_44 1 rfl rfl ?_
        refine Z.iload C dX1_turnsAgain_45 0 rfl ?_
        refine Z.callVv C (nA := 2) (As := [.int (F p1.toNatClampNeg), .int ((namedF g (F p1.toNatClampNeg)) + (1 : Int32))]) (st := []) (c_name g (F p1.toNatClampNeg) ((namedF g (F p1.toNatClampNeg)) + (1 : Int32)) ⟨by first | omega | (dsimp only; omega), by omega⟩) gX1_turnsAgain_X1_name rfl (by decide +kernel) (rm_ok (by omega) (by decide)) 0 rfl rfl rfl (Nat.le_of_ble_eq_true rfl) rfl dX1_turnsAgain_47 ?_
        generalize e4 : mName (F p1.toNatClampNeg) ((namedF g (F p1.toNatClampNeg)) + (1 : Int32)) g = x4
        have i4 : InvM sz x4 := by rw [← e4]; exact mName_inv ⟨by first | omega | (dsimp only; omega), by omega⟩
        obtain ⟨h14, h24⟩ := i4
        refine Z.iconst C (v := (nI 1)) dX1_turnsAgain_50 (by decide) ?_
        refine Z.zret C hr hA dX1_turnsAgain_51 (b := true) rfl ?_ ?_
        · first | rfl | (simp [nI_0, mAgain, (eq_true c1), (eq_false c2), (eq_false c3), e4]; done) | (simp_all [nI_0, mAgain]; done)
        · (refine congrArg (wM aM aA aB aV aN aX aC aK aF aS cI K F S sz stm ops) ?_; first | rfl | (simp [nI_0, mAgain, (eq_true c1), (eq_false c2), (eq_false c3), e4]; done) | (simp_all [nI_0, mAgain]; done))
      · skip
        replace c3 : S p1.toNatClampNeg ≤ ((namedF g (F p1.toNatClampNeg)) + (1 : Int32)) := Int32.not_lt.mp c3
        refine Z.iconst C (v := (nI 0)) dX1_turnsAgain_41 (by decide) ?_
        refine Z.zret C hr hA dX1_turnsAgain_42 (b := false) rfl ?_ ?_
        · first | rfl | (simp [nI_0, mAgain, (eq_true c1), (eq_false c2), (eq_true c3)]; done) | (simp_all [nI_0, mAgain]; done)
        · (refine congrArg (wM aM aA aB aV aN aX aC aK aF aS cI K F S sz stm ops) ?_; first | rfl | (simp [nI_0, mAgain, (eq_true c1), (eq_false c2), (eq_true c3)]; done) | (simp_all [nI_0, mAgain]; done))
    · skip
      replace c2 : nI sz ≤ p1 := Int32.not_lt.mp c2
      refine Z.iconst C (v := (nI 0)) dX1_turnsAgain_12 (by decide) ?_
      refine Z.zret C hr hA dX1_turnsAgain_13 (b := false) rfl ?_ ?_
      · first | rfl | (simp [nI_0, mAgain, (eq_true c1), (eq_true c2)]; done) | (simp_all [nI_0, mAgain]; done)
      · (refine congrArg (wM aM aA aB aV aN aX aC aK aF aS cI K F S sz stm ops) ?_; first | rfl | (simp [nI_0, mAgain, (eq_true c1), (eq_true c2)]; done) | (simp_all [nI_0, mAgain]; done))
set_option maxHeartbeats 4000000 in
set_option maxRecDepth 100000 in
theorem c_behind {l : Launch} {D : va_G} {aM aA aB aV aN aX aC aK aF aS : Nat} {cC cI : ClassId} {K F S : Nat → Int32} {sz stm ops : Nat} (g : MS) (p1 : Int32) (hI : InvM sz g) : Mi l yX1_behind wsX1_behind 3 D [(cC, .char), (cI, .int)] [.ref aM, .ref aC, .int p1] (wM aM aA aB aV aN aX aC aK aF aS cI K F S sz stm ops g) ((mBehind K F S sz p1 g).1) (wM aM aA aB aV aN aX aC aK aF aS cI K F S sz stm ops ((mBehind K F S sz p1 g).2)) := by
  refine Mi.of (cc := cX1_behind) (maxL := 6) (by decide) rfl (Nat.le_of_ble_eq_true rfl) ?_
  intro p e s m below meth c A C hr hA
  have in0 : ∀ w ∈ wsX00, w ∈ wsX1_behind := by decide +kernel
  have in1 : ∀ w ∈ wsX10, w ∈ wsX1_behind := by decide +kernel
  show Z p l e (rmN _) s m _ below meth c _ D A _ _ [(0, .ref aM), (1, .ref aC), (2, .int p1)] 0 []
  obtain ⟨hI1, hI2⟩ := hI
  refine Z.iload_n C dX1_behind_0 2 rfl rfl ?_
  refine Z.if_lt C 12 dX1_behind_1 (by decide) (fun c1 => ?_) (fun c1 => ?_)
  · skip
    replace c1 : ¬ (0 : Int32) ≤ p1 := Int32.not_le.mpr c1
    refine Z.aload_n C dX1_behind_12 1 rfl rfl ?_
    refine Z.getN C (host := "RoundCompiler") in0 6 rfl rfl 3 (by decide) (by decide +kernel) rfl rfl dX1_behind_13 ?_
    refine Z.iret C hr hA dX1_behind_16 ?_ ?_
    · first | (simp [mBehind, mDo, mStep1, (eq_false c1)]; done) | (simp_all [mBehind, mDo, mStep1]; done)
    · (refine congrArg (wM aM aA aB aV aN aX aC aK aF aS cI K F S sz stm ops) ?_; first | (simp [mBehind, mDo, mStep1, (eq_false c1)]; done) | (simp_all [mBehind, mDo, mStep1]; done))
  · skip
    replace c1 : (0 : Int32) ≤ p1 := Int32.not_lt.mp c1
    refine Z.iload_n C dX1_behind_4 2 rfl rfl ?_
    refine Z.aload_n C dX1_behind_5 1 rfl rfl ?_
    refine Z.getN C (host := "RoundCompiler") in0 6 rfl rfl 3 (by decide) (by decide +kernel) rfl rfl dX1_behind_6 ?_
    refine Z.icmp_lt C 17 dX1_behind_9 (by decide) (fun c2 => ?_) (fun c2 => ?_)
    · skip
      replace c2 : ¬ nI sz ≤ p1 := Int32.not_le.mpr c2
      refine Z.aload_n C dX1_behind_17 1 rfl rfl ?_
      refine Z.getN C (host := "RoundCompiler") in0 6 rfl rfl 1 (by decide) (by decide +kernel) rfl rfl dX1_behind_18 ?_
      refine Z.iload_n C dX1_behind_21 2 rfl rfl ?_
      refine Z.iald C 8 1 rfl rfl p1.toNatClampNeg (nI_cl (by assumption)) (Nat.lt_of_lt_of_le (nI_clb (by assumption) (by omega) (by assumption)) hI2) (by decide) dX1_behind_22 (v := (F p1.toNatClampNeg)) rfl ?_
      refine Z.istore_n C (lv' := [(3, .int (F p1.toNatClampNeg)), (0, .ref aM), (1, .ref aC), (2, .int p1)]) dX1_behind_23 rfl (by decide) rfl ?_
      refine Z.aload_n C dX1_behind_24 2 rfl rfl ?_
      refine Z.getN C (host := "RoundCompiler") in0 6 rfl rfl 0 (by decide) (by decide +kernel) rfl rfl dX1_behind_25 ?_
      refine Z.iload_n C dX1_behind_28 3 rfl rfl ?_
      refine Z.iald C 7 1 rfl rfl p1.toNatClampNeg (nI_cl (by assumption)) (Nat.lt_of_lt_of_le (nI_clb (by assumption) (by omega) (by assumption)) hI2) (by decide) dX1_behind_29 (v := (K p1.toNatClampNeg)) rfl ?_
      by_cases s3 : K p1.toNatClampNeg = 1
      · refine Z.lookup C (off := 98) 128 dX1_behind_30 (by decide) (by rw [s3]; decide) (by decide) ?_
        refine Z.aload_n C dX1_behind_128 1 rfl rfl ?_
        refine Z.iload_n C dX1_behind_129 0 rfl rfl ?_
        refine Z.callVv C (nA := 1) (As := [.int (F p1.toNatClampNeg)]) (st := []) (c_push g (F p1.toNatClampNeg) ⟨by first | omega | (dsimp only; omega), by omega⟩) gX1_behind_X1_push rfl (by decide +kernel) (rm_ok (by omega) (by decide)) 0 rfl rfl rfl (Nat.le_of_ble_eq_true rfl) rfl dX1_behind_130 ?_
        generalize e4 : mPush (F p1.toNatClampNeg) g = x4
        have i4 : InvM sz x4 := by rw [← e4]; exact mPush_inv ⟨by first | omega | (dsimp only; omega), by omega⟩
        obtain ⟨h14, h24⟩ := i4
        refine Z.goto C 303 dX1_behind_133 (by decide) ?_
        refine Z.iload_n C dX1_behind_303 3 rfl rfl ?_
        refine Z.iconst C (v := (nI 1)) dX1_behind_304 (by decide) ?_
        refine Z.iadd C (v := (p1 + (1 : Int32))) dX1_behind_305 rfl ?_
        refine Z.iret C hr hA dX1_behind_306 ?_ ?_
        · first | (simp [mBehind, mDo, mStep1, (eq_true c1), (eq_false c2), (eq_true s3), e4]; done) | (simp_all [mBehind, mDo, mStep1]; done)
        · (refine congrArg (wM aM aA aB aV aN aX aC aK aF aS cI K F S sz stm ops) ?_; first | (simp [mBehind, mDo, mStep1, (eq_true c1), (eq_false c2), (eq_true s3), e4]; done) | (simp_all [mBehind, mDo, mStep1]; done))
      by_cases s5 : K p1.toNatClampNeg = 2
      · refine Z.lookup C (off := 106) 136 dX1_behind_30 (by decide) (by rw [s5]; decide) (by decide) ?_
        refine Z.aload_n C dX1_behind_136 1 rfl rfl ?_
        refine Z.aload_n C dX1_behind_137 1 rfl rfl ?_
        refine Z.iload_n C dX1_behind_138 0 rfl rfl ?_
        refine Z.callVi C (nA := 1) (As := [.int (F p1.toNatClampNeg)]) (st := [.ref aM]) (c_named g (F p1.toNatClampNeg) ⟨by first | omega | (dsimp only; omega), by omega⟩) gX1_behind_X1_named rfl (by decide +kernel) (rm_ok (by omega) (by decide)) 0 rfl rfl rfl (Nat.le_of_ble_eq_true rfl) rfl dX1_behind_139 ?_
        refine Z.callVv C (nA := 1) (As := [.int (namedF g (F p1.toNatClampNeg))]) (st := []) (c_push g (namedF g (F p1.toNatClampNeg)) ⟨by first | omega | (dsimp only; omega), by omega⟩) gX1_behind_X1_push rfl (by decide +kernel) (rm_ok (by omega) (by decide)) 0 rfl rfl rfl (Nat.le_of_ble_eq_true rfl) rfl dX1_behind_142 ?_
        generalize e6 : mPush (namedF g (F p1.toNatClampNeg)) g = x6
        have i6 : InvM sz x6 := by rw [← e6]; exact mPush_inv ⟨by first | omega | (dsimp only; omega), by omega⟩
        obtain ⟨h16, h26⟩ := i6
        refine Z.goto C 303 dX1_behind_145 (by decide) ?_
        refine Z.iload_n C dX1_behind_303 3 rfl rfl ?_
        refine Z.iconst C (v := (nI 1)) dX1_behind_304 (by decide) ?_
        refine Z.iadd C (v := (p1 + (1 : Int32))) dX1_behind_305 rfl ?_
        refine Z.iret C hr hA dX1_behind_306 ?_ ?_
        · first | (simp [mBehind, mDo, mStep1, (eq_true c1), (eq_false c2), (eq_false s3), (eq_true s5), e6]; done) | (simp_all [mBehind, mDo, mStep1]; done)
        · (refine congrArg (wM aM aA aB aV aN aX aC aK aF aS cI K F S sz stm ops) ?_; first | (simp [mBehind, mDo, mStep1, (eq_true c1), (eq_false c2), (eq_false s3), (eq_true s5), e6]; done) | (simp_all [mBehind, mDo, mStep1]; done))
      by_cases s7 : K p1.toNatClampNeg = 3
      · refine Z.lookup C (off := 118) 148 dX1_behind_30 (by decide) (by rw [s7]; decide) (by decide) ?_
        refine Z.aload_n C dX1_behind_148 1 rfl rfl ?_
        refine Z.aload_n C dX1_behind_149 1 rfl rfl ?_
        refine Z.aload_n C dX1_behind_150 1 rfl rfl ?_
        refine Z.callVi C (nA := 0) (As := []) (st := [.ref aM, .ref aM]) (c_pop g ⟨by first | omega | (dsimp only; omega), by omega⟩) gX1_behind_X1_pop rfl (by decide +kernel) (rm_ok (by omega) (by decide)) 0 rfl rfl rfl (Nat.le_of_ble_eq_true rfl) rfl dX1_behind_151 ?_
        generalize e8 : mPop g = x8
        have i8 : InvM sz x8.2 := by rw [← e8]; exact mPop_inv ⟨by first | omega | (dsimp only; omega), by omega⟩
        obtain ⟨h18, h28⟩ := i8
        refine Z.callVi C (nA := 1) (As := [.int x8.1]) (st := [.ref aM]) (c_loaded x8.2 x8.1 ⟨by first | omega | (dsimp only; omega), by omega⟩) gX1_behind_X1_loaded rfl (by decide +kernel) (rm_ok (by omega) (by decide)) 0 rfl rfl rfl (Nat.le_of_ble_eq_true rfl) rfl dX1_behind_154 ?_
        generalize e9 : mLoad x8.1 x8.2 = x9
        have i9 : InvM sz x9.2 := by rw [← e9]; exact mLoad_inv ⟨by first | omega | (dsimp only; omega), by omega⟩
        obtain ⟨h19, h29⟩ := i9
        refine Z.callVv C (nA := 1) (As := [.int x9.1]) (st := []) (c_push x9.2 x9.1 ⟨by first | omega | (dsimp only; omega), by omega⟩) gX1_behind_X1_push rfl (by decide +kernel) (rm_ok (by omega) (by decide)) 0 rfl rfl rfl (Nat.le_of_ble_eq_true rfl) rfl dX1_behind_157 ?_
        generalize e10 : mPush x9.1 x9.2 = x10
        have i10 : InvM sz x10 := by rw [← e10]; exact mPush_inv ⟨by first | omega | (dsimp only; omega), by omega⟩
        obtain ⟨h110, h210⟩ := i10
        refine Z.goto C 303 dX1_behind_160 (by decide) ?_
        refine Z.iload_n C dX1_behind_303 3 rfl rfl ?_
        refine Z.iconst C (v := (nI 1)) dX1_behind_304 (by decide) ?_
        refine Z.iadd C (v := (p1 + (1 : Int32))) dX1_behind_305 rfl ?_
        refine Z.iret C hr hA dX1_behind_306 ?_ ?_
        · first | (simp [mBehind, mDo, mStep1, (eq_true c1), (eq_false c2), (eq_false s3), (eq_false s5), (eq_true s7), e8, e9, e10]; done) | (simp_all [mBehind, mDo, mStep1]; done)
        · (refine congrArg (wM aM aA aB aV aN aX aC aK aF aS cI K F S sz stm ops) ?_; first | (simp [mBehind, mDo, mStep1, (eq_true c1), (eq_false c2), (eq_false s3), (eq_false s5), (eq_true s7), e8, e9, e10]; done) | (simp_all [mBehind, mDo, mStep1]; done))
      by_cases s11 : K p1.toNatClampNeg = 4
      · refine Z.lookup C (off := 133) 163 dX1_behind_30 (by decide) (by rw [s11]; decide) (by decide) ?_
        refine Z.aload_n C dX1_behind_163 1 rfl rfl ?_
        refine Z.iload_n C dX1_behind_164 0 rfl rfl ?_
        refine Z.aload_n C dX1_behind_165 1 rfl rfl ?_
        refine Z.callVi C (nA := 0) (As := []) (st := [.int (F p1.toNatClampNeg), .ref aM]) (c_pop g ⟨by first | omega | (dsimp only; omega), by omega⟩) gX1_behind_X1_pop rfl (by decide +kernel) (rm_ok (by omega) (by decide)) 0 rfl rfl rfl (Nat.le_of_ble_eq_true rfl) rfl dX1_behind_166 ?_
        generalize e12 : mPop g = x12
        have i12 : InvM sz x12.2 := by rw [← e12]; exact mPop_inv ⟨by first | omega | (dsimp only; omega), by omega⟩
        obtain ⟨h112, h212⟩ := i12
        refine Z.callVv C (nA := 2) (As := [.int (F p1.toNatClampNeg), .int x12.1]) (st := []) (c_name x12.2 (F p1.toNatClampNeg) x12.1 ⟨by first | omega | (dsimp only; omega), by omega⟩) gX1_behind_X1_name rfl (by decide +kernel) (rm_ok (by omega) (by decide)) 0 rfl rfl rfl (Nat.le_of_ble_eq_true rfl) rfl dX1_behind_169 ?_
        generalize e13 : mName (F p1.toNatClampNeg) x12.1 x12.2 = x13
        have i13 : InvM sz x13 := by rw [← e13]; exact mName_inv ⟨by first | omega | (dsimp only; omega), by omega⟩
        obtain ⟨h113, h213⟩ := i13
        refine Z.aload_n C dX1_behind_172 1 rfl rfl ?_
        refine Z.dup C dX1_behind_173 rfl ?_
        refine Z.get C in1 0 rfl rfl 6 (by decide) (by decide +kernel) rfl rfl dX1_behind_174 ?_
        refine Z.iconst C (v := (nI 1)) dX1_behind_177 (by decide) ?_
        refine Z.iadd C (v := (nI (x13.2.2.2.2.2.2.1 + 1))) dX1_behind_178 (nI_add x13.2.2.2.2.2.2.1 1) ?_
        refine Z.put C in1 0 rfl rfl 6 (by decide) tyX1 tyX1_ok nmX1 (by decide +kernel) rfl rfl rfl rfl (Nat.le_of_ble_eq_true rfl) dX1_behind_179 (w' := (wM aM aA aB aV aN aX aC aK aF aS cI K F S sz stm ops (x13.1, x13.2.1, x13.2.2.1, x13.2.2.2.1, x13.2.2.2.2.1, x13.2.2.2.2.2.1, x13.2.2.2.2.2.2.1 + 1, x13.2.2.2.2.2.2.2))) rfl ?_
        refine Z.goto C 303 dX1_behind_182 (by decide) ?_
        refine Z.iload_n C dX1_behind_303 3 rfl rfl ?_
        refine Z.iconst C (v := (nI 1)) dX1_behind_304 (by decide) ?_
        refine Z.iadd C (v := (p1 + (1 : Int32))) dX1_behind_305 rfl ?_
        refine Z.iret C hr hA dX1_behind_306 ?_ ?_
        · first | (simp [mBehind, mDo, mStep1, (eq_true c1), (eq_false c2), (eq_false s3), (eq_false s5), (eq_false s7), (eq_true s11), e12, e13]; done) | (simp_all [mBehind, mDo, mStep1]; done)
        · (refine congrArg (wM aM aA aB aV aN aX aC aK aF aS cI K F S sz stm ops) ?_; first | (simp [mBehind, mDo, mStep1, (eq_true c1), (eq_false c2), (eq_false s3), (eq_false s5), (eq_false s7), (eq_true s11), e12, e13]; done) | (simp_all [mBehind, mDo, mStep1]; done))
      by_cases s14 : K p1.toNatClampNeg = 5
      · refine Z.lookup C (off := 155) 185 dX1_behind_30 (by decide) (by rw [s14]; decide) (by decide) ?_
        refine Z.aload_n C dX1_behind_185 1 rfl rfl ?_
        refine Z.callVi C (nA := 0) (As := []) (st := []) (c_pop g ⟨by first | omega | (dsimp only; omega), by omega⟩) gX1_behind_X1_pop rfl (by decide +kernel) (rm_ok (by omega) (by decide)) 0 rfl rfl rfl (Nat.le_of_ble_eq_true rfl) rfl dX1_behind_186 ?_
        generalize e15 : mPop g = x15
        have i15 : InvM sz x15.2 := by rw [← e15]; exact mPop_inv ⟨by first | omega | (dsimp only; omega), by omega⟩
        obtain ⟨h115, h215⟩ := i15
        refine Z.istore C (lv' := [(4, .int x15.1), (3, .int (F p1.toNatClampNeg)), (0, .ref aM), (1, .ref aC), (2, .int p1)]) dX1_behind_189 (by decide) rfl ?_
        refine Z.aload_n C dX1_behind_191 2 rfl rfl ?_
        refine Z.aload_n C dX1_behind_192 2 rfl rfl ?_
        refine Z.callVi C (nA := 0) (As := []) (st := [.ref aM]) (c_pop x15.2 ⟨by first | omega | (dsimp only; omega), by omega⟩) gX1_behind_X1_pop rfl (by decide +kernel) (rm_ok (by omega) (by decide)) 0 rfl rfl rfl (Nat.le_of_ble_eq_true rfl) rfl dX1_behind_193 ?_
        generalize e16 : mPop x15.2 = x16
        have i16 : InvM sz x16.2 := by rw [← e16]; exact mPop_inv ⟨by first | omega | (dsimp only; omega), by omega⟩
        obtain ⟨h116, h216⟩ := i16
        refine Z.iload C dX1_behind_196 0 rfl ?_
        refine Z.callVv C (nA := 2) (As := [.int x16.1, .int x15.1]) (st := []) (c_storeM x16.2 x16.1 x15.1 ⟨by first | omega | (dsimp only; omega), by omega⟩) gX1_behind_X1_store rfl (by decide +kernel) (rm_ok (by omega) (by decide)) 0 rfl rfl rfl (Nat.le_of_ble_eq_true rfl) rfl dX1_behind_198 ?_
        generalize e17 : mStoreM x16.1 x15.1 x16.2 = x17
        have i17 : InvM sz x17 := by rw [← e17]; exact mStoreM_inv ⟨by first | omega | (dsimp only; omega), by omega⟩
        obtain ⟨h117, h217⟩ := i17
        refine Z.aload_n C dX1_behind_201 2 rfl rfl ?_
        refine Z.dup C dX1_behind_202 rfl ?_
        refine Z.get C in1 0 rfl rfl 6 (by decide) (by decide +kernel) rfl rfl dX1_behind_203 ?_
        refine Z.iconst C (v := (nI 1)) dX1_behind_206 (by decide) ?_
        refine Z.iadd C (v := (nI (x17.2.2.2.2.2.2.1 + 1))) dX1_behind_207 (nI_add x17.2.2.2.2.2.2.1 1) ?_
        refine Z.put C in1 0 rfl rfl 6 (by decide) tyX1 tyX1_ok nmX1 (by decide +kernel) rfl rfl rfl rfl (Nat.le_of_ble_eq_true rfl) dX1_behind_208 (w' := (wM aM aA aB aV aN aX aC aK aF aS cI K F S sz stm ops (x17.1, x17.2.1, x17.2.2.1, x17.2.2.2.1, x17.2.2.2.2.1, x17.2.2.2.2.2.1, x17.2.2.2.2.2.2.1 + 1, x17.2.2.2.2.2.2.2))) rfl ?_
        refine Z.goto C 303 dX1_behind_211 (by decide) ?_
        refine Z.iload_n C dX1_behind_303 4 rfl rfl ?_
        refine Z.iconst C (v := (nI 1)) dX1_behind_304 (by decide) ?_
        refine Z.iadd C (v := (p1 + (1 : Int32))) dX1_behind_305 rfl ?_
        refine Z.iret C hr hA dX1_behind_306 ?_ ?_
        · first | (simp [mBehind, mDo, mStep1, (eq_true c1), (eq_false c2), (eq_false s3), (eq_false s5), (eq_false s7), (eq_false s11), (eq_true s14), e15, e16, e17]; done) | (simp_all [mBehind, mDo, mStep1]; done)
        · (refine congrArg (wM aM aA aB aV aN aX aC aK aF aS cI K F S sz stm ops) ?_; first | (simp [mBehind, mDo, mStep1, (eq_true c1), (eq_false c2), (eq_false s3), (eq_false s5), (eq_false s7), (eq_false s11), (eq_true s14), e15, e16, e17]; done) | (simp_all [mBehind, mDo, mStep1]; done))
      by_cases s18 : K p1.toNatClampNeg = 6
      · refine Z.lookup C (off := 184) 214 dX1_behind_30 (by decide) (by rw [s18]; decide) (by decide) ?_
        refine Z.aload_n C dX1_behind_214 1 rfl rfl ?_
        refine Z.iload_n C dX1_behind_215 0 rfl rfl ?_
        refine Z.iconst C (v := (nI 0)) dX1_behind_216 (by decide) ?_
        refine Z.callVv C (nA := 2) (As := [.int (F p1.toNatClampNeg), .int (0 : Int32)]) (st := []) (c_name g (F p1.toNatClampNeg) (0 : Int32) ⟨by first | omega | (dsimp only; omega), by omega⟩) gX1_behind_X1_name rfl (by decide +kernel) (rm_ok (by omega) (by decide)) 0 rfl rfl rfl (Nat.le_of_ble_eq_true rfl) rfl dX1_behind_217 ?_
        generalize e19 : mName (F p1.toNatClampNeg) (0 : Int32) g = x19
        have i19 : InvM sz x19 := by rw [← e19]; exact mName_inv ⟨by first | omega | (dsimp only; omega), by omega⟩
        obtain ⟨h119, h219⟩ := i19
        refine Z.goto C 303 dX1_behind_220 (by decide) ?_
        refine Z.iload_n C dX1_behind_303 3 rfl rfl ?_
        refine Z.iconst C (v := (nI 1)) dX1_behind_304 (by decide) ?_
        refine Z.iadd C (v := (p1 + (1 : Int32))) dX1_behind_305 rfl ?_
        refine Z.iret C hr hA dX1_behind_306 ?_ ?_
        · first | (simp [mBehind, mDo, mStep1, (eq_true c1), (eq_false c2), (eq_false s3), (eq_false s5), (eq_false s7), (eq_false s11), (eq_false s14), (eq_true s18), e19]; done) | (simp_all [mBehind, mDo, mStep1]; done)
        · (refine congrArg (wM aM aA aB aV aN aX aC aK aF aS cI K F S sz stm ops) ?_; first | (simp [mBehind, mDo, mStep1, (eq_true c1), (eq_false c2), (eq_false s3), (eq_false s5), (eq_false s7), (eq_false s11), (eq_false s14), (eq_true s18), e19]; done) | (simp_all [mBehind, mDo, mStep1]; done))
      by_cases s20 : K p1.toNatClampNeg = 7
      · refine Z.lookup C (off := 193) 223 dX1_behind_30 (by decide) (by rw [s20]; decide) (by decide) ?_
        refine Z.aload_n C dX1_behind_223 1 rfl rfl ?_
        refine Z.aload_n C dX1_behind_224 2 rfl rfl ?_
        refine Z.iload_n C dX1_behind_225 0 rfl rfl ?_
        refine Z.callVi C (nA := 2) (As := [.ref aC, .int (F p1.toNatClampNeg)]) (st := []) (c_again g (F p1.toNatClampNeg) ⟨by first | omega | (dsimp only; omega), by omega⟩) gX1_behind_X1_turnsAgain rfl (by decide +kernel) (rm_ok (by omega) (by decide)) 0 rfl rfl rfl (Nat.le_of_ble_eq_true rfl) rfl dX1_behind_226 ?_
        generalize e21 : mAgain F S sz (F p1.toNatClampNeg) g = x21
        refine Z.if_eq C 238 dX1_behind_229 (by decide) (fun c22 => ?_) (fun c22 => ?_)
        · skip
          replace c22 : x21.1 = false := b2i_0.mp c22
          refine Z.iload_n C dX1_behind_238 3 rfl rfl ?_
          refine Z.iconst C (v := (nI 1)) dX1_behind_239 (by decide) ?_
          refine Z.iadd C (v := (p1 + (1 : Int32))) dX1_behind_240 rfl ?_
          refine Z.iret C hr hA dX1_behind_241 ?_ ?_
          · first | (simp [mBehind, mDo, mStep1, (eq_true c1), (eq_false c2), (eq_false s3), (eq_false s5), (eq_false s7), (eq_false s11), (eq_false s14), (eq_false s18), (eq_true s20), e21, c22]; done) | (simp_all [mBehind, mDo, mStep1]; done)
          · (refine congrArg (wM aM aA aB aV aN aX aC aK aF aS cI K F S sz stm ops) ?_; first | (simp [mBehind, mDo, mStep1, (eq_true c1), (eq_false c2), (eq_false s3), (eq_false s5), (eq_false s7), (eq_false s11), (eq_false s14), (eq_false s18), (eq_true s20), e21, c22]; done) | (simp_all [mBehind, mDo, mStep1]; done))
        · skip
          replace c22 : x21.1 = true := b2i_n0.mp c22
          refine Z.iload_n C dX1_behind_232 0 rfl rfl ?_
          refine Z.iconst C (v := (nI 1)) dX1_behind_233 (by decide) ?_
          refine Z.iadd C (v := ((F p1.toNatClampNeg) + (1 : Int32))) dX1_behind_234 rfl ?_
          refine Z.goto C 241 dX1_behind_235 (by decide) ?_
          refine Z.iret C hr hA dX1_behind_241 ?_ ?_
          · first | (simp [mBehind, mDo, mStep1, (eq_true c1), (eq_false c2), (eq_false s3), (eq_false s5), (eq_false s7), (eq_false s11), (eq_false s14), (eq_false s18), (eq_true s20), e21, c22]; done) | (simp_all [mBehind, mDo, mStep1]; done)
          · (refine congrArg (wM aM aA aB aV aN aX aC aK aF aS cI K F S sz stm ops) ?_; first | (simp [mBehind, mDo, mStep1, (eq_true c1), (eq_false c2), (eq_false s3), (eq_false s5), (eq_false s7), (eq_false s11), (eq_false s14), (eq_false s18), (eq_true s20), e21, c22]; done) | (simp_all [mBehind, mDo, mStep1]; done))
      by_cases s23 : K p1.toNatClampNeg = 8
      · refine Z.lookup C (off := 212) 242 dX1_behind_30 (by decide) (by rw [s23]; decide) (by decide) ?_
        refine Z.aload_n C dX1_behind_242 1 rfl rfl ?_
        refine Z.callVi C (nA := 0) (As := []) (st := []) (c_pop g ⟨by first | omega | (dsimp only; omega), by omega⟩) gX1_behind_X1_pop rfl (by decide +kernel) (rm_ok (by omega) (by decide)) 0 rfl rfl rfl (Nat.le_of_ble_eq_true rfl) rfl dX1_behind_243 ?_
        generalize e24 : mPop g = x24
        have i24 : InvM sz x24.2 := by rw [← e24]; exact mPop_inv ⟨by first | omega | (dsimp only; omega), by omega⟩
        obtain ⟨h124, h224⟩ := i24
        refine Z.if_ne C 253 dX1_behind_246 (by decide) (fun c25 => ?_) (fun c25 => ?_)
        · skip
          replace c25 : ¬ x24.1 = (0 : Int32) := c25
          refine Z.iload_n C dX1_behind_253 3 rfl rfl ?_
          refine Z.iconst C (v := (nI 1)) dX1_behind_254 (by decide) ?_
          refine Z.iadd C (v := (p1 + (1 : Int32))) dX1_behind_255 rfl ?_
          refine Z.iret C hr hA dX1_behind_256 ?_ ?_
          · first | (simp [mBehind, mDo, mStep1, (eq_true c1), (eq_false c2), (eq_false s3), (eq_false s5), (eq_false s7), (eq_false s11), (eq_false s14), (eq_false s18), (eq_false s20), (eq_true s23), e24, (eq_false c25)]; done) | (simp_all [mBehind, mDo, mStep1]; done)
          · (refine congrArg (wM aM aA aB aV aN aX aC aK aF aS cI K F S sz stm ops) ?_; first | (simp [mBehind, mDo, mStep1, (eq_true c1), (eq_false c2), (eq_false s3), (eq_false s5), (eq_false s7), (eq_false s11), (eq_false s14), (eq_false s18), (eq_false s20), (eq_true s23), e24, (eq_false c25)]; done) | (simp_all [mBehind, mDo, mStep1]; done))
        · skip
          replace c25 : x24.1 = (0 : Int32) := c25
          refine Z.iload_n C dX1_behind_249 0 rfl rfl ?_
          refine Z.goto C 256 dX1_behind_250 (by decide) ?_
          refine Z.iret C hr hA dX1_behind_256 ?_ ?_
          · first | (simp [mBehind, mDo, mStep1, (eq_true c1), (eq_false c2), (eq_false s3), (eq_false s5), (eq_false s7), (eq_false s11), (eq_false s14), (eq_false s18), (eq_false s20), (eq_true s23), e24, (eq_true c25)]; done) | (simp_all [mBehind, mDo, mStep1]; done)
          · (refine congrArg (wM aM aA aB aV aN aX aC aK aF aS cI K F S sz stm ops) ?_; first | (simp [mBehind, mDo, mStep1, (eq_true c1), (eq_false c2), (eq_false s3), (eq_false s5), (eq_false s7), (eq_false s11), (eq_false s14), (eq_false s18), (eq_false s20), (eq_true s23), e24, (eq_true c25)]; done) | (simp_all [mBehind, mDo, mStep1]; done))
      by_cases s26 : K p1.toNatClampNeg = 60
      · refine Z.lookup C (off := 227) 257 dX1_behind_30 (by decide) (by rw [s26]; decide) (by decide) ?_
        refine Z.aload_n C dX1_behind_257 1 rfl rfl ?_
        refine Z.aload_n C dX1_behind_258 2 rfl rfl ?_
        refine Z.getN C (host := "RoundCompiler") in0 6 rfl rfl 0 (by decide) (by decide +kernel) rfl rfl dX1_behind_259 ?_
        refine Z.iload_n C dX1_behind_262 3 rfl rfl ?_
        refine Z.iald C 7 1 rfl rfl p1.toNatClampNeg (nI_cl (by assumption)) (Nat.lt_of_lt_of_le (nI_clb (by assumption) (by omega) (by assumption)) hI2) (by decide) dX1_behind_263 (v := (K p1.toNatClampNeg)) rfl ?_
        refine Z.aload_n C dX1_behind_264 1 rfl rfl ?_
        refine Z.callVi C (nA := 0) (As := []) (st := [.int (K p1.toNatClampNeg), .ref aM]) (c_pop g ⟨by first | omega | (dsimp only; omega), by omega⟩) gX1_behind_X1_pop rfl (by decide +kernel) (rm_ok (by omega) (by decide)) 0 rfl rfl rfl (Nat.le_of_ble_eq_true rfl) rfl dX1_behind_265 ?_
        generalize e27 : mPop g = x27
        have i27 : InvM sz x27.2 := by rw [← e27]; exact mPop_inv ⟨by first | omega | (dsimp only; omega), by omega⟩
        obtain ⟨h127, h227⟩ := i27
        refine Z.iload_n C dX1_behind_268 0 rfl rfl ?_
        refine Z.callSNi C (nA := 3) (As := [.int (K p1.toNatClampNeg), .int x27.1, .int (F p1.toNatClampNeg)]) (st := [.ref aM]) (host := "RoundCompiler") (c_ofOne (K p1.toNatClampNeg) x27.1 (F p1.toNatClampNeg)) gX1_behind_X3_ofOne_n92 rfl (by decide +kernel) (by decide +kernel) (by decide +kernel) (by decide +kernel) (rm_ok (by omega) (by decide)) rfl (Nat.le_of_ble_eq_true rfl) rfl dX1_behind_269 ?_
        refine Z.callVv C (nA := 1) (As := [.int (ofOneF (K p1.toNatClampNeg) x27.1 (F p1.toNatClampNeg))]) (st := []) (c_push x27.2 (ofOneF (K p1.toNatClampNeg) x27.1 (F p1.toNatClampNeg)) ⟨by first | omega | (dsimp only; omega), by omega⟩) gX1_behind_X1_push rfl (by decide +kernel) (rm_ok (by omega) (by decide)) 0 rfl rfl rfl (Nat.le_of_ble_eq_true rfl) rfl dX1_behind_272 ?_
        generalize e28 : mPush (ofOneF (K p1.toNatClampNeg) x27.1 (F p1.toNatClampNeg)) x27.2 = x28
        have i28 : InvM sz x28 := by rw [← e28]; exact mPush_inv ⟨by first | omega | (dsimp only; omega), by omega⟩
        obtain ⟨h128, h228⟩ := i28
        refine Z.goto C 303 dX1_behind_275 (by decide) ?_
        refine Z.iload_n C dX1_behind_303 3 rfl rfl ?_
        refine Z.iconst C (v := (nI 1)) dX1_behind_304 (by decide) ?_
        refine Z.iadd C (v := (p1 + (1 : Int32))) dX1_behind_305 rfl ?_
        refine Z.iret C hr hA dX1_behind_306 ?_ ?_
        · first | (simp [mBehind, mDo, mStep1, (eq_true c1), (eq_false c2), (eq_false s3), (eq_false s5), (eq_false s7), (eq_false s11), (eq_false s14), (eq_false s18), (eq_false s20), (eq_false s23), (eq_true s26), e27, e28]; done) | (simp_all [mBehind, mDo, mStep1]; done)
        · (refine congrArg (wM aM aA aB aV aN aX aC aK aF aS cI K F S sz stm ops) ?_; first | (simp [mBehind, mDo, mStep1, (eq_true c1), (eq_false c2), (eq_false s3), (eq_false s5), (eq_false s7), (eq_false s11), (eq_false s14), (eq_false s18), (eq_false s20), (eq_false s23), (eq_true s26), e27, e28]; done) | (simp_all [mBehind, mDo, mStep1]; done))
      by_cases s29 : K p1.toNatClampNeg = 62
      · refine Z.lookup C (off := 227) 257 dX1_behind_30 (by decide) (by rw [s29]; decide) (by decide) ?_
        refine Z.aload_n C dX1_behind_257 1 rfl rfl ?_
        refine Z.aload_n C dX1_behind_258 2 rfl rfl ?_
        refine Z.getN C (host := "RoundCompiler") in0 6 rfl rfl 0 (by decide) (by decide +kernel) rfl rfl dX1_behind_259 ?_
        refine Z.iload_n C dX1_behind_262 3 rfl rfl ?_
        refine Z.iald C 7 1 rfl rfl p1.toNatClampNeg (nI_cl (by assumption)) (Nat.lt_of_lt_of_le (nI_clb (by assumption) (by omega) (by assumption)) hI2) (by decide) dX1_behind_263 (v := (K p1.toNatClampNeg)) rfl ?_
        refine Z.aload_n C dX1_behind_264 1 rfl rfl ?_
        refine Z.callVi C (nA := 0) (As := []) (st := [.int (K p1.toNatClampNeg), .ref aM]) (c_pop g ⟨by first | omega | (dsimp only; omega), by omega⟩) gX1_behind_X1_pop rfl (by decide +kernel) (rm_ok (by omega) (by decide)) 0 rfl rfl rfl (Nat.le_of_ble_eq_true rfl) rfl dX1_behind_265 ?_
        generalize e30 : mPop g = x30
        have i30 : InvM sz x30.2 := by rw [← e30]; exact mPop_inv ⟨by first | omega | (dsimp only; omega), by omega⟩
        obtain ⟨h130, h230⟩ := i30
        refine Z.iload_n C dX1_behind_268 0 rfl rfl ?_
        refine Z.callSNi C (nA := 3) (As := [.int (K p1.toNatClampNeg), .int x30.1, .int (F p1.toNatClampNeg)]) (st := [.ref aM]) (host := "RoundCompiler") (c_ofOne (K p1.toNatClampNeg) x30.1 (F p1.toNatClampNeg)) gX1_behind_X3_ofOne_n92 rfl (by decide +kernel) (by decide +kernel) (by decide +kernel) (by decide +kernel) (rm_ok (by omega) (by decide)) rfl (Nat.le_of_ble_eq_true rfl) rfl dX1_behind_269 ?_
        refine Z.callVv C (nA := 1) (As := [.int (ofOneF (K p1.toNatClampNeg) x30.1 (F p1.toNatClampNeg))]) (st := []) (c_push x30.2 (ofOneF (K p1.toNatClampNeg) x30.1 (F p1.toNatClampNeg)) ⟨by first | omega | (dsimp only; omega), by omega⟩) gX1_behind_X1_push rfl (by decide +kernel) (rm_ok (by omega) (by decide)) 0 rfl rfl rfl (Nat.le_of_ble_eq_true rfl) rfl dX1_behind_272 ?_
        generalize e31 : mPush (ofOneF (K p1.toNatClampNeg) x30.1 (F p1.toNatClampNeg)) x30.2 = x31
        have i31 : InvM sz x31 := by rw [← e31]; exact mPush_inv ⟨by first | omega | (dsimp only; omega), by omega⟩
        obtain ⟨h131, h231⟩ := i31
        refine Z.goto C 303 dX1_behind_275 (by decide) ?_
        refine Z.iload_n C dX1_behind_303 3 rfl rfl ?_
        refine Z.iconst C (v := (nI 1)) dX1_behind_304 (by decide) ?_
        refine Z.iadd C (v := (p1 + (1 : Int32))) dX1_behind_305 rfl ?_
        refine Z.iret C hr hA dX1_behind_306 ?_ ?_
        · first | (simp [mBehind, mDo, mStep1, (eq_true c1), (eq_false c2), (eq_false s3), (eq_false s5), (eq_false s7), (eq_false s11), (eq_false s14), (eq_false s18), (eq_false s20), (eq_false s23), (eq_false s26), (eq_true s29), e30, e31]; done) | (simp_all [mBehind, mDo, mStep1]; done)
        · (refine congrArg (wM aM aA aB aV aN aX aC aK aF aS cI K F S sz stm ops) ?_; first | (simp [mBehind, mDo, mStep1, (eq_true c1), (eq_false c2), (eq_false s3), (eq_false s5), (eq_false s7), (eq_false s11), (eq_false s14), (eq_false s18), (eq_false s20), (eq_false s23), (eq_false s26), (eq_true s29), e30, e31]; done) | (simp_all [mBehind, mDo, mStep1]; done))
      by_cases s32 : K p1.toNatClampNeg = 126
      · refine Z.lookup C (off := 227) 257 dX1_behind_30 (by decide) (by rw [s32]; decide) (by decide) ?_
        refine Z.aload_n C dX1_behind_257 1 rfl rfl ?_
        refine Z.aload_n C dX1_behind_258 2 rfl rfl ?_
        refine Z.getN C (host := "RoundCompiler") in0 6 rfl rfl 0 (by decide) (by decide +kernel) rfl rfl dX1_behind_259 ?_
        refine Z.iload_n C dX1_behind_262 3 rfl rfl ?_
        refine Z.iald C 7 1 rfl rfl p1.toNatClampNeg (nI_cl (by assumption)) (Nat.lt_of_lt_of_le (nI_clb (by assumption) (by omega) (by assumption)) hI2) (by decide) dX1_behind_263 (v := (K p1.toNatClampNeg)) rfl ?_
        refine Z.aload_n C dX1_behind_264 1 rfl rfl ?_
        refine Z.callVi C (nA := 0) (As := []) (st := [.int (K p1.toNatClampNeg), .ref aM]) (c_pop g ⟨by first | omega | (dsimp only; omega), by omega⟩) gX1_behind_X1_pop rfl (by decide +kernel) (rm_ok (by omega) (by decide)) 0 rfl rfl rfl (Nat.le_of_ble_eq_true rfl) rfl dX1_behind_265 ?_
        generalize e33 : mPop g = x33
        have i33 : InvM sz x33.2 := by rw [← e33]; exact mPop_inv ⟨by first | omega | (dsimp only; omega), by omega⟩
        obtain ⟨h133, h233⟩ := i33
        refine Z.iload_n C dX1_behind_268 0 rfl rfl ?_
        refine Z.callSNi C (nA := 3) (As := [.int (K p1.toNatClampNeg), .int x33.1, .int (F p1.toNatClampNeg)]) (st := [.ref aM]) (host := "RoundCompiler") (c_ofOne (K p1.toNatClampNeg) x33.1 (F p1.toNatClampNeg)) gX1_behind_X3_ofOne_n92 rfl (by decide +kernel) (by decide +kernel) (by decide +kernel) (by decide +kernel) (rm_ok (by omega) (by decide)) rfl (Nat.le_of_ble_eq_true rfl) rfl dX1_behind_269 ?_
        refine Z.callVv C (nA := 1) (As := [.int (ofOneF (K p1.toNatClampNeg) x33.1 (F p1.toNatClampNeg))]) (st := []) (c_push x33.2 (ofOneF (K p1.toNatClampNeg) x33.1 (F p1.toNatClampNeg)) ⟨by first | omega | (dsimp only; omega), by omega⟩) gX1_behind_X1_push rfl (by decide +kernel) (rm_ok (by omega) (by decide)) 0 rfl rfl rfl (Nat.le_of_ble_eq_true rfl) rfl dX1_behind_272 ?_
        generalize e34 : mPush (ofOneF (K p1.toNatClampNeg) x33.1 (F p1.toNatClampNeg)) x33.2 = x34
        have i34 : InvM sz x34 := by rw [← e34]; exact mPush_inv ⟨by first | omega | (dsimp only; omega), by omega⟩
        obtain ⟨h134, h234⟩ := i34
        refine Z.goto C 303 dX1_behind_275 (by decide) ?_
        refine Z.iload_n C dX1_behind_303 3 rfl rfl ?_
        refine Z.iconst C (v := (nI 1)) dX1_behind_304 (by decide) ?_
        refine Z.iadd C (v := (p1 + (1 : Int32))) dX1_behind_305 rfl ?_
        refine Z.iret C hr hA dX1_behind_306 ?_ ?_
        · first | (simp [mBehind, mDo, mStep1, (eq_true c1), (eq_false c2), (eq_false s3), (eq_false s5), (eq_false s7), (eq_false s11), (eq_false s14), (eq_false s18), (eq_false s20), (eq_false s23), (eq_false s26), (eq_false s29), (eq_true s32), e33, e34]; done) | (simp_all [mBehind, mDo, mStep1]; done)
        · (refine congrArg (wM aM aA aB aV aN aX aC aK aF aS cI K F S sz stm ops) ?_; first | (simp [mBehind, mDo, mStep1, (eq_true c1), (eq_false c2), (eq_false s3), (eq_false s5), (eq_false s7), (eq_false s11), (eq_false s14), (eq_false s18), (eq_false s20), (eq_false s23), (eq_false s26), (eq_false s29), (eq_true s32), e33, e34]; done) | (simp_all [mBehind, mDo, mStep1]; done))
      · refine Z.lookup C (off := 248) 278 dX1_behind_30 (by decide) (by show Op.lookupswitch.offset [(1, 98), (2, 106), (3, 118), (4, 133), (5, 155), (6, 184), (7, 193), (8, 212), (60, 227), (62, 227), (126, 227)] _ _ = _; rw [lv_osw s3 (k := 1) (by decide), lv_osw s5 (k := 2) (by decide), lv_osw s7 (k := 3) (by decide), lv_osw s11 (k := 4) (by decide), lv_osw s14 (k := 5) (by decide), lv_osw s18 (k := 6) (by decide), lv_osw s20 (k := 7) (by decide), lv_osw s23 (k := 8) (by decide), lv_osw s26 (k := 60) (by decide), lv_osw s29 (k := 62) (by decide), lv_osw s32 (k := 126) (by decide)]; rfl) (by decide) ?_
        refine Z.aload_n C dX1_behind_278 1 rfl rfl ?_
        refine Z.callVi C (nA := 0) (As := []) (st := []) (c_pop g ⟨by first | omega | (dsimp only; omega), by omega⟩) gX1_behind_X1_pop rfl (by decide +kernel) (rm_ok (by omega) (by decide)) 0 rfl rfl rfl (Nat.le_of_ble_eq_true rfl) rfl dX1_behind_279 ?_
        generalize e35 : mPop g = x35
        have i35 : InvM sz x35.2 := by rw [← e35]; exact mPop_inv ⟨by first | omega | (dsimp only; omega), by omega⟩
        obtain ⟨h135, h235⟩ := i35
        refine Z.istore C (lv' := [(5, .int x35.1), (3, .int (F p1.toNatClampNeg)), (0, .ref aM), (1, .ref aC), (2, .int p1)]) dX1_behind_282 (by decide) rfl ?_
        refine Z.aload_n C dX1_behind_284 2 rfl rfl ?_
        refine Z.aload_n C dX1_behind_285 3 rfl rfl ?_
        refine Z.getN C (host := "RoundCompiler") in0 6 rfl rfl 0 (by decide) (by decide +kernel) rfl rfl dX1_behind_286 ?_
        refine Z.iload_n C dX1_behind_289 4 rfl rfl ?_
        refine Z.iald C 7 1 rfl rfl p1.toNatClampNeg (nI_cl (by assumption)) (Nat.lt_of_lt_of_le (nI_clb (by assumption) (by omega) (by assumption)) hI2) (by decide) dX1_behind_290 (v := (K p1.toNatClampNeg)) rfl ?_
        refine Z.aload_n C dX1_behind_291 2 rfl rfl ?_
        refine Z.callVi C (nA := 0) (As := []) (st := [.int (K p1.toNatClampNeg), .ref aM]) (c_pop x35.2 ⟨by first | omega | (dsimp only; omega), by omega⟩) gX1_behind_X1_pop rfl (by decide +kernel) (rm_ok (by omega) (by decide)) 0 rfl rfl rfl (Nat.le_of_ble_eq_true rfl) rfl dX1_behind_292 ?_
        generalize e36 : mPop x35.2 = x36
        have i36 : InvM sz x36.2 := by rw [← e36]; exact mPop_inv ⟨by first | omega | (dsimp only; omega), by omega⟩
        obtain ⟨h136, h236⟩ := i36
        refine Z.iload C dX1_behind_295 0 rfl ?_
        refine Z.callSNi C (nA := 3) (As := [.int (K p1.toNatClampNeg), .int x36.1, .int x35.1]) (st := [.ref aM]) (host := "RoundCompiler") (c_ofTwo (K p1.toNatClampNeg) x36.1 x35.1) gX1_behind_X3_ofTwo_n96 rfl (by decide +kernel) (by decide +kernel) (by decide +kernel) (by decide +kernel) (rm_ok (by omega) (by decide)) rfl (Nat.le_of_ble_eq_true rfl) rfl dX1_behind_297 ?_
        refine Z.callVv C (nA := 1) (As := [.int (ofTwoF (K p1.toNatClampNeg) x36.1 x35.1)]) (st := []) (c_push x36.2 (ofTwoF (K p1.toNatClampNeg) x36.1 x35.1) ⟨by first | omega | (dsimp only; omega), by omega⟩) gX1_behind_X1_push rfl (by decide +kernel) (rm_ok (by omega) (by decide)) 0 rfl rfl rfl (Nat.le_of_ble_eq_true rfl) rfl dX1_behind_300 ?_
        generalize e37 : mPush (ofTwoF (K p1.toNatClampNeg) x36.1 x35.1) x36.2 = x37
        have i37 : InvM sz x37 := by rw [← e37]; exact mPush_inv ⟨by first | omega | (dsimp only; omega), by omega⟩
        obtain ⟨h137, h237⟩ := i37
        refine Z.iload_n C dX1_behind_303 4 rfl rfl ?_
        refine Z.iconst C (v := (nI 1)) dX1_behind_304 (by decide) ?_
        refine Z.iadd C (v := (p1 + (1 : Int32))) dX1_behind_305 rfl ?_
        refine Z.iret C hr hA dX1_behind_306 ?_ ?_
        · first | (simp [mBehind, mDo, mStep1, (eq_true c1), (eq_false c2), (eq_false s3), (eq_false s5), (eq_false s7), (eq_false s11), (eq_false s14), (eq_false s18), (eq_false s20), (eq_false s23), (eq_false s26), (eq_false s29), (eq_false s32), e35, e36, e37]; done) | (simp_all [mBehind, mDo, mStep1]; done)
        · (refine congrArg (wM aM aA aB aV aN aX aC aK aF aS cI K F S sz stm ops) ?_; first | (simp [mBehind, mDo, mStep1, (eq_true c1), (eq_false c2), (eq_false s3), (eq_false s5), (eq_false s7), (eq_false s11), (eq_false s14), (eq_false s18), (eq_false s20), (eq_false s23), (eq_false s26), (eq_false s29), (eq_false s32), e35, e36, e37]; done) | (simp_all [mBehind, mDo, mStep1]; done))
    · skip
      replace c2 : nI sz ≤ p1 := Int32.not_lt.mp c2
      refine Z.aload_n C dX1_behind_12 1 rfl rfl ?_
      refine Z.getN C (host := "RoundCompiler") in0 6 rfl rfl 3 (by decide) (by decide +kernel) rfl rfl dX1_behind_13 ?_
      refine Z.iret C hr hA dX1_behind_16 ?_ ?_
      · first | (simp [mBehind, mDo, mStep1, (eq_true c1), (eq_true c2)]; done) | (simp_all [mBehind, mDo, mStep1]; done)
      · (refine congrArg (wM aM aA aB aV aN aX aC aK aF aS cI K F S sz stm ops) ?_; first | (simp [mBehind, mDo, mStep1, (eq_true c1), (eq_true c2)]; done) | (simp_all [mBehind, mDo, mStep1]; done))
