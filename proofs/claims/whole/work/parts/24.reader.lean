set_option maxHeartbeats 4000000 in
set_option maxRecDepth 100000 in
theorem c_digitOf {l : Launch} {D : va_G} (p0 : Int32) (p1 : Int32) : Mi l yX2_digitOf wsX2_digitOf 0 D [] [.int p0, .int p1] [] (digitF p0 p1) [] := by
  refine Mi.of (cc := cX2_digitOf) (maxL := 2) (by decide) rfl (Nat.le_of_ble_eq_true rfl) ?_
  intro p e s m below meth c A C hr hA
  show Z p l e (rmN _) s m _ below meth c _ D A _ _ [(0, .int p0), (1, .int p1)] 0 []
  refine Z.iload_n C dX2_digitOf_0 0 rfl rfl ?_
  refine Z.bipush C (v := (nI 48)) dX2_digitOf_1 (by decide) ?_
  refine Z.icmp_lt C 17 dX2_digitOf_3 (by decide) (fun c1 => ?_) (fun c1 => ?_)
  · skip
    replace c1 : ¬ (48 : Int32) ≤ p0 := Int32.not_le.mpr c1
    refine Z.iload_n C dX2_digitOf_17 1 rfl rfl ?_
    refine Z.bipush C (v := (nI 16)) dX2_digitOf_18 (by decide) ?_
    refine Z.icmp_ne C 45 dX2_digitOf_20 (by decide) (fun c2 => ?_) (fun c2 => ?_)
    · skip
      replace c2 : ¬ p1 = (16 : Int32) := c2
      refine Z.iconst C (v := (-1)) dX2_digitOf_45 (by decide) ?_
      refine Z.iret C hr hA dX2_digitOf_46 ?_ ?_
      · first | rfl | (simp [nI_0, digitF, (eq_false c1), (eq_false c2)]; done) | (simp_all [nI_0, digitF]; done)
      · rfl
    · skip
      replace c2 : p1 = (16 : Int32) := c2
      refine Z.iload_n C dX2_digitOf_23 0 rfl rfl ?_
      refine Z.bipush C (v := (nI 97)) dX2_digitOf_24 (by decide) ?_
      refine Z.icmp_lt C 45 dX2_digitOf_26 (by decide) (fun c3 => ?_) (fun c3 => ?_)
      · skip
        replace c3 : ¬ (97 : Int32) ≤ p0 := Int32.not_le.mpr c3
        refine Z.iconst C (v := (-1)) dX2_digitOf_45 (by decide) ?_
        refine Z.iret C hr hA dX2_digitOf_46 ?_ ?_
        · first | rfl | (simp [nI_0, digitF, (eq_false c1), (eq_true c2), (eq_false c3)]; done) | (simp_all [nI_0, digitF]; done)
        · rfl
      · skip
        replace c3 : (97 : Int32) ≤ p0 := Int32.not_lt.mp c3
        refine Z.iload_n C dX2_digitOf_29 0 rfl rfl ?_
        refine Z.bipush C (v := (nI 102)) dX2_digitOf_30 (by decide) ?_
        refine Z.icmp_gt C 45 dX2_digitOf_32 (by decide) (fun c4 => ?_) (fun c4 => ?_)
        · skip
          replace c4 : ¬ p0 ≤ (102 : Int32) := Int32.not_le.mpr c4
          refine Z.iconst C (v := (-1)) dX2_digitOf_45 (by decide) ?_
          refine Z.iret C hr hA dX2_digitOf_46 ?_ ?_
          · first | rfl | (simp [nI_0, digitF, (eq_false c1), (eq_true c2), (eq_true c3), (eq_false c4)]; done) | (simp_all [nI_0, digitF]; done)
          · rfl
        · skip
          replace c4 : p0 ≤ (102 : Int32) := Int32.not_lt.mp c4
          refine Z.iload_n C dX2_digitOf_35 0 rfl rfl ?_
          refine Z.bipush C (v := (nI 97)) dX2_digitOf_36 (by decide) ?_
          refine Z.isub C (v := (p0 - (97 : Int32))) dX2_digitOf_38 rfl ?_
          refine Z.bipush C (v := (nI 10)) dX2_digitOf_39 (by decide) ?_
          refine Z.iadd C (v := ((p0 - (97 : Int32)) + (10 : Int32))) dX2_digitOf_41 rfl ?_
          refine Z.goto C 46 dX2_digitOf_42 (by decide) ?_
          refine Z.iret C hr hA dX2_digitOf_46 ?_ ?_
          · first | rfl | (simp [nI_0, digitF, (eq_false c1), (eq_true c2), (eq_true c3), (eq_true c4)]; done) | (simp_all [nI_0, digitF]; done)
          · rfl
  · skip
    replace c1 : (48 : Int32) ≤ p0 := Int32.not_lt.mp c1
    refine Z.iload_n C dX2_digitOf_6 0 rfl rfl ?_
    refine Z.bipush C (v := (nI 57)) dX2_digitOf_7 (by decide) ?_
    refine Z.icmp_gt C 17 dX2_digitOf_9 (by decide) (fun c5 => ?_) (fun c5 => ?_)
    · skip
      replace c5 : ¬ p0 ≤ (57 : Int32) := Int32.not_le.mpr c5
      refine Z.iload_n C dX2_digitOf_17 1 rfl rfl ?_
      refine Z.bipush C (v := (nI 16)) dX2_digitOf_18 (by decide) ?_
      refine Z.icmp_ne C 45 dX2_digitOf_20 (by decide) (fun c6 => ?_) (fun c6 => ?_)
      · skip
        replace c6 : ¬ p1 = (16 : Int32) := c6
        refine Z.iconst C (v := (-1)) dX2_digitOf_45 (by decide) ?_
        refine Z.iret C hr hA dX2_digitOf_46 ?_ ?_
        · first | rfl | (simp [nI_0, digitF, (eq_true c1), (eq_false c5), (eq_false c6)]; done) | (simp_all [nI_0, digitF]; done)
        · rfl
      · skip
        replace c6 : p1 = (16 : Int32) := c6
        refine Z.iload_n C dX2_digitOf_23 0 rfl rfl ?_
        refine Z.bipush C (v := (nI 97)) dX2_digitOf_24 (by decide) ?_
        refine Z.icmp_lt C 45 dX2_digitOf_26 (by decide) (fun c7 => ?_) (fun c7 => ?_)
        · skip
          replace c7 : ¬ (97 : Int32) ≤ p0 := Int32.not_le.mpr c7
          refine Z.iconst C (v := (-1)) dX2_digitOf_45 (by decide) ?_
          refine Z.iret C hr hA dX2_digitOf_46 ?_ ?_
          · first | rfl | (simp [nI_0, digitF, (eq_true c1), (eq_false c5), (eq_true c6), (eq_false c7)]; done) | (simp_all [nI_0, digitF]; done)
          · rfl
        · skip
          replace c7 : (97 : Int32) ≤ p0 := Int32.not_lt.mp c7
          refine Z.iload_n C dX2_digitOf_29 0 rfl rfl ?_
          refine Z.bipush C (v := (nI 102)) dX2_digitOf_30 (by decide) ?_
          refine Z.icmp_gt C 45 dX2_digitOf_32 (by decide) (fun c8 => ?_) (fun c8 => ?_)
          · skip
            replace c8 : ¬ p0 ≤ (102 : Int32) := Int32.not_le.mpr c8
            refine Z.iconst C (v := (-1)) dX2_digitOf_45 (by decide) ?_
            refine Z.iret C hr hA dX2_digitOf_46 ?_ ?_
            · first | rfl | (simp [nI_0, digitF, (eq_true c1), (eq_false c5), (eq_true c6), (eq_true c7), (eq_false c8)]; done) | (simp_all [nI_0, digitF]; done)
            · rfl
          · skip
            replace c8 : p0 ≤ (102 : Int32) := Int32.not_lt.mp c8
            refine Z.iload_n C dX2_digitOf_35 0 rfl rfl ?_
            refine Z.bipush C (v := (nI 97)) dX2_digitOf_36 (by decide) ?_
            refine Z.isub C (v := (p0 - (97 : Int32))) dX2_digitOf_38 rfl ?_
            refine Z.bipush C (v := (nI 10)) dX2_digitOf_39 (by decide) ?_
            refine Z.iadd C (v := ((p0 - (97 : Int32)) + (10 : Int32))) dX2_digitOf_41 rfl ?_
            refine Z.goto C 46 dX2_digitOf_42 (by decide) ?_
            refine Z.iret C hr hA dX2_digitOf_46 ?_ ?_
            · first | rfl | (simp [nI_0, digitF, (eq_true c1), (eq_false c5), (eq_true c6), (eq_true c7), (eq_true c8)]; done) | (simp_all [nI_0, digitF]; done)
            · rfl
    · skip
      replace c5 : p0 ≤ (57 : Int32) := Int32.not_lt.mp c5
      refine Z.iload_n C dX2_digitOf_12 0 rfl rfl ?_
      refine Z.bipush C (v := (nI 48)) dX2_digitOf_13 (by decide) ?_
      refine Z.isub C (v := (p0 - (48 : Int32))) dX2_digitOf_15 rfl ?_
      refine Z.iret C hr hA dX2_digitOf_16 ?_ ?_
      · first | rfl | (simp [nI_0, digitF, (eq_true c1), (eq_true c5)]; done) | (simp_all [nI_0, digitF]; done)
      · rfl
set_option maxHeartbeats 4000000 in
set_option maxRecDepth 100000 in
theorem c_isOp {l : Launch} {D : va_G} (p0 : Int32) : Mi l yX2_isOperator wsX2_isOperator 0 D [] [.int p0] [] (b2i (isOpF p0)) [] := by
  refine Mi.of (cc := cX2_isOperator) (maxL := 1) (by decide) rfl (Nat.le_of_ble_eq_true rfl) ?_
  intro p e s m below meth c A C hr hA
  show Z p l e (rmN _) s m _ below meth c _ D A _ _ [(0, .int p0)] 0 []
  refine Z.iload_n C dX2_isOperator_0 0 rfl rfl ?_
  by_cases s1 : p0 = 38
  · refine Z.lookup C (off := 59) 60 dX2_isOperator_1 (by decide) (by rw [s1]; decide) (by decide) ?_
    refine Z.iconst C (v := (nI 1)) dX2_isOperator_60 (by decide) ?_
    refine Z.zret C hr hA dX2_isOperator_61 (b := true) rfl ?_ ?_
    · first | rfl | (simp [nI_0, isOpF, (eq_true s1)]; done) | (simp_all [nI_0, isOpF]; done)
    · rfl
  by_cases s2 : p0 = 42
  · refine Z.lookup C (off := 59) 60 dX2_isOperator_1 (by decide) (by rw [s2]; decide) (by decide) ?_
    refine Z.iconst C (v := (nI 1)) dX2_isOperator_60 (by decide) ?_
    refine Z.zret C hr hA dX2_isOperator_61 (b := true) rfl ?_ ?_
    · first | rfl | (simp [nI_0, isOpF, (eq_false s1), (eq_true s2)]; done) | (simp_all [nI_0, isOpF]; done)
    · rfl
  by_cases s3 : p0 = 43
  · refine Z.lookup C (off := 59) 60 dX2_isOperator_1 (by decide) (by rw [s3]; decide) (by decide) ?_
    refine Z.iconst C (v := (nI 1)) dX2_isOperator_60 (by decide) ?_
    refine Z.zret C hr hA dX2_isOperator_61 (b := true) rfl ?_ ?_
    · first | rfl | (simp [nI_0, isOpF, (eq_false s1), (eq_false s2), (eq_true s3)]; done) | (simp_all [nI_0, isOpF]; done)
    · rfl
  by_cases s4 : p0 = 45
  · refine Z.lookup C (off := 59) 60 dX2_isOperator_1 (by decide) (by rw [s4]; decide) (by decide) ?_
    refine Z.iconst C (v := (nI 1)) dX2_isOperator_60 (by decide) ?_
    refine Z.zret C hr hA dX2_isOperator_61 (b := true) rfl ?_ ?_
    · first | rfl | (simp [nI_0, isOpF, (eq_false s1), (eq_false s2), (eq_false s3), (eq_true s4)]; done) | (simp_all [nI_0, isOpF]; done)
    · rfl
  by_cases s5 : p0 = 94
  · refine Z.lookup C (off := 59) 60 dX2_isOperator_1 (by decide) (by rw [s5]; decide) (by decide) ?_
    refine Z.iconst C (v := (nI 1)) dX2_isOperator_60 (by decide) ?_
    refine Z.zret C hr hA dX2_isOperator_61 (b := true) rfl ?_ ?_
    · first | rfl | (simp [nI_0, isOpF, (eq_false s1), (eq_false s2), (eq_false s3), (eq_false s4), (eq_true s5)]; done) | (simp_all [nI_0, isOpF]; done)
    · rfl
  by_cases s6 : p0 = 124
  · refine Z.lookup C (off := 59) 60 dX2_isOperator_1 (by decide) (by rw [s6]; decide) (by decide) ?_
    refine Z.iconst C (v := (nI 1)) dX2_isOperator_60 (by decide) ?_
    refine Z.zret C hr hA dX2_isOperator_61 (b := true) rfl ?_ ?_
    · first | rfl | (simp [nI_0, isOpF, (eq_false s1), (eq_false s2), (eq_false s3), (eq_false s4), (eq_false s5), (eq_true s6)]; done) | (simp_all [nI_0, isOpF]; done)
    · rfl
  · refine Z.lookup C (off := 61) 62 dX2_isOperator_1 (by decide) (by show Op.lookupswitch.offset [(38, 59), (42, 59), (43, 59), (45, 59), (94, 59), (124, 59)] _ _ = _; rw [lv_osw s1 (k := 38) (by decide), lv_osw s2 (k := 42) (by decide), lv_osw s3 (k := 43) (by decide), lv_osw s4 (k := 45) (by decide), lv_osw s5 (k := 94) (by decide), lv_osw s6 (k := 124) (by decide)]; rfl) (by decide) ?_
    refine Z.iconst C (v := (nI 0)) dX2_isOperator_62 (by decide) ?_
    refine Z.zret C hr hA dX2_isOperator_63 (b := false) rfl ?_ ?_
    · first | rfl | (simp [nI_0, isOpF, (eq_false s1), (eq_false s2), (eq_false s3), (eq_false s4), (eq_false s5), (eq_false s6)]; done) | (simp_all [nI_0, isOpF]; done)
    · rfl
set_option maxHeartbeats 4000000 in
set_option maxRecDepth 100000 in
theorem c_here {l : Launch} {D : va_G} {aR aT aC aK aF aS : Nat} {cC cI : ClassId} {tx : Nat → Int32} {len : Nat} (r : RS)  (hI : InvR len r) : Mi l yX2_here wsX2_here 1 D [(cC, .char), (cI, .int)] [.ref aR] (wR aR aT aC aK aF aS cC cI tx len r) (hereF tx len r.1) (wR aR aT aC aK aF aS cC cI tx len r) := by
  refine Mi.of (cc := cX2_here) (maxL := 1) (by decide) rfl (Nat.le_of_ble_eq_true rfl) ?_
  intro p e s m below meth c A C hr hA
  have in2 : ∀ w ∈ wsX20, w ∈ wsX2_here := by decide +kernel
  show Z p l e (rmN _) s m _ below meth c _ D A _ _ [(0, .ref aR)] 0 []
  obtain ⟨hI1, hI2, hI3, hI4⟩ := hI
  dsimp only [csz] at hI3
  refine Z.aload_n C dX2_here_0 0 rfl rfl ?_
  refine Z.get C in2 0 rfl rfl 3 (by decide) (by decide +kernel) rfl rfl dX2_here_1 ?_
  refine Z.aload_n C dX2_here_4 0 rfl rfl ?_
  refine Z.get C in2 0 rfl rfl 1 (by decide) (by decide +kernel) rfl rfl dX2_here_5 ?_
  refine Z.icmp_ge C 35 dX2_here_8 (by decide) (fun c1 => ?_) (fun c1 => ?_)
  · skip
    replace c1 : ¬ r.1 < len := Nat.not_lt.mpr ((nI_leI (by omega) (by omega)).mp c1)
    refine Z.iconst C (v := (nI 0)) dX2_here_35 (by decide) ?_
    refine Z.iret C hr hA dX2_here_36 ?_ ?_
    · first | rfl | (simp [nI_0, hereF, (eq_false c1)]; done) | (simp_all [nI_0, hereF]; done)
    · (refine congrArg (wR aR aT aC aK aF aS cC cI tx len) ?_; first | rfl | (simp [nI_0, hereF, (eq_false c1)]; done) | (simp_all [nI_0, hereF]; done))
  · skip
    replace c1 : r.1 < len := Nat.not_le.mp (mt (nI_leI (by omega) (by omega)).mpr c1)
    refine Z.aload_n C dX2_here_11 0 rfl rfl ?_
    refine Z.get C in2 0 rfl rfl 3 (by decide) (by decide +kernel) rfl rfl dX2_here_12 ?_
    refine Z.aload_n C dX2_here_15 0 rfl rfl ?_
    refine Z.get C in2 0 rfl rfl 0 (by decide) (by decide +kernel) rfl rfl dX2_here_16 ?_
    refine Z.alen C 1 0 rfl rfl (v := nI 480) rfl dX2_here_19 ?_
    refine Z.icmp_ge C 35 dX2_here_20 (by decide) (fun c2 => ?_) (fun c2 => ?_)
    · skip
      replace c2 : ¬ r.1 < 480 := Nat.not_lt.mpr ((nI_leI (by omega) (by omega)).mp c2)
      exact absurd c2 (by omega)
    · skip
      replace c2 : r.1 < 480 := Nat.not_le.mp (mt (nI_leI (by omega) (by omega)).mpr c2)
      refine Z.aload_n C dX2_here_23 0 rfl rfl ?_
      refine Z.get C in2 0 rfl rfl 0 (by decide) (by decide +kernel) rfl rfl dX2_here_24 ?_
      refine Z.aload_n C dX2_here_27 0 rfl rfl ?_
      refine Z.get C in2 0 rfl rfl 3 (by decide) (by decide +kernel) rfl rfl dX2_here_28 ?_
      refine Z.cald C 1 0 rfl rfl r.1 rfl (by omega) (by decide) dX2_here_31 (v := (tx r.1)) rfl ?_
      refine Z.goto C 36 dX2_here_32 (by decide) ?_
      refine Z.iret C hr hA dX2_here_36 ?_ ?_
      · first | rfl | (simp [nI_0, hereF, (eq_true c1), (eq_true c2)]; done) | (simp_all [nI_0, hereF]; done)
      · (refine congrArg (wR aR aT aC aK aF aS cC cI tx len) ?_; first | rfl | (simp [nI_0, hereF, (eq_true c1), (eq_true c2)]; done) | (simp_all [nI_0, hereF]; done))
set_option maxHeartbeats 4000000 in
set_option maxRecDepth 100000 in
theorem c_refuse {l : Launch} {D : va_G} {aR aT aC aK aF aS : Nat} {cC cI : ClassId} {tx : Nat → Int32} {len : Nat} (r : RS) (p0 : Nat)  : Mi l yX2_refuse wsX2_refuse 1 D [(cC, .char), (cI, .int)] [.ref aR, .int (nI p0)] (wR aR aT aC aK aF aS cC cI tx len r) (b2i (false)) (wR aR aT aC aK aF aS cC cI tx len (r.1, p0 + 1, r.2.2)) := by
  refine Mi.of (cc := cX2_refuse) (maxL := 2) (by decide) rfl (Nat.le_of_ble_eq_true rfl) ?_
  intro p e s m below meth c A C hr hA
  have in2 : ∀ w ∈ wsX20, w ∈ wsX2_refuse := by decide +kernel
  show Z p l e (rmN _) s m _ below meth c _ D A _ _ [(0, .ref aR), (1, .int (nI p0))] 0 []
  refine Z.aload_n C dX2_refuse_0 0 rfl rfl ?_
  refine Z.iload_n C dX2_refuse_1 1 rfl rfl ?_
  refine Z.iconst C (v := (nI 1)) dX2_refuse_2 (by decide) ?_
  refine Z.iadd C (v := (nI (p0 + 1))) dX2_refuse_3 (nI_add p0 1) ?_
  refine Z.put C in2 0 rfl rfl 4 (by decide) tyX2 tyX2_ok nmX2 (by decide +kernel) rfl rfl rfl rfl (Nat.le_of_ble_eq_true rfl) dX2_refuse_4 (w' := (wR aR aT aC aK aF aS cC cI tx len (r.1, p0 + 1, r.2.2))) rfl ?_
  refine Z.iconst C (v := (nI 0)) dX2_refuse_7 (by decide) ?_
  refine Z.zret C hr hA dX2_refuse_8 (b := false) rfl ?_ ?_
  · first | rfl | (simp [nI_0]; done) | (simp_all [nI_0]; done)
  · (refine congrArg (wR aR aT aC aK aF aS cC cI tx len) ?_; first | rfl | (simp [nI_0]; done) | (simp_all [nI_0]; done))
set_option maxHeartbeats 4000000 in
set_option maxRecDepth 100000 in
theorem c_expect {l : Launch} {D : va_G} {aR aT aC aK aF aS : Nat} {cC cI : ClassId} {tx : Nat → Int32} {len : Nat} (r : RS) (p0 : Int32) (hI : InvR len r) : Mi l yX2_expect wsX2_expect 2 D [(cC, .char), (cI, .int)] [.ref aR, .int p0] (wR aR aT aC aK aF aS cC cI tx len r) (b2i ((mExpect tx len p0 r).1)) (wR aR aT aC aK aF aS cC cI tx len ((mExpect tx len p0 r).2)) := by
  refine Mi.of (cc := cX2_expect) (maxL := 2) (by decide) rfl (Nat.le_of_ble_eq_true rfl) ?_
  intro p e s m below meth c A C hr hA
  have in2 : ∀ w ∈ wsX20, w ∈ wsX2_expect := by decide +kernel
  show Z p l e (rmN _) s m _ below meth c _ D A _ _ [(0, .ref aR), (1, .int p0)] 0 []
  obtain ⟨hI1, hI2, hI3, hI4⟩ := hI
  dsimp only [csz] at hI3
  refine Z.aload_n C dX2_expect_0 0 rfl rfl ?_
  refine Z.callVi C (nA := 0) (As := []) (st := []) (c_here r ⟨by first | omega | (dsimp only; omega), by omega, by first | omega | (dsimp only [csz]; omega), by first | omega | (dsimp only; omega)⟩) gX2_expect_X2_here rfl (by decide +kernel) (rm_ok (by omega) (by decide)) 0 rfl rfl rfl (Nat.le_of_ble_eq_true rfl) rfl dX2_expect_1 ?_
  refine Z.iload_n C dX2_expect_4 1 rfl rfl ?_
  refine Z.icmp_eq C 17 dX2_expect_5 (by decide) (fun c1 => ?_) (fun c1 => ?_)
  · skip
    replace c1 : (hereF tx len r.1) = p0 := c1
    refine Z.aload_n C dX2_expect_17 0 rfl rfl ?_
    refine Z.dup C dX2_expect_18 rfl ?_
    refine Z.get C in2 0 rfl rfl 3 (by decide) (by decide +kernel) rfl rfl dX2_expect_19 ?_
    refine Z.iconst C (v := (nI 1)) dX2_expect_22 (by decide) ?_
    refine Z.iadd C (v := (nI (r.1 + 1))) dX2_expect_23 (nI_add r.1 1) ?_
    refine Z.put C in2 0 rfl rfl 3 (by decide) tyX2 tyX2_ok nmX2 (by decide +kernel) rfl rfl rfl rfl (Nat.le_of_ble_eq_true rfl) dX2_expect_24 (w' := (wR aR aT aC aK aF aS cC cI tx len (r.1 + 1, r.2))) rfl ?_
    refine Z.iconst C (v := (nI 1)) dX2_expect_27 (by decide) ?_
    refine Z.zret C hr hA dX2_expect_28 (b := true) rfl ?_ ?_
    · first | rfl | (simp [nI_0, mExpect, (eq_true c1)]; done) | (simp_all [nI_0, mExpect]; done)
    · (refine congrArg (wR aR aT aC aK aF aS cC cI tx len) ?_; first | rfl | (simp [nI_0, mExpect, (eq_true c1)]; done) | (simp_all [nI_0, mExpect]; done))
  · skip
    replace c1 : ¬ (hereF tx len r.1) = p0 := c1
    refine Z.aload_n C dX2_expect_8 0 rfl rfl ?_
    refine Z.aload_n C dX2_expect_9 0 rfl rfl ?_
    refine Z.get C in2 0 rfl rfl 3 (by decide) (by decide +kernel) rfl rfl dX2_expect_10 ?_
    refine Z.callVi C (nA := 1) (As := [.int (nI r.1)]) (st := []) (c_refuse r r.1) gX2_expect_X2_refuse rfl (by decide +kernel) (rm_ok (by omega) (by decide)) 0 rfl rfl rfl (Nat.le_of_ble_eq_true rfl) rfl dX2_expect_13 ?_
    refine Z.zret C hr hA dX2_expect_16 (b := false) rfl ?_ ?_
    · first | rfl | (simp [nI_0, mExpect, (eq_false c1)]; done) | (simp_all [nI_0, mExpect]; done)
    · (refine congrArg (wR aR aT aC aK aF aS cC cI tx len) ?_; first | rfl | (simp [nI_0, mExpect, (eq_false c1)]; done) | (simp_all [nI_0, mExpect]; done))
set_option maxHeartbeats 4000000 in
set_option maxRecDepth 100000 in
theorem c_freeName {l : Launch} {D : va_G} {aR aT aC aK aF aS : Nat} {cC cI : ClassId} {tx : Nat → Int32} {len : Nat} (r : RS)  (hI : InvR len r) : Mi l yX2_freeName wsX2_freeName 2 D [(cC, .char), (cI, .int)] [.ref aR] (wR aR aT aC aK aF aS cC cI tx len r) (freeF tx len r) (wR aR aT aC aK aF aS cC cI tx len r) := by
  refine Mi.of (cc := cX2_freeName) (maxL := 2) (by decide) rfl (Nat.le_of_ble_eq_true rfl) ?_
  intro p e s m below meth c A C hr hA
  have in2 : ∀ w ∈ wsX20, w ∈ wsX2_freeName := by decide +kernel
  show Z p l e (rmN _) s m _ below meth c _ D A _ _ [(0, .ref aR)] 0 []
  obtain ⟨hI1, hI2, hI3, hI4⟩ := hI
  dsimp only [csz] at hI3
  refine Z.aload_n C dX2_freeName_0 0 rfl rfl ?_
  refine Z.callVi C (nA := 0) (As := []) (st := []) (c_here r ⟨by first | omega | (dsimp only; omega), by omega, by first | omega | (dsimp only [csz]; omega), by first | omega | (dsimp only; omega)⟩) gX2_freeName_X2_here rfl (by decide +kernel) (rm_ok (by omega) (by decide)) 0 rfl rfl rfl (Nat.le_of_ble_eq_true rfl) rfl dX2_freeName_1 ?_
  refine Z.callSi C (nA := 1) (As := [.int (hereF tx len r.1)]) (st := []) (c_nameOf (hereF tx len r.1)) gX2_freeName_X2_nameOf rfl (by decide +kernel) (rm_ok (by omega) (by decide)) rfl (Nat.le_of_ble_eq_true rfl) rfl dX2_freeName_4 ?_
  refine Z.istore_n C (lv' := [(1, .int (nameF (hereF tx len r.1))), (0, .ref aR)]) dX2_freeName_7 rfl (by decide) rfl ?_
  refine Z.iload_n C dX2_freeName_8 0 rfl rfl ?_
  refine Z.if_lt C 27 dX2_freeName_9 (by decide) (fun c1 => ?_) (fun c1 => ?_)
  · skip
    replace c1 : ¬ (0 : Int32) ≤ (nameF (hereF tx len r.1)) := Int32.not_le.mpr c1
    refine Z.iconst C (v := (-1)) dX2_freeName_27 (by decide) ?_
    refine Z.iret C hr hA dX2_freeName_28 ?_ ?_
    · first | rfl | (simp [nI_0, freeF, (eq_false c1)]; done) | (simp_all [nI_0, freeF]; done)
    · (refine congrArg (wR aR aT aC aK aF aS cC cI tx len) ?_; first | rfl | (simp [nI_0, freeF, (eq_false c1)]; done) | (simp_all [nI_0, freeF]; done))
  · skip
    replace c1 : (0 : Int32) ≤ (nameF (hereF tx len r.1)) := Int32.not_lt.mp c1
    refine Z.aload_n C dX2_freeName_12 1 rfl rfl ?_
    refine Z.get C in2 0 rfl rfl 6 (by decide) (by decide +kernel) rfl rfl dX2_freeName_13 ?_
    refine Z.iload_n C dX2_freeName_16 0 rfl rfl ?_
    refine Z.ishr C (v := (r.2.2.2.1 >>> ((nameF (hereF tx len r.1)) &&& 31))) dX2_freeName_17 rfl ?_
    refine Z.iconst C (v := (nI 1)) dX2_freeName_18 (by decide) ?_
    refine Z.iand C (v := ((r.2.2.2.1 >>> ((nameF (hereF tx len r.1)) &&& 31)) &&& (1 : Int32))) dX2_freeName_19 rfl ?_
    refine Z.if_ne C 27 dX2_freeName_20 (by decide) (fun c2 => ?_) (fun c2 => ?_)
    · skip
      replace c2 : ¬ ((r.2.2.2.1 >>> ((nameF (hereF tx len r.1)) &&& 31)) &&& (1 : Int32)) = (0 : Int32) := c2
      refine Z.iconst C (v := (-1)) dX2_freeName_27 (by decide) ?_
      refine Z.iret C hr hA dX2_freeName_28 ?_ ?_
      · first | rfl | (simp [nI_0, freeF, (eq_true c1), (eq_false c2)]; done) | (simp_all [nI_0, freeF]; done)
      · (refine congrArg (wR aR aT aC aK aF aS cC cI tx len) ?_; first | rfl | (simp [nI_0, freeF, (eq_true c1), (eq_false c2)]; done) | (simp_all [nI_0, freeF]; done))
    · skip
      replace c2 : ((r.2.2.2.1 >>> ((nameF (hereF tx len r.1)) &&& 31)) &&& (1 : Int32)) = (0 : Int32) := c2
      refine Z.iload_n C dX2_freeName_23 0 rfl rfl ?_
      refine Z.goto C 28 dX2_freeName_24 (by decide) ?_
      refine Z.iret C hr hA dX2_freeName_28 ?_ ?_
      · first | rfl | (simp [nI_0, freeF, (eq_true c1), (eq_true c2)]; done) | (simp_all [nI_0, freeF]; done)
      · (refine congrArg (wR aR aT aC aK aF aS cC cI tx len) ?_; first | rfl | (simp [nI_0, freeF, (eq_true c1), (eq_true c2)]; done) | (simp_all [nI_0, freeF]; done))
set_option maxHeartbeats 4000000 in
set_option maxRecDepth 100000 in
theorem c_readNumber {l : Launch} {D : va_G} {aR aT aC aK aF aS : Nat} {cC cI : ClassId} {tx : Nat → Int32} {len : Nat} (r : RS) (p0 : Nat) (p1 : Nat) (hI : InvR len r) : Mi l yX2_readNumber wsX2_readNumber 3 D [(cC, .char), (cI, .int)] [.ref aR, .long (lN p0), .long (lN p1)] (wR aR aT aC aK aF aS cC cI tx len r) (b2i ((mNumber tx len p0 p1 r).1)) (wR aR aT aC aK aF aS cC cI tx len ((mNumber tx len p0 p1 r).2)) := by
  refine Mi.of (cc := cX2_readNumber) (maxL := 10) (by decide) rfl (Nat.le_of_ble_eq_true rfl) ?_
  intro p e s m below meth c A C hr hA
  have in2 : ∀ w ∈ wsX20, w ∈ wsX2_readNumber := by decide +kernel
  show Z p l e (rmN _) s m _ below meth c _ D A _ _ [(0, .ref aR), (1, .long (lN p0)), (3, .long (lN p1))] 0 []
  obtain ⟨hI1, hI2, hI3, hI4⟩ := hI
  dsimp only [csz] at hI3
  refine Z.aload_n C dX2_readNumber_0 0 rfl rfl ?_
  refine Z.get C in2 0 rfl rfl 3 (by decide) (by decide +kernel) rfl rfl dX2_readNumber_1 ?_
  refine Z.istore C (lv' := [(5, .int (nI r.1)), (0, .ref aR), (1, .long (lN p0)), (3, .long (lN p1))]) dX2_readNumber_4 (by decide) rfl ?_
  refine Z.aload_n C dX2_readNumber_6 1 rfl rfl ?_
  refine Z.callVi C (nA := 0) (As := []) (st := []) (c_here r ⟨by first | omega | (dsimp only; omega), by omega, by first | omega | (dsimp only [csz]; omega), by first | omega | (dsimp only; omega)⟩) gX2_readNumber_X2_here rfl (by decide +kernel) (rm_ok (by omega) (by decide)) 0 rfl rfl rfl (Nat.le_of_ble_eq_true rfl) rfl dX2_readNumber_7 ?_
  refine Z.bipush C (v := (nI 36)) dX2_readNumber_10 (by decide) ?_
  refine Z.icmp_ne C 19 dX2_readNumber_12 (by decide) (fun c1 => ?_) (fun c1 => ?_)
  · skip
    replace c1 : ¬ (hereF tx len r.1) = (36 : Int32) := c1
    refine Z.iconst C (v := (nI 0)) dX2_readNumber_19 (by decide) ?_
    refine Z.istore C (lv' := [(6, .int (nI 0)), (5, .int (nI r.1)), (0, .ref aR), (1, .long (lN p0)), (3, .long (lN p1))]) dX2_readNumber_20 (by decide) rfl ?_
    refine Z.iload C dX2_readNumber_22 0 rfl ?_
    refine Z.if_eq C 37 dX2_readNumber_24 (by decide) (fun c2 => ?_) (fun c2 => ?_)
    · skip
      replace c2 : 0 = 0 := (nI_eq (by omega) (by omega)).mp c2
      refine Z.iload C dX2_readNumber_37 0 rfl ?_
      refine Z.if_eq C 47 dX2_readNumber_39 (by decide) (fun c3 => ?_) (fun c3 => ?_)
      · skip
        replace c3 : 0 = 0 := (nI_eq (by omega) (by omega)).mp c3
        refine Z.bipush C (v := (nI 10)) dX2_readNumber_47 (by decide) ?_
        refine Z.istore C (lv' := [(7, .int (nI 10)), (6, .int (nI 0)), (5, .int (nI r.1)), (0, .ref aR), (1, .long (lN p0)), (3, .long (lN p1))]) dX2_readNumber_49 (by decide) rfl ?_
        refine Z.iload C dX2_readNumber_51 1 rfl ?_
        refine Z.if_eq C 61 dX2_readNumber_53 (by decide) (fun c4 => ?_) (fun c4 => ?_)
        · skip
          replace c4 : 0 = 0 := (nI_eq (by omega) (by omega)).mp c4
          refine Z.bipush C (v := (nI 10)) dX2_readNumber_61 (by decide) ?_
          refine Z.istore C (lv' := [(8, .int (nI 10)), (7, .int (nI 10)), (6, .int (nI 0)), (5, .int (nI r.1)), (0, .ref aR), (1, .long (lN p0)), (3, .long (lN p1))]) dX2_readNumber_63 (by decide) rfl ?_
          refine Z.iconst C (v := (nI 0)) dX2_readNumber_65 (by decide) ?_
          refine Z.istore C (lv' := [(9, .int (nI 0)), (8, .int (nI 10)), (7, .int (nI 10)), (6, .int (nI 0)), (5, .int (nI r.1)), (0, .ref aR), (1, .long (lN p0)), (3, .long (lN p1))]) dX2_readNumber_66 (by decide) rfl ?_
          refine Z.aload_n C dX2_readNumber_68 5 rfl rfl ?_
          refine Z.lconst C (v := lN 0) dX2_readNumber_69 (by decide) ?_
          refine Z.put C in2 0 rfl rfl 5 (by decide) tyX2 tyX2_ok nmX2 (by decide +kernel) rfl rfl rfl rfl (Nat.le_of_ble_eq_true rfl) dX2_readNumber_70 (w' := (wR aR aT aC aK aF aS cC cI tx len (r.1, r.2.1, 0, r.2.2.2))) rfl ?_
          have key73 : ∀ (n : Nat) (dg : Nat) (r2 : RS), dg + n = 480 → InvR len r2 → mNumber tx len p0 p1 r = mNumLoop tx len p0 p1 r.1 10 10 10 n dg r2 → Z p l e (rmN 3) s m ([.ref aR, .long (lN p0), .long (lN p1)] : List Value).toArray below meth c 10 D A (QI below D [(cC, .char), (cI, .int)] [.ref aR, .long (lN p0), .long (lN p1)] (wR aR aT aC aK aF aS cC cI tx len r) (b2i ((mNumber tx len p0 p1 r).1)) (wR aR aT aC aK aF aS cC cI tx len ((mNumber tx len p0 p1 r).2)) s) (wR aR aT aC aK aF aS cC cI tx len r2) [(9, .int (nI dg)), (8, .int (nI 10)), (7, .int (nI 10)), (5, .int (nI r.1)), (0, .ref aR), (1, .long (lN p0)), (3, .long (lN p1))] 73 [] := by
            intro n
            induction n with
            | zero =>
              intro dg r2 hn hi hm73
              obtain ⟨k1, k2, k3, k4⟩ := hi
              dsimp only [csz] at k3
              refine Z.iload C dX2_readNumber_73 0 rfl ?_
              refine Z.sipush C (v := (nI 480)) dX2_readNumber_75 (by decide) ?_
              refine Z.icmp_ge C 139 dX2_readNumber_78 (by decide) (fun c5 => ?_) (fun c5 => ?_)
              · skip
                replace c5 : ¬ dg < 480 := Nat.not_lt.mpr ((nI_leI (by omega) (by omega)).mp c5)
                refine Z.iload C dX2_readNumber_139 0 rfl ?_
                refine Z.if_ne C 153 dX2_readNumber_141 (by decide) (fun c6 => ?_) (fun c6 => ?_)
                · skip
                  replace c6 : ¬ dg = 0 := mt (nI_eq (by omega) (by omega)).mpr c6
                  refine Z.iload C dX2_readNumber_153 0 rfl ?_
                  refine Z.iload C dX2_readNumber_155 1 rfl ?_
                  refine Z.icmp_gt C 178 dX2_readNumber_157 (by decide) (fun c7 => ?_) (fun c7 => ?_)
                  · skip
                    replace c7 : 10 < dg := (nI_ltI (by omega) (by omega)).mp c7
                    refine Z.aload_n C dX2_readNumber_178 4 rfl rfl ?_
                    refine Z.iload C dX2_readNumber_179 3 rfl ?_
                    refine Z.callVi C (nA := 1) (As := [.int (nI r.1)]) (st := []) (c_refuse r2 r.1) gX2_readNumber_X2_refuse rfl (by decide +kernel) (rm_ok (by omega) (by decide)) 0 rfl rfl rfl (Nat.le_of_ble_eq_true rfl) rfl dX2_readNumber_181 ?_
                    refine Z.zret C hr hA dX2_readNumber_184 (b := false) rfl ?_ ?_
                    · first | (rw [hm73]; simp [mNumLoop, mNumEnd, (eq_false c1), (eq_true c2), (eq_true c3), (eq_true c4), (eq_false c5), (eq_false c6), (eq_true c7)]; done) | (rw [hm73]; simp_all [mNumLoop, mNumEnd]; done)
                    · (refine congrArg (wR aR aT aC aK aF aS cC cI tx len) ?_; first | (rw [hm73]; simp [mNumLoop, mNumEnd, (eq_false c1), (eq_true c2), (eq_true c3), (eq_true c4), (eq_false c5), (eq_false c6), (eq_true c7)]; done) | (rw [hm73]; simp_all [mNumLoop, mNumEnd]; done))
                  · skip
                    replace c7 : ¬ 10 < dg := mt (nI_ltI (by omega) (by omega)).mpr c7
                    refine Z.aload_n C dX2_readNumber_160 4 rfl rfl ?_
                    refine Z.get C in2 0 rfl rfl 5 (by decide) (by decide +kernel) rfl rfl dX2_readNumber_161 ?_
                    refine Z.lload_n C dX2_readNumber_164 5 rfl rfl ?_
                    refine Z.lcmp C (v := (lg_cmp (lN r2.2.2.1) (lN p0))) dX2_readNumber_165 rfl ?_
                    refine Z.if_lt C 178 dX2_readNumber_166 (by decide) (fun c8 => ?_) (fun c8 => ?_)
                    · skip
                      replace c8 : lN r2.2.2.1 < lN p0 := lgc_lt.mp c8
                      refine Z.aload_n C dX2_readNumber_178 4 rfl rfl ?_
                      refine Z.iload C dX2_readNumber_179 3 rfl ?_
                      refine Z.callVi C (nA := 1) (As := [.int (nI r.1)]) (st := []) (c_refuse r2 r.1) gX2_readNumber_X2_refuse rfl (by decide +kernel) (rm_ok (by omega) (by decide)) 0 rfl rfl rfl (Nat.le_of_ble_eq_true rfl) rfl dX2_readNumber_181 ?_
                      refine Z.zret C hr hA dX2_readNumber_184 (b := false) rfl ?_ ?_
                      · first | (rw [hm73]; simp [mNumLoop, mNumEnd, (eq_false c1), (eq_true c2), (eq_true c3), (eq_true c4), (eq_false c5), (eq_false c6), (eq_false c7), (eq_true c8)]; done) | (rw [hm73]; simp_all [mNumLoop, mNumEnd]; done)
                      · (refine congrArg (wR aR aT aC aK aF aS cC cI tx len) ?_; first | (rw [hm73]; simp [mNumLoop, mNumEnd, (eq_false c1), (eq_true c2), (eq_true c3), (eq_true c4), (eq_false c5), (eq_false c6), (eq_false c7), (eq_true c8)]; done) | (rw [hm73]; simp_all [mNumLoop, mNumEnd]; done))
                    · skip
                      replace c8 : ¬ lN r2.2.2.1 < lN p0 := mt lgc_lt.mpr c8
                      refine Z.aload_n C dX2_readNumber_169 4 rfl rfl ?_
                      refine Z.get C in2 0 rfl rfl 5 (by decide) (by decide +kernel) rfl rfl dX2_readNumber_170 ?_
                      refine Z.lload_n C dX2_readNumber_173 6 rfl rfl ?_
                      refine Z.lcmp C (v := (lg_cmp (lN r2.2.2.1) (lN p1))) dX2_readNumber_174 rfl ?_
                      refine Z.if_le C 185 dX2_readNumber_175 (by decide) (fun c9 => ?_) (fun c9 => ?_)
                      · skip
                        replace c9 : ¬ lN p1 < lN r2.2.2.1 := lgc_le.mp c9
                        refine Z.iconst C (v := (nI 1)) dX2_readNumber_185 (by decide) ?_
                        refine Z.zret C hr hA dX2_readNumber_186 (b := true) rfl ?_ ?_
                        · first | (rw [hm73]; simp [mNumLoop, mNumEnd, (eq_false c1), (eq_true c2), (eq_true c3), (eq_true c4), (eq_false c5), (eq_false c6), (eq_false c7), (eq_false c8), (eq_false c9)]; done) | (rw [hm73]; simp_all [mNumLoop, mNumEnd]; done)
                        · (refine congrArg (wR aR aT aC aK aF aS cC cI tx len) ?_; first | (rw [hm73]; simp [mNumLoop, mNumEnd, (eq_false c1), (eq_true c2), (eq_true c3), (eq_true c4), (eq_false c5), (eq_false c6), (eq_false c7), (eq_false c8), (eq_false c9)]; done) | (rw [hm73]; simp_all [mNumLoop, mNumEnd]; done))
                      · skip
                        replace c9 : lN p1 < lN r2.2.2.1 := Classical.not_not.mp (mt lgc_le.mpr c9)
                        refine Z.aload_n C dX2_readNumber_178 4 rfl rfl ?_
                        refine Z.iload C dX2_readNumber_179 3 rfl ?_
                        refine Z.callVi C (nA := 1) (As := [.int (nI r.1)]) (st := []) (c_refuse r2 r.1) gX2_readNumber_X2_refuse rfl (by decide +kernel) (rm_ok (by omega) (by decide)) 0 rfl rfl rfl (Nat.le_of_ble_eq_true rfl) rfl dX2_readNumber_181 ?_
                        refine Z.zret C hr hA dX2_readNumber_184 (b := false) rfl ?_ ?_
                        · first | (rw [hm73]; simp [mNumLoop, mNumEnd, (eq_false c1), (eq_true c2), (eq_true c3), (eq_true c4), (eq_false c5), (eq_false c6), (eq_false c7), (eq_false c8), (eq_true c9)]; done) | (rw [hm73]; simp_all [mNumLoop, mNumEnd]; done)
                        · (refine congrArg (wR aR aT aC aK aF aS cC cI tx len) ?_; first | (rw [hm73]; simp [mNumLoop, mNumEnd, (eq_false c1), (eq_true c2), (eq_true c3), (eq_true c4), (eq_false c5), (eq_false c6), (eq_false c7), (eq_false c8), (eq_true c9)]; done) | (rw [hm73]; simp_all [mNumLoop, mNumEnd]; done))
                · skip
                  replace c6 : dg = 0 := (nI_eq (by omega) (by omega)).mp c6
                  refine Z.aload_n C dX2_readNumber_144 4 rfl rfl ?_
                  refine Z.aload_n C dX2_readNumber_145 4 rfl rfl ?_
                  refine Z.get C in2 0 rfl rfl 3 (by decide) (by decide +kernel) rfl rfl dX2_readNumber_146 ?_
                  refine Z.callVi C (nA := 1) (As := [.int (nI r2.1)]) (st := []) (c_refuse r2 r2.1) gX2_readNumber_X2_refuse rfl (by decide +kernel) (rm_ok (by omega) (by decide)) 0 rfl rfl rfl (Nat.le_of_ble_eq_true rfl) rfl dX2_readNumber_149 ?_
                  refine Z.zret C hr hA dX2_readNumber_152 (b := false) rfl ?_ ?_
                  · first | (rw [hm73]; simp [mNumLoop, mNumEnd, (eq_false c1), (eq_true c2), (eq_true c3), (eq_true c4), (eq_false c5), (eq_true c6)]; done) | (rw [hm73]; simp_all [mNumLoop, mNumEnd]; done)
                  · (refine congrArg (wR aR aT aC aK aF aS cC cI tx len) ?_; first | (rw [hm73]; simp [mNumLoop, mNumEnd, (eq_false c1), (eq_true c2), (eq_true c3), (eq_true c4), (eq_false c5), (eq_true c6)]; done) | (rw [hm73]; simp_all [mNumLoop, mNumEnd]; done))
              · skip
                replace c5 : dg < 480 := Nat.not_le.mp (mt (nI_leI (by omega) (by omega)).mpr c5)
                exact absurd c5 (by omega)
            | succ n ih73 =>
              intro dg r2 hn hi hm73
              obtain ⟨k1, k2, k3, k4⟩ := hi
              dsimp only [csz] at k3
              refine Z.iload C dX2_readNumber_73 0 rfl ?_
              refine Z.sipush C (v := (nI 480)) dX2_readNumber_75 (by decide) ?_
              refine Z.icmp_ge C 139 dX2_readNumber_78 (by decide) (fun c10 => ?_) (fun c10 => ?_)
              · skip
                replace c10 : ¬ dg < 480 := Nat.not_lt.mpr ((nI_leI (by omega) (by omega)).mp c10)
                exact absurd c10 (by omega)
              · skip
                replace c10 : dg < 480 := Nat.not_le.mp (mt (nI_leI (by omega) (by omega)).mpr c10)
                refine Z.aload_n C dX2_readNumber_81 4 rfl rfl ?_
                refine Z.callVi C (nA := 0) (As := []) (st := []) (c_here r2 ⟨by first | omega | (dsimp only; omega), by omega, by first | omega | (dsimp only [csz]; omega), by first | omega | (dsimp only; omega)⟩) gX2_readNumber_X2_here rfl (by decide +kernel) (rm_ok (by omega) (by decide)) 0 rfl rfl rfl (Nat.le_of_ble_eq_true rfl) rfl dX2_readNumber_82 ?_
                refine Z.iload C dX2_readNumber_85 2 rfl ?_
                refine Z.callSi C (nA := 2) (As := [.int (hereF tx len r2.1), .int (10 : Int32)]) (st := []) (c_digitOf (hereF tx len r2.1) (10 : Int32)) gX2_readNumber_X2_digitOf rfl (by decide +kernel) (rm_ok (by omega) (by decide)) rfl (Nat.le_of_ble_eq_true rfl) rfl dX2_readNumber_87 ?_
                refine Z.if_lt C 139 dX2_readNumber_90 (by decide) (fun c11 => ?_) (fun c11 => ?_)
                · skip
                  replace c11 : ¬ (0 : Int32) ≤ (digitF (hereF tx len r2.1) (10 : Int32)) := Int32.not_le.mpr c11
                  refine Z.iload C dX2_readNumber_139 0 rfl ?_
                  refine Z.if_ne C 153 dX2_readNumber_141 (by decide) (fun c12 => ?_) (fun c12 => ?_)
                  · skip
                    replace c12 : ¬ dg = 0 := mt (nI_eq (by omega) (by omega)).mpr c12
                    refine Z.iload C dX2_readNumber_153 0 rfl ?_
                    refine Z.iload C dX2_readNumber_155 1 rfl ?_
                    refine Z.icmp_gt C 178 dX2_readNumber_157 (by decide) (fun c13 => ?_) (fun c13 => ?_)
                    · skip
                      replace c13 : 10 < dg := (nI_ltI (by omega) (by omega)).mp c13
                      refine Z.aload_n C dX2_readNumber_178 4 rfl rfl ?_
                      refine Z.iload C dX2_readNumber_179 3 rfl ?_
                      refine Z.callVi C (nA := 1) (As := [.int (nI r.1)]) (st := []) (c_refuse r2 r.1) gX2_readNumber_X2_refuse rfl (by decide +kernel) (rm_ok (by omega) (by decide)) 0 rfl rfl rfl (Nat.le_of_ble_eq_true rfl) rfl dX2_readNumber_181 ?_
                      refine Z.zret C hr hA dX2_readNumber_184 (b := false) rfl ?_ ?_
                      · first | (rw [hm73]; simp [mNumLoop, mNumEnd, (eq_false c1), (eq_true c2), (eq_true c3), (eq_true c4), (eq_true c10), (eq_false c11), (eq_false c12), (eq_true c13)]; done) | (rw [hm73]; simp_all [mNumLoop, mNumEnd]; done)
                      · (refine congrArg (wR aR aT aC aK aF aS cC cI tx len) ?_; first | (rw [hm73]; simp [mNumLoop, mNumEnd, (eq_false c1), (eq_true c2), (eq_true c3), (eq_true c4), (eq_true c10), (eq_false c11), (eq_false c12), (eq_true c13)]; done) | (rw [hm73]; simp_all [mNumLoop, mNumEnd]; done))
                    · skip
                      replace c13 : ¬ 10 < dg := mt (nI_ltI (by omega) (by omega)).mpr c13
                      refine Z.aload_n C dX2_readNumber_160 4 rfl rfl ?_
                      refine Z.get C in2 0 rfl rfl 5 (by decide) (by decide +kernel) rfl rfl dX2_readNumber_161 ?_
                      refine Z.lload_n C dX2_readNumber_164 5 rfl rfl ?_
                      refine Z.lcmp C (v := (lg_cmp (lN r2.2.2.1) (lN p0))) dX2_readNumber_165 rfl ?_
                      refine Z.if_lt C 178 dX2_readNumber_166 (by decide) (fun c14 => ?_) (fun c14 => ?_)
                      · skip
                        replace c14 : lN r2.2.2.1 < lN p0 := lgc_lt.mp c14
                        refine Z.aload_n C dX2_readNumber_178 4 rfl rfl ?_
                        refine Z.iload C dX2_readNumber_179 3 rfl ?_
                        refine Z.callVi C (nA := 1) (As := [.int (nI r.1)]) (st := []) (c_refuse r2 r.1) gX2_readNumber_X2_refuse rfl (by decide +kernel) (rm_ok (by omega) (by decide)) 0 rfl rfl rfl (Nat.le_of_ble_eq_true rfl) rfl dX2_readNumber_181 ?_
                        refine Z.zret C hr hA dX2_readNumber_184 (b := false) rfl ?_ ?_
                        · first | (rw [hm73]; simp [mNumLoop, mNumEnd, (eq_false c1), (eq_true c2), (eq_true c3), (eq_true c4), (eq_true c10), (eq_false c11), (eq_false c12), (eq_false c13), (eq_true c14)]; done) | (rw [hm73]; simp_all [mNumLoop, mNumEnd]; done)
                        · (refine congrArg (wR aR aT aC aK aF aS cC cI tx len) ?_; first | (rw [hm73]; simp [mNumLoop, mNumEnd, (eq_false c1), (eq_true c2), (eq_true c3), (eq_true c4), (eq_true c10), (eq_false c11), (eq_false c12), (eq_false c13), (eq_true c14)]; done) | (rw [hm73]; simp_all [mNumLoop, mNumEnd]; done))
                      · skip
                        replace c14 : ¬ lN r2.2.2.1 < lN p0 := mt lgc_lt.mpr c14
                        refine Z.aload_n C dX2_readNumber_169 4 rfl rfl ?_
                        refine Z.get C in2 0 rfl rfl 5 (by decide) (by decide +kernel) rfl rfl dX2_readNumber_170 ?_
                        refine Z.lload_n C dX2_readNumber_173 6 rfl rfl ?_
                        refine Z.lcmp C (v := (lg_cmp (lN r2.2.2.1) (lN p1))) dX2_readNumber_174 rfl ?_
                        refine Z.if_le C 185 dX2_readNumber_175 (by decide) (fun c15 => ?_) (fun c15 => ?_)
                        · skip
                          replace c15 : ¬ lN p1 < lN r2.2.2.1 := lgc_le.mp c15
                          refine Z.iconst C (v := (nI 1)) dX2_readNumber_185 (by decide) ?_
                          refine Z.zret C hr hA dX2_readNumber_186 (b := true) rfl ?_ ?_
                          · first | (rw [hm73]; simp [mNumLoop, mNumEnd, (eq_false c1), (eq_true c2), (eq_true c3), (eq_true c4), (eq_true c10), (eq_false c11), (eq_false c12), (eq_false c13), (eq_false c14), (eq_false c15)]; done) | (rw [hm73]; simp_all [mNumLoop, mNumEnd]; done)
                          · (refine congrArg (wR aR aT aC aK aF aS cC cI tx len) ?_; first | (rw [hm73]; simp [mNumLoop, mNumEnd, (eq_false c1), (eq_true c2), (eq_true c3), (eq_true c4), (eq_true c10), (eq_false c11), (eq_false c12), (eq_false c13), (eq_false c14), (eq_false c15)]; done) | (rw [hm73]; simp_all [mNumLoop, mNumEnd]; done))
                        · skip
                          replace c15 : lN p1 < lN r2.2.2.1 := Classical.not_not.mp (mt lgc_le.mpr c15)
                          refine Z.aload_n C dX2_readNumber_178 4 rfl rfl ?_
                          refine Z.iload C dX2_readNumber_179 3 rfl ?_
                          refine Z.callVi C (nA := 1) (As := [.int (nI r.1)]) (st := []) (c_refuse r2 r.1) gX2_readNumber_X2_refuse rfl (by decide +kernel) (rm_ok (by omega) (by decide)) 0 rfl rfl rfl (Nat.le_of_ble_eq_true rfl) rfl dX2_readNumber_181 ?_
                          refine Z.zret C hr hA dX2_readNumber_184 (b := false) rfl ?_ ?_
                          · first | (rw [hm73]; simp [mNumLoop, mNumEnd, (eq_false c1), (eq_true c2), (eq_true c3), (eq_true c4), (eq_true c10), (eq_false c11), (eq_false c12), (eq_false c13), (eq_false c14), (eq_true c15)]; done) | (rw [hm73]; simp_all [mNumLoop, mNumEnd]; done)
                          · (refine congrArg (wR aR aT aC aK aF aS cC cI tx len) ?_; first | (rw [hm73]; simp [mNumLoop, mNumEnd, (eq_false c1), (eq_true c2), (eq_true c3), (eq_true c4), (eq_true c10), (eq_false c11), (eq_false c12), (eq_false c13), (eq_false c14), (eq_true c15)]; done) | (rw [hm73]; simp_all [mNumLoop, mNumEnd]; done))
                  · skip
                    replace c12 : dg = 0 := (nI_eq (by omega) (by omega)).mp c12
                    refine Z.aload_n C dX2_readNumber_144 4 rfl rfl ?_
                    refine Z.aload_n C dX2_readNumber_145 4 rfl rfl ?_
                    refine Z.get C in2 0 rfl rfl 3 (by decide) (by decide +kernel) rfl rfl dX2_readNumber_146 ?_
                    refine Z.callVi C (nA := 1) (As := [.int (nI r2.1)]) (st := []) (c_refuse r2 r2.1) gX2_readNumber_X2_refuse rfl (by decide +kernel) (rm_ok (by omega) (by decide)) 0 rfl rfl rfl (Nat.le_of_ble_eq_true rfl) rfl dX2_readNumber_149 ?_
                    refine Z.zret C hr hA dX2_readNumber_152 (b := false) rfl ?_ ?_
                    · first | (rw [hm73]; simp [mNumLoop, mNumEnd, (eq_false c1), (eq_true c2), (eq_true c3), (eq_true c4), (eq_true c10), (eq_false c11), (eq_true c12)]; done) | (rw [hm73]; simp_all [mNumLoop, mNumEnd]; done)
                    · (refine congrArg (wR aR aT aC aK aF aS cC cI tx len) ?_; first | (rw [hm73]; simp [mNumLoop, mNumEnd, (eq_false c1), (eq_true c2), (eq_true c3), (eq_true c4), (eq_true c10), (eq_false c11), (eq_true c12)]; done) | (rw [hm73]; simp_all [mNumLoop, mNumEnd]; done))
                · skip
                  replace c11 : (0 : Int32) ≤ (digitF (hereF tx len r2.1) (10 : Int32)) := Int32.not_lt.mp c11
                  have c11l := dig_lt c11
                  refine Z.iload C dX2_readNumber_93 0 rfl ?_
                  refine Z.iload C dX2_readNumber_95 1 rfl ?_
                  refine Z.icmp_ge C 123 dX2_readNumber_97 (by decide) (fun c16 => ?_) (fun c16 => ?_)
                  · skip
                    replace c16 : ¬ dg < 10 := Nat.not_lt.mpr ((nI_leI (by omega) (by omega)).mp c16)
                    refine Z.iinc C (v := (nI (dg + 1))) (lv' := [(9, .int (nI (dg + 1))), (8, .int (nI 10)), (7, .int (nI 10)), (5, .int (nI r.1)), (0, .ref aR), (1, .long (lN p0)), (3, .long (lN p1))]) dX2_readNumber_123 0 rfl (nI_add dg 1) (by decide) rfl ?_
                    refine Z.aload_n C dX2_readNumber_126 4 rfl rfl ?_
                    refine Z.dup C dX2_readNumber_127 rfl ?_
                    refine Z.get C in2 0 rfl rfl 3 (by decide) (by decide +kernel) rfl rfl dX2_readNumber_128 ?_
                    refine Z.iconst C (v := (nI 1)) dX2_readNumber_131 (by decide) ?_
                    refine Z.iadd C (v := (nI (r2.1 + 1))) dX2_readNumber_132 (nI_add r2.1 1) ?_
                    refine Z.put C in2 0 rfl rfl 3 (by decide) tyX2 tyX2_ok nmX2 (by decide +kernel) rfl rfl rfl rfl (Nat.le_of_ble_eq_true rfl) dX2_readNumber_133 (w' := (wR aR aT aC aK aF aS cC cI tx len (r2.1 + 1, r2.2))) rfl ?_
                    refine Z.goto C 73 dX2_readNumber_136 (by decide) ?_
                    refine Z.sub [0, 1, 2, 3, 4, 5, 6] rfl ?_
                    exact ih73 (dg + 1) (r2.1 + 1, r2.2) (by omega) ⟨by first | omega | (dsimp only; omega), by omega, by first | omega | (dsimp only [csz]; omega), by first | omega | (dsimp only; omega)⟩ (by rw [hm73, mNumLoop]; simp [(eq_true c11), (eq_false c16)])
                  · skip
                    replace c16 : dg < 10 := Nat.not_le.mp (mt (nI_leI (by omega) (by omega)).mpr c16)
                    refine Z.aload_n C dX2_readNumber_100 4 rfl rfl ?_
                    refine Z.aload_n C dX2_readNumber_101 4 rfl rfl ?_
                    refine Z.get C in2 0 rfl rfl 5 (by decide) (by decide +kernel) rfl rfl dX2_readNumber_102 ?_
                    refine Z.iload C dX2_readNumber_105 2 rfl ?_
                    refine Z.i2l C (v := (lN 10)) dX2_readNumber_107 (nI_l (by omega)) ?_
                    refine Z.lmul C (v := (lN (r2.2.2.1 * 10))) dX2_readNumber_108 (lN_mul r2.2.2.1 10) ?_
                    refine Z.aload_n C dX2_readNumber_109 4 rfl rfl ?_
                    refine Z.callVi C (nA := 0) (As := []) (st := [.long (lN (r2.2.2.1 * 10)), .ref aR]) (c_here r2 ⟨by first | omega | (dsimp only; omega), by omega, by first | omega | (dsimp only [csz]; omega), by first | omega | (dsimp only; omega)⟩) gX2_readNumber_X2_here rfl (by decide +kernel) (rm_ok (by omega) (by decide)) 0 rfl rfl rfl (Nat.le_of_ble_eq_true rfl) rfl dX2_readNumber_110 ?_
                    refine Z.iload C dX2_readNumber_113 2 rfl ?_
                    refine Z.callSi C (nA := 2) (As := [.int (hereF tx len r2.1), .int (10 : Int32)]) (st := [.long (lN (r2.2.2.1 * 10)), .ref aR]) (c_digitOf (hereF tx len r2.1) (10 : Int32)) gX2_readNumber_X2_digitOf rfl (by decide +kernel) (rm_ok (by omega) (by decide)) rfl (Nat.le_of_ble_eq_true rfl) rfl dX2_readNumber_115 ?_
                    refine Z.i2l C (v := (lN ((digitF (hereF tx len r2.1) (10 : Int32)).toNatClampNeg))) dX2_readNumber_118 (i64_of (by assumption)) ?_
                    refine Z.ladd C (v := (lN ((r2.2.2.1 * 10) + ((digitF (hereF tx len r2.1) (10 : Int32)).toNatClampNeg)))) dX2_readNumber_119 (lN_add (r2.2.2.1 * 10) ((digitF (hereF tx len r2.1) (10 : Int32)).toNatClampNeg)) ?_
                    refine Z.put C in2 0 rfl rfl 5 (by decide) tyX2 tyX2_ok nmX2 (by decide +kernel) rfl rfl rfl rfl (Nat.le_of_ble_eq_true rfl) dX2_readNumber_120 (w' := (wR aR aT aC aK aF aS cC cI tx len (r2.1, r2.2.1, (r2.2.2.1 * 10) + ((digitF (hereF tx len r2.1) (10 : Int32)).toNatClampNeg), r2.2.2.2))) rfl ?_
                    refine Z.iinc C (v := (nI (dg + 1))) (lv' := [(9, .int (nI (dg + 1))), (8, .int (nI 10)), (7, .int (nI 10)), (5, .int (nI r.1)), (0, .ref aR), (1, .long (lN p0)), (3, .long (lN p1))]) dX2_readNumber_123 0 rfl (nI_add dg 1) (by decide) rfl ?_
                    refine Z.aload_n C dX2_readNumber_126 4 rfl rfl ?_
                    refine Z.dup C dX2_readNumber_127 rfl ?_
                    refine Z.get C in2 0 rfl rfl 3 (by decide) (by decide +kernel) rfl rfl dX2_readNumber_128 ?_
                    refine Z.iconst C (v := (nI 1)) dX2_readNumber_131 (by decide) ?_
                    refine Z.iadd C (v := (nI (r2.1 + 1))) dX2_readNumber_132 (nI_add r2.1 1) ?_
                    refine Z.put C in2 0 rfl rfl 3 (by decide) tyX2 tyX2_ok nmX2 (by decide +kernel) rfl rfl rfl rfl (Nat.le_of_ble_eq_true rfl) dX2_readNumber_133 (w' := (wR aR aT aC aK aF aS cC cI tx len (r2.1 + 1, r2.2.1, (r2.2.2.1 * 10) + ((digitF (hereF tx len r2.1) (10 : Int32)).toNatClampNeg), r2.2.2.2))) rfl ?_
                    refine Z.goto C 73 dX2_readNumber_136 (by decide) ?_
                    refine Z.sub [0, 1, 2, 3, 4, 5, 6] rfl ?_
                    exact ih73 (dg + 1) (r2.1 + 1, r2.2.1, (r2.2.2.1 * 10) + ((digitF (hereF tx len r2.1) (10 : Int32)).toNatClampNeg), r2.2.2.2) (by omega) ⟨by first | omega | (dsimp only; omega), by omega, by first | omega | (dsimp only [csz]; omega), by first | omega | (dsimp only; omega)⟩ (by rw [hm73, mNumLoop]; simp [(eq_true c11), (eq_true c16)])
          refine Z.sub [0, 1, 2, 4, 5, 6, 7] rfl ?_
          exact key73 480 0 (r.1, r.2.1, 0, r.2.2.2) (by omega) ⟨by first | omega | (dsimp only; omega), by omega, by first | omega | (dsimp only [csz]; omega), by first | omega | (dsimp only; omega)⟩ (by simp [mNumber, (eq_false c1), (eq_true c2), (eq_true c3), (eq_true c4)])
        · skip
          replace c4 : ¬ 0 = 0 := mt (nI_eq (by omega) (by omega)).mpr c4
          exact absurd c4 (by decide)
      · skip
        replace c3 : ¬ 0 = 0 := mt (nI_eq (by omega) (by omega)).mpr c3
        exact absurd c3 (by decide)
    · skip
      replace c2 : ¬ 0 = 0 := mt (nI_eq (by omega) (by omega)).mpr c2
      exact absurd c2 (by decide)
  · skip
    replace c1 : (hereF tx len r.1) = (36 : Int32) := c1
    have c1l := here_lt c1 (by decide)
    refine Z.iconst C (v := (nI 1)) dX2_readNumber_15 (by decide) ?_
    refine Z.goto C 20 dX2_readNumber_16 (by decide) ?_
    refine Z.istore C (lv' := [(6, .int (nI 1)), (5, .int (nI r.1)), (0, .ref aR), (1, .long (lN p0)), (3, .long (lN p1))]) dX2_readNumber_20 (by decide) rfl ?_
    refine Z.iload C dX2_readNumber_22 0 rfl ?_
    refine Z.if_eq C 37 dX2_readNumber_24 (by decide) (fun c17 => ?_) (fun c17 => ?_)
    · skip
      replace c17 : 1 = 0 := (nI_eq (by omega) (by omega)).mp c17
      exact absurd c17 (by decide)
    · skip
      replace c17 : ¬ 1 = 0 := mt (nI_eq (by omega) (by omega)).mpr c17
      refine Z.aload_n C dX2_readNumber_27 2 rfl rfl ?_
      refine Z.dup C dX2_readNumber_28 rfl ?_
      refine Z.get C in2 0 rfl rfl 3 (by decide) (by decide +kernel) rfl rfl dX2_readNumber_29 ?_
      refine Z.iconst C (v := (nI 1)) dX2_readNumber_32 (by decide) ?_
      refine Z.iadd C (v := (nI (r.1 + 1))) dX2_readNumber_33 (nI_add r.1 1) ?_
      refine Z.put C in2 0 rfl rfl 3 (by decide) tyX2 tyX2_ok nmX2 (by decide +kernel) rfl rfl rfl rfl (Nat.le_of_ble_eq_true rfl) dX2_readNumber_34 (w' := (wR aR aT aC aK aF aS cC cI tx len (r.1 + 1, r.2))) rfl ?_
      refine Z.iload C dX2_readNumber_37 0 rfl ?_
      refine Z.if_eq C 47 dX2_readNumber_39 (by decide) (fun c18 => ?_) (fun c18 => ?_)
      · skip
        replace c18 : 1 = 0 := (nI_eq (by omega) (by omega)).mp c18
        exact absurd c18 (by decide)
      · skip
        replace c18 : ¬ 1 = 0 := mt (nI_eq (by omega) (by omega)).mpr c18
        refine Z.bipush C (v := (nI 16)) dX2_readNumber_42 (by decide) ?_
        refine Z.goto C 49 dX2_readNumber_44 (by decide) ?_
        refine Z.istore C (lv' := [(7, .int (nI 16)), (6, .int (nI 1)), (5, .int (nI r.1)), (0, .ref aR), (1, .long (lN p0)), (3, .long (lN p1))]) dX2_readNumber_49 (by decide) rfl ?_
        refine Z.iload C dX2_readNumber_51 1 rfl ?_
        refine Z.if_eq C 61 dX2_readNumber_53 (by decide) (fun c19 => ?_) (fun c19 => ?_)
        · skip
          replace c19 : 1 = 0 := (nI_eq (by omega) (by omega)).mp c19
          exact absurd c19 (by decide)
        · skip
          replace c19 : ¬ 1 = 0 := mt (nI_eq (by omega) (by omega)).mpr c19
          refine Z.bipush C (v := (nI 8)) dX2_readNumber_56 (by decide) ?_
          refine Z.goto C 63 dX2_readNumber_58 (by decide) ?_
          refine Z.istore C (lv' := [(8, .int (nI 8)), (7, .int (nI 16)), (6, .int (nI 1)), (5, .int (nI r.1)), (0, .ref aR), (1, .long (lN p0)), (3, .long (lN p1))]) dX2_readNumber_63 (by decide) rfl ?_
          refine Z.iconst C (v := (nI 0)) dX2_readNumber_65 (by decide) ?_
          refine Z.istore C (lv' := [(9, .int (nI 0)), (8, .int (nI 8)), (7, .int (nI 16)), (6, .int (nI 1)), (5, .int (nI r.1)), (0, .ref aR), (1, .long (lN p0)), (3, .long (lN p1))]) dX2_readNumber_66 (by decide) rfl ?_
          refine Z.aload_n C dX2_readNumber_68 5 rfl rfl ?_
          refine Z.lconst C (v := lN 0) dX2_readNumber_69 (by decide) ?_
          refine Z.put C in2 0 rfl rfl 5 (by decide) tyX2 tyX2_ok nmX2 (by decide +kernel) rfl rfl rfl rfl (Nat.le_of_ble_eq_true rfl) dX2_readNumber_70 (w' := (wR aR aT aC aK aF aS cC cI tx len (r.1 + 1, r.2.1, 0, r.2.2.2))) rfl ?_
          have key73 : ∀ (n : Nat) (dg : Nat) (r2 : RS), dg + n = 480 → InvR len r2 → mNumber tx len p0 p1 r = mNumLoop tx len p0 p1 r.1 8 16 16 n dg r2 → Z p l e (rmN 3) s m ([.ref aR, .long (lN p0), .long (lN p1)] : List Value).toArray below meth c 10 D A (QI below D [(cC, .char), (cI, .int)] [.ref aR, .long (lN p0), .long (lN p1)] (wR aR aT aC aK aF aS cC cI tx len r) (b2i ((mNumber tx len p0 p1 r).1)) (wR aR aT aC aK aF aS cC cI tx len ((mNumber tx len p0 p1 r).2)) s) (wR aR aT aC aK aF aS cC cI tx len r2) [(9, .int (nI dg)), (8, .int (nI 8)), (7, .int (nI 16)), (5, .int (nI r.1)), (0, .ref aR), (1, .long (lN p0)), (3, .long (lN p1))] 73 [] := by
            intro n
            induction n with
            | zero =>
              intro dg r2 hn hi hm73
              obtain ⟨k1, k2, k3, k4⟩ := hi
              dsimp only [csz] at k3
              refine Z.iload C dX2_readNumber_73 0 rfl ?_
              refine Z.sipush C (v := (nI 480)) dX2_readNumber_75 (by decide) ?_
              refine Z.icmp_ge C 139 dX2_readNumber_78 (by decide) (fun c20 => ?_) (fun c20 => ?_)
              · skip
                replace c20 : ¬ dg < 480 := Nat.not_lt.mpr ((nI_leI (by omega) (by omega)).mp c20)
                refine Z.iload C dX2_readNumber_139 0 rfl ?_
                refine Z.if_ne C 153 dX2_readNumber_141 (by decide) (fun c21 => ?_) (fun c21 => ?_)
                · skip
                  replace c21 : ¬ dg = 0 := mt (nI_eq (by omega) (by omega)).mpr c21
                  refine Z.iload C dX2_readNumber_153 0 rfl ?_
                  refine Z.iload C dX2_readNumber_155 1 rfl ?_
                  refine Z.icmp_gt C 178 dX2_readNumber_157 (by decide) (fun c22 => ?_) (fun c22 => ?_)
                  · skip
                    replace c22 : 8 < dg := (nI_ltI (by omega) (by omega)).mp c22
                    refine Z.aload_n C dX2_readNumber_178 4 rfl rfl ?_
                    refine Z.iload C dX2_readNumber_179 3 rfl ?_
                    refine Z.callVi C (nA := 1) (As := [.int (nI r.1)]) (st := []) (c_refuse r2 r.1) gX2_readNumber_X2_refuse rfl (by decide +kernel) (rm_ok (by omega) (by decide)) 0 rfl rfl rfl (Nat.le_of_ble_eq_true rfl) rfl dX2_readNumber_181 ?_
                    refine Z.zret C hr hA dX2_readNumber_184 (b := false) rfl ?_ ?_
                    · first | (rw [hm73]; simp [mNumLoop, mNumEnd, (eq_true c1), (eq_false c17), (eq_false c18), (eq_false c19), (eq_false c20), (eq_false c21), (eq_true c22)]; done) | (rw [hm73]; simp_all [mNumLoop, mNumEnd]; done)
                    · (refine congrArg (wR aR aT aC aK aF aS cC cI tx len) ?_; first | (rw [hm73]; simp [mNumLoop, mNumEnd, (eq_true c1), (eq_false c17), (eq_false c18), (eq_false c19), (eq_false c20), (eq_false c21), (eq_true c22)]; done) | (rw [hm73]; simp_all [mNumLoop, mNumEnd]; done))
                  · skip
                    replace c22 : ¬ 8 < dg := mt (nI_ltI (by omega) (by omega)).mpr c22
                    refine Z.aload_n C dX2_readNumber_160 4 rfl rfl ?_
                    refine Z.get C in2 0 rfl rfl 5 (by decide) (by decide +kernel) rfl rfl dX2_readNumber_161 ?_
                    refine Z.lload_n C dX2_readNumber_164 5 rfl rfl ?_
                    refine Z.lcmp C (v := (lg_cmp (lN r2.2.2.1) (lN p0))) dX2_readNumber_165 rfl ?_
                    refine Z.if_lt C 178 dX2_readNumber_166 (by decide) (fun c23 => ?_) (fun c23 => ?_)
                    · skip
                      replace c23 : lN r2.2.2.1 < lN p0 := lgc_lt.mp c23
                      refine Z.aload_n C dX2_readNumber_178 4 rfl rfl ?_
                      refine Z.iload C dX2_readNumber_179 3 rfl ?_
                      refine Z.callVi C (nA := 1) (As := [.int (nI r.1)]) (st := []) (c_refuse r2 r.1) gX2_readNumber_X2_refuse rfl (by decide +kernel) (rm_ok (by omega) (by decide)) 0 rfl rfl rfl (Nat.le_of_ble_eq_true rfl) rfl dX2_readNumber_181 ?_
                      refine Z.zret C hr hA dX2_readNumber_184 (b := false) rfl ?_ ?_
                      · first | (rw [hm73]; simp [mNumLoop, mNumEnd, (eq_true c1), (eq_false c17), (eq_false c18), (eq_false c19), (eq_false c20), (eq_false c21), (eq_false c22), (eq_true c23)]; done) | (rw [hm73]; simp_all [mNumLoop, mNumEnd]; done)
                      · (refine congrArg (wR aR aT aC aK aF aS cC cI tx len) ?_; first | (rw [hm73]; simp [mNumLoop, mNumEnd, (eq_true c1), (eq_false c17), (eq_false c18), (eq_false c19), (eq_false c20), (eq_false c21), (eq_false c22), (eq_true c23)]; done) | (rw [hm73]; simp_all [mNumLoop, mNumEnd]; done))
                    · skip
                      replace c23 : ¬ lN r2.2.2.1 < lN p0 := mt lgc_lt.mpr c23
                      refine Z.aload_n C dX2_readNumber_169 4 rfl rfl ?_
                      refine Z.get C in2 0 rfl rfl 5 (by decide) (by decide +kernel) rfl rfl dX2_readNumber_170 ?_
                      refine Z.lload_n C dX2_readNumber_173 6 rfl rfl ?_
                      refine Z.lcmp C (v := (lg_cmp (lN r2.2.2.1) (lN p1))) dX2_readNumber_174 rfl ?_
                      refine Z.if_le C 185 dX2_readNumber_175 (by decide) (fun c24 => ?_) (fun c24 => ?_)
                      · skip
                        replace c24 : ¬ lN p1 < lN r2.2.2.1 := lgc_le.mp c24
                        refine Z.iconst C (v := (nI 1)) dX2_readNumber_185 (by decide) ?_
                        refine Z.zret C hr hA dX2_readNumber_186 (b := true) rfl ?_ ?_
                        · first | (rw [hm73]; simp [mNumLoop, mNumEnd, (eq_true c1), (eq_false c17), (eq_false c18), (eq_false c19), (eq_false c20), (eq_false c21), (eq_false c22), (eq_false c23), (eq_false c24)]; done) | (rw [hm73]; simp_all [mNumLoop, mNumEnd]; done)
                        · (refine congrArg (wR aR aT aC aK aF aS cC cI tx len) ?_; first | (rw [hm73]; simp [mNumLoop, mNumEnd, (eq_true c1), (eq_false c17), (eq_false c18), (eq_false c19), (eq_false c20), (eq_false c21), (eq_false c22), (eq_false c23), (eq_false c24)]; done) | (rw [hm73]; simp_all [mNumLoop, mNumEnd]; done))
                      · skip
                        replace c24 : lN p1 < lN r2.2.2.1 := Classical.not_not.mp (mt lgc_le.mpr c24)
                        refine Z.aload_n C dX2_readNumber_178 4 rfl rfl ?_
                        refine Z.iload C dX2_readNumber_179 3 rfl ?_
                        refine Z.callVi C (nA := 1) (As := [.int (nI r.1)]) (st := []) (c_refuse r2 r.1) gX2_readNumber_X2_refuse rfl (by decide +kernel) (rm_ok (by omega) (by decide)) 0 rfl rfl rfl (Nat.le_of_ble_eq_true rfl) rfl dX2_readNumber_181 ?_
                        refine Z.zret C hr hA dX2_readNumber_184 (b := false) rfl ?_ ?_
                        · first | (rw [hm73]; simp [mNumLoop, mNumEnd, (eq_true c1), (eq_false c17), (eq_false c18), (eq_false c19), (eq_false c20), (eq_false c21), (eq_false c22), (eq_false c23), (eq_true c24)]; done) | (rw [hm73]; simp_all [mNumLoop, mNumEnd]; done)
                        · (refine congrArg (wR aR aT aC aK aF aS cC cI tx len) ?_; first | (rw [hm73]; simp [mNumLoop, mNumEnd, (eq_true c1), (eq_false c17), (eq_false c18), (eq_false c19), (eq_false c20), (eq_false c21), (eq_false c22), (eq_false c23), (eq_true c24)]; done) | (rw [hm73]; simp_all [mNumLoop, mNumEnd]; done))
                · skip
                  replace c21 : dg = 0 := (nI_eq (by omega) (by omega)).mp c21
                  refine Z.aload_n C dX2_readNumber_144 4 rfl rfl ?_
                  refine Z.aload_n C dX2_readNumber_145 4 rfl rfl ?_
                  refine Z.get C in2 0 rfl rfl 3 (by decide) (by decide +kernel) rfl rfl dX2_readNumber_146 ?_
                  refine Z.callVi C (nA := 1) (As := [.int (nI r2.1)]) (st := []) (c_refuse r2 r2.1) gX2_readNumber_X2_refuse rfl (by decide +kernel) (rm_ok (by omega) (by decide)) 0 rfl rfl rfl (Nat.le_of_ble_eq_true rfl) rfl dX2_readNumber_149 ?_
                  refine Z.zret C hr hA dX2_readNumber_152 (b := false) rfl ?_ ?_
                  · first | (rw [hm73]; simp [mNumLoop, mNumEnd, (eq_true c1), (eq_false c17), (eq_false c18), (eq_false c19), (eq_false c20), (eq_true c21)]; done) | (rw [hm73]; simp_all [mNumLoop, mNumEnd]; done)
                  · (refine congrArg (wR aR aT aC aK aF aS cC cI tx len) ?_; first | (rw [hm73]; simp [mNumLoop, mNumEnd, (eq_true c1), (eq_false c17), (eq_false c18), (eq_false c19), (eq_false c20), (eq_true c21)]; done) | (rw [hm73]; simp_all [mNumLoop, mNumEnd]; done))
              · skip
                replace c20 : dg < 480 := Nat.not_le.mp (mt (nI_leI (by omega) (by omega)).mpr c20)
                exact absurd c20 (by omega)
            | succ n ih73 =>
              intro dg r2 hn hi hm73
              obtain ⟨k1, k2, k3, k4⟩ := hi
              dsimp only [csz] at k3
              refine Z.iload C dX2_readNumber_73 0 rfl ?_
              refine Z.sipush C (v := (nI 480)) dX2_readNumber_75 (by decide) ?_
              refine Z.icmp_ge C 139 dX2_readNumber_78 (by decide) (fun c25 => ?_) (fun c25 => ?_)
              · skip
                replace c25 : ¬ dg < 480 := Nat.not_lt.mpr ((nI_leI (by omega) (by omega)).mp c25)
                exact absurd c25 (by omega)
              · skip
                replace c25 : dg < 480 := Nat.not_le.mp (mt (nI_leI (by omega) (by omega)).mpr c25)
                refine Z.aload_n C dX2_readNumber_81 4 rfl rfl ?_
                refine Z.callVi C (nA := 0) (As := []) (st := []) (c_here r2 ⟨by first | omega | (dsimp only; omega), by omega, by first | omega | (dsimp only [csz]; omega), by first | omega | (dsimp only; omega)⟩) gX2_readNumber_X2_here rfl (by decide +kernel) (rm_ok (by omega) (by decide)) 0 rfl rfl rfl (Nat.le_of_ble_eq_true rfl) rfl dX2_readNumber_82 ?_
                refine Z.iload C dX2_readNumber_85 2 rfl ?_
                refine Z.callSi C (nA := 2) (As := [.int (hereF tx len r2.1), .int (16 : Int32)]) (st := []) (c_digitOf (hereF tx len r2.1) (16 : Int32)) gX2_readNumber_X2_digitOf rfl (by decide +kernel) (rm_ok (by omega) (by decide)) rfl (Nat.le_of_ble_eq_true rfl) rfl dX2_readNumber_87 ?_
                refine Z.if_lt C 139 dX2_readNumber_90 (by decide) (fun c26 => ?_) (fun c26 => ?_)
                · skip
                  replace c26 : ¬ (0 : Int32) ≤ (digitF (hereF tx len r2.1) (16 : Int32)) := Int32.not_le.mpr c26
                  refine Z.iload C dX2_readNumber_139 0 rfl ?_
                  refine Z.if_ne C 153 dX2_readNumber_141 (by decide) (fun c27 => ?_) (fun c27 => ?_)
                  · skip
                    replace c27 : ¬ dg = 0 := mt (nI_eq (by omega) (by omega)).mpr c27
                    refine Z.iload C dX2_readNumber_153 0 rfl ?_
                    refine Z.iload C dX2_readNumber_155 1 rfl ?_
                    refine Z.icmp_gt C 178 dX2_readNumber_157 (by decide) (fun c28 => ?_) (fun c28 => ?_)
                    · skip
                      replace c28 : 8 < dg := (nI_ltI (by omega) (by omega)).mp c28
                      refine Z.aload_n C dX2_readNumber_178 4 rfl rfl ?_
                      refine Z.iload C dX2_readNumber_179 3 rfl ?_
                      refine Z.callVi C (nA := 1) (As := [.int (nI r.1)]) (st := []) (c_refuse r2 r.1) gX2_readNumber_X2_refuse rfl (by decide +kernel) (rm_ok (by omega) (by decide)) 0 rfl rfl rfl (Nat.le_of_ble_eq_true rfl) rfl dX2_readNumber_181 ?_
                      refine Z.zret C hr hA dX2_readNumber_184 (b := false) rfl ?_ ?_
                      · first | (rw [hm73]; simp [mNumLoop, mNumEnd, (eq_true c1), (eq_false c17), (eq_false c18), (eq_false c19), (eq_true c25), (eq_false c26), (eq_false c27), (eq_true c28)]; done) | (rw [hm73]; simp_all [mNumLoop, mNumEnd]; done)
                      · (refine congrArg (wR aR aT aC aK aF aS cC cI tx len) ?_; first | (rw [hm73]; simp [mNumLoop, mNumEnd, (eq_true c1), (eq_false c17), (eq_false c18), (eq_false c19), (eq_true c25), (eq_false c26), (eq_false c27), (eq_true c28)]; done) | (rw [hm73]; simp_all [mNumLoop, mNumEnd]; done))
                    · skip
                      replace c28 : ¬ 8 < dg := mt (nI_ltI (by omega) (by omega)).mpr c28
                      refine Z.aload_n C dX2_readNumber_160 4 rfl rfl ?_
                      refine Z.get C in2 0 rfl rfl 5 (by decide) (by decide +kernel) rfl rfl dX2_readNumber_161 ?_
                      refine Z.lload_n C dX2_readNumber_164 5 rfl rfl ?_
                      refine Z.lcmp C (v := (lg_cmp (lN r2.2.2.1) (lN p0))) dX2_readNumber_165 rfl ?_
                      refine Z.if_lt C 178 dX2_readNumber_166 (by decide) (fun c29 => ?_) (fun c29 => ?_)
                      · skip
                        replace c29 : lN r2.2.2.1 < lN p0 := lgc_lt.mp c29
                        refine Z.aload_n C dX2_readNumber_178 4 rfl rfl ?_
                        refine Z.iload C dX2_readNumber_179 3 rfl ?_
                        refine Z.callVi C (nA := 1) (As := [.int (nI r.1)]) (st := []) (c_refuse r2 r.1) gX2_readNumber_X2_refuse rfl (by decide +kernel) (rm_ok (by omega) (by decide)) 0 rfl rfl rfl (Nat.le_of_ble_eq_true rfl) rfl dX2_readNumber_181 ?_
                        refine Z.zret C hr hA dX2_readNumber_184 (b := false) rfl ?_ ?_
                        · first | (rw [hm73]; simp [mNumLoop, mNumEnd, (eq_true c1), (eq_false c17), (eq_false c18), (eq_false c19), (eq_true c25), (eq_false c26), (eq_false c27), (eq_false c28), (eq_true c29)]; done) | (rw [hm73]; simp_all [mNumLoop, mNumEnd]; done)
                        · (refine congrArg (wR aR aT aC aK aF aS cC cI tx len) ?_; first | (rw [hm73]; simp [mNumLoop, mNumEnd, (eq_true c1), (eq_false c17), (eq_false c18), (eq_false c19), (eq_true c25), (eq_false c26), (eq_false c27), (eq_false c28), (eq_true c29)]; done) | (rw [hm73]; simp_all [mNumLoop, mNumEnd]; done))
                      · skip
                        replace c29 : ¬ lN r2.2.2.1 < lN p0 := mt lgc_lt.mpr c29
                        refine Z.aload_n C dX2_readNumber_169 4 rfl rfl ?_
                        refine Z.get C in2 0 rfl rfl 5 (by decide) (by decide +kernel) rfl rfl dX2_readNumber_170 ?_
                        refine Z.lload_n C dX2_readNumber_173 6 rfl rfl ?_
                        refine Z.lcmp C (v := (lg_cmp (lN r2.2.2.1) (lN p1))) dX2_readNumber_174 rfl ?_
                        refine Z.if_le C 185 dX2_readNumber_175 (by decide) (fun c30 => ?_) (fun c30 => ?_)
                        · skip
                          replace c30 : ¬ lN p1 < lN r2.2.2.1 := lgc_le.mp c30
                          refine Z.iconst C (v := (nI 1)) dX2_readNumber_185 (by decide) ?_
                          refine Z.zret C hr hA dX2_readNumber_186 (b := true) rfl ?_ ?_
                          · first | (rw [hm73]; simp [mNumLoop, mNumEnd, (eq_true c1), (eq_false c17), (eq_false c18), (eq_false c19), (eq_true c25), (eq_false c26), (eq_false c27), (eq_false c28), (eq_false c29), (eq_false c30)]; done) | (rw [hm73]; simp_all [mNumLoop, mNumEnd]; done)
                          · (refine congrArg (wR aR aT aC aK aF aS cC cI tx len) ?_; first | (rw [hm73]; simp [mNumLoop, mNumEnd, (eq_true c1), (eq_false c17), (eq_false c18), (eq_false c19), (eq_true c25), (eq_false c26), (eq_false c27), (eq_false c28), (eq_false c29), (eq_false c30)]; done) | (rw [hm73]; simp_all [mNumLoop, mNumEnd]; done))
                        · skip
                          replace c30 : lN p1 < lN r2.2.2.1 := Classical.not_not.mp (mt lgc_le.mpr c30)
                          refine Z.aload_n C dX2_readNumber_178 4 rfl rfl ?_
                          refine Z.iload C dX2_readNumber_179 3 rfl ?_
                          refine Z.callVi C (nA := 1) (As := [.int (nI r.1)]) (st := []) (c_refuse r2 r.1) gX2_readNumber_X2_refuse rfl (by decide +kernel) (rm_ok (by omega) (by decide)) 0 rfl rfl rfl (Nat.le_of_ble_eq_true rfl) rfl dX2_readNumber_181 ?_
                          refine Z.zret C hr hA dX2_readNumber_184 (b := false) rfl ?_ ?_
                          · first | (rw [hm73]; simp [mNumLoop, mNumEnd, (eq_true c1), (eq_false c17), (eq_false c18), (eq_false c19), (eq_true c25), (eq_false c26), (eq_false c27), (eq_false c28), (eq_false c29), (eq_true c30)]; done) | (rw [hm73]; simp_all [mNumLoop, mNumEnd]; done)
                          · (refine congrArg (wR aR aT aC aK aF aS cC cI tx len) ?_; first | (rw [hm73]; simp [mNumLoop, mNumEnd, (eq_true c1), (eq_false c17), (eq_false c18), (eq_false c19), (eq_true c25), (eq_false c26), (eq_false c27), (eq_false c28), (eq_false c29), (eq_true c30)]; done) | (rw [hm73]; simp_all [mNumLoop, mNumEnd]; done))
                  · skip
                    replace c27 : dg = 0 := (nI_eq (by omega) (by omega)).mp c27
                    refine Z.aload_n C dX2_readNumber_144 4 rfl rfl ?_
                    refine Z.aload_n C dX2_readNumber_145 4 rfl rfl ?_
                    refine Z.get C in2 0 rfl rfl 3 (by decide) (by decide +kernel) rfl rfl dX2_readNumber_146 ?_
                    refine Z.callVi C (nA := 1) (As := [.int (nI r2.1)]) (st := []) (c_refuse r2 r2.1) gX2_readNumber_X2_refuse rfl (by decide +kernel) (rm_ok (by omega) (by decide)) 0 rfl rfl rfl (Nat.le_of_ble_eq_true rfl) rfl dX2_readNumber_149 ?_
                    refine Z.zret C hr hA dX2_readNumber_152 (b := false) rfl ?_ ?_
                    · first | (rw [hm73]; simp [mNumLoop, mNumEnd, (eq_true c1), (eq_false c17), (eq_false c18), (eq_false c19), (eq_true c25), (eq_false c26), (eq_true c27)]; done) | (rw [hm73]; simp_all [mNumLoop, mNumEnd]; done)
                    · (refine congrArg (wR aR aT aC aK aF aS cC cI tx len) ?_; first | (rw [hm73]; simp [mNumLoop, mNumEnd, (eq_true c1), (eq_false c17), (eq_false c18), (eq_false c19), (eq_true c25), (eq_false c26), (eq_true c27)]; done) | (rw [hm73]; simp_all [mNumLoop, mNumEnd]; done))
                · skip
                  replace c26 : (0 : Int32) ≤ (digitF (hereF tx len r2.1) (16 : Int32)) := Int32.not_lt.mp c26
                  have c26l := dig_lt c26
                  refine Z.iload C dX2_readNumber_93 0 rfl ?_
                  refine Z.iload C dX2_readNumber_95 1 rfl ?_
                  refine Z.icmp_ge C 123 dX2_readNumber_97 (by decide) (fun c31 => ?_) (fun c31 => ?_)
                  · skip
                    replace c31 : ¬ dg < 8 := Nat.not_lt.mpr ((nI_leI (by omega) (by omega)).mp c31)
                    refine Z.iinc C (v := (nI (dg + 1))) (lv' := [(9, .int (nI (dg + 1))), (8, .int (nI 8)), (7, .int (nI 16)), (5, .int (nI r.1)), (0, .ref aR), (1, .long (lN p0)), (3, .long (lN p1))]) dX2_readNumber_123 0 rfl (nI_add dg 1) (by decide) rfl ?_
                    refine Z.aload_n C dX2_readNumber_126 4 rfl rfl ?_
                    refine Z.dup C dX2_readNumber_127 rfl ?_
                    refine Z.get C in2 0 rfl rfl 3 (by decide) (by decide +kernel) rfl rfl dX2_readNumber_128 ?_
                    refine Z.iconst C (v := (nI 1)) dX2_readNumber_131 (by decide) ?_
                    refine Z.iadd C (v := (nI (r2.1 + 1))) dX2_readNumber_132 (nI_add r2.1 1) ?_
                    refine Z.put C in2 0 rfl rfl 3 (by decide) tyX2 tyX2_ok nmX2 (by decide +kernel) rfl rfl rfl rfl (Nat.le_of_ble_eq_true rfl) dX2_readNumber_133 (w' := (wR aR aT aC aK aF aS cC cI tx len (r2.1 + 1, r2.2))) rfl ?_
                    refine Z.goto C 73 dX2_readNumber_136 (by decide) ?_
                    refine Z.sub [0, 1, 2, 3, 4, 5, 6] rfl ?_
                    exact ih73 (dg + 1) (r2.1 + 1, r2.2) (by omega) ⟨by first | omega | (dsimp only; omega), by omega, by first | omega | (dsimp only [csz]; omega), by first | omega | (dsimp only; omega)⟩ (by rw [hm73, mNumLoop]; simp [(eq_true c26), (eq_false c31)])
                  · skip
                    replace c31 : dg < 8 := Nat.not_le.mp (mt (nI_leI (by omega) (by omega)).mpr c31)
                    refine Z.aload_n C dX2_readNumber_100 4 rfl rfl ?_
                    refine Z.aload_n C dX2_readNumber_101 4 rfl rfl ?_
                    refine Z.get C in2 0 rfl rfl 5 (by decide) (by decide +kernel) rfl rfl dX2_readNumber_102 ?_
                    refine Z.iload C dX2_readNumber_105 2 rfl ?_
                    refine Z.i2l C (v := (lN 16)) dX2_readNumber_107 (nI_l (by omega)) ?_
                    refine Z.lmul C (v := (lN (r2.2.2.1 * 16))) dX2_readNumber_108 (lN_mul r2.2.2.1 16) ?_
                    refine Z.aload_n C dX2_readNumber_109 4 rfl rfl ?_
                    refine Z.callVi C (nA := 0) (As := []) (st := [.long (lN (r2.2.2.1 * 16)), .ref aR]) (c_here r2 ⟨by first | omega | (dsimp only; omega), by omega, by first | omega | (dsimp only [csz]; omega), by first | omega | (dsimp only; omega)⟩) gX2_readNumber_X2_here rfl (by decide +kernel) (rm_ok (by omega) (by decide)) 0 rfl rfl rfl (Nat.le_of_ble_eq_true rfl) rfl dX2_readNumber_110 ?_
                    refine Z.iload C dX2_readNumber_113 2 rfl ?_
                    refine Z.callSi C (nA := 2) (As := [.int (hereF tx len r2.1), .int (16 : Int32)]) (st := [.long (lN (r2.2.2.1 * 16)), .ref aR]) (c_digitOf (hereF tx len r2.1) (16 : Int32)) gX2_readNumber_X2_digitOf rfl (by decide +kernel) (rm_ok (by omega) (by decide)) rfl (Nat.le_of_ble_eq_true rfl) rfl dX2_readNumber_115 ?_
                    refine Z.i2l C (v := (lN ((digitF (hereF tx len r2.1) (16 : Int32)).toNatClampNeg))) dX2_readNumber_118 (i64_of (by assumption)) ?_
                    refine Z.ladd C (v := (lN ((r2.2.2.1 * 16) + ((digitF (hereF tx len r2.1) (16 : Int32)).toNatClampNeg)))) dX2_readNumber_119 (lN_add (r2.2.2.1 * 16) ((digitF (hereF tx len r2.1) (16 : Int32)).toNatClampNeg)) ?_
                    refine Z.put C in2 0 rfl rfl 5 (by decide) tyX2 tyX2_ok nmX2 (by decide +kernel) rfl rfl rfl rfl (Nat.le_of_ble_eq_true rfl) dX2_readNumber_120 (w' := (wR aR aT aC aK aF aS cC cI tx len (r2.1, r2.2.1, (r2.2.2.1 * 16) + ((digitF (hereF tx len r2.1) (16 : Int32)).toNatClampNeg), r2.2.2.2))) rfl ?_
                    refine Z.iinc C (v := (nI (dg + 1))) (lv' := [(9, .int (nI (dg + 1))), (8, .int (nI 8)), (7, .int (nI 16)), (5, .int (nI r.1)), (0, .ref aR), (1, .long (lN p0)), (3, .long (lN p1))]) dX2_readNumber_123 0 rfl (nI_add dg 1) (by decide) rfl ?_
                    refine Z.aload_n C dX2_readNumber_126 4 rfl rfl ?_
                    refine Z.dup C dX2_readNumber_127 rfl ?_
                    refine Z.get C in2 0 rfl rfl 3 (by decide) (by decide +kernel) rfl rfl dX2_readNumber_128 ?_
                    refine Z.iconst C (v := (nI 1)) dX2_readNumber_131 (by decide) ?_
                    refine Z.iadd C (v := (nI (r2.1 + 1))) dX2_readNumber_132 (nI_add r2.1 1) ?_
                    refine Z.put C in2 0 rfl rfl 3 (by decide) tyX2 tyX2_ok nmX2 (by decide +kernel) rfl rfl rfl rfl (Nat.le_of_ble_eq_true rfl) dX2_readNumber_133 (w' := (wR aR aT aC aK aF aS cC cI tx len (r2.1 + 1, r2.2.1, (r2.2.2.1 * 16) + ((digitF (hereF tx len r2.1) (16 : Int32)).toNatClampNeg), r2.2.2.2))) rfl ?_
                    refine Z.goto C 73 dX2_readNumber_136 (by decide) ?_
                    refine Z.sub [0, 1, 2, 3, 4, 5, 6] rfl ?_
                    exact ih73 (dg + 1) (r2.1 + 1, r2.2.1, (r2.2.2.1 * 16) + ((digitF (hereF tx len r2.1) (16 : Int32)).toNatClampNeg), r2.2.2.2) (by omega) ⟨by first | omega | (dsimp only; omega), by omega, by first | omega | (dsimp only [csz]; omega), by first | omega | (dsimp only; omega)⟩ (by rw [hm73, mNumLoop]; simp [(eq_true c26), (eq_true c31)])
          refine Z.sub [0, 1, 2, 4, 5, 6, 7] rfl ?_
          exact key73 480 0 (r.1 + 1, r.2.1, 0, r.2.2.2) (by omega) ⟨by first | omega | (dsimp only; omega), by omega, by first | omega | (dsimp only [csz]; omega), by first | omega | (dsimp only; omega)⟩ (by simp [mNumber, (eq_true c1), (eq_false c17), (eq_false c18), (eq_false c19)])
