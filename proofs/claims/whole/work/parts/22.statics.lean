set_option maxHeartbeats 4000000 in
set_option maxRecDepth 100000 in
theorem c_ofOne {l : Launch} {D : va_G} (p0 : Int32) (p1 : Int32) (p2 : Int32) : Mi l yX3_ofOne wsX3_ofOne 0 D [] [.int p0, .int p1, .int p2] [] (ofOneF p0 p1 p2) [] := by
  refine Mi.of (cc := cX3_ofOne) (maxL := 3) (by decide) rfl (Nat.le_of_ble_eq_true rfl) ?_
  intro p e s m below meth c A C hr hA
  show Z p l e (rmN _) s m _ below meth c _ D A _ _ [(0, .int p0), (1, .int p1), (2, .int p2)] 0 []
  refine Z.iload_n C dX3_ofOne_0 0 rfl rfl ?_
  by_cases s1 : p0 = 60
  · refine Z.lookup C (off := 27) 28 dX3_ofOne_1 (by decide) (by rw [s1]; decide) (by decide) ?_
    refine Z.iload_n C dX3_ofOne_28 1 rfl rfl ?_
    refine Z.iload_n C dX3_ofOne_29 2 rfl rfl ?_
    refine Z.ishl C (v := (p1 <<< (p2 &&& 31))) dX3_ofOne_30 rfl ?_
    refine Z.iload_n C dX3_ofOne_31 1 rfl rfl ?_
    refine Z.bipush C (v := (nI 32)) dX3_ofOne_32 (by decide) ?_
    refine Z.iload_n C dX3_ofOne_34 2 rfl rfl ?_
    refine Z.isub C (v := ((32 : Int32) - p2)) dX3_ofOne_35 rfl ?_
    refine Z.iushr C (v := ((p1.toUInt32 >>> (((32 : Int32) - p2).toUInt32 &&& Int32.toUInt32 31)).toInt32)) dX3_ofOne_36 rfl ?_
    refine Z.ior C (v := ((p1 <<< (p2 &&& 31)) ||| ((p1.toUInt32 >>> (((32 : Int32) - p2).toUInt32 &&& Int32.toUInt32 31)).toInt32))) dX3_ofOne_37 rfl ?_
    refine Z.iret C hr hA dX3_ofOne_38 ?_ ?_
    · first | rfl | (simp [nI_0, ofOneF, (eq_true s1)]; done) | (simp_all [nI_0, ofOneF]; done)
    · rfl
  by_cases s2 : p0 = 62
  · refine Z.lookup C (off := 38) 39 dX3_ofOne_1 (by decide) (by rw [s2]; decide) (by decide) ?_
    refine Z.iload_n C dX3_ofOne_39 1 rfl rfl ?_
    refine Z.iload_n C dX3_ofOne_40 2 rfl rfl ?_
    refine Z.iushr C (v := ((p1.toUInt32 >>> (p2.toUInt32 &&& Int32.toUInt32 31)).toInt32)) dX3_ofOne_41 rfl ?_
    refine Z.iret C hr hA dX3_ofOne_42 ?_ ?_
    · first | rfl | (simp [nI_0, ofOneF, (eq_false s1), (eq_true s2)]; done) | (simp_all [nI_0, ofOneF]; done)
    · rfl
  · refine Z.lookup C (off := 42) 43 dX3_ofOne_1 (by decide) (by show Op.lookupswitch.offset [(60, 27), (62, 38)] _ _ = _; rw [lv_osw s1 (k := 60) (by decide), lv_osw s2 (k := 62) (by decide)]; rfl) (by decide) ?_
    refine Z.iload_n C dX3_ofOne_43 1 rfl rfl ?_
    refine Z.iconst C (v := (-1)) dX3_ofOne_44 (by decide) ?_
    refine Z.ixor C (v := (p1 ^^^ (-1))) dX3_ofOne_45 rfl ?_
    refine Z.iret C hr hA dX3_ofOne_46 ?_ ?_
    · first | rfl | (simp [nI_0, ofOneF, (eq_false s1), (eq_false s2)]; done) | (simp_all [nI_0, ofOneF]; done)
    · rfl
set_option maxHeartbeats 4000000 in
set_option maxRecDepth 100000 in
theorem c_ofTwo {l : Launch} {D : va_G} (p0 : Int32) (p1 : Int32) (p2 : Int32) : Mi l yX3_ofTwo wsX3_ofTwo 0 D [] [.int p0, .int p1, .int p2] [] (ofTwoF p0 p1 p2) [] := by
  refine Mi.of (cc := cX3_ofTwo) (maxL := 3) (by decide) rfl (Nat.le_of_ble_eq_true rfl) ?_
  intro p e s m below meth c A C hr hA
  show Z p l e (rmN _) s m _ below meth c _ D A _ _ [(0, .int p0), (1, .int p1), (2, .int p2)] 0 []
  refine Z.iload_n C dX3_ofTwo_0 0 rfl rfl ?_
  by_cases s1 : p0 = 38
  · refine Z.lookup C (off := 63) 64 dX3_ofTwo_1 (by decide) (by rw [s1]; decide) (by decide) ?_
    refine Z.iload_n C dX3_ofTwo_64 1 rfl rfl ?_
    refine Z.iload_n C dX3_ofTwo_65 2 rfl rfl ?_
    refine Z.iand C (v := (p1 &&& p2)) dX3_ofTwo_66 rfl ?_
    refine Z.iret C hr hA dX3_ofTwo_67 ?_ ?_
    · first | rfl | (simp [nI_0, ofTwoF, (eq_true s1)]; done) | (simp_all [nI_0, ofTwoF]; done)
    · rfl
  by_cases s2 : p0 = 42
  · refine Z.lookup C (off := 59) 60 dX3_ofTwo_1 (by decide) (by rw [s2]; decide) (by decide) ?_
    refine Z.iload_n C dX3_ofTwo_60 1 rfl rfl ?_
    refine Z.iload_n C dX3_ofTwo_61 2 rfl rfl ?_
    refine Z.imul C (v := (p1 * p2)) dX3_ofTwo_62 rfl ?_
    refine Z.iret C hr hA dX3_ofTwo_63 ?_ ?_
    · first | rfl | (simp [nI_0, ofTwoF, (eq_false s1), (eq_true s2)]; done) | (simp_all [nI_0, ofTwoF]; done)
    · rfl
  by_cases s3 : p0 = 43
  · refine Z.lookup C (off := 51) 52 dX3_ofTwo_1 (by decide) (by rw [s3]; decide) (by decide) ?_
    refine Z.iload_n C dX3_ofTwo_52 1 rfl rfl ?_
    refine Z.iload_n C dX3_ofTwo_53 2 rfl rfl ?_
    refine Z.iadd C (v := (p1 + p2)) dX3_ofTwo_54 rfl ?_
    refine Z.iret C hr hA dX3_ofTwo_55 ?_ ?_
    · first | rfl | (simp [nI_0, ofTwoF, (eq_false s1), (eq_false s2), (eq_true s3)]; done) | (simp_all [nI_0, ofTwoF]; done)
    · rfl
  by_cases s4 : p0 = 45
  · refine Z.lookup C (off := 55) 56 dX3_ofTwo_1 (by decide) (by rw [s4]; decide) (by decide) ?_
    refine Z.iload_n C dX3_ofTwo_56 1 rfl rfl ?_
    refine Z.iload_n C dX3_ofTwo_57 2 rfl rfl ?_
    refine Z.isub C (v := (p1 - p2)) dX3_ofTwo_58 rfl ?_
    refine Z.iret C hr hA dX3_ofTwo_59 ?_ ?_
    · first | rfl | (simp [nI_0, ofTwoF, (eq_false s1), (eq_false s2), (eq_false s3), (eq_true s4)]; done) | (simp_all [nI_0, ofTwoF]; done)
    · rfl
  by_cases s5 : p0 = 124
  · refine Z.lookup C (off := 67) 68 dX3_ofTwo_1 (by decide) (by rw [s5]; decide) (by decide) ?_
    refine Z.iload_n C dX3_ofTwo_68 1 rfl rfl ?_
    refine Z.iload_n C dX3_ofTwo_69 2 rfl rfl ?_
    refine Z.ior C (v := (p1 ||| p2)) dX3_ofTwo_70 rfl ?_
    refine Z.iret C hr hA dX3_ofTwo_71 ?_ ?_
    · first | rfl | (simp [nI_0, ofTwoF, (eq_false s1), (eq_false s2), (eq_false s3), (eq_false s4), (eq_true s5)]; done) | (simp_all [nI_0, ofTwoF]; done)
    · rfl
  · refine Z.lookup C (off := 71) 72 dX3_ofTwo_1 (by decide) (by show Op.lookupswitch.offset [(38, 63), (42, 59), (43, 51), (45, 55), (124, 67)] _ _ = _; rw [lv_osw s1 (k := 38) (by decide), lv_osw s2 (k := 42) (by decide), lv_osw s3 (k := 43) (by decide), lv_osw s4 (k := 45) (by decide), lv_osw s5 (k := 124) (by decide)]; rfl) (by decide) ?_
    refine Z.iload_n C dX3_ofTwo_72 1 rfl rfl ?_
    refine Z.iload_n C dX3_ofTwo_73 2 rfl rfl ?_
    refine Z.ixor C (v := (p1 ^^^ p2)) dX3_ofTwo_74 rfl ?_
    refine Z.iret C hr hA dX3_ofTwo_75 ?_ ?_
    · first | rfl | (simp [nI_0, ofTwoF, (eq_false s1), (eq_false s2), (eq_false s3), (eq_false s4), (eq_false s5)]; done) | (simp_all [nI_0, ofTwoF]; done)
    · rfl
set_option maxHeartbeats 4000000 in
set_option maxRecDepth 100000 in
theorem c_nameOf {l : Launch} {D : va_G} (p0 : Int32) : Mi l yX2_nameOf wsX2_nameOf 0 D [] [.int p0] [] (nameF p0) [] := by
  refine Mi.of (cc := cX2_nameOf) (maxL := 1) (by decide) rfl (Nat.le_of_ble_eq_true rfl) ?_
  intro p e s m below meth c A C hr hA
  show Z p l e (rmN _) s m _ below meth c _ D A _ _ [(0, .int p0)] 0 []
  refine Z.iload_n C dX2_nameOf_0 0 rfl rfl ?_
  refine Z.bipush C (v := (nI 97)) dX2_nameOf_1 (by decide) ?_
  refine Z.icmp_lt C 19 dX2_nameOf_3 (by decide) (fun c1 => ?_) (fun c1 => ?_)
  · skip
    replace c1 : ¬ (97 : Int32) ≤ p0 := Int32.not_le.mpr c1
    refine Z.iconst C (v := (-1)) dX2_nameOf_19 (by decide) ?_
    refine Z.iret C hr hA dX2_nameOf_20 ?_ ?_
    · first | rfl | (simp [nI_0, nameF, (eq_false c1)]; done) | (simp_all [nI_0, nameF]; done)
    · rfl
  · skip
    replace c1 : (97 : Int32) ≤ p0 := Int32.not_lt.mp c1
    refine Z.iload_n C dX2_nameOf_6 0 rfl rfl ?_
    refine Z.bipush C (v := (nI 122)) dX2_nameOf_7 (by decide) ?_
    refine Z.icmp_gt C 19 dX2_nameOf_9 (by decide) (fun c2 => ?_) (fun c2 => ?_)
    · skip
      replace c2 : ¬ p0 ≤ (122 : Int32) := Int32.not_le.mpr c2
      refine Z.iconst C (v := (-1)) dX2_nameOf_19 (by decide) ?_
      refine Z.iret C hr hA dX2_nameOf_20 ?_ ?_
      · first | rfl | (simp [nI_0, nameF, (eq_true c1), (eq_false c2)]; done) | (simp_all [nI_0, nameF]; done)
      · rfl
    · skip
      replace c2 : p0 ≤ (122 : Int32) := Int32.not_lt.mp c2
      refine Z.iload_n C dX2_nameOf_12 0 rfl rfl ?_
      refine Z.bipush C (v := (nI 97)) dX2_nameOf_13 (by decide) ?_
      refine Z.isub C (v := (p0 - (97 : Int32))) dX2_nameOf_15 rfl ?_
      refine Z.goto C 20 dX2_nameOf_16 (by decide) ?_
      refine Z.iret C hr hA dX2_nameOf_20 ?_ ?_
      · first | rfl | (simp [nI_0, nameF, (eq_true c1), (eq_true c2)]; done) | (simp_all [nI_0, nameF]; done)
      · rfl
