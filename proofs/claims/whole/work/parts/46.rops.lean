def turnF (w n : Int32) : Int32 := (w <<< (n &&& 31)) ||| (w.toUInt32 >>> (((32 : Int32) - n).toUInt32 &&& Int32.toUInt32 31)).toInt32
def rEnd (op v : Int32) (o : OS) : OS := if op = 7 then (o.1, o.2.1, o.2.2.1, o.2.2.2.1, o.2.2.2.2.1, upd o.2.2.2.2.2.1 v.toNatClampNeg (o.2.2.2.2.2.2.2.2.2.2.2.2.1 (o.2.2.2.2.2.2.2.2.2.2.2.2.2 - 1)), o.2.2.2.2.2.2.1, o.2.2.2.2.2.2.2.1, o.2.2.2.2.2.2.2.2.1, o.2.2.2.2.2.2.2.2.2.1, o.2.2.2.2.2.2.2.2.2.2.1, o.2.2.2.2.2.2.2.2.2.2.2.1, o.2.2.2.2.2.2.2.2.2.2.2.2.1, o.2.2.2.2.2.2.2.2.2.2.2.2.2 - 1) else if isAddrF (o.2.2.2.2.2.2.2.2.2.2.2.2.1 (o.2.2.2.2.2.2.2.2.2.2.2.2.2 - 1 - 1)) = true then (o.1, o.2.1, o.2.2.1, upd o.2.2.2.1 (o.2.2.2.2.2.2.2.2.2.2.2.2.1 (o.2.2.2.2.2.2.2.2.2.2.2.2.2 - 1 - 1)).toNatClampNeg (o.2.2.2.2.2.2.2.2.2.2.2.2.1 (o.2.2.2.2.2.2.2.2.2.2.2.2.2 - 1)), o.2.2.2.2.1, o.2.2.2.2.2.1, o.2.2.2.2.2.2.1, o.2.2.2.2.2.2.2.1, o.2.2.2.2.2.2.2.2.1, o.2.2.2.2.2.2.2.2.2.1, o.2.2.2.2.2.2.2.2.2.2.1, o.2.2.2.2.2.2.2.2.2.2.2.1, o.2.2.2.2.2.2.2.2.2.2.2.2.1, o.2.2.2.2.2.2.2.2.2.2.2.2.2 - 1 - 1) else (2, o.2.1, o.2.2.1, o.2.2.2.1, o.2.2.2.2.1, o.2.2.2.2.2.1, o.2.2.2.2.2.2.1, o.2.2.2.2.2.2.2.1, o.2.2.2.2.2.2.2.2.1, o.2.2.2.2.2.2.2.2.2.1, o.2.2.2.2.2.2.2.2.2.2.1, o.2.2.2.2.2.2.2.2.2.2.2.1, o.2.2.2.2.2.2.2.2.2.2.2.2.1, o.2.2.2.2.2.2.2.2.2.2.2.2.2 - 1 - 1)
def rReck (op v : Int32) (o : OS) : OS :=
  if op = 0 then (o.1, o.2.1, o.2.2.1, o.2.2.2.1, o.2.2.2.2.1, o.2.2.2.2.2.1, o.2.2.2.2.2.2.1, o.2.2.2.2.2.2.2.1, o.2.2.2.2.2.2.2.2.1, o.2.2.2.2.2.2.2.2.2.1, o.2.2.2.2.2.2.2.2.2.2.1, o.2.2.2.2.2.2.2.2.2.2.2.1, upd o.2.2.2.2.2.2.2.2.2.2.2.2.1 o.2.2.2.2.2.2.2.2.2.2.2.2.2 v, o.2.2.2.2.2.2.2.2.2.2.2.2.2 + 1) else if op = 1 then (o.1, o.2.1, o.2.2.1, o.2.2.2.1, o.2.2.2.2.1, o.2.2.2.2.2.1, o.2.2.2.2.2.2.1, o.2.2.2.2.2.2.2.1, o.2.2.2.2.2.2.2.2.1, o.2.2.2.2.2.2.2.2.2.1, o.2.2.2.2.2.2.2.2.2.2.1, o.2.2.2.2.2.2.2.2.2.2.2.1, upd o.2.2.2.2.2.2.2.2.2.2.2.2.1 o.2.2.2.2.2.2.2.2.2.2.2.2.2 (o.2.2.2.2.2.1 v.toNatClampNeg), o.2.2.2.2.2.2.2.2.2.2.2.2.2 + 1)
  else if op = 6 then (o.1, o.2.1, o.2.2.1, o.2.2.2.1, o.2.2.2.2.1, o.2.2.2.2.2.1, o.2.2.2.2.2.2.1, o.2.2.2.2.2.2.2.1, o.2.2.2.2.2.2.2.2.1, o.2.2.2.2.2.2.2.2.2.1, o.2.2.2.2.2.2.2.2.2.2.1, o.2.2.2.2.2.2.2.2.2.2.2.1, upd o.2.2.2.2.2.2.2.2.2.2.2.2.1 (o.2.2.2.2.2.2.2.2.2.2.2.2.2 - 1 - 1) (ofTwoF v (o.2.2.2.2.2.2.2.2.2.2.2.2.1 (o.2.2.2.2.2.2.2.2.2.2.2.2.2 - 1 - 1)) (o.2.2.2.2.2.2.2.2.2.2.2.2.1 (o.2.2.2.2.2.2.2.2.2.2.2.2.2 - 1))), o.2.2.2.2.2.2.2.2.2.2.2.2.2 - 1)
  else if op = 3 then (o.1, o.2.1, o.2.2.1, o.2.2.2.1, o.2.2.2.2.1, o.2.2.2.2.2.1, o.2.2.2.2.2.2.1, o.2.2.2.2.2.2.2.1, o.2.2.2.2.2.2.2.2.1, o.2.2.2.2.2.2.2.2.2.1, o.2.2.2.2.2.2.2.2.2.2.1, o.2.2.2.2.2.2.2.2.2.2.2.1, upd o.2.2.2.2.2.2.2.2.2.2.2.2.1 (o.2.2.2.2.2.2.2.2.2.2.2.2.2 - 1) (o.2.2.2.2.2.2.2.2.2.2.2.2.1 (o.2.2.2.2.2.2.2.2.2.2.2.2.2 - 1) ^^^ (-1)), o.2.2.2.2.2.2.2.2.2.2.2.2.2)
  else if op = 4 then (o.1, o.2.1, o.2.2.1, o.2.2.2.1, o.2.2.2.2.1, o.2.2.2.2.2.1, o.2.2.2.2.2.2.1, o.2.2.2.2.2.2.2.1, o.2.2.2.2.2.2.2.2.1, o.2.2.2.2.2.2.2.2.2.1, o.2.2.2.2.2.2.2.2.2.2.1, o.2.2.2.2.2.2.2.2.2.2.2.1, upd o.2.2.2.2.2.2.2.2.2.2.2.2.1 (o.2.2.2.2.2.2.2.2.2.2.2.2.2 - 1) (turnF (o.2.2.2.2.2.2.2.2.2.2.2.2.1 (o.2.2.2.2.2.2.2.2.2.2.2.2.2 - 1)) v), o.2.2.2.2.2.2.2.2.2.2.2.2.2)
  else if op = 5 then (o.1, o.2.1, o.2.2.1, o.2.2.2.1, o.2.2.2.2.1, o.2.2.2.2.2.1, o.2.2.2.2.2.2.1, o.2.2.2.2.2.2.2.1, o.2.2.2.2.2.2.2.2.1, o.2.2.2.2.2.2.2.2.2.1, o.2.2.2.2.2.2.2.2.2.2.1, o.2.2.2.2.2.2.2.2.2.2.2.1, upd o.2.2.2.2.2.2.2.2.2.2.2.2.1 (o.2.2.2.2.2.2.2.2.2.2.2.2.2 - 1) ((o.2.2.2.2.2.2.2.2.2.2.2.2.1 (o.2.2.2.2.2.2.2.2.2.2.2.2.2 - 1)).toUInt32 >>> (v.toUInt32 &&& Int32.toUInt32 31)).toInt32, o.2.2.2.2.2.2.2.2.2.2.2.2.2)
  else if isAddrF (o.2.2.2.2.2.2.2.2.2.2.2.2.1 (o.2.2.2.2.2.2.2.2.2.2.2.2.2 - 1)) = true then (o.1, o.2.1, o.2.2.1, o.2.2.2.1, o.2.2.2.2.1, o.2.2.2.2.2.1, o.2.2.2.2.2.2.1, o.2.2.2.2.2.2.2.1, o.2.2.2.2.2.2.2.2.1, o.2.2.2.2.2.2.2.2.2.1, o.2.2.2.2.2.2.2.2.2.2.1, o.2.2.2.2.2.2.2.2.2.2.2.1, upd o.2.2.2.2.2.2.2.2.2.2.2.2.1 (o.2.2.2.2.2.2.2.2.2.2.2.2.2 - 1) (o.2.2.2.1 (o.2.2.2.2.2.2.2.2.2.2.2.2.1 (o.2.2.2.2.2.2.2.2.2.2.2.2.2 - 1)).toNatClampNeg), o.2.2.2.2.2.2.2.2.2.2.2.2.2) else (2, o.2)
def bcL : Nat → Nat → OS → OS
  | 0, _, o => o
  | n + 1, i, o => bcL n (i + 1) (o.1, o.2.1, o.2.2.1, o.2.2.2.1, upd o.2.2.2.2.1 i (o.2.2.2.1 i), o.2.2.2.2.2)
def zL : Nat → Nat → OS → OS
  | 0, _, o => o
  | n + 1, i, o => zL n (i + 1) (o.1, o.2.1, o.2.2.1, o.2.2.2.1, o.2.2.2.2.1, upd o.2.2.2.2.2.1 i 0, o.2.2.2.2.2.2)
def rsL : Nat → Nat → OS → OS
  | 0, _, o => o
  | n + 1, i, o => rsL n (i + 1) (o.1, o.2.1, o.2.2.1, upd o.2.2.2.1 i (o.2.2.2.2.1 i), o.2.2.2.2)
def enL : Nat → Nat → OS → OS
  | 0, _, o => o
  | n + 1, i, o => enL n (i + 1) (o.1, o.2.1, o.2.2.1, o.2.2.2.1, o.2.2.2.2.1, o.2.2.2.2.2.1, upd o.2.2.2.2.2.2.1 i (o.2.2.2.2.2.1 i), o.2.2.2.2.2.2.2)
def rS2 (o : OS) : OS := (o.1, o.2.1, o.2.2.1, o.2.2.2.1, o.2.2.2.2.1, o.2.2.2.2.2.1, o.2.2.2.2.2.2.1, o.2.2.2.2.2.2.2.1, o.2.2.2.2.2.2.2.2.1, o.2.2.2.2.2.2.2.2.2.1, o.2.2.2.2.2.2.2.2.2.2.1, o.2.2.2.2.2.2.2.2.2.2.2.1, o.2.2.2.2.2.2.2.2.2.2.2.2.1, 0)
def rStart (o : OS) : OS := rS2 (zL 26 0 (bcL 192 0 (0, o.2)))
abbrev RX : Type := Int32 × Nat × OS
def rOp (x : RX) : Int32 := x.2.2.2.2.2.2.2.2.2.1 x.1.toNatClampNeg
def rVal (x : RX) : Int32 := x.2.2.2.2.2.2.2.2.2.2.1 x.1.toNatClampNeg
def rNm (x : RX) : Int32 := x.2.2.2.2.2.2.2.2.2.2.1 (rVal x - 2).toNatClampNeg
def rStep (x : RX) : RX :=
  if rOp x = 10 then (x.1 + 1 + 1, x.2.1, (x.2.2.1, x.2.2.2.1, x.2.2.2.2.1, x.2.2.2.2.2.1, x.2.2.2.2.2.2.1, upd x.2.2.2.2.2.2.2.1 (rVal x).toNatClampNeg 0, x.2.2.2.2.2.2.2.2))
  else if rOp x = 11 then (if x.2.2.2.2.2.2.2.2.2.1 (rVal x - 1).toNatClampNeg ≤ x.2.2.2.2.2.2.2.1 (rNm x).toNatClampNeg + 1 then (x.1 + 1, x.2) else (rVal x, x.2.1, (x.2.2.1, x.2.2.2.1, x.2.2.2.2.1, x.2.2.2.2.2.1, x.2.2.2.2.2.2.1, upd x.2.2.2.2.2.2.2.1 (rNm x).toNatClampNeg (x.2.2.2.2.2.2.2.1 (rNm x).toNatClampNeg + 1), x.2.2.2.2.2.2.2.2)))
  else if rOp x = 9 then (if x.2.2.2.2.2.2.2.2.2.2.2.2.2.2.1 (x.2.2.2.2.2.2.2.2.2.2.2.2.2.2.2 - 1) = 0 then rVal x else x.1 + 1, x.2.1, (x.2.2.1, x.2.2.2.1, x.2.2.2.2.1, x.2.2.2.2.2.1, x.2.2.2.2.2.2.1, x.2.2.2.2.2.2.2.1, x.2.2.2.2.2.2.2.2.1, x.2.2.2.2.2.2.2.2.2.1, x.2.2.2.2.2.2.2.2.2.2.1, x.2.2.2.2.2.2.2.2.2.2.2.1, x.2.2.2.2.2.2.2.2.2.2.2.2.1, x.2.2.2.2.2.2.2.2.2.2.2.2.2.1, x.2.2.2.2.2.2.2.2.2.2.2.2.2.2.1, x.2.2.2.2.2.2.2.2.2.2.2.2.2.2.2 - 1))
  else if rOp x = 7 ∨ rOp x = 8 then (x.1 + 1, x.2.1 + 1, rEnd (rOp x) (rVal x) x.2.2)
  else (x.1 + 1, x.2.1, rReck (rOp x) (rVal x) x.2.2)
def rStop (x : RX) : Prop := nI x.2.2.2.2.2.2.2.2.2.2.2.1 ≤ x.1 ∨ ¬ x.2.2.1 = 0
def rName (v : Int32) : Prop := 0 ≤ v ∧ ¬ (26 : Int32) ≤ v
def rPlace (v : Int32) : Prop := 0 ≤ v ∧ ¬ (1000 : Int32) ≤ v
/-- what a step needs, so that no index is outside of its row -/
def rPre (x : RX) : Prop := x.2.2.1 ≤ 2 ∧ rPlace x.1 ∧ x.2.2.2.2.2.2.2.2.2.2.2.2.2.2.2 ≤ 500 ∧ (rOp x = 10 → rName (rVal x)) ∧ (rOp x = 11 → rPlace (rVal x - 2) ∧ rPlace (rVal x - 1) ∧ rName (rNm x)) ∧ (rOp x = 9 → 1 ≤ x.2.2.2.2.2.2.2.2.2.2.2.2.2.2.2) ∧ (rOp x = 7 → 1 ≤ x.2.2.2.2.2.2.2.2.2.2.2.2.2.2.2 ∧ rName (rVal x)) ∧ (rOp x = 8 → 2 ≤ x.2.2.2.2.2.2.2.2.2.2.2.2.2.2.2) ∧ (rOp x = 1 → rName (rVal x)) ∧ (rOp x = 6 → 2 ≤ x.2.2.2.2.2.2.2.2.2.2.2.2.2.2.2) ∧ (¬ rOp x = 0 → ¬ rOp x = 1 → ¬ rOp x = 10 → ¬ rOp x = 11 → 1 ≤ x.2.2.2.2.2.2.2.2.2.2.2.2.2.2.2)
def rRuns : Nat → RX → Prop
  | 0, x => rStop x ∧ x.2.2.1 ≤ 2
  | n + 1, x => ¬ rStop x ∧ rPre x ∧ rRuns n (rStep x)
def rIter : Nat → RX → RX
  | 0, x => x
  | n + 1, x => rIter n (rStep x)
def rFin (x : RX) : Int32 × OS := if 0 < x.2.2.1 then (0, rsL 192 0 x.2.2) else (nI x.2.1, enL 26 0 x.2.2)
def rRun (n : Nat) (o : OS) : Int32 × OS := if o.2.2.2.2.2.2.2.2.2.2.2.1 = true then rFin (rIter n (nI 0, 0, rStart o)) else (0, (1, o.2))

set_option maxHeartbeats 4000000 in
set_option maxRecDepth 100000 in
theorem c_operated {l : Launch} {D : va_G} (p0 : Int32) (p1 : Int32) (p2 : Int32) : Mi l yX4_operated wsX4_operated 0 D [] [.int p0, .int p1, .int p2] [] (ofTwoF p0 p1 p2) [] := by
  refine Mi.of (cc := cX4_operated) (maxL := 3) (by decide) rfl (Nat.le_of_ble_eq_true rfl) ?_
  intro p e s m below meth c A C hr hA
  show Z p l e (rmN _) s m _ below meth c _ D A _ _ [(0, .int p0), (1, .int p1), (2, .int p2)] 0 []
  refine Z.iload_n C dX4_operated_0 0 rfl rfl ?_
  by_cases s1 : p0 = 38
  · refine Z.lookup C (off := 63) 64 dX4_operated_1 (by decide) (by rw [s1]; decide) (by decide) ?_
    refine Z.iload_n C dX4_operated_64 1 rfl rfl ?_
    refine Z.iload_n C dX4_operated_65 2 rfl rfl ?_
    refine Z.iand C (v := (p1 &&& p2)) dX4_operated_66 rfl ?_
    refine Z.iret C hr hA dX4_operated_67 ?_ ?_
    · first | rfl | (simp [nI_0, ofTwoF, (eq_true s1)]; done) | (simp_all [nI_0, ofTwoF]; done)
    · rfl
  by_cases s2 : p0 = 42
  · refine Z.lookup C (off := 59) 60 dX4_operated_1 (by decide) (by rw [s2]; decide) (by decide) ?_
    refine Z.iload_n C dX4_operated_60 1 rfl rfl ?_
    refine Z.iload_n C dX4_operated_61 2 rfl rfl ?_
    refine Z.imul C (v := (p1 * p2)) dX4_operated_62 rfl ?_
    refine Z.iret C hr hA dX4_operated_63 ?_ ?_
    · first | rfl | (simp [nI_0, ofTwoF, (eq_false s1), (eq_true s2)]; done) | (simp_all [nI_0, ofTwoF]; done)
    · rfl
  by_cases s3 : p0 = 43
  · refine Z.lookup C (off := 51) 52 dX4_operated_1 (by decide) (by rw [s3]; decide) (by decide) ?_
    refine Z.iload_n C dX4_operated_52 1 rfl rfl ?_
    refine Z.iload_n C dX4_operated_53 2 rfl rfl ?_
    refine Z.iadd C (v := (p1 + p2)) dX4_operated_54 rfl ?_
    refine Z.iret C hr hA dX4_operated_55 ?_ ?_
    · first | rfl | (simp [nI_0, ofTwoF, (eq_false s1), (eq_false s2), (eq_true s3)]; done) | (simp_all [nI_0, ofTwoF]; done)
    · rfl
  by_cases s4 : p0 = 45
  · refine Z.lookup C (off := 55) 56 dX4_operated_1 (by decide) (by rw [s4]; decide) (by decide) ?_
    refine Z.iload_n C dX4_operated_56 1 rfl rfl ?_
    refine Z.iload_n C dX4_operated_57 2 rfl rfl ?_
    refine Z.isub C (v := (p1 - p2)) dX4_operated_58 rfl ?_
    refine Z.iret C hr hA dX4_operated_59 ?_ ?_
    · first | rfl | (simp [nI_0, ofTwoF, (eq_false s1), (eq_false s2), (eq_false s3), (eq_true s4)]; done) | (simp_all [nI_0, ofTwoF]; done)
    · rfl
  by_cases s5 : p0 = 124
  · refine Z.lookup C (off := 67) 68 dX4_operated_1 (by decide) (by rw [s5]; decide) (by decide) ?_
    refine Z.iload_n C dX4_operated_68 1 rfl rfl ?_
    refine Z.iload_n C dX4_operated_69 2 rfl rfl ?_
    refine Z.ior C (v := (p1 ||| p2)) dX4_operated_70 rfl ?_
    refine Z.iret C hr hA dX4_operated_71 ?_ ?_
    · first | rfl | (simp [nI_0, ofTwoF, (eq_false s1), (eq_false s2), (eq_false s3), (eq_false s4), (eq_true s5)]; done) | (simp_all [nI_0, ofTwoF]; done)
    · rfl
  · refine Z.lookup C (off := 71) 72 dX4_operated_1 (by decide) (by show Op.lookupswitch.offset [(38, 63), (42, 59), (43, 51), (45, 55), (124, 67)] _ _ = _; rw [lv_osw s1 (k := 38) (by decide), lv_osw s2 (k := 42) (by decide), lv_osw s3 (k := 43) (by decide), lv_osw s4 (k := 45) (by decide), lv_osw s5 (k := 124) (by decide)]; rfl) (by decide) ?_
    refine Z.iload_n C dX4_operated_72 1 rfl rfl ?_
    refine Z.iload_n C dX4_operated_73 2 rfl rfl ?_
    refine Z.ixor C (v := (p1 ^^^ p2)) dX4_operated_74 rfl ?_
    refine Z.iret C hr hA dX4_operated_75 ?_ ?_
    · first | rfl | (simp [nI_0, ofTwoF, (eq_false s1), (eq_false s2), (eq_false s3), (eq_false s4), (eq_false s5)]; done) | (simp_all [nI_0, ofTwoF]; done)
    · rfl
set_option maxHeartbeats 4000000 in
set_option maxRecDepth 100000 in
theorem c_turnedN {l : Launch} {D : va_G} (p0 : Int32) (p1 : Int32) : Mi l yX4_turned wsX4_turned 0 D [] [.int p0, .int p1] [] (turnF p0 p1) [] := by
  refine Mi.of (cc := cX4_turned) (maxL := 2) (by decide) rfl (Nat.le_of_ble_eq_true rfl) ?_
  intro p e s m below meth c A C hr hA
  show Z p l e (rmN _) s m _ below meth c _ D A _ _ [(0, .int p0), (1, .int p1)] 0 []
  refine Z.iload_n C dX4_turned_0 0 rfl rfl ?_
  refine Z.iload_n C dX4_turned_1 1 rfl rfl ?_
  refine Z.ishl C (v := (p0 <<< (p1 &&& 31))) dX4_turned_2 rfl ?_
  refine Z.iload_n C dX4_turned_3 0 rfl rfl ?_
  refine Z.bipush C (v := (nI 32)) dX4_turned_4 (by decide) ?_
  refine Z.iload_n C dX4_turned_6 1 rfl rfl ?_
  refine Z.isub C (v := ((32 : Int32) - p1)) dX4_turned_7 rfl ?_
  refine Z.iushr C (v := ((p0.toUInt32 >>> (((32 : Int32) - p1).toUInt32 &&& Int32.toUInt32 31)).toInt32)) dX4_turned_8 rfl ?_
  refine Z.ior C (v := ((p0 <<< (p1 &&& 31)) ||| ((p0.toUInt32 >>> (((32 : Int32) - p1).toUInt32 &&& Int32.toUInt32 31)).toInt32))) dX4_turned_9 rfl ?_
  refine Z.iret C hr hA dX4_turned_10 ?_ ?_
  · first | rfl | (simp [nI_0, turnF]; done) | (simp_all [nI_0, turnF]; done)
  · rfl
set_option maxHeartbeats 4000000 in
set_option maxRecDepth 100000 in
theorem c_isAddressN {l : Launch} {D : va_G} (p0 : Int32) : Mi l yX4_isAddress wsX4_isAddress 0 D [] [.int p0] [] (b2i (isAddrF p0)) [] := by
  refine Mi.of (cc := cX4_isAddress) (maxL := 1) (by decide) rfl (Nat.le_of_ble_eq_true rfl) ?_
  intro p e s m below meth c A C hr hA
  show Z p l e (rmN _) s m _ below meth c _ D A _ _ [(0, .int p0)] 0 []
  refine Z.iload_n C dX4_isAddress_0 0 rfl rfl ?_
  refine Z.if_lt C 15 dX4_isAddress_1 (by decide) (fun c1 => ?_) (fun c1 => ?_)
  · skip
    replace c1 : ¬ (0 : Int32) ≤ p0 := Int32.not_le.mpr c1
    refine Z.iconst C (v := (nI 0)) dX4_isAddress_15 (by decide) ?_
    refine Z.zret C hr hA dX4_isAddress_16 (b := false) rfl ?_ ?_
    · first | rfl | (simp [nI_0, isAddrF, (eq_false c1)]; done) | (simp_all [nI_0, isAddrF]; done)
    · rfl
  · skip
    replace c1 : (0 : Int32) ≤ p0 := Int32.not_lt.mp c1
    refine Z.iload_n C dX4_isAddress_4 0 rfl rfl ?_
    refine Z.sipush C (v := (nI 192)) dX4_isAddress_5 (by decide) ?_
    refine Z.icmp_ge C 15 dX4_isAddress_8 (by decide) (fun c2 => ?_) (fun c2 => ?_)
    · skip
      replace c2 : (192 : Int32) ≤ p0 := c2
      refine Z.iconst C (v := (nI 0)) dX4_isAddress_15 (by decide) ?_
      refine Z.zret C hr hA dX4_isAddress_16 (b := false) rfl ?_ ?_
      · first | rfl | (simp [nI_0, isAddrF, (eq_true c1), (eq_true c2)]; done) | (simp_all [nI_0, isAddrF]; done)
      · rfl
    · skip
      replace c2 : ¬ (192 : Int32) ≤ p0 := c2
      refine Z.iconst C (v := (nI 1)) dX4_isAddress_11 (by decide) ?_
      refine Z.goto C 16 dX4_isAddress_12 (by decide) ?_
      refine Z.zret C hr hA dX4_isAddress_16 (b := true) rfl ?_ ?_
      · first | rfl | (simp [nI_0, isAddrF, (eq_true c1), (eq_false c2)]; done) | (simp_all [nI_0, isAddrF]; done)
      · rfl
set_option maxHeartbeats 4000000 in
set_option maxRecDepth 100000 in
theorem c_endN {l : Launch} {D : va_G} {a : Nat → Nat} {cI cZ : ClassId} (o : OS) (q : QS) (p0 : Int32) (p1 : Int32) (ht : 1 ≤ o.2.2.2.2.2.2.2.2.2.2.2.2.2 ∧ o.2.2.2.2.2.2.2.2.2.2.2.2.2 ≤ 510) (h7 : p0 = 7 → rName p1) (h8 : ¬ p0 = 7 → 2 ≤ o.2.2.2.2.2.2.2.2.2.2.2.2.2) : Mv l yX4_end wsX4_end 2 D [(cI, .int), (cZ, .boolean)] [.ref (a 0), .int p0, .int p1] (wN a cI cZ o q) (wN a cI cZ (rEnd p0 p1 o) q) := by
  refine Mv.of (cc := cX4_end) (maxL := 4) (by decide) rfl (Nat.le_of_ble_eq_true rfl) ?_
  intro p e s m below meth c A C hr hA
  have in4 : ∀ w ∈ wsX40, w ∈ wsX4_end := by decide +kernel
  show Z p l e (rmN _) s m _ below meth c _ D A _ _ [(0, .ref (a 0)), (1, .int p0), (2, .int p1)] 0 []
  obtain ⟨ht0, ht1⟩ := ht
  refine Z.aload_n C dX4_end_0 0 rfl rfl ?_
  refine Z.dup C dX4_end_1 rfl ?_
  refine Z.get C in4 0 rfl rfl 31 (by decide) (by decide +kernel) rfl rfl dX4_end_2 ?_
  refine Z.iconst C (v := (nI 1)) dX4_end_5 (by decide) ?_
  refine Z.isub C (v := (nI (o.2.2.2.2.2.2.2.2.2.2.2.2.2 - 1))) dX4_end_6 (pk_sub (a := o.2.2.2.2.2.2.2.2.2.2.2.2.2) (b := 1) (by omega)) ?_
  refine Z.put C in4 0 rfl rfl 31 (by decide) tyX4 tyX4_ok nmX4 (by decide +kernel) rfl rfl rfl rfl (Nat.le_of_ble_eq_true rfl) dX4_end_7 (w' := (wN a cI cZ (o.1, o.2.1, o.2.2.1, o.2.2.2.1, o.2.2.2.2.1, o.2.2.2.2.2.1, o.2.2.2.2.2.2.1, o.2.2.2.2.2.2.2.1, o.2.2.2.2.2.2.2.2.1, o.2.2.2.2.2.2.2.2.2.1, o.2.2.2.2.2.2.2.2.2.2.1, o.2.2.2.2.2.2.2.2.2.2.2.1, o.2.2.2.2.2.2.2.2.2.2.2.2.1, o.2.2.2.2.2.2.2.2.2.2.2.2.2 - 1) q)) rfl ?_
  refine Z.aload_n C dX4_end_10 0 rfl rfl ?_
  refine Z.get C in4 0 rfl rfl 30 (by decide) (by decide +kernel) rfl rfl dX4_end_11 ?_
  refine Z.aload_n C dX4_end_14 0 rfl rfl ?_
  refine Z.get C in4 0 rfl rfl 31 (by decide) (by decide +kernel) rfl rfl dX4_end_15 ?_
  refine Z.iald C 16 0 rfl rfl (o.2.2.2.2.2.2.2.2.2.2.2.2.2 - 1) rfl (by omega) (by decide) dX4_end_18 (v := (o.2.2.2.2.2.2.2.2.2.2.2.2.1 (o.2.2.2.2.2.2.2.2.2.2.2.2.2 - 1))) rfl ?_
  refine Z.istore_n C (lv' := [(3, .int (o.2.2.2.2.2.2.2.2.2.2.2.2.1 (o.2.2.2.2.2.2.2.2.2.2.2.2.2 - 1))), (0, .ref (a 0)), (1, .int p0), (2, .int p1)]) dX4_end_19 rfl (by decide) rfl ?_
  refine Z.iload_n C dX4_end_20 2 rfl rfl ?_
  refine Z.bipush C (v := (nI 7)) dX4_end_21 (by decide) ?_
  refine Z.icmp_ne C 34 dX4_end_23 (by decide) (fun c1 => ?_) (fun c1 => ?_)
  · skip
    replace c1 : ¬ p0 = (7 : Int32) := c1
    have ht2 := h8 c1
    refine Z.aload_n C dX4_end_34 1 rfl rfl ?_
    refine Z.dup C dX4_end_35 rfl ?_
    refine Z.get C in4 0 rfl rfl 31 (by decide) (by decide +kernel) rfl rfl dX4_end_36 ?_
    refine Z.iconst C (v := (nI 1)) dX4_end_39 (by decide) ?_
    refine Z.isub C (v := (nI ((o.2.2.2.2.2.2.2.2.2.2.2.2.2 - 1) - 1))) dX4_end_40 (pk_sub (a := o.2.2.2.2.2.2.2.2.2.2.2.2.2 - 1) (b := 1) (by omega)) ?_
    refine Z.put C in4 0 rfl rfl 31 (by decide) tyX4 tyX4_ok nmX4 (by decide +kernel) rfl rfl rfl rfl (Nat.le_of_ble_eq_true rfl) dX4_end_41 (w' := (wN a cI cZ (o.1, o.2.1, o.2.2.1, o.2.2.2.1, o.2.2.2.2.1, o.2.2.2.2.2.1, o.2.2.2.2.2.2.1, o.2.2.2.2.2.2.2.1, o.2.2.2.2.2.2.2.2.1, o.2.2.2.2.2.2.2.2.2.1, o.2.2.2.2.2.2.2.2.2.2.1, o.2.2.2.2.2.2.2.2.2.2.2.1, o.2.2.2.2.2.2.2.2.2.2.2.2.1, (o.2.2.2.2.2.2.2.2.2.2.2.2.2 - 1) - 1) q)) rfl ?_
    refine Z.aload_n C dX4_end_44 1 rfl rfl ?_
    refine Z.get C in4 0 rfl rfl 30 (by decide) (by decide +kernel) rfl rfl dX4_end_45 ?_
    refine Z.aload_n C dX4_end_48 1 rfl rfl ?_
    refine Z.get C in4 0 rfl rfl 31 (by decide) (by decide +kernel) rfl rfl dX4_end_49 ?_
    refine Z.iald C 16 0 rfl rfl ((o.2.2.2.2.2.2.2.2.2.2.2.2.2 - 1) - 1) rfl (by omega) (by decide) dX4_end_52 (v := (o.2.2.2.2.2.2.2.2.2.2.2.2.1 ((o.2.2.2.2.2.2.2.2.2.2.2.2.2 - 1) - 1))) rfl ?_
    refine Z.callSi C (nA := 1) (As := [.int (o.2.2.2.2.2.2.2.2.2.2.2.2.1 ((o.2.2.2.2.2.2.2.2.2.2.2.2.2 - 1) - 1))]) (st := []) (c_isAddressN (o.2.2.2.2.2.2.2.2.2.2.2.2.1 ((o.2.2.2.2.2.2.2.2.2.2.2.2.2 - 1) - 1))) gX4_end_X4_isAddress rfl (by decide +kernel) (rm_ok (by omega) (by decide)) rfl (Nat.le_of_ble_eq_true rfl) rfl dX4_end_53 ?_
    refine Z.if_eq C 77 dX4_end_56 (by decide) (fun c2 => ?_) (fun c2 => ?_)
    · skip
      replace c2 : isAddrF (o.2.2.2.2.2.2.2.2.2.2.2.2.1 ((o.2.2.2.2.2.2.2.2.2.2.2.2.2 - 1) - 1)) = false := b2i_0.mp c2
      refine Z.aload_n C dX4_end_77 1 rfl rfl ?_
      refine Z.iconst C (v := (nI 2)) dX4_end_78 (by decide) ?_
      refine Z.put C in4 0 rfl rfl 0 (by decide) tyX4 tyX4_ok nmX4 (by decide +kernel) rfl rfl rfl rfl (Nat.le_of_ble_eq_true rfl) dX4_end_79 (w' := (wN a cI cZ (2, o.2.1, o.2.2.1, o.2.2.2.1, o.2.2.2.2.1, o.2.2.2.2.2.1, o.2.2.2.2.2.2.1, o.2.2.2.2.2.2.2.1, o.2.2.2.2.2.2.2.2.1, o.2.2.2.2.2.2.2.2.2.1, o.2.2.2.2.2.2.2.2.2.2.1, o.2.2.2.2.2.2.2.2.2.2.2.1, o.2.2.2.2.2.2.2.2.2.2.2.2.1, (o.2.2.2.2.2.2.2.2.2.2.2.2.2 - 1) - 1) q)) rfl ?_
      refine Z.vret C hr hA dX4_end_82 ?_
      (refine congrArg (fun z => wN a cI cZ z q) ?_; first | rfl | (simp [nI_0, rEnd, (eq_false c1), c2]; done) | (simp_all [nI_0, rEnd]; done))
    · skip
      replace c2 : isAddrF (o.2.2.2.2.2.2.2.2.2.2.2.2.1 ((o.2.2.2.2.2.2.2.2.2.2.2.2.2 - 1) - 1)) = true := b2i_n0.mp c2
      have ⟨c2a, c2b⟩ := isAddr_t c2
      refine Z.aload_n C dX4_end_59 1 rfl rfl ?_
      refine Z.get C in4 0 rfl rfl 4 (by decide) (by decide +kernel) rfl rfl dX4_end_60 ?_
      refine Z.aload_n C dX4_end_63 1 rfl rfl ?_
      refine Z.get C in4 0 rfl rfl 30 (by decide) (by decide +kernel) rfl rfl dX4_end_64 ?_
      refine Z.aload_n C dX4_end_67 1 rfl rfl ?_
      refine Z.get C in4 0 rfl rfl 31 (by decide) (by decide +kernel) rfl rfl dX4_end_68 ?_
      refine Z.iald C 16 0 rfl rfl ((o.2.2.2.2.2.2.2.2.2.2.2.2.2 - 1) - 1) rfl (by omega) (by decide) dX4_end_71 (v := (o.2.2.2.2.2.2.2.2.2.2.2.2.1 ((o.2.2.2.2.2.2.2.2.2.2.2.2.2 - 1) - 1))) rfl ?_
      refine Z.iload_n C dX4_end_72 0 rfl rfl ?_
      refine Z.iast C 2 0 rfl rfl ((o.2.2.2.2.2.2.2.2.2.2.2.2.1 ((o.2.2.2.2.2.2.2.2.2.2.2.2.2 - 1) - 1)).toNatClampNeg) (nI_cl (by assumption)) (nI_clb (by assumption) (by omega) (by first | assumption | omega)) (by decide) dX4_end_73 (v := (o.2.2.2.2.2.2.2.2.2.2.2.2.1 (o.2.2.2.2.2.2.2.2.2.2.2.2.2 - 1))) rfl (w' := (wN a cI cZ (o.1, o.2.1, o.2.2.1, (upd o.2.2.2.1 ((o.2.2.2.2.2.2.2.2.2.2.2.2.1 ((o.2.2.2.2.2.2.2.2.2.2.2.2.2 - 1) - 1)).toNatClampNeg) (o.2.2.2.2.2.2.2.2.2.2.2.2.1 (o.2.2.2.2.2.2.2.2.2.2.2.2.2 - 1))), o.2.2.2.2.1, o.2.2.2.2.2.1, o.2.2.2.2.2.2.1, o.2.2.2.2.2.2.2.1, o.2.2.2.2.2.2.2.2.1, o.2.2.2.2.2.2.2.2.2.1, o.2.2.2.2.2.2.2.2.2.2.1, o.2.2.2.2.2.2.2.2.2.2.2.1, o.2.2.2.2.2.2.2.2.2.2.2.2.1, (o.2.2.2.2.2.2.2.2.2.2.2.2.2 - 1) - 1) q)) rfl ?_
      refine Z.goto C 82 dX4_end_74 (by decide) ?_
      refine Z.vret C hr hA dX4_end_82 ?_
      (refine congrArg (fun z => wN a cI cZ z q) ?_; first | rfl | (simp [nI_0, rEnd, (eq_false c1), c2]; done) | (simp_all [nI_0, rEnd]; done))
  · skip
    replace c1 : p0 = (7 : Int32) := c1
    have ⟨hv1, hv2⟩ := h7 c1
    refine Z.aload_n C dX4_end_26 1 rfl rfl ?_
    refine Z.get C in4 0 rfl rfl 6 (by decide) (by decide +kernel) rfl rfl dX4_end_27 ?_
    refine Z.iload_n C dX4_end_30 3 rfl rfl ?_
    refine Z.iload_n C dX4_end_31 0 rfl rfl ?_
    refine Z.iast C 4 0 rfl rfl p1.toNatClampNeg (nI_cl (by assumption)) (nI_clb (by assumption) (by omega) (by first | assumption | omega)) (by decide) dX4_end_32 (v := (o.2.2.2.2.2.2.2.2.2.2.2.2.1 (o.2.2.2.2.2.2.2.2.2.2.2.2.2 - 1))) rfl (w' := (wN a cI cZ (o.1, o.2.1, o.2.2.1, o.2.2.2.1, o.2.2.2.2.1, (upd o.2.2.2.2.2.1 p1.toNatClampNeg (o.2.2.2.2.2.2.2.2.2.2.2.2.1 (o.2.2.2.2.2.2.2.2.2.2.2.2.2 - 1))), o.2.2.2.2.2.2.1, o.2.2.2.2.2.2.2.1, o.2.2.2.2.2.2.2.2.1, o.2.2.2.2.2.2.2.2.2.1, o.2.2.2.2.2.2.2.2.2.2.1, o.2.2.2.2.2.2.2.2.2.2.2.1, o.2.2.2.2.2.2.2.2.2.2.2.2.1, o.2.2.2.2.2.2.2.2.2.2.2.2.2 - 1) q)) rfl ?_
    refine Z.vret C hr hA dX4_end_33 ?_
    (refine congrArg (fun z => wN a cI cZ z q) ?_; first | rfl | (simp [nI_0, rEnd, (eq_true c1)]; done) | (simp_all [nI_0, rEnd]; done))
set_option maxHeartbeats 4000000 in
set_option maxRecDepth 100000 in
theorem c_reckon {l : Launch} {D : va_G} {a : Nat → Nat} {cI cZ : ClassId} (o : OS) (q : QS) (p0 : Int32) (p1 : Int32) (ht : o.2.2.2.2.2.2.2.2.2.2.2.2.2 ≤ 510) (h1 : p0 = 1 → rName p1) (h6 : p0 = 6 → 2 ≤ o.2.2.2.2.2.2.2.2.2.2.2.2.2) (hge : ¬ p0 = 0 → ¬ p0 = 1 → 1 ≤ o.2.2.2.2.2.2.2.2.2.2.2.2.2) : Mv l yX4_reckon wsX4_reckon 2 D [(cI, .int), (cZ, .boolean)] [.ref (a 0), .int p0, .int p1] (wN a cI cZ o q) (wN a cI cZ (rReck p0 p1 o) q) := by
  refine Mv.of (cc := cX4_reckon) (maxL := 4) (by decide) rfl (Nat.le_of_ble_eq_true rfl) ?_
  intro p e s m below meth c A C hr hA
  have in4 : ∀ w ∈ wsX40, w ∈ wsX4_reckon := by decide +kernel
  show Z p l e (rmN _) s m _ below meth c _ D A _ _ [(0, .ref (a 0)), (1, .int p0), (2, .int p1)] 0 []
  refine Z.iload_n C dX4_reckon_0 1 rfl rfl ?_
  refine Z.if_eq C 9 dX4_reckon_1 (by decide) (fun c1 => ?_) (fun c1 => ?_)
  · skip
    replace c1 : p0 = (0 : Int32) := c1
    refine Z.aload_n C dX4_reckon_9 0 rfl rfl ?_
    refine Z.get C in4 0 rfl rfl 30 (by decide) (by decide +kernel) rfl rfl dX4_reckon_10 ?_
    refine Z.aload_n C dX4_reckon_13 0 rfl rfl ?_
    refine Z.get C in4 0 rfl rfl 31 (by decide) (by decide +kernel) rfl rfl dX4_reckon_14 ?_
    refine Z.iload_n C dX4_reckon_17 1 rfl rfl ?_
    refine Z.if_ne C 25 dX4_reckon_18 (by decide) (fun c2 => ?_) (fun c2 => ?_)
    · skip
      replace c2 : ¬ p0 = (0 : Int32) := c2
      exact absurd c1 c2
    · skip
      replace c2 : p0 = (0 : Int32) := c2
      refine Z.iload_n C dX4_reckon_21 2 rfl rfl ?_
      refine Z.goto C 31 dX4_reckon_22 (by decide) ?_
      refine Z.iast C 16 0 rfl rfl o.2.2.2.2.2.2.2.2.2.2.2.2.2 rfl (by omega) (by decide) dX4_reckon_31 (v := p1) rfl (w' := (wN a cI cZ (o.1, o.2.1, o.2.2.1, o.2.2.2.1, o.2.2.2.2.1, o.2.2.2.2.2.1, o.2.2.2.2.2.2.1, o.2.2.2.2.2.2.2.1, o.2.2.2.2.2.2.2.2.1, o.2.2.2.2.2.2.2.2.2.1, o.2.2.2.2.2.2.2.2.2.2.1, o.2.2.2.2.2.2.2.2.2.2.2.1, (upd o.2.2.2.2.2.2.2.2.2.2.2.2.1 o.2.2.2.2.2.2.2.2.2.2.2.2.2 p1), o.2.2.2.2.2.2.2.2.2.2.2.2.2) q)) rfl ?_
      refine Z.aload_n C dX4_reckon_32 0 rfl rfl ?_
      refine Z.dup C dX4_reckon_33 rfl ?_
      refine Z.get C in4 0 rfl rfl 31 (by decide) (by decide +kernel) rfl rfl dX4_reckon_34 ?_
      refine Z.iconst C (v := (nI 1)) dX4_reckon_37 (by decide) ?_
      refine Z.iadd C (v := (nI (o.2.2.2.2.2.2.2.2.2.2.2.2.2 + 1))) dX4_reckon_38 (nI_add o.2.2.2.2.2.2.2.2.2.2.2.2.2 1) ?_
      refine Z.put C in4 0 rfl rfl 31 (by decide) tyX4 tyX4_ok nmX4 (by decide +kernel) rfl rfl rfl rfl (Nat.le_of_ble_eq_true rfl) dX4_reckon_39 (w' := (wN a cI cZ (o.1, o.2.1, o.2.2.1, o.2.2.2.1, o.2.2.2.2.1, o.2.2.2.2.2.1, o.2.2.2.2.2.2.1, o.2.2.2.2.2.2.2.1, o.2.2.2.2.2.2.2.2.1, o.2.2.2.2.2.2.2.2.2.1, o.2.2.2.2.2.2.2.2.2.2.1, o.2.2.2.2.2.2.2.2.2.2.2.1, (upd o.2.2.2.2.2.2.2.2.2.2.2.2.1 o.2.2.2.2.2.2.2.2.2.2.2.2.2 p1), o.2.2.2.2.2.2.2.2.2.2.2.2.2 + 1) q)) rfl ?_
      refine Z.vret C hr hA dX4_reckon_42 ?_
      (refine congrArg (fun z => wN a cI cZ z q) ?_; first | rfl | (simp [nI_0, rReck, (eq_true c1), (eq_true c2)]; done) | (simp_all [nI_0, rReck]; done))
  · skip
    replace c1 : ¬ p0 = (0 : Int32) := c1
    refine Z.iload_n C dX4_reckon_4 1 rfl rfl ?_
    refine Z.iconst C (v := (nI 1)) dX4_reckon_5 (by decide) ?_
    refine Z.icmp_ne C 43 dX4_reckon_6 (by decide) (fun c3 => ?_) (fun c3 => ?_)
    · skip
      replace c3 : ¬ p0 = (1 : Int32) := c3
      have ht1b := hge c1 c3
      refine Z.aload_n C dX4_reckon_43 0 rfl rfl ?_
      refine Z.get C in4 0 rfl rfl 31 (by decide) (by decide +kernel) rfl rfl dX4_reckon_44 ?_
      refine Z.iconst C (v := (nI 1)) dX4_reckon_47 (by decide) ?_
      refine Z.isub C (v := (nI (o.2.2.2.2.2.2.2.2.2.2.2.2.2 - 1))) dX4_reckon_48 (pk_sub (a := o.2.2.2.2.2.2.2.2.2.2.2.2.2) (b := 1) (by omega)) ?_
      refine Z.istore_n C (lv' := [(3, .int (nI (o.2.2.2.2.2.2.2.2.2.2.2.2.2 - 1))), (0, .ref (a 0)), (1, .int p0), (2, .int p1)]) dX4_reckon_49 rfl (by decide) rfl ?_
      refine Z.iload_n C dX4_reckon_50 2 rfl rfl ?_
      refine Z.bipush C (v := (nI 6)) dX4_reckon_51 (by decide) ?_
      refine Z.icmp_ne C 95 dX4_reckon_53 (by decide) (fun c4 => ?_) (fun c4 => ?_)
      · skip
        replace c4 : ¬ p0 = (6 : Int32) := c4
        refine Z.iload_n C dX4_reckon_95 2 rfl rfl ?_
        refine Z.iconst C (v := (nI 3)) dX4_reckon_96 (by decide) ?_
        refine Z.icmp_ne C 117 dX4_reckon_97 (by decide) (fun c5 => ?_) (fun c5 => ?_)
        · skip
          replace c5 : ¬ p0 = (3 : Int32) := c5
          refine Z.iload_n C dX4_reckon_117 2 rfl rfl ?_
          refine Z.iconst C (v := (nI 4)) dX4_reckon_118 (by decide) ?_
          refine Z.icmp_ne C 141 dX4_reckon_119 (by decide) (fun c6 => ?_) (fun c6 => ?_)
          · skip
            replace c6 : ¬ p0 = (4 : Int32) := c6
            refine Z.iload_n C dX4_reckon_141 2 rfl rfl ?_
            refine Z.iconst C (v := (nI 5)) dX4_reckon_142 (by decide) ?_
            refine Z.icmp_ne C 163 dX4_reckon_143 (by decide) (fun c7 => ?_) (fun c7 => ?_)
            · skip
              replace c7 : ¬ p0 = (5 : Int32) := c7
              refine Z.aload_n C dX4_reckon_163 1 rfl rfl ?_
              refine Z.get C in4 0 rfl rfl 30 (by decide) (by decide +kernel) rfl rfl dX4_reckon_164 ?_
              refine Z.iload_n C dX4_reckon_167 0 rfl rfl ?_
              refine Z.iald C 16 0 rfl rfl (o.2.2.2.2.2.2.2.2.2.2.2.2.2 - 1) rfl (by omega) (by decide) dX4_reckon_168 (v := (o.2.2.2.2.2.2.2.2.2.2.2.2.1 (o.2.2.2.2.2.2.2.2.2.2.2.2.2 - 1))) rfl ?_
              refine Z.callSi C (nA := 1) (As := [.int (o.2.2.2.2.2.2.2.2.2.2.2.2.1 (o.2.2.2.2.2.2.2.2.2.2.2.2.2 - 1))]) (st := []) (c_isAddressN (o.2.2.2.2.2.2.2.2.2.2.2.2.1 (o.2.2.2.2.2.2.2.2.2.2.2.2.2 - 1))) gX4_reckon_X4_isAddress rfl (by decide +kernel) (rm_ok (by omega) (by decide)) rfl (Nat.le_of_ble_eq_true rfl) rfl dX4_reckon_169 ?_
              refine Z.if_eq C 195 dX4_reckon_172 (by decide) (fun c8 => ?_) (fun c8 => ?_)
              · skip
                replace c8 : isAddrF (o.2.2.2.2.2.2.2.2.2.2.2.2.1 (o.2.2.2.2.2.2.2.2.2.2.2.2.2 - 1)) = false := b2i_0.mp c8
                refine Z.aload_n C dX4_reckon_195 1 rfl rfl ?_
                refine Z.iconst C (v := (nI 2)) dX4_reckon_196 (by decide) ?_
                refine Z.put C in4 0 rfl rfl 0 (by decide) tyX4 tyX4_ok nmX4 (by decide +kernel) rfl rfl rfl rfl (Nat.le_of_ble_eq_true rfl) dX4_reckon_197 (w' := (wN a cI cZ (2, o.2) q)) rfl ?_
                refine Z.vret C hr hA dX4_reckon_200 ?_
                (refine congrArg (fun z => wN a cI cZ z q) ?_; first | rfl | (simp [nI_0, rReck, (eq_false c1), (eq_false c3), (eq_false c4), (eq_false c5), (eq_false c6), (eq_false c7), c8]; done) | (simp_all [nI_0, rReck]; done))
              · skip
                replace c8 : isAddrF (o.2.2.2.2.2.2.2.2.2.2.2.2.1 (o.2.2.2.2.2.2.2.2.2.2.2.2.2 - 1)) = true := b2i_n0.mp c8
                have ⟨c8a, c8b⟩ := isAddr_t c8
                refine Z.aload_n C dX4_reckon_175 1 rfl rfl ?_
                refine Z.get C in4 0 rfl rfl 30 (by decide) (by decide +kernel) rfl rfl dX4_reckon_176 ?_
                refine Z.iload_n C dX4_reckon_179 0 rfl rfl ?_
                refine Z.aload_n C dX4_reckon_180 1 rfl rfl ?_
                refine Z.get C in4 0 rfl rfl 4 (by decide) (by decide +kernel) rfl rfl dX4_reckon_181 ?_
                refine Z.aload_n C dX4_reckon_184 1 rfl rfl ?_
                refine Z.get C in4 0 rfl rfl 30 (by decide) (by decide +kernel) rfl rfl dX4_reckon_185 ?_
                refine Z.iload_n C dX4_reckon_188 0 rfl rfl ?_
                refine Z.iald C 16 0 rfl rfl (o.2.2.2.2.2.2.2.2.2.2.2.2.2 - 1) rfl (by omega) (by decide) dX4_reckon_189 (v := (o.2.2.2.2.2.2.2.2.2.2.2.2.1 (o.2.2.2.2.2.2.2.2.2.2.2.2.2 - 1))) rfl ?_
                refine Z.iald C 2 0 rfl rfl ((o.2.2.2.2.2.2.2.2.2.2.2.2.1 (o.2.2.2.2.2.2.2.2.2.2.2.2.2 - 1)).toNatClampNeg) (nI_cl (by assumption)) (nI_clb (by assumption) (by omega) (by first | assumption | omega)) (by decide) dX4_reckon_190 (v := (o.2.2.2.1 ((o.2.2.2.2.2.2.2.2.2.2.2.2.1 (o.2.2.2.2.2.2.2.2.2.2.2.2.2 - 1)).toNatClampNeg))) rfl ?_
                refine Z.iast C 16 0 rfl rfl (o.2.2.2.2.2.2.2.2.2.2.2.2.2 - 1) rfl (by omega) (by decide) dX4_reckon_191 (v := (o.2.2.2.1 ((o.2.2.2.2.2.2.2.2.2.2.2.2.1 (o.2.2.2.2.2.2.2.2.2.2.2.2.2 - 1)).toNatClampNeg))) rfl (w' := (wN a cI cZ (o.1, o.2.1, o.2.2.1, o.2.2.2.1, o.2.2.2.2.1, o.2.2.2.2.2.1, o.2.2.2.2.2.2.1, o.2.2.2.2.2.2.2.1, o.2.2.2.2.2.2.2.2.1, o.2.2.2.2.2.2.2.2.2.1, o.2.2.2.2.2.2.2.2.2.2.1, o.2.2.2.2.2.2.2.2.2.2.2.1, (upd o.2.2.2.2.2.2.2.2.2.2.2.2.1 (o.2.2.2.2.2.2.2.2.2.2.2.2.2 - 1) (o.2.2.2.1 ((o.2.2.2.2.2.2.2.2.2.2.2.2.1 (o.2.2.2.2.2.2.2.2.2.2.2.2.2 - 1)).toNatClampNeg))), o.2.2.2.2.2.2.2.2.2.2.2.2.2) q)) rfl ?_
                refine Z.goto C 200 dX4_reckon_192 (by decide) ?_
                refine Z.vret C hr hA dX4_reckon_200 ?_
                (refine congrArg (fun z => wN a cI cZ z q) ?_; first | rfl | (simp [nI_0, rReck, (eq_false c1), (eq_false c3), (eq_false c4), (eq_false c5), (eq_false c6), (eq_false c7), c8]; done) | (simp_all [nI_0, rReck]; done))
            · skip
              replace c7 : p0 = (5 : Int32) := c7
              refine Z.aload_n C dX4_reckon_146 1 rfl rfl ?_
              refine Z.get C in4 0 rfl rfl 30 (by decide) (by decide +kernel) rfl rfl dX4_reckon_147 ?_
              refine Z.iload_n C dX4_reckon_150 0 rfl rfl ?_
              refine Z.aload_n C dX4_reckon_151 1 rfl rfl ?_
              refine Z.get C in4 0 rfl rfl 30 (by decide) (by decide +kernel) rfl rfl dX4_reckon_152 ?_
              refine Z.iload_n C dX4_reckon_155 0 rfl rfl ?_
              refine Z.iald C 16 0 rfl rfl (o.2.2.2.2.2.2.2.2.2.2.2.2.2 - 1) rfl (by omega) (by decide) dX4_reckon_156 (v := (o.2.2.2.2.2.2.2.2.2.2.2.2.1 (o.2.2.2.2.2.2.2.2.2.2.2.2.2 - 1))) rfl ?_
              refine Z.iload_n C dX4_reckon_157 3 rfl rfl ?_
              refine Z.iushr C (v := (((o.2.2.2.2.2.2.2.2.2.2.2.2.1 (o.2.2.2.2.2.2.2.2.2.2.2.2.2 - 1)).toUInt32 >>> (p1.toUInt32 &&& Int32.toUInt32 31)).toInt32)) dX4_reckon_158 rfl ?_
              refine Z.iast C 16 0 rfl rfl (o.2.2.2.2.2.2.2.2.2.2.2.2.2 - 1) rfl (by omega) (by decide) dX4_reckon_159 (v := (((o.2.2.2.2.2.2.2.2.2.2.2.2.1 (o.2.2.2.2.2.2.2.2.2.2.2.2.2 - 1)).toUInt32 >>> (p1.toUInt32 &&& Int32.toUInt32 31)).toInt32)) rfl (w' := (wN a cI cZ (o.1, o.2.1, o.2.2.1, o.2.2.2.1, o.2.2.2.2.1, o.2.2.2.2.2.1, o.2.2.2.2.2.2.1, o.2.2.2.2.2.2.2.1, o.2.2.2.2.2.2.2.2.1, o.2.2.2.2.2.2.2.2.2.1, o.2.2.2.2.2.2.2.2.2.2.1, o.2.2.2.2.2.2.2.2.2.2.2.1, (upd o.2.2.2.2.2.2.2.2.2.2.2.2.1 (o.2.2.2.2.2.2.2.2.2.2.2.2.2 - 1) (((o.2.2.2.2.2.2.2.2.2.2.2.2.1 (o.2.2.2.2.2.2.2.2.2.2.2.2.2 - 1)).toUInt32 >>> (p1.toUInt32 &&& Int32.toUInt32 31)).toInt32)), o.2.2.2.2.2.2.2.2.2.2.2.2.2) q)) rfl ?_
              refine Z.goto C 200 dX4_reckon_160 (by decide) ?_
              refine Z.vret C hr hA dX4_reckon_200 ?_
              (refine congrArg (fun z => wN a cI cZ z q) ?_; first | rfl | (simp [nI_0, rReck, (eq_false c1), (eq_false c3), (eq_false c4), (eq_false c5), (eq_false c6), (eq_true c7)]; done) | (simp_all [nI_0, rReck]; done))
          · skip
            replace c6 : p0 = (4 : Int32) := c6
            refine Z.aload_n C dX4_reckon_122 1 rfl rfl ?_
            refine Z.get C in4 0 rfl rfl 30 (by decide) (by decide +kernel) rfl rfl dX4_reckon_123 ?_
            refine Z.iload_n C dX4_reckon_126 0 rfl rfl ?_
            refine Z.aload_n C dX4_reckon_127 1 rfl rfl ?_
            refine Z.get C in4 0 rfl rfl 30 (by decide) (by decide +kernel) rfl rfl dX4_reckon_128 ?_
            refine Z.iload_n C dX4_reckon_131 0 rfl rfl ?_
            refine Z.iald C 16 0 rfl rfl (o.2.2.2.2.2.2.2.2.2.2.2.2.2 - 1) rfl (by omega) (by decide) dX4_reckon_132 (v := (o.2.2.2.2.2.2.2.2.2.2.2.2.1 (o.2.2.2.2.2.2.2.2.2.2.2.2.2 - 1))) rfl ?_
            refine Z.iload_n C dX4_reckon_133 3 rfl rfl ?_
            refine Z.callSi C (nA := 2) (As := [.int (o.2.2.2.2.2.2.2.2.2.2.2.2.1 (o.2.2.2.2.2.2.2.2.2.2.2.2.2 - 1)), .int p1]) (st := [.int (nI (o.2.2.2.2.2.2.2.2.2.2.2.2.2 - 1)), .ref (a 16)]) (c_turnedN (o.2.2.2.2.2.2.2.2.2.2.2.2.1 (o.2.2.2.2.2.2.2.2.2.2.2.2.2 - 1)) p1) gX4_reckon_X4_turned rfl (by decide +kernel) (rm_ok (by omega) (by decide)) rfl (Nat.le_of_ble_eq_true rfl) rfl dX4_reckon_134 ?_
            refine Z.iast C 16 0 rfl rfl (o.2.2.2.2.2.2.2.2.2.2.2.2.2 - 1) rfl (by omega) (by decide) dX4_reckon_137 (v := (turnF (o.2.2.2.2.2.2.2.2.2.2.2.2.1 (o.2.2.2.2.2.2.2.2.2.2.2.2.2 - 1)) p1)) rfl (w' := (wN a cI cZ (o.1, o.2.1, o.2.2.1, o.2.2.2.1, o.2.2.2.2.1, o.2.2.2.2.2.1, o.2.2.2.2.2.2.1, o.2.2.2.2.2.2.2.1, o.2.2.2.2.2.2.2.2.1, o.2.2.2.2.2.2.2.2.2.1, o.2.2.2.2.2.2.2.2.2.2.1, o.2.2.2.2.2.2.2.2.2.2.2.1, (upd o.2.2.2.2.2.2.2.2.2.2.2.2.1 (o.2.2.2.2.2.2.2.2.2.2.2.2.2 - 1) (turnF (o.2.2.2.2.2.2.2.2.2.2.2.2.1 (o.2.2.2.2.2.2.2.2.2.2.2.2.2 - 1)) p1)), o.2.2.2.2.2.2.2.2.2.2.2.2.2) q)) rfl ?_
            refine Z.goto C 200 dX4_reckon_138 (by decide) ?_
            refine Z.vret C hr hA dX4_reckon_200 ?_
            (refine congrArg (fun z => wN a cI cZ z q) ?_; first | rfl | (simp [nI_0, rReck, (eq_false c1), (eq_false c3), (eq_false c4), (eq_false c5), (eq_true c6)]; done) | (simp_all [nI_0, rReck]; done))
        · skip
          replace c5 : p0 = (3 : Int32) := c5
          refine Z.aload_n C dX4_reckon_100 1 rfl rfl ?_
          refine Z.get C in4 0 rfl rfl 30 (by decide) (by decide +kernel) rfl rfl dX4_reckon_101 ?_
          refine Z.iload_n C dX4_reckon_104 0 rfl rfl ?_
          refine Z.aload_n C dX4_reckon_105 1 rfl rfl ?_
          refine Z.get C in4 0 rfl rfl 30 (by decide) (by decide +kernel) rfl rfl dX4_reckon_106 ?_
          refine Z.iload_n C dX4_reckon_109 0 rfl rfl ?_
          refine Z.iald C 16 0 rfl rfl (o.2.2.2.2.2.2.2.2.2.2.2.2.2 - 1) rfl (by omega) (by decide) dX4_reckon_110 (v := (o.2.2.2.2.2.2.2.2.2.2.2.2.1 (o.2.2.2.2.2.2.2.2.2.2.2.2.2 - 1))) rfl ?_
          refine Z.iconst C (v := (-1)) dX4_reckon_111 (by decide) ?_
          refine Z.ixor C (v := ((o.2.2.2.2.2.2.2.2.2.2.2.2.1 (o.2.2.2.2.2.2.2.2.2.2.2.2.2 - 1)) ^^^ (-1))) dX4_reckon_112 rfl ?_
          refine Z.iast C 16 0 rfl rfl (o.2.2.2.2.2.2.2.2.2.2.2.2.2 - 1) rfl (by omega) (by decide) dX4_reckon_113 (v := ((o.2.2.2.2.2.2.2.2.2.2.2.2.1 (o.2.2.2.2.2.2.2.2.2.2.2.2.2 - 1)) ^^^ (-1))) rfl (w' := (wN a cI cZ (o.1, o.2.1, o.2.2.1, o.2.2.2.1, o.2.2.2.2.1, o.2.2.2.2.2.1, o.2.2.2.2.2.2.1, o.2.2.2.2.2.2.2.1, o.2.2.2.2.2.2.2.2.1, o.2.2.2.2.2.2.2.2.2.1, o.2.2.2.2.2.2.2.2.2.2.1, o.2.2.2.2.2.2.2.2.2.2.2.1, (upd o.2.2.2.2.2.2.2.2.2.2.2.2.1 (o.2.2.2.2.2.2.2.2.2.2.2.2.2 - 1) ((o.2.2.2.2.2.2.2.2.2.2.2.2.1 (o.2.2.2.2.2.2.2.2.2.2.2.2.2 - 1)) ^^^ (-1))), o.2.2.2.2.2.2.2.2.2.2.2.2.2) q)) rfl ?_
          refine Z.goto C 200 dX4_reckon_114 (by decide) ?_
          refine Z.vret C hr hA dX4_reckon_200 ?_
          (refine congrArg (fun z => wN a cI cZ z q) ?_; first | rfl | (simp [nI_0, rReck, (eq_false c1), (eq_false c3), (eq_false c4), (eq_true c5)]; done) | (simp_all [nI_0, rReck]; done))
      · skip
        replace c4 : p0 = (6 : Int32) := c4
        have ht6 := h6 c4
        refine Z.aload_n C dX4_reckon_56 1 rfl rfl ?_
        refine Z.get C in4 0 rfl rfl 30 (by decide) (by decide +kernel) rfl rfl dX4_reckon_57 ?_
        refine Z.iload_n C dX4_reckon_60 0 rfl rfl ?_
        refine Z.iconst C (v := (nI 1)) dX4_reckon_61 (by decide) ?_
        refine Z.isub C (v := (nI ((o.2.2.2.2.2.2.2.2.2.2.2.2.2 - 1) - 1))) dX4_reckon_62 (pk_sub (a := o.2.2.2.2.2.2.2.2.2.2.2.2.2 - 1) (b := 1) (by omega)) ?_
        refine Z.iload_n C dX4_reckon_63 3 rfl rfl ?_
        refine Z.aload_n C dX4_reckon_64 1 rfl rfl ?_
        refine Z.get C in4 0 rfl rfl 30 (by decide) (by decide +kernel) rfl rfl dX4_reckon_65 ?_
        refine Z.iload_n C dX4_reckon_68 0 rfl rfl ?_
        refine Z.iconst C (v := (nI 1)) dX4_reckon_69 (by decide) ?_
        refine Z.isub C (v := (nI ((o.2.2.2.2.2.2.2.2.2.2.2.2.2 - 1) - 1))) dX4_reckon_70 (pk_sub (a := o.2.2.2.2.2.2.2.2.2.2.2.2.2 - 1) (b := 1) (by omega)) ?_
        refine Z.iald C 16 0 rfl rfl ((o.2.2.2.2.2.2.2.2.2.2.2.2.2 - 1) - 1) rfl (by omega) (by decide) dX4_reckon_71 (v := (o.2.2.2.2.2.2.2.2.2.2.2.2.1 ((o.2.2.2.2.2.2.2.2.2.2.2.2.2 - 1) - 1))) rfl ?_
        refine Z.aload_n C dX4_reckon_72 1 rfl rfl ?_
        refine Z.get C in4 0 rfl rfl 30 (by decide) (by decide +kernel) rfl rfl dX4_reckon_73 ?_
        refine Z.iload_n C dX4_reckon_76 0 rfl rfl ?_
        refine Z.iald C 16 0 rfl rfl (o.2.2.2.2.2.2.2.2.2.2.2.2.2 - 1) rfl (by omega) (by decide) dX4_reckon_77 (v := (o.2.2.2.2.2.2.2.2.2.2.2.2.1 (o.2.2.2.2.2.2.2.2.2.2.2.2.2 - 1))) rfl ?_
        refine Z.callSi C (nA := 3) (As := [.int p1, .int (o.2.2.2.2.2.2.2.2.2.2.2.2.1 ((o.2.2.2.2.2.2.2.2.2.2.2.2.2 - 1) - 1)), .int (o.2.2.2.2.2.2.2.2.2.2.2.2.1 (o.2.2.2.2.2.2.2.2.2.2.2.2.2 - 1))]) (st := [.int (nI ((o.2.2.2.2.2.2.2.2.2.2.2.2.2 - 1) - 1)), .ref (a 16)]) (c_operated p1 (o.2.2.2.2.2.2.2.2.2.2.2.2.1 ((o.2.2.2.2.2.2.2.2.2.2.2.2.2 - 1) - 1)) (o.2.2.2.2.2.2.2.2.2.2.2.2.1 (o.2.2.2.2.2.2.2.2.2.2.2.2.2 - 1))) gX4_reckon_X4_operated rfl (by decide +kernel) (rm_ok (by omega) (by decide)) rfl (Nat.le_of_ble_eq_true rfl) rfl dX4_reckon_78 ?_
        refine Z.iast C 16 0 rfl rfl ((o.2.2.2.2.2.2.2.2.2.2.2.2.2 - 1) - 1) rfl (by omega) (by decide) dX4_reckon_81 (v := (ofTwoF p1 (o.2.2.2.2.2.2.2.2.2.2.2.2.1 ((o.2.2.2.2.2.2.2.2.2.2.2.2.2 - 1) - 1)) (o.2.2.2.2.2.2.2.2.2.2.2.2.1 (o.2.2.2.2.2.2.2.2.2.2.2.2.2 - 1)))) rfl (w' := (wN a cI cZ (o.1, o.2.1, o.2.2.1, o.2.2.2.1, o.2.2.2.2.1, o.2.2.2.2.2.1, o.2.2.2.2.2.2.1, o.2.2.2.2.2.2.2.1, o.2.2.2.2.2.2.2.2.1, o.2.2.2.2.2.2.2.2.2.1, o.2.2.2.2.2.2.2.2.2.2.1, o.2.2.2.2.2.2.2.2.2.2.2.1, (upd o.2.2.2.2.2.2.2.2.2.2.2.2.1 ((o.2.2.2.2.2.2.2.2.2.2.2.2.2 - 1) - 1) (ofTwoF p1 (o.2.2.2.2.2.2.2.2.2.2.2.2.1 ((o.2.2.2.2.2.2.2.2.2.2.2.2.2 - 1) - 1)) (o.2.2.2.2.2.2.2.2.2.2.2.2.1 (o.2.2.2.2.2.2.2.2.2.2.2.2.2 - 1)))), o.2.2.2.2.2.2.2.2.2.2.2.2.2) q)) rfl ?_
        refine Z.aload_n C dX4_reckon_82 1 rfl rfl ?_
        refine Z.dup C dX4_reckon_83 rfl ?_
        refine Z.get C in4 0 rfl rfl 31 (by decide) (by decide +kernel) rfl rfl dX4_reckon_84 ?_
        refine Z.iconst C (v := (nI 1)) dX4_reckon_87 (by decide) ?_
        refine Z.isub C (v := (nI (o.2.2.2.2.2.2.2.2.2.2.2.2.2 - 1))) dX4_reckon_88 (pk_sub (a := o.2.2.2.2.2.2.2.2.2.2.2.2.2) (b := 1) (by omega)) ?_
        refine Z.put C in4 0 rfl rfl 31 (by decide) tyX4 tyX4_ok nmX4 (by decide +kernel) rfl rfl rfl rfl (Nat.le_of_ble_eq_true rfl) dX4_reckon_89 (w' := (wN a cI cZ (o.1, o.2.1, o.2.2.1, o.2.2.2.1, o.2.2.2.2.1, o.2.2.2.2.2.1, o.2.2.2.2.2.2.1, o.2.2.2.2.2.2.2.1, o.2.2.2.2.2.2.2.2.1, o.2.2.2.2.2.2.2.2.2.1, o.2.2.2.2.2.2.2.2.2.2.1, o.2.2.2.2.2.2.2.2.2.2.2.1, (upd o.2.2.2.2.2.2.2.2.2.2.2.2.1 ((o.2.2.2.2.2.2.2.2.2.2.2.2.2 - 1) - 1) (ofTwoF p1 (o.2.2.2.2.2.2.2.2.2.2.2.2.1 ((o.2.2.2.2.2.2.2.2.2.2.2.2.2 - 1) - 1)) (o.2.2.2.2.2.2.2.2.2.2.2.2.1 (o.2.2.2.2.2.2.2.2.2.2.2.2.2 - 1)))), o.2.2.2.2.2.2.2.2.2.2.2.2.2 - 1) q)) rfl ?_
        refine Z.goto C 200 dX4_reckon_92 (by decide) ?_
        refine Z.vret C hr hA dX4_reckon_200 ?_
        (refine congrArg (fun z => wN a cI cZ z q) ?_; first | rfl | (simp [nI_0, rReck, (eq_false c1), (eq_false c3), (eq_true c4)]; done) | (simp_all [nI_0, rReck]; done))
    · skip
      replace c3 : p0 = (1 : Int32) := c3
      have ⟨hv1, hv2⟩ := h1 c3
      refine Z.aload_n C dX4_reckon_9 0 rfl rfl ?_
      refine Z.get C in4 0 rfl rfl 30 (by decide) (by decide +kernel) rfl rfl dX4_reckon_10 ?_
      refine Z.aload_n C dX4_reckon_13 0 rfl rfl ?_
      refine Z.get C in4 0 rfl rfl 31 (by decide) (by decide +kernel) rfl rfl dX4_reckon_14 ?_
      refine Z.iload_n C dX4_reckon_17 1 rfl rfl ?_
      refine Z.if_ne C 25 dX4_reckon_18 (by decide) (fun c9 => ?_) (fun c9 => ?_)
      · skip
        replace c9 : ¬ p0 = (0 : Int32) := c9
        refine Z.aload_n C dX4_reckon_25 0 rfl rfl ?_
        refine Z.get C in4 0 rfl rfl 6 (by decide) (by decide +kernel) rfl rfl dX4_reckon_26 ?_
        refine Z.iload_n C dX4_reckon_29 2 rfl rfl ?_
        refine Z.iald C 4 0 rfl rfl p1.toNatClampNeg (nI_cl (by assumption)) (nI_clb (by assumption) (by omega) (by first | assumption | omega)) (by decide) dX4_reckon_30 (v := (o.2.2.2.2.2.1 p1.toNatClampNeg)) rfl ?_
        refine Z.iast C 16 0 rfl rfl o.2.2.2.2.2.2.2.2.2.2.2.2.2 rfl (by omega) (by decide) dX4_reckon_31 (v := (o.2.2.2.2.2.1 p1.toNatClampNeg)) rfl (w' := (wN a cI cZ (o.1, o.2.1, o.2.2.1, o.2.2.2.1, o.2.2.2.2.1, o.2.2.2.2.2.1, o.2.2.2.2.2.2.1, o.2.2.2.2.2.2.2.1, o.2.2.2.2.2.2.2.2.1, o.2.2.2.2.2.2.2.2.2.1, o.2.2.2.2.2.2.2.2.2.2.1, o.2.2.2.2.2.2.2.2.2.2.2.1, (upd o.2.2.2.2.2.2.2.2.2.2.2.2.1 o.2.2.2.2.2.2.2.2.2.2.2.2.2 (o.2.2.2.2.2.1 p1.toNatClampNeg)), o.2.2.2.2.2.2.2.2.2.2.2.2.2) q)) rfl ?_
        refine Z.aload_n C dX4_reckon_32 0 rfl rfl ?_
        refine Z.dup C dX4_reckon_33 rfl ?_
        refine Z.get C in4 0 rfl rfl 31 (by decide) (by decide +kernel) rfl rfl dX4_reckon_34 ?_
        refine Z.iconst C (v := (nI 1)) dX4_reckon_37 (by decide) ?_
        refine Z.iadd C (v := (nI (o.2.2.2.2.2.2.2.2.2.2.2.2.2 + 1))) dX4_reckon_38 (nI_add o.2.2.2.2.2.2.2.2.2.2.2.2.2 1) ?_
        refine Z.put C in4 0 rfl rfl 31 (by decide) tyX4 tyX4_ok nmX4 (by decide +kernel) rfl rfl rfl rfl (Nat.le_of_ble_eq_true rfl) dX4_reckon_39 (w' := (wN a cI cZ (o.1, o.2.1, o.2.2.1, o.2.2.2.1, o.2.2.2.2.1, o.2.2.2.2.2.1, o.2.2.2.2.2.2.1, o.2.2.2.2.2.2.2.1, o.2.2.2.2.2.2.2.2.1, o.2.2.2.2.2.2.2.2.2.1, o.2.2.2.2.2.2.2.2.2.2.1, o.2.2.2.2.2.2.2.2.2.2.2.1, (upd o.2.2.2.2.2.2.2.2.2.2.2.2.1 o.2.2.2.2.2.2.2.2.2.2.2.2.2 (o.2.2.2.2.2.1 p1.toNatClampNeg)), o.2.2.2.2.2.2.2.2.2.2.2.2.2 + 1) q)) rfl ?_
        refine Z.vret C hr hA dX4_reckon_42 ?_
        (refine congrArg (fun z => wN a cI cZ z q) ?_; first | rfl | (simp [nI_0, rReck, (eq_false c1), (eq_true c3), (eq_false c9)]; done) | (simp_all [nI_0, rReck]; done))
      · skip
        replace c9 : p0 = (0 : Int32) := c9
        exact absurd c9 c1
