set_option maxHeartbeats 4000000 in
set_option maxRecDepth 100000 in
theorem c_isLetter {l : Launch} {D : va_G} (p0 : Int32) : Mi l yX4_isLetter wsX4_isLetter 0 D [] [.int p0] [] (b2i (isLetF p0)) [] := by
  refine Mi.of (cc := cX4_isLetter) (maxL := 1) (by decide) rfl (Nat.le_of_ble_eq_true rfl) ?_
  intro p e s m below meth c A C hr hA
  show Z p l e (rmN _) s m _ below meth c _ D A _ _ [(0, .int p0)] 0 []
  refine Z.iload_n C dX4_isLetter_0 0 rfl rfl ?_
  refine Z.bipush C (v := (nI 97)) dX4_isLetter_1 (by decide) ?_
  refine Z.icmp_lt C 16 dX4_isLetter_3 (by decide) (fun c1 => ?_) (fun c1 => ?_)
  · skip
    replace c1 : ¬ (97 : Int32) ≤ p0 := Int32.not_le.mpr c1
    refine Z.iconst C (v := (nI 0)) dX4_isLetter_16 (by decide) ?_
    refine Z.zret C hr hA dX4_isLetter_17 (b := false) rfl ?_ ?_
    · first | rfl | (simp [nI_0, isLetF, (eq_false c1)]; done) | (simp_all [nI_0, isLetF]; done)
    · rfl
  · skip
    replace c1 : (97 : Int32) ≤ p0 := Int32.not_lt.mp c1
    refine Z.iload_n C dX4_isLetter_6 0 rfl rfl ?_
    refine Z.bipush C (v := (nI 122)) dX4_isLetter_7 (by decide) ?_
    refine Z.icmp_gt C 16 dX4_isLetter_9 (by decide) (fun c2 => ?_) (fun c2 => ?_)
    · skip
      replace c2 : ¬ p0 ≤ (122 : Int32) := Int32.not_le.mpr c2
      refine Z.iconst C (v := (nI 0)) dX4_isLetter_16 (by decide) ?_
      refine Z.zret C hr hA dX4_isLetter_17 (b := false) rfl ?_ ?_
      · first | rfl | (simp [nI_0, isLetF, (eq_true c1), (eq_false c2)]; done) | (simp_all [nI_0, isLetF]; done)
      · rfl
    · skip
      replace c2 : p0 ≤ (122 : Int32) := Int32.not_lt.mp c2
      refine Z.iconst C (v := (nI 1)) dX4_isLetter_12 (by decide) ?_
      refine Z.goto C 17 dX4_isLetter_13 (by decide) ?_
      refine Z.zret C hr hA dX4_isLetter_17 (b := true) rfl ?_ ?_
      · first | rfl | (simp [nI_0, isLetF, (eq_true c1), (eq_true c2)]; done) | (simp_all [nI_0, isLetF]; done)
      · rfl
set_option maxHeartbeats 4000000 in
set_option maxRecDepth 100000 in
theorem c_isDigit {l : Launch} {D : va_G} (p0 : Int32) : Mi l yX4_isDigit wsX4_isDigit 0 D [] [.int p0] [] (b2i (isDigF p0)) [] := by
  refine Mi.of (cc := cX4_isDigit) (maxL := 1) (by decide) rfl (Nat.le_of_ble_eq_true rfl) ?_
  intro p e s m below meth c A C hr hA
  show Z p l e (rmN _) s m _ below meth c _ D A _ _ [(0, .int p0)] 0 []
  refine Z.iload_n C dX4_isDigit_0 0 rfl rfl ?_
  refine Z.bipush C (v := (nI 48)) dX4_isDigit_1 (by decide) ?_
  refine Z.icmp_lt C 16 dX4_isDigit_3 (by decide) (fun c1 => ?_) (fun c1 => ?_)
  · skip
    replace c1 : ¬ (48 : Int32) ≤ p0 := Int32.not_le.mpr c1
    refine Z.iconst C (v := (nI 0)) dX4_isDigit_16 (by decide) ?_
    refine Z.zret C hr hA dX4_isDigit_17 (b := false) rfl ?_ ?_
    · first | rfl | (simp [nI_0, isDigF, (eq_false c1)]; done) | (simp_all [nI_0, isDigF]; done)
    · rfl
  · skip
    replace c1 : (48 : Int32) ≤ p0 := Int32.not_lt.mp c1
    refine Z.iload_n C dX4_isDigit_6 0 rfl rfl ?_
    refine Z.bipush C (v := (nI 57)) dX4_isDigit_7 (by decide) ?_
    refine Z.icmp_gt C 16 dX4_isDigit_9 (by decide) (fun c2 => ?_) (fun c2 => ?_)
    · skip
      replace c2 : ¬ p0 ≤ (57 : Int32) := Int32.not_le.mpr c2
      refine Z.iconst C (v := (nI 0)) dX4_isDigit_16 (by decide) ?_
      refine Z.zret C hr hA dX4_isDigit_17 (b := false) rfl ?_ ?_
      · first | rfl | (simp [nI_0, isDigF, (eq_true c1), (eq_false c2)]; done) | (simp_all [nI_0, isDigF]; done)
      · rfl
    · skip
      replace c2 : p0 ≤ (57 : Int32) := Int32.not_lt.mp c2
      refine Z.iconst C (v := (nI 1)) dX4_isDigit_12 (by decide) ?_
      refine Z.goto C 17 dX4_isDigit_13 (by decide) ?_
      refine Z.zret C hr hA dX4_isDigit_17 (b := true) rfl ?_ ?_
      · first | rfl | (simp [nI_0, isDigF, (eq_true c1), (eq_true c2)]; done) | (simp_all [nI_0, isDigF]; done)
      · rfl
set_option maxHeartbeats 4000000 in
set_option maxRecDepth 100000 in
theorem c_isOpN {l : Launch} {D : va_G} (p0 : Int32) : Mi l yX4_isOperator wsX4_isOperator 0 D [] [.int p0] [] (b2i (isOpF p0)) [] := by
  refine Mi.of (cc := cX4_isOperator) (maxL := 1) (by decide) rfl (Nat.le_of_ble_eq_true rfl) ?_
  intro p e s m below meth c A C hr hA
  show Z p l e (rmN _) s m _ below meth c _ D A _ _ [(0, .int p0)] 0 []
  refine Z.iload_n C dX4_isOperator_0 0 rfl rfl ?_
  refine Z.bipush C (v := (nI 43)) dX4_isOperator_1 (by decide) ?_
  refine Z.icmp_eq C 36 dX4_isOperator_3 (by decide) (fun c1 => ?_) (fun c1 => ?_)
  · skip
    replace c1 : p0 = (43 : Int32) := c1
    refine Z.iconst C (v := (nI 1)) dX4_isOperator_36 (by decide) ?_
    refine Z.goto C 41 dX4_isOperator_37 (by decide) ?_
    refine Z.zret C hr hA dX4_isOperator_41 (b := true) rfl ?_ ?_
    · first | rfl | (simp [nI_0, isOpF, (eq_true c1)]; done) | (simp_all [nI_0, isOpF]; done)
    · rfl
  · skip
    replace c1 : ¬ p0 = (43 : Int32) := c1
    refine Z.iload_n C dX4_isOperator_6 0 rfl rfl ?_
    refine Z.bipush C (v := (nI 45)) dX4_isOperator_7 (by decide) ?_
    refine Z.icmp_eq C 36 dX4_isOperator_9 (by decide) (fun c2 => ?_) (fun c2 => ?_)
    · skip
      replace c2 : p0 = (45 : Int32) := c2
      refine Z.iconst C (v := (nI 1)) dX4_isOperator_36 (by decide) ?_
      refine Z.goto C 41 dX4_isOperator_37 (by decide) ?_
      refine Z.zret C hr hA dX4_isOperator_41 (b := true) rfl ?_ ?_
      · first | rfl | (simp [nI_0, isOpF, (eq_false c1), (eq_true c2)]; done) | (simp_all [nI_0, isOpF]; done)
      · rfl
    · skip
      replace c2 : ¬ p0 = (45 : Int32) := c2
      refine Z.iload_n C dX4_isOperator_12 0 rfl rfl ?_
      refine Z.bipush C (v := (nI 42)) dX4_isOperator_13 (by decide) ?_
      refine Z.icmp_eq C 36 dX4_isOperator_15 (by decide) (fun c3 => ?_) (fun c3 => ?_)
      · skip
        replace c3 : p0 = (42 : Int32) := c3
        refine Z.iconst C (v := (nI 1)) dX4_isOperator_36 (by decide) ?_
        refine Z.goto C 41 dX4_isOperator_37 (by decide) ?_
        refine Z.zret C hr hA dX4_isOperator_41 (b := true) rfl ?_ ?_
        · first | rfl | (simp [nI_0, isOpF, (eq_false c1), (eq_false c2), (eq_true c3)]; done) | (simp_all [nI_0, isOpF]; done)
        · rfl
      · skip
        replace c3 : ¬ p0 = (42 : Int32) := c3
        refine Z.iload_n C dX4_isOperator_18 0 rfl rfl ?_
        refine Z.bipush C (v := (nI 38)) dX4_isOperator_19 (by decide) ?_
        refine Z.icmp_eq C 36 dX4_isOperator_21 (by decide) (fun c4 => ?_) (fun c4 => ?_)
        · skip
          replace c4 : p0 = (38 : Int32) := c4
          refine Z.iconst C (v := (nI 1)) dX4_isOperator_36 (by decide) ?_
          refine Z.goto C 41 dX4_isOperator_37 (by decide) ?_
          refine Z.zret C hr hA dX4_isOperator_41 (b := true) rfl ?_ ?_
          · first | rfl | (simp [nI_0, isOpF, (eq_false c1), (eq_false c2), (eq_false c3), (eq_true c4)]; done) | (simp_all [nI_0, isOpF]; done)
          · rfl
        · skip
          replace c4 : ¬ p0 = (38 : Int32) := c4
          refine Z.iload_n C dX4_isOperator_24 0 rfl rfl ?_
          refine Z.bipush C (v := (nI 124)) dX4_isOperator_25 (by decide) ?_
          refine Z.icmp_eq C 36 dX4_isOperator_27 (by decide) (fun c5 => ?_) (fun c5 => ?_)
          · skip
            replace c5 : p0 = (124 : Int32) := c5
            refine Z.iconst C (v := (nI 1)) dX4_isOperator_36 (by decide) ?_
            refine Z.goto C 41 dX4_isOperator_37 (by decide) ?_
            refine Z.zret C hr hA dX4_isOperator_41 (b := true) rfl ?_ ?_
            · first | rfl | (simp [nI_0, isOpF, (eq_false c1), (eq_false c2), (eq_false c3), (eq_false c4), (eq_true c5)]; done) | (simp_all [nI_0, isOpF]; done)
            · rfl
          · skip
            replace c5 : ¬ p0 = (124 : Int32) := c5
            refine Z.iload_n C dX4_isOperator_30 0 rfl rfl ?_
            refine Z.bipush C (v := (nI 94)) dX4_isOperator_31 (by decide) ?_
            refine Z.icmp_ne C 40 dX4_isOperator_33 (by decide) (fun c6 => ?_) (fun c6 => ?_)
            · skip
              replace c6 : ¬ p0 = (94 : Int32) := c6
              refine Z.iconst C (v := (nI 0)) dX4_isOperator_40 (by decide) ?_
              refine Z.zret C hr hA dX4_isOperator_41 (b := false) rfl ?_ ?_
              · first | rfl | (simp [nI_0, isOpF, (eq_false c1), (eq_false c2), (eq_false c3), (eq_false c4), (eq_false c5), (eq_false c6)]; done) | (simp_all [nI_0, isOpF]; done)
              · rfl
            · skip
              replace c6 : p0 = (94 : Int32) := c6
              refine Z.iconst C (v := (nI 1)) dX4_isOperator_36 (by decide) ?_
              refine Z.goto C 41 dX4_isOperator_37 (by decide) ?_
              refine Z.zret C hr hA dX4_isOperator_41 (b := true) rfl ?_ ?_
              · first | rfl | (simp [nI_0, isOpF, (eq_false c1), (eq_false c2), (eq_false c3), (eq_false c4), (eq_false c5), (eq_true c6)]; done) | (simp_all [nI_0, isOpF]; done)
              · rfl
set_option maxHeartbeats 4000000 in
set_option maxRecDepth 100000 in
theorem c_hereN {l : Launch} {D : va_G} {a : Nat → Nat} {cI cZ : ClassId} (o : OS) (q : QS)  (hL : o.2.2.1 ≤ 480) (ha : q.2.1 ≤ 490) : Mi l yX4_here wsX4_here 1 D [(cI, .int), (cZ, .boolean)] [.ref (a 0)] (wN a cI cZ o q) (hereN o.2.1 o.2.2.1 q.2.1) (wN a cI cZ o q) := by
  refine Mi.of (cc := cX4_here) (maxL := 1) (by decide) rfl (Nat.le_of_ble_eq_true rfl) ?_
  intro p e s m below meth c A C hr hA
  have in4 : ∀ w ∈ wsX40, w ∈ wsX4_here := by decide +kernel
  show Z p l e (rmN _) s m _ below meth c _ D A _ _ [(0, .ref (a 0))] 0 []
  refine Z.aload_n C dX4_here_0 0 rfl rfl ?_
  refine Z.get C in4 0 rfl rfl 28 (by decide) (by decide +kernel) rfl rfl dX4_here_1 ?_
  refine Z.aload_n C dX4_here_4 0 rfl rfl ?_
  refine Z.get C in4 0 rfl rfl 2 (by decide) (by decide +kernel) rfl rfl dX4_here_5 ?_
  refine Z.icmp_ge C 23 dX4_here_8 (by decide) (fun c1 => ?_) (fun c1 => ?_)
  · skip
    replace c1 : ¬ q.2.1 < o.2.2.1 := Nat.not_lt.mpr ((nI_leI (by omega) (by omega)).mp c1)
    refine Z.iconst C (v := (-1)) dX4_here_23 (by decide) ?_
    refine Z.iret C hr hA dX4_here_24 ?_ ?_
    · first | rfl | (simp [nI_0, hereN, (eq_false c1)]; done) | (simp_all [nI_0, hereN]; done)
    · (refine congrArg (wN a cI cZ o) ?_; first | rfl | (simp [nI_0, hereN, (eq_false c1)]; done) | (simp_all [nI_0, hereN]; done))
  · skip
    replace c1 : q.2.1 < o.2.2.1 := Nat.not_le.mp (mt (nI_leI (by omega) (by omega)).mpr c1)
    refine Z.aload_n C dX4_here_11 0 rfl rfl ?_
    refine Z.get C in4 0 rfl rfl 1 (by decide) (by decide +kernel) rfl rfl dX4_here_12 ?_
    refine Z.aload_n C dX4_here_15 0 rfl rfl ?_
    refine Z.get C in4 0 rfl rfl 28 (by decide) (by decide +kernel) rfl rfl dX4_here_16 ?_
    refine Z.iald C 1 0 rfl rfl q.2.1 rfl (by omega) (by decide) dX4_here_19 (v := (o.2.1 q.2.1)) rfl ?_
    refine Z.goto C 24 dX4_here_20 (by decide) ?_
    refine Z.iret C hr hA dX4_here_24 ?_ ?_
    · first | rfl | (simp [nI_0, hereN, (eq_true c1)]; done) | (simp_all [nI_0, hereN]; done)
    · (refine congrArg (wN a cI cZ o) ?_; first | rfl | (simp [nI_0, hereN, (eq_true c1)]; done) | (simp_all [nI_0, hereN]; done))
set_option maxHeartbeats 4000000 in
set_option maxRecDepth 100000 in
theorem c_wrong {l : Launch} {D : va_G} {a : Nat → Nat} {cI cZ : ClassId} (o : OS) (q : QS) (p0 : Nat) (hf : q.1 < 1000) : Mv l yX4_wrong wsX4_wrong 1 D [(cI, .int), (cZ, .boolean)] [.ref (a 0), .int (nI p0)] (wN a cI cZ o q) (wN a cI cZ o (qWr p0 q)) := by
  refine Mv.of (cc := cX4_wrong) (maxL := 2) (by decide) rfl (Nat.le_of_ble_eq_true rfl) ?_
  intro p e s m below meth c A C hr hA
  have in4 : ∀ w ∈ wsX40, w ∈ wsX4_wrong := by decide +kernel
  show Z p l e (rmN _) s m _ below meth c _ D A _ _ [(0, .ref (a 0)), (1, .int (nI p0))] 0 []
  refine Z.aload_n C dX4_wrong_0 0 rfl rfl ?_
  refine Z.aload_n C dX4_wrong_1 0 rfl rfl ?_
  refine Z.get C in4 0 rfl rfl 3 (by decide) (by decide +kernel) rfl rfl dX4_wrong_2 ?_
  refine Z.if_ne C 14 dX4_wrong_5 (by decide) (fun c1 => ?_) (fun c1 => ?_)
  · skip
    replace c1 : ¬ q.1 = 0 := mt (nI_eq (by omega) (by omega)).mpr c1
    refine Z.aload_n C dX4_wrong_14 0 rfl rfl ?_
    refine Z.get C in4 0 rfl rfl 3 (by decide) (by decide +kernel) rfl rfl dX4_wrong_15 ?_
    refine Z.put C in4 0 rfl rfl 3 (by decide) tyX4 tyX4_ok nmX4 (by decide +kernel) rfl rfl rfl rfl (Nat.le_of_ble_eq_true rfl) dX4_wrong_18 (w' := (wN a cI cZ o q)) rfl ?_
    refine Z.vret C hr hA dX4_wrong_21 ?_
    (refine congrArg (wN a cI cZ o) ?_; first | rfl | (simp [nI_0, qWr, wrF, (eq_false c1)]; done) | (simp_all [nI_0, qWr, wrF]; done))
  · skip
    replace c1 : q.1 = 0 := (nI_eq (by omega) (by omega)).mp c1
    refine Z.iload_n C dX4_wrong_8 1 rfl rfl ?_
    refine Z.iconst C (v := (nI 1)) dX4_wrong_9 (by decide) ?_
    refine Z.iadd C (v := (nI (p0 + 1))) dX4_wrong_10 (nI_add p0 1) ?_
    refine Z.goto C 18 dX4_wrong_11 (by decide) ?_
    refine Z.put C in4 0 rfl rfl 3 (by decide) tyX4 tyX4_ok nmX4 (by decide +kernel) rfl rfl rfl rfl (Nat.le_of_ble_eq_true rfl) dX4_wrong_18 (w' := (wN a cI cZ o (p0 + 1, q.2))) rfl ?_
    refine Z.vret C hr hA dX4_wrong_21 ?_
    (refine congrArg (wN a cI cZ o) ?_; first | rfl | (simp [nI_0, qWr, wrF, (eq_true c1)]; done) | (simp_all [nI_0, qWr, wrF]; done))
set_option maxHeartbeats 4000000 in
set_option maxRecDepth 100000 in
theorem c_want {l : Launch} {D : va_G} {a : Nat → Nat} {cI cZ : ClassId} (o : OS) (q : QS) (p0 : Int32) (hL : o.2.2.1 ≤ 480) (ha : q.2.1 ≤ 490) (hf : q.1 < 1000) : Mv l yX4_want wsX4_want 2 D [(cI, .int), (cZ, .boolean)] [.ref (a 0), .int p0] (wN a cI cZ o q) (wN a cI cZ o (qWant o.2.1 o.2.2.1 p0 q)) := by
  refine Mv.of (cc := cX4_want) (maxL := 2) (by decide) rfl (Nat.le_of_ble_eq_true rfl) ?_
  intro p e s m below meth c A C hr hA
  have in4 : ∀ w ∈ wsX40, w ∈ wsX4_want := by decide +kernel
  show Z p l e (rmN _) s m _ below meth c _ D A _ _ [(0, .ref (a 0)), (1, .int p0)] 0 []
  refine Z.aload_n C dX4_want_0 0 rfl rfl ?_
  refine Z.callVi C (nA := 0) (As := []) (st := []) (c_hereN o q (by first | omega | (dsimp only; omega)) (by first | omega | (dsimp only; omega))) gX4_want_X4_here rfl (by decide +kernel) (rm_ok (by omega) (by decide)) 0 rfl rfl rfl (Nat.le_of_ble_eq_true rfl) rfl dX4_want_1 ?_
  refine Z.iload_n C dX4_want_4 1 rfl rfl ?_
  refine Z.icmp_eq C 16 dX4_want_5 (by decide) (fun c1 => ?_) (fun c1 => ?_)
  · skip
    replace c1 : (hereN o.2.1 o.2.2.1 q.2.1) = p0 := c1
    refine Z.aload_n C dX4_want_16 0 rfl rfl ?_
    refine Z.dup C dX4_want_17 rfl ?_
    refine Z.get C in4 0 rfl rfl 28 (by decide) (by decide +kernel) rfl rfl dX4_want_18 ?_
    refine Z.iconst C (v := (nI 1)) dX4_want_21 (by decide) ?_
    refine Z.iadd C (v := (nI (q.2.1 + 1))) dX4_want_22 (nI_add q.2.1 1) ?_
    refine Z.put C in4 0 rfl rfl 28 (by decide) tyX4 tyX4_ok nmX4 (by decide +kernel) rfl rfl rfl rfl (Nat.le_of_ble_eq_true rfl) dX4_want_23 (w' := (wN a cI cZ o (q.1, q.2.1 + 1, q.2.2))) rfl ?_
    refine Z.vret C hr hA dX4_want_26 ?_
    (refine congrArg (wN a cI cZ o) ?_; first | rfl | (simp [nI_0, qWant, wanF, (eq_true c1)]; done) | (simp_all [nI_0, qWant, wanF]; done))
  · skip
    replace c1 : ¬ (hereN o.2.1 o.2.2.1 q.2.1) = p0 := c1
    refine Z.aload_n C dX4_want_8 0 rfl rfl ?_
    refine Z.aload_n C dX4_want_9 0 rfl rfl ?_
    refine Z.get C in4 0 rfl rfl 28 (by decide) (by decide +kernel) rfl rfl dX4_want_10 ?_
    refine Z.callVv C (nA := 1) (As := [.int (nI q.2.1)]) (st := []) (c_wrong o q q.2.1  (by first | omega | (dsimp only; omega))) gX4_want_X4_wrong rfl (by decide +kernel) (rm_ok (by omega) (by decide)) 0 rfl rfl rfl (Nat.le_of_ble_eq_true rfl) rfl dX4_want_13 ?_
    have w2 : wrF q.1 q.2.1 < 1000 := wrF_b (by first | omega | (dsimp only; omega)) (by first | omega | (dsimp only; omega))
    refine Z.aload_n C dX4_want_16 0 rfl rfl ?_
    refine Z.dup C dX4_want_17 rfl ?_
    refine Z.get C in4 0 rfl rfl 28 (by decide) (by decide +kernel) rfl rfl dX4_want_18 ?_
    refine Z.iconst C (v := (nI 1)) dX4_want_21 (by decide) ?_
    refine Z.iadd C (v := (nI (q.2.1 + 1))) dX4_want_22 (nI_add q.2.1 1) ?_
    refine Z.put C in4 0 rfl rfl 28 (by decide) tyX4 tyX4_ok nmX4 (by decide +kernel) rfl rfl rfl rfl (Nat.le_of_ble_eq_true rfl) dX4_want_23 (w' := (wN a cI cZ o (wrF q.1 q.2.1, q.2.1 + 1, q.2.2))) rfl ?_
    refine Z.vret C hr hA dX4_want_26 ?_
    (refine congrArg (wN a cI cZ o) ?_; first | rfl | (simp [nI_0, qWant, wanF, (eq_false c1)]; done) | (simp_all [nI_0, qWant, wanF]; done))
set_option maxHeartbeats 4000000 in
set_option maxRecDepth 100000 in
theorem c_step {l : Launch} {D : va_G} {a : Nat → Nat} {cI cZ : ClassId} (o : OS) (q : QS) (p0 : Int32) (p1 : Int32) (hd : q.2.2.2.2.2.1 < 1000) : Mv l yX4_step wsX4_step 1 D [(cI, .int), (cZ, .boolean)] [.ref (a 0), .int p0, .int p1] (wN a cI cZ o q) (wN a cI cZ o (qStep p0 p1 q)) := by
  refine Mv.of (cc := cX4_step) (maxL := 3) (by decide) rfl (Nat.le_of_ble_eq_true rfl) ?_
  intro p e s m below meth c A C hr hA
  have in4 : ∀ w ∈ wsX40, w ∈ wsX4_step := by decide +kernel
  show Z p l e (rmN _) s m _ below meth c _ D A _ _ [(0, .ref (a 0)), (1, .int p0), (2, .int p1)] 0 []
  refine Z.aload_n C dX4_step_0 0 rfl rfl ?_
  refine Z.get C in4 0 rfl rfl 8 (by decide) (by decide +kernel) rfl rfl dX4_step_1 ?_
  refine Z.aload_n C dX4_step_4 0 rfl rfl ?_
  refine Z.get C in4 0 rfl rfl 10 (by decide) (by decide +kernel) rfl rfl dX4_step_5 ?_
  refine Z.iload_n C dX4_step_8 1 rfl rfl ?_
  refine Z.iast C 6 0 rfl rfl q.2.2.2.2.2.1 rfl (by omega) (by decide) dX4_step_9 (v := p0) rfl (w' := (wN a cI cZ o (q.1, q.2.1, q.2.2.1, (upd q.2.2.2.1 q.2.2.2.2.2.1 p0), q.2.2.2.2))) rfl ?_
  refine Z.aload_n C dX4_step_10 0 rfl rfl ?_
  refine Z.get C in4 0 rfl rfl 9 (by decide) (by decide +kernel) rfl rfl dX4_step_11 ?_
  refine Z.aload_n C dX4_step_14 0 rfl rfl ?_
  refine Z.get C in4 0 rfl rfl 10 (by decide) (by decide +kernel) rfl rfl dX4_step_15 ?_
  refine Z.iload_n C dX4_step_18 2 rfl rfl ?_
  refine Z.iast C 7 0 rfl rfl q.2.2.2.2.2.1 rfl (by omega) (by decide) dX4_step_19 (v := p1) rfl (w' := (wN a cI cZ o (q.1, q.2.1, q.2.2.1, (upd q.2.2.2.1 q.2.2.2.2.2.1 p0), (upd q.2.2.2.2.1 q.2.2.2.2.2.1 p1), q.2.2.2.2.2))) rfl ?_
  refine Z.aload_n C dX4_step_20 0 rfl rfl ?_
  refine Z.dup C dX4_step_21 rfl ?_
  refine Z.get C in4 0 rfl rfl 10 (by decide) (by decide +kernel) rfl rfl dX4_step_22 ?_
  refine Z.iconst C (v := (nI 1)) dX4_step_25 (by decide) ?_
  refine Z.iadd C (v := (nI (q.2.2.2.2.2.1 + 1))) dX4_step_26 (nI_add q.2.2.2.2.2.1 1) ?_
  refine Z.put C in4 0 rfl rfl 10 (by decide) tyX4 tyX4_ok nmX4 (by decide +kernel) rfl rfl rfl rfl (Nat.le_of_ble_eq_true rfl) dX4_step_27 (w' := (wN a cI cZ o (q.1, q.2.1, q.2.2.1, (upd q.2.2.2.1 q.2.2.2.2.2.1 p0), (upd q.2.2.2.2.1 q.2.2.2.2.2.1 p1), q.2.2.2.2.2.1 + 1, q.2.2.2.2.2.2))) rfl ?_
  refine Z.vret C hr hA dX4_step_30 ?_
  (refine congrArg (wN a cI cZ o) ?_; first | rfl | (simp [nI_0, qStep]; done) | (simp_all [nI_0, qStep]; done))
set_option maxHeartbeats 4000000 in
set_option maxRecDepth 100000 in
theorem c_pushN {l : Launch} {D : va_G} {a : Nat → Nat} {cI cZ : ClassId} (o : OS) (q : QS) (p0 : Int32) (hd : q.2.2.2.2.2.2.2.2.2.1 < 520) : Mv l yX4_push wsX4_push 1 D [(cI, .int), (cZ, .boolean)] [.ref (a 0), .int p0] (wN a cI cZ o q) (wN a cI cZ o (qPush p0 q)) := by
  refine Mv.of (cc := cX4_push) (maxL := 2) (by decide) rfl (Nat.le_of_ble_eq_true rfl) ?_
  intro p e s m below meth c A C hr hA
  have in4 : ∀ w ∈ wsX40, w ∈ wsX4_push := by decide +kernel
  show Z p l e (rmN _) s m _ below meth c _ D A _ _ [(0, .ref (a 0)), (1, .int p0)] 0 []
  refine Z.aload_n C dX4_push_0 0 rfl rfl ?_
  refine Z.get C in4 0 rfl rfl 17 (by decide) (by decide +kernel) rfl rfl dX4_push_1 ?_
  refine Z.aload_n C dX4_push_4 0 rfl rfl ?_
  refine Z.get C in4 0 rfl rfl 19 (by decide) (by decide +kernel) rfl rfl dX4_push_5 ?_
  refine Z.iload_n C dX4_push_8 1 rfl rfl ?_
  refine Z.iast C 10 0 rfl rfl q.2.2.2.2.2.2.2.2.2.1 rfl (by omega) (by decide) dX4_push_9 (v := p0) rfl (w' := (wN a cI cZ o (q.1, q.2.1, q.2.2.1, q.2.2.2.1, q.2.2.2.2.1, q.2.2.2.2.2.1, q.2.2.2.2.2.2.1, (upd q.2.2.2.2.2.2.2.1 q.2.2.2.2.2.2.2.2.2.1 p0), q.2.2.2.2.2.2.2.2))) rfl ?_
  refine Z.aload_n C dX4_push_10 0 rfl rfl ?_
  refine Z.get C in4 0 rfl rfl 18 (by decide) (by decide +kernel) rfl rfl dX4_push_11 ?_
  refine Z.aload_n C dX4_push_14 0 rfl rfl ?_
  refine Z.get C in4 0 rfl rfl 19 (by decide) (by decide +kernel) rfl rfl dX4_push_15 ?_
  refine Z.iconst C (v := (nI 0)) dX4_push_18 (by decide) ?_
  refine Z.iast C 11 0 rfl rfl q.2.2.2.2.2.2.2.2.2.1 rfl (by omega) (by decide) dX4_push_19 (v := (0 : Int32)) rfl (w' := (wN a cI cZ o (q.1, q.2.1, q.2.2.1, q.2.2.2.1, q.2.2.2.2.1, q.2.2.2.2.2.1, q.2.2.2.2.2.2.1, (upd q.2.2.2.2.2.2.2.1 q.2.2.2.2.2.2.2.2.2.1 p0), (upd q.2.2.2.2.2.2.2.2.1 q.2.2.2.2.2.2.2.2.2.1 (0 : Int32)), q.2.2.2.2.2.2.2.2.2))) rfl ?_
  refine Z.aload_n C dX4_push_20 0 rfl rfl ?_
  refine Z.dup C dX4_push_21 rfl ?_
  refine Z.get C in4 0 rfl rfl 19 (by decide) (by decide +kernel) rfl rfl dX4_push_22 ?_
  refine Z.iconst C (v := (nI 1)) dX4_push_25 (by decide) ?_
  refine Z.iadd C (v := (nI (q.2.2.2.2.2.2.2.2.2.1 + 1))) dX4_push_26 (nI_add q.2.2.2.2.2.2.2.2.2.1 1) ?_
  refine Z.put C in4 0 rfl rfl 19 (by decide) tyX4 tyX4_ok nmX4 (by decide +kernel) rfl rfl rfl rfl (Nat.le_of_ble_eq_true rfl) dX4_push_27 (w' := (wN a cI cZ o (q.1, q.2.1, q.2.2.1, q.2.2.2.1, q.2.2.2.2.1, q.2.2.2.2.2.1, q.2.2.2.2.2.2.1, (upd q.2.2.2.2.2.2.2.1 q.2.2.2.2.2.2.2.2.2.1 p0), (upd q.2.2.2.2.2.2.2.2.1 q.2.2.2.2.2.2.2.2.2.1 (0 : Int32)), q.2.2.2.2.2.2.2.2.2.1 + 1, q.2.2.2.2.2.2.2.2.2.2))) rfl ?_
  refine Z.vret C hr hA dX4_push_30 ?_
  (refine congrArg (wN a cI cZ o) ?_; first | rfl | (simp [nI_0, qPush]; done) | (simp_all [nI_0, qPush]; done))
set_option maxHeartbeats 4000000 in
set_option maxRecDepth 100000 in
theorem c_settle {l : Launch} {D : va_G} {a : Nat → Nat} {cI cZ : ClassId} (o : OS) (q : QS) (p0 : Bool) (hd : q.2.2.2.2.2.2.2.2.2.2.2.2.1 < 520) : Mv l yX4_settle wsX4_settle 1 D [(cI, .int), (cZ, .boolean)] [.ref (a 0), .int (b2i p0)] (wN a cI cZ o q) (wN a cI cZ o (qSettle p0 q)) := by
  refine Mv.of (cc := cX4_settle) (maxL := 2) (by decide) rfl (Nat.le_of_ble_eq_true rfl) ?_
  intro p e s m below meth c A C hr hA
  have in4 : ∀ w ∈ wsX40, w ∈ wsX4_settle := by decide +kernel
  show Z p l e (rmN _) s m _ below meth c _ D A _ _ [(0, .ref (a 0)), (1, .int (b2i p0))] 0 []
  refine Z.aload_n C dX4_settle_0 0 rfl rfl ?_
  refine Z.get C in4 0 rfl rfl 21 (by decide) (by decide +kernel) rfl rfl dX4_settle_1 ?_
  refine Z.aload_n C dX4_settle_4 0 rfl rfl ?_
  refine Z.get C in4 0 rfl rfl 22 (by decide) (by decide +kernel) rfl rfl dX4_settle_5 ?_
  refine Z.iload_n C dX4_settle_8 1 rfl rfl ?_
  refine Z.zast C 12 1 rfl rfl q.2.2.2.2.2.2.2.2.2.2.2.2.1 rfl (by omega) (by decide) dX4_settle_9 (v := (b2i p0)) (vp_nar_b2i _) (w' := (wN a cI cZ o (q.1, q.2.1, q.2.2.1, q.2.2.2.1, q.2.2.2.2.1, q.2.2.2.2.2.1, q.2.2.2.2.2.2.1, q.2.2.2.2.2.2.2.1, q.2.2.2.2.2.2.2.2.1, q.2.2.2.2.2.2.2.2.2.1, q.2.2.2.2.2.2.2.2.2.2.1, (upd q.2.2.2.2.2.2.2.2.2.2.2.1 q.2.2.2.2.2.2.2.2.2.2.2.2.1 (b2i p0)), q.2.2.2.2.2.2.2.2.2.2.2.2))) rfl ?_
  refine Z.aload_n C dX4_settle_10 0 rfl rfl ?_
  refine Z.dup C dX4_settle_11 rfl ?_
  refine Z.get C in4 0 rfl rfl 22 (by decide) (by decide +kernel) rfl rfl dX4_settle_12 ?_
  refine Z.iconst C (v := (nI 1)) dX4_settle_15 (by decide) ?_
  refine Z.iadd C (v := (nI (q.2.2.2.2.2.2.2.2.2.2.2.2.1 + 1))) dX4_settle_16 (nI_add q.2.2.2.2.2.2.2.2.2.2.2.2.1 1) ?_
  refine Z.put C in4 0 rfl rfl 22 (by decide) tyX4 tyX4_ok nmX4 (by decide +kernel) rfl rfl rfl rfl (Nat.le_of_ble_eq_true rfl) dX4_settle_17 (w' := (wN a cI cZ o (q.1, q.2.1, q.2.2.1, q.2.2.2.1, q.2.2.2.2.1, q.2.2.2.2.2.1, q.2.2.2.2.2.2.1, q.2.2.2.2.2.2.2.1, q.2.2.2.2.2.2.2.2.1, q.2.2.2.2.2.2.2.2.2.1, q.2.2.2.2.2.2.2.2.2.2.1, (upd q.2.2.2.2.2.2.2.2.2.2.2.1 q.2.2.2.2.2.2.2.2.2.2.2.2.1 (b2i p0)), q.2.2.2.2.2.2.2.2.2.2.2.2.1 + 1, q.2.2.2.2.2.2.2.2.2.2.2.2.2))) rfl ?_
  refine Z.vret C hr hA dX4_settle_20 ?_
  (refine congrArg (wN a cI cZ o) ?_; first | rfl | (simp [nI_0, qSettle]; done) | (simp_all [nI_0, qSettle]; done))
set_option maxHeartbeats 4000000 in
set_option maxRecDepth 100000 in
theorem c_blockN {l : Launch} {D : va_G} {a : Nat → Nat} {cI cZ : ClassId} (o : OS) (q : QS) (p0 : Int32) (p1 : Int32) (p2 : Int32) (hd : q.2.2.2.2.2.2.2.2.2.2.2.2.2.2.2.2.2.1 < 8) : Mv l yX4_block wsX4_block 1 D [(cI, .int), (cZ, .boolean)] [.ref (a 0), .int p0, .int p1, .int p2] (wN a cI cZ o q) (wN a cI cZ o (qBlock p0 p1 p2 q)) := by
  refine Mv.of (cc := cX4_block) (maxL := 4) (by decide) rfl (Nat.le_of_ble_eq_true rfl) ?_
  intro p e s m below meth c A C hr hA
  have in4 : ∀ w ∈ wsX40, w ∈ wsX4_block := by decide +kernel
  show Z p l e (rmN _) s m _ below meth c _ D A _ _ [(0, .ref (a 0)), (1, .int p0), (2, .int p1), (3, .int p2)] 0 []
  refine Z.aload_n C dX4_block_0 0 rfl rfl ?_
  refine Z.get C in4 0 rfl rfl 24 (by decide) (by decide +kernel) rfl rfl dX4_block_1 ?_
  refine Z.aload_n C dX4_block_4 0 rfl rfl ?_
  refine Z.get C in4 0 rfl rfl 27 (by decide) (by decide +kernel) rfl rfl dX4_block_5 ?_
  refine Z.iload_n C dX4_block_8 1 rfl rfl ?_
  refine Z.iast C 13 0 rfl rfl q.2.2.2.2.2.2.2.2.2.2.2.2.2.2.2.2.2.1 rfl (by omega) (by decide) dX4_block_9 (v := p0) rfl (w' := (wN a cI cZ o (q.1, q.2.1, q.2.2.1, q.2.2.2.1, q.2.2.2.2.1, q.2.2.2.2.2.1, q.2.2.2.2.2.2.1, q.2.2.2.2.2.2.2.1, q.2.2.2.2.2.2.2.2.1, q.2.2.2.2.2.2.2.2.2.1, q.2.2.2.2.2.2.2.2.2.2.1, q.2.2.2.2.2.2.2.2.2.2.2.1, q.2.2.2.2.2.2.2.2.2.2.2.2.1, q.2.2.2.2.2.2.2.2.2.2.2.2.2.1, (upd q.2.2.2.2.2.2.2.2.2.2.2.2.2.2.1 q.2.2.2.2.2.2.2.2.2.2.2.2.2.2.2.2.2.1 p0), q.2.2.2.2.2.2.2.2.2.2.2.2.2.2.2))) rfl ?_
  refine Z.aload_n C dX4_block_10 0 rfl rfl ?_
  refine Z.get C in4 0 rfl rfl 25 (by decide) (by decide +kernel) rfl rfl dX4_block_11 ?_
  refine Z.aload_n C dX4_block_14 0 rfl rfl ?_
  refine Z.get C in4 0 rfl rfl 27 (by decide) (by decide +kernel) rfl rfl dX4_block_15 ?_
  refine Z.iload_n C dX4_block_18 2 rfl rfl ?_
  refine Z.iast C 14 0 rfl rfl q.2.2.2.2.2.2.2.2.2.2.2.2.2.2.2.2.2.1 rfl (by omega) (by decide) dX4_block_19 (v := p1) rfl (w' := (wN a cI cZ o (q.1, q.2.1, q.2.2.1, q.2.2.2.1, q.2.2.2.2.1, q.2.2.2.2.2.1, q.2.2.2.2.2.2.1, q.2.2.2.2.2.2.2.1, q.2.2.2.2.2.2.2.2.1, q.2.2.2.2.2.2.2.2.2.1, q.2.2.2.2.2.2.2.2.2.2.1, q.2.2.2.2.2.2.2.2.2.2.2.1, q.2.2.2.2.2.2.2.2.2.2.2.2.1, q.2.2.2.2.2.2.2.2.2.2.2.2.2.1, (upd q.2.2.2.2.2.2.2.2.2.2.2.2.2.2.1 q.2.2.2.2.2.2.2.2.2.2.2.2.2.2.2.2.2.1 p0), (upd q.2.2.2.2.2.2.2.2.2.2.2.2.2.2.2.1 q.2.2.2.2.2.2.2.2.2.2.2.2.2.2.2.2.2.1 p1), q.2.2.2.2.2.2.2.2.2.2.2.2.2.2.2.2))) rfl ?_
  refine Z.aload_n C dX4_block_20 0 rfl rfl ?_
  refine Z.dup C dX4_block_21 rfl ?_
  refine Z.get C in4 0 rfl rfl 27 (by decide) (by decide +kernel) rfl rfl dX4_block_22 ?_
  refine Z.iconst C (v := (nI 1)) dX4_block_25 (by decide) ?_
  refine Z.iadd C (v := (nI (q.2.2.2.2.2.2.2.2.2.2.2.2.2.2.2.2.2.1 + 1))) dX4_block_26 (nI_add q.2.2.2.2.2.2.2.2.2.2.2.2.2.2.2.2.2.1 1) ?_
  refine Z.put C in4 0 rfl rfl 27 (by decide) tyX4 tyX4_ok nmX4 (by decide +kernel) rfl rfl rfl rfl (Nat.le_of_ble_eq_true rfl) dX4_block_27 (w' := (wN a cI cZ o (q.1, q.2.1, q.2.2.1, q.2.2.2.1, q.2.2.2.2.1, q.2.2.2.2.2.1, q.2.2.2.2.2.2.1, q.2.2.2.2.2.2.2.1, q.2.2.2.2.2.2.2.2.1, q.2.2.2.2.2.2.2.2.2.1, q.2.2.2.2.2.2.2.2.2.2.1, q.2.2.2.2.2.2.2.2.2.2.2.1, q.2.2.2.2.2.2.2.2.2.2.2.2.1, q.2.2.2.2.2.2.2.2.2.2.2.2.2.1, (upd q.2.2.2.2.2.2.2.2.2.2.2.2.2.2.1 q.2.2.2.2.2.2.2.2.2.2.2.2.2.2.2.2.2.1 p0), (upd q.2.2.2.2.2.2.2.2.2.2.2.2.2.2.2.1 q.2.2.2.2.2.2.2.2.2.2.2.2.2.2.2.2.2.1 p1), q.2.2.2.2.2.2.2.2.2.2.2.2.2.2.2.2.1, q.2.2.2.2.2.2.2.2.2.2.2.2.2.2.2.2.2.1 + 1, q.2.2.2.2.2.2.2.2.2.2.2.2.2.2.2.2.2.2))) rfl ?_
  refine Z.aload_n C dX4_block_30 0 rfl rfl ?_
  refine Z.get C in4 0 rfl rfl 26 (by decide) (by decide +kernel) rfl rfl dX4_block_31 ?_
  refine Z.aload_n C dX4_block_34 0 rfl rfl ?_
  refine Z.get C in4 0 rfl rfl 27 (by decide) (by decide +kernel) rfl rfl dX4_block_35 ?_
  refine Z.iload_n C dX4_block_38 3 rfl rfl ?_
  refine Z.iast C 15 0 rfl rfl (q.2.2.2.2.2.2.2.2.2.2.2.2.2.2.2.2.2.1 + 1) rfl (by omega) (by decide) dX4_block_39 (v := p2) rfl (w' := (wN a cI cZ o (q.1, q.2.1, q.2.2.1, q.2.2.2.1, q.2.2.2.2.1, q.2.2.2.2.2.1, q.2.2.2.2.2.2.1, q.2.2.2.2.2.2.2.1, q.2.2.2.2.2.2.2.2.1, q.2.2.2.2.2.2.2.2.2.1, q.2.2.2.2.2.2.2.2.2.2.1, q.2.2.2.2.2.2.2.2.2.2.2.1, q.2.2.2.2.2.2.2.2.2.2.2.2.1, q.2.2.2.2.2.2.2.2.2.2.2.2.2.1, (upd q.2.2.2.2.2.2.2.2.2.2.2.2.2.2.1 q.2.2.2.2.2.2.2.2.2.2.2.2.2.2.2.2.2.1 p0), (upd q.2.2.2.2.2.2.2.2.2.2.2.2.2.2.2.1 q.2.2.2.2.2.2.2.2.2.2.2.2.2.2.2.2.2.1 p1), (upd q.2.2.2.2.2.2.2.2.2.2.2.2.2.2.2.2.1 (q.2.2.2.2.2.2.2.2.2.2.2.2.2.2.2.2.2.1 + 1) p2), q.2.2.2.2.2.2.2.2.2.2.2.2.2.2.2.2.2.1 + 1, q.2.2.2.2.2.2.2.2.2.2.2.2.2.2.2.2.2.2))) rfl ?_
  refine Z.vret C hr hA dX4_block_40 ?_
  (refine congrArg (wN a cI cZ o) ?_; first | rfl | (simp [nI_0, qBlock]; done) | (simp_all [nI_0, qBlock]; done))
set_option maxHeartbeats 4000000 in
set_option maxRecDepth 100000 in
theorem c_isLoop {l : Launch} {D : va_G} {a : Nat → Nat} {cI cZ : ClassId} (o : OS) (q : QS) (p0 : Int32) (hb : q.2.2.2.2.2.2.2.2.2.2.2.2.2.2.2.2.2.1 ≤ 8) : Mi l yX4_isLoop wsX4_isLoop 1 D [(cI, .int), (cZ, .boolean)] [.ref (a 0), .int p0] (wN a cI cZ o q) (b2i (isLoopF q.2.2.2.2.2.2.2.2.2.2.2.2.2.2.1 q.2.2.2.2.2.2.2.2.2.2.2.2.2.2.2.2.2.1 p0)) (wN a cI cZ o q) := by
  refine Mi.of (cc := cX4_isLoop) (maxL := 4) (by decide) rfl (Nat.le_of_ble_eq_true rfl) ?_
  intro p e s m below meth c A C hr hA
  have in4 : ∀ w ∈ wsX40, w ∈ wsX4_isLoop := by decide +kernel
  show Z p l e (rmN _) s m _ below meth c _ D A _ _ [(0, .ref (a 0)), (1, .int p0)] 0 []
  refine Z.iconst C (v := (nI 0)) dX4_isLoop_0 (by decide) ?_
  refine Z.istore_n C (lv' := [(2, .int (nI 0)), (0, .ref (a 0)), (1, .int p0)]) dX4_isLoop_1 rfl (by decide) rfl ?_
  refine Z.iconst C (v := (nI 0)) dX4_isLoop_2 (by decide) ?_
  refine Z.istore_n C (lv' := [(3, .int (nI 0)), (2, .int (nI 0)), (0, .ref (a 0)), (1, .int p0)]) dX4_isLoop_3 rfl (by decide) rfl ?_
  have key4 : ∀ (n : Nat) (b : Nat) (is : Bool), b + n = q.2.2.2.2.2.2.2.2.2.2.2.2.2.2.2.2.2.1 → isLoopF q.2.2.2.2.2.2.2.2.2.2.2.2.2.2.1 q.2.2.2.2.2.2.2.2.2.2.2.2.2.2.2.2.2.1 p0 = isLoopL q.2.2.2.2.2.2.2.2.2.2.2.2.2.2.1 p0 n b is → Z p l e (rmN 1) s m ([.ref (a 0), .int p0] : List Value).toArray below meth c 4 D A (QI below D [(cI, .int), (cZ, .boolean)] [.ref (a 0), .int p0] (wN a cI cZ o q) (b2i (isLoopF q.2.2.2.2.2.2.2.2.2.2.2.2.2.2.1 q.2.2.2.2.2.2.2.2.2.2.2.2.2.2.2.2.2.1 p0)) (wN a cI cZ o q) s) (wN a cI cZ o q) [(3, .int (nI b)), (2, .int (b2i is)), (0, .ref (a 0)), (1, .int p0)] 4 [] := by
    intro n
    induction n with
    | zero =>
      intro b is hn hm4
      refine Z.iload_n C dX4_isLoop_4 0 rfl rfl ?_
      refine Z.aload_n C dX4_isLoop_5 2 rfl rfl ?_
      refine Z.get C in4 0 rfl rfl 27 (by decide) (by decide +kernel) rfl rfl dX4_isLoop_6 ?_
      refine Z.icmp_ge C 38 dX4_isLoop_9 (by decide) (fun c1 => ?_) (fun c1 => ?_)
      · skip
        replace c1 : ¬ b < q.2.2.2.2.2.2.2.2.2.2.2.2.2.2.2.2.2.1 := Nat.not_lt.mpr ((nI_leI (by omega) (by omega)).mp c1)
        refine Z.iload_n C dX4_isLoop_38 1 rfl rfl ?_
        refine Z.zret C hr hA dX4_isLoop_39 (b := is) rfl ?_ ?_
        · (rw [hm4]; rfl)
        · rfl
      · skip
        replace c1 : b < q.2.2.2.2.2.2.2.2.2.2.2.2.2.2.2.2.2.1 := Nat.not_le.mp (mt (nI_leI (by omega) (by omega)).mpr c1)
        exact absurd c1 (by omega)
    | succ n ih4 =>
      intro b is hn hm4
      refine Z.iload_n C dX4_isLoop_4 0 rfl rfl ?_
      refine Z.aload_n C dX4_isLoop_5 2 rfl rfl ?_
      refine Z.get C in4 0 rfl rfl 27 (by decide) (by decide +kernel) rfl rfl dX4_isLoop_6 ?_
      refine Z.icmp_ge C 38 dX4_isLoop_9 (by decide) (fun c2 => ?_) (fun c2 => ?_)
      · skip
        replace c2 : ¬ b < q.2.2.2.2.2.2.2.2.2.2.2.2.2.2.2.2.2.1 := Nat.not_lt.mpr ((nI_leI (by omega) (by omega)).mp c2)
        exact absurd c2 (by omega)
      · skip
        replace c2 : b < q.2.2.2.2.2.2.2.2.2.2.2.2.2.2.2.2.2.1 := Nat.not_le.mp (mt (nI_leI (by omega) (by omega)).mpr c2)
        refine Z.iload_n C dX4_isLoop_12 1 rfl rfl ?_
        refine Z.if_ne C 26 dX4_isLoop_13 (by decide) (fun c3 => ?_) (fun c3 => ?_)
        · skip
          replace c3 : is = true := b2i_n0.mp c3
          refine Z.iconst C (v := (nI 1)) dX4_isLoop_26 (by decide) ?_
          refine Z.goto C 31 dX4_isLoop_27 (by decide) ?_
          refine Z.istore_n C (lv' := [(2, .int (nI 1)), (3, .int (nI b)), (0, .ref (a 0)), (1, .int p0)]) dX4_isLoop_31 rfl (by decide) rfl ?_
          refine Z.iinc C (v := (nI (b + 1))) (lv' := [(3, .int (nI (b + 1))), (2, .int (nI 1)), (0, .ref (a 0)), (1, .int p0)]) dX4_isLoop_32 1 rfl (nI_add b 1) (by decide) rfl ?_
          refine Z.goto C 4 dX4_isLoop_35 (by decide) ?_
          refine Z.sub [0, 1, 2, 3] rfl ?_
          exact ih4 (b + 1) true (by omega) (by rw [hm4, isLoopL]; simp [c3])
        · skip
          replace c3 : is = false := b2i_0.mp c3
          refine Z.aload_n C dX4_isLoop_16 2 rfl rfl ?_
          refine Z.get C in4 0 rfl rfl 24 (by decide) (by decide +kernel) rfl rfl dX4_isLoop_17 ?_
          refine Z.iload_n C dX4_isLoop_20 0 rfl rfl ?_
          refine Z.iald C 13 0 rfl rfl b rfl (by omega) (by decide) dX4_isLoop_21 (v := (q.2.2.2.2.2.2.2.2.2.2.2.2.2.2.1 b)) rfl ?_
          refine Z.iload_n C dX4_isLoop_22 3 rfl rfl ?_
          refine Z.icmp_ne C 30 dX4_isLoop_23 (by decide) (fun c4 => ?_) (fun c4 => ?_)
          · skip
            replace c4 : ¬ (q.2.2.2.2.2.2.2.2.2.2.2.2.2.2.1 b) = p0 := c4
            refine Z.iconst C (v := (nI 0)) dX4_isLoop_30 (by decide) ?_
            refine Z.istore_n C (lv' := [(2, .int (nI 0)), (3, .int (nI b)), (0, .ref (a 0)), (1, .int p0)]) dX4_isLoop_31 rfl (by decide) rfl ?_
            refine Z.iinc C (v := (nI (b + 1))) (lv' := [(3, .int (nI (b + 1))), (2, .int (nI 0)), (0, .ref (a 0)), (1, .int p0)]) dX4_isLoop_32 1 rfl (nI_add b 1) (by decide) rfl ?_
            refine Z.goto C 4 dX4_isLoop_35 (by decide) ?_
            refine Z.sub [0, 1, 2, 3] rfl ?_
            exact ih4 (b + 1) false (by omega) (by rw [hm4, isLoopL]; simp [c3, (eq_false c4)])
          · skip
            replace c4 : (q.2.2.2.2.2.2.2.2.2.2.2.2.2.2.1 b) = p0 := c4
            refine Z.iconst C (v := (nI 1)) dX4_isLoop_26 (by decide) ?_
            refine Z.goto C 31 dX4_isLoop_27 (by decide) ?_
            refine Z.istore_n C (lv' := [(2, .int (nI 1)), (3, .int (nI b)), (0, .ref (a 0)), (1, .int p0)]) dX4_isLoop_31 rfl (by decide) rfl ?_
            refine Z.iinc C (v := (nI (b + 1))) (lv' := [(3, .int (nI (b + 1))), (2, .int (nI 1)), (0, .ref (a 0)), (1, .int p0)]) dX4_isLoop_32 1 rfl (nI_add b 1) (by decide) rfl ?_
            refine Z.goto C 4 dX4_isLoop_35 (by decide) ?_
            refine Z.sub [0, 1, 2, 3] rfl ?_
            exact ih4 (b + 1) true (by omega) (by rw [hm4, isLoopL]; simp [c3, (eq_true c4)])
  refine Z.sub [0, 1, 2, 3] rfl ?_
  exact key4 q.2.2.2.2.2.2.2.2.2.2.2.2.2.2.2.2.2.1 0 false (by omega) rfl
