set_option maxHeartbeats 4000000 in
set_option maxRecDepth 100000 in
theorem c_empty {l : Launch} {D : va_G} {aR aT aC aK aF aS : Nat} {cC cI : ClassId} {tx : Nat → Int32} {len : Nat} (r : RS)  (hI : InvR len r) : Mv l yX0_empty wsX0_empty 1 D [(cC, .char), (cI, .int)] [.ref aC] (wR aR aT aC aK aF aS cC cI tx len r) (wR aR aT aC aK aF aS cC cI tx len (rC r (r.2.2.2.2.2.1, r.2.2.2.2.2.2.1, r.2.2.2.2.2.2.2.1, 0, 0, 0))) := by
  refine Mv.of (cc := cX0_empty) (maxL := 1) (by decide) rfl (Nat.le_of_ble_eq_true rfl) ?_
  intro p e s m below meth c A C hr hA
  have in0 : ∀ w ∈ wsX00, w ∈ wsX0_empty := by decide +kernel
  show Z p l e (rmN _) s m _ below meth c _ D A _ _ [(0, .ref aC)] 0 []
  obtain ⟨hI1, hI2, hI3, hI4⟩ := hI
  dsimp only [csz] at hI3
  refine Z.aload_n C dX0_empty_0 0 rfl rfl ?_
  refine Z.iconst C (v := (nI 0)) dX0_empty_1 (by decide) ?_
  refine Z.put C in0 2 rfl rfl 3 (by decide) tyX0 tyX0_ok nmX0 (by decide +kernel) rfl rfl rfl rfl (Nat.le_of_ble_eq_true rfl) dX0_empty_2 (w' := (wR aR aT aC aK aF aS cC cI tx len (r.1, r.2.1, r.2.2.1, r.2.2.2.1, r.2.2.2.2.1, r.2.2.2.2.2.1, r.2.2.2.2.2.2.1, r.2.2.2.2.2.2.2.1, 0, r.2.2.2.2.2.2.2.2.2))) rfl ?_
  refine Z.aload_n C dX0_empty_5 0 rfl rfl ?_
  refine Z.iconst C (v := (nI 0)) dX0_empty_6 (by decide) ?_
  refine Z.put C in0 2 rfl rfl 4 (by decide) tyX0 tyX0_ok nmX0 (by decide +kernel) rfl rfl rfl rfl (Nat.le_of_ble_eq_true rfl) dX0_empty_7 (w' := (wR aR aT aC aK aF aS cC cI tx len (r.1, r.2.1, r.2.2.1, r.2.2.2.1, r.2.2.2.2.1, r.2.2.2.2.2.1, r.2.2.2.2.2.2.1, r.2.2.2.2.2.2.2.1, 0, 0, r.2.2.2.2.2.2.2.2.2.2))) rfl ?_
  refine Z.aload_n C dX0_empty_10 0 rfl rfl ?_
  refine Z.iconst C (v := (nI 0)) dX0_empty_11 (by decide) ?_
  refine Z.put C in0 2 rfl rfl 5 (by decide) tyX0 tyX0_ok nmX0 (by decide +kernel) rfl rfl rfl rfl (Nat.le_of_ble_eq_true rfl) dX0_empty_12 (w' := (wR aR aT aC aK aF aS cC cI tx len (r.1, r.2.1, r.2.2.1, r.2.2.2.1, r.2.2.2.2.1, r.2.2.2.2.2.1, r.2.2.2.2.2.2.1, r.2.2.2.2.2.2.2.1, 0, 0, 0))) rfl ?_
  refine Z.vret C hr hA dX0_empty_15 ?_
  (refine congrArg (wR aR aT aC aK aF aS cC cI tx len) ?_; first | rfl | (simp [nI_0, rC]; done) | (simp_all [nI_0, rC]; done))
set_option maxHeartbeats 4000000 in
set_option maxRecDepth 100000 in
theorem c_add {l : Launch} {D : va_G} {aR aT aC aK aF aS : Nat} {cC cI : ClassId} {tx : Nat → Int32} {len : Nat} (r : RS) (p0 : Int32) (p1 : Int32) (p2 : Int32) (hI : InvR len r) : Mv l yX0_add wsX0_add 1 D [(cC, .char), (cI, .int)] [.ref aC, .int p0, .int p1, .int p2] (wR aR aT aC aK aF aS cC cI tx len r) (wR aR aT aC aK aF aS cC cI tx len (rC r (cAdd p0 p1 p2 r.2.2.2.2.2))) := by
  refine Mv.of (cc := cX0_add) (maxL := 4) (by decide) rfl (Nat.le_of_ble_eq_true rfl) ?_
  intro p e s m below meth c A C hr hA
  have in0 : ∀ w ∈ wsX00, w ∈ wsX0_add := by decide +kernel
  show Z p l e (rmN _) s m _ below meth c _ D A _ _ [(0, .ref aC), (1, .int p0), (2, .int p1), (3, .int p2)] 0 []
  obtain ⟨hI1, hI2, hI3, hI4⟩ := hI
  dsimp only [csz] at hI3
  refine Z.aload_n C dX0_add_0 0 rfl rfl ?_
  refine Z.get C in0 2 rfl rfl 3 (by decide) (by decide +kernel) rfl rfl dX0_add_1 ?_
  refine Z.aload_n C dX0_add_4 0 rfl rfl ?_
  refine Z.get C in0 2 rfl rfl 0 (by decide) (by decide +kernel) rfl rfl dX0_add_5 ?_
  refine Z.alen C 3 1 rfl rfl (v := nI 480) rfl dX0_add_8 ?_
  refine Z.icmp_ge C 52 dX0_add_9 (by decide) (fun c1 => ?_) (fun c1 => ?_)
  · skip
    replace c1 : ¬ r.2.2.2.2.2.2.2.2.1 < 480 := Nat.not_lt.mpr ((nI_leI (by omega) (by omega)).mp c1)
    refine Z.vret C hr hA dX0_add_52 ?_
    (refine congrArg (wR aR aT aC aK aF aS cC cI tx len) ?_; first | rfl | (simp [nI_0, rC, cAdd, csz, (eq_false c1)]; done) | (simp_all [nI_0, rC, cAdd, csz]; done))
  · skip
    replace c1 : r.2.2.2.2.2.2.2.2.1 < 480 := Nat.not_le.mp (mt (nI_leI (by omega) (by omega)).mpr c1)
    refine Z.aload_n C dX0_add_12 0 rfl rfl ?_
    refine Z.get C in0 2 rfl rfl 0 (by decide) (by decide +kernel) rfl rfl dX0_add_13 ?_
    refine Z.aload_n C dX0_add_16 0 rfl rfl ?_
    refine Z.get C in0 2 rfl rfl 3 (by decide) (by decide +kernel) rfl rfl dX0_add_17 ?_
    refine Z.iload_n C dX0_add_20 1 rfl rfl ?_
    refine Z.iast C 3 1 rfl rfl r.2.2.2.2.2.2.2.2.1 rfl (by omega) (by decide) dX0_add_21 (v := p0) rfl (w' := (wR aR aT aC aK aF aS cC cI tx len (r.1, r.2.1, r.2.2.1, r.2.2.2.1, r.2.2.2.2.1, (upd r.2.2.2.2.2.1 r.2.2.2.2.2.2.2.2.1 p0), r.2.2.2.2.2.2))) rfl ?_
    refine Z.aload_n C dX0_add_22 0 rfl rfl ?_
    refine Z.get C in0 2 rfl rfl 1 (by decide) (by decide +kernel) rfl rfl dX0_add_23 ?_
    refine Z.aload_n C dX0_add_26 0 rfl rfl ?_
    refine Z.get C in0 2 rfl rfl 3 (by decide) (by decide +kernel) rfl rfl dX0_add_27 ?_
    refine Z.iload_n C dX0_add_30 2 rfl rfl ?_
    refine Z.iast C 4 1 rfl rfl r.2.2.2.2.2.2.2.2.1 rfl (by omega) (by decide) dX0_add_31 (v := p1) rfl (w' := (wR aR aT aC aK aF aS cC cI tx len (r.1, r.2.1, r.2.2.1, r.2.2.2.1, r.2.2.2.2.1, (upd r.2.2.2.2.2.1 r.2.2.2.2.2.2.2.2.1 p0), (upd r.2.2.2.2.2.2.1 r.2.2.2.2.2.2.2.2.1 p1), r.2.2.2.2.2.2.2))) rfl ?_
    refine Z.aload_n C dX0_add_32 0 rfl rfl ?_
    refine Z.get C in0 2 rfl rfl 2 (by decide) (by decide +kernel) rfl rfl dX0_add_33 ?_
    refine Z.aload_n C dX0_add_36 0 rfl rfl ?_
    refine Z.get C in0 2 rfl rfl 3 (by decide) (by decide +kernel) rfl rfl dX0_add_37 ?_
    refine Z.iload_n C dX0_add_40 3 rfl rfl ?_
    refine Z.iast C 5 1 rfl rfl r.2.2.2.2.2.2.2.2.1 rfl (by omega) (by decide) dX0_add_41 (v := p2) rfl (w' := (wR aR aT aC aK aF aS cC cI tx len (r.1, r.2.1, r.2.2.1, r.2.2.2.1, r.2.2.2.2.1, (upd r.2.2.2.2.2.1 r.2.2.2.2.2.2.2.2.1 p0), (upd r.2.2.2.2.2.2.1 r.2.2.2.2.2.2.2.2.1 p1), (upd r.2.2.2.2.2.2.2.1 r.2.2.2.2.2.2.2.2.1 p2), r.2.2.2.2.2.2.2.2))) rfl ?_
    refine Z.aload_n C dX0_add_42 0 rfl rfl ?_
    refine Z.dup C dX0_add_43 rfl ?_
    refine Z.get C in0 2 rfl rfl 3 (by decide) (by decide +kernel) rfl rfl dX0_add_44 ?_
    refine Z.iconst C (v := (nI 1)) dX0_add_47 (by decide) ?_
    refine Z.iadd C (v := (nI (r.2.2.2.2.2.2.2.2.1 + 1))) dX0_add_48 (nI_add r.2.2.2.2.2.2.2.2.1 1) ?_
    refine Z.put C in0 2 rfl rfl 3 (by decide) tyX0 tyX0_ok nmX0 (by decide +kernel) rfl rfl rfl rfl (Nat.le_of_ble_eq_true rfl) dX0_add_49 (w' := (wR aR aT aC aK aF aS cC cI tx len (r.1, r.2.1, r.2.2.1, r.2.2.2.1, r.2.2.2.2.1, (upd r.2.2.2.2.2.1 r.2.2.2.2.2.2.2.2.1 p0), (upd r.2.2.2.2.2.2.1 r.2.2.2.2.2.2.2.2.1 p1), (upd r.2.2.2.2.2.2.2.1 r.2.2.2.2.2.2.2.2.1 p2), r.2.2.2.2.2.2.2.2.1 + 1, r.2.2.2.2.2.2.2.2.2))) rfl ?_
    refine Z.vret C hr hA dX0_add_52 ?_
    (refine congrArg (wR aR aT aC aK aF aS cC cI tx len) ?_; first | rfl | (simp [nI_0, rC, cAdd, csz, (eq_true c1)]; done) | (simp_all [nI_0, rC, cAdd, csz]; done))
set_option maxHeartbeats 4000000 in
set_option maxRecDepth 100000 in
theorem c_ends1 {l : Launch} {D : va_G} {aR aT aC aK aF aS : Nat} {cC cI : ClassId} {tx : Nat → Int32} {len : Nat} (r : RS)  (hI : InvR len r) : Mi l yX0_endsInNumbers wsX0_endsInNumbers 1 D [(cC, .char), (cI, .int)] [.ref aC, .int (nI 1)] (wR aR aT aC aK aF aS cC cI tx len r) (b2i (cEnds 1 r.2.2.2.2.2)) (wR aR aT aC aK aF aS cC cI tx len r) := by
  refine Mi.of (cc := cX0_endsInNumbers) (maxL := 3) (by decide) rfl (Nat.le_of_ble_eq_true rfl) ?_
  intro p e s m below meth c A C hr hA
  have in0 : ∀ w ∈ wsX00, w ∈ wsX0_endsInNumbers := by decide +kernel
  show Z p l e (rmN _) s m _ below meth c _ D A _ _ [(0, .ref aC), (1, .int (nI 1))] 0 []
  obtain ⟨hI1, hI2, hI3, hI4⟩ := hI
  dsimp only [csz] at hI3
  refine Z.aload_n C dX0_endsInNumbers_0 0 rfl rfl ?_
  refine Z.get C in0 2 rfl rfl 3 (by decide) (by decide +kernel) rfl rfl dX0_endsInNumbers_1 ?_
  refine Z.iload_n C dX0_endsInNumbers_4 1 rfl rfl ?_
  refine Z.icmp_ge C 10 dX0_endsInNumbers_5 (by decide) (fun c1 => ?_) (fun c1 => ?_)
  · skip
    replace c1 : ¬ r.2.2.2.2.2.2.2.2.1 < 1 := Nat.not_lt.mpr ((nI_leI (by omega) (by omega)).mp c1)
    refine Z.iconst C (v := (nI 1)) dX0_endsInNumbers_10 (by decide) ?_
    refine Z.istore_n C (lv' := [(2, .int (nI 1)), (0, .ref aC), (1, .int (nI 1))]) dX0_endsInNumbers_11 rfl (by decide) rfl ?_
    refine Z.iload_n C dX0_endsInNumbers_12 0 rfl rfl ?_
    refine Z.iload_n C dX0_endsInNumbers_13 2 rfl rfl ?_
    refine Z.icmp_gt C 40 dX0_endsInNumbers_14 (by decide) (fun c2 => ?_) (fun c2 => ?_)
    · skip
      replace c2 : 1 < 1 := (nI_ltI (by omega) (by omega)).mp c2
      exact absurd c2 (by decide)
    · skip
      replace c2 : ¬ 1 < 1 := mt (nI_ltI (by omega) (by omega)).mpr c2
      refine Z.aload_n C dX0_endsInNumbers_17 1 rfl rfl ?_
      refine Z.get C in0 2 rfl rfl 0 (by decide) (by decide +kernel) rfl rfl dX0_endsInNumbers_18 ?_
      refine Z.aload_n C dX0_endsInNumbers_21 1 rfl rfl ?_
      refine Z.get C in0 2 rfl rfl 3 (by decide) (by decide +kernel) rfl rfl dX0_endsInNumbers_22 ?_
      refine Z.iload_n C dX0_endsInNumbers_25 0 rfl rfl ?_
      refine Z.isub C (v := (nI (r.2.2.2.2.2.2.2.2.1 - 1))) dX0_endsInNumbers_26 (pk_sub (a := r.2.2.2.2.2.2.2.2.1) (b := 1) (by omega)) ?_
      refine Z.iald C 3 1 rfl rfl (r.2.2.2.2.2.2.2.2.1 - 1) rfl (by omega) (by decide) dX0_endsInNumbers_27 (v := (r.2.2.2.2.2.1 (r.2.2.2.2.2.2.2.2.1 - 1))) rfl ?_
      refine Z.iconst C (v := (nI 1)) dX0_endsInNumbers_28 (by decide) ?_
      refine Z.icmp_eq C 34 dX0_endsInNumbers_29 (by decide) (fun c3 => ?_) (fun c3 => ?_)
      · skip
        replace c3 : (r.2.2.2.2.2.1 (r.2.2.2.2.2.2.2.2.1 - 1)) = (1 : Int32) := c3
        refine Z.iinc C (v := (nI 2)) (lv' := [(2, .int (nI 2)), (0, .ref aC), (1, .int (nI 1))]) dX0_endsInNumbers_34 0 rfl (nI_add 1 1) (by decide) rfl ?_
        refine Z.goto C 12 dX0_endsInNumbers_37 (by decide) ?_
        refine Z.iload_n C dX0_endsInNumbers_12 0 rfl rfl ?_
        refine Z.iload_n C dX0_endsInNumbers_13 2 rfl rfl ?_
        refine Z.icmp_gt C 40 dX0_endsInNumbers_14 (by decide) (fun c4 => ?_) (fun c4 => ?_)
        · skip
          replace c4 : 1 < 2 := (nI_ltI (by omega) (by omega)).mp c4
          refine Z.iconst C (v := (nI 1)) dX0_endsInNumbers_40 (by decide) ?_
          refine Z.zret C hr hA dX0_endsInNumbers_41 (b := true) rfl ?_ ?_
          · first | exact congrArg b2i (decide_eq_true ⟨by dsimp only [csz]; omega, by assumption, by intro _; first | assumption | omega⟩).symm | exact congrArg b2i (decide_eq_false (fun h => by first | (have h1 := h.1; dsimp only [csz] at h1; omega) | (exact absurd h.2.1 (by assumption)) | (exact absurd (h.2.2 rfl) (by assumption)))).symm
          · (refine congrArg (wR aR aT aC aK aF aS cC cI tx len) ?_; first | rfl | (simp [nI_0, cEnds, csz, (eq_false c1), (eq_false c2), (eq_true c3), (eq_true c4)]; done) | (simp_all [nI_0, cEnds, csz]; done))
        · skip
          replace c4 : ¬ 1 < 2 := mt (nI_ltI (by omega) (by omega)).mpr c4
          exact absurd c4 (by decide)
      · skip
        replace c3 : ¬ (r.2.2.2.2.2.1 (r.2.2.2.2.2.2.2.2.1 - 1)) = (1 : Int32) := c3
        refine Z.iconst C (v := (nI 0)) dX0_endsInNumbers_32 (by decide) ?_
        refine Z.zret C hr hA dX0_endsInNumbers_33 (b := false) rfl ?_ ?_
        · first | exact congrArg b2i (decide_eq_true ⟨by dsimp only [csz]; omega, by assumption, by intro _; first | assumption | omega⟩).symm | exact congrArg b2i (decide_eq_false (fun h => by first | (have h1 := h.1; dsimp only [csz] at h1; omega) | (exact absurd h.2.1 (by assumption)) | (exact absurd (h.2.2 rfl) (by assumption)))).symm
        · (refine congrArg (wR aR aT aC aK aF aS cC cI tx len) ?_; first | rfl | (simp [nI_0, cEnds, csz, (eq_false c1), (eq_false c2), (eq_false c3)]; done) | (simp_all [nI_0, cEnds, csz]; done))
  · skip
    replace c1 : r.2.2.2.2.2.2.2.2.1 < 1 := Nat.not_le.mp (mt (nI_leI (by omega) (by omega)).mpr c1)
    refine Z.iconst C (v := (nI 0)) dX0_endsInNumbers_8 (by decide) ?_
    refine Z.zret C hr hA dX0_endsInNumbers_9 (b := false) rfl ?_ ?_
    · first | exact congrArg b2i (decide_eq_true ⟨by dsimp only [csz]; omega, by assumption, by intro _; first | assumption | omega⟩).symm | exact congrArg b2i (decide_eq_false (fun h => by first | (have h1 := h.1; dsimp only [csz] at h1; omega) | (exact absurd h.2.1 (by assumption)) | (exact absurd (h.2.2 rfl) (by assumption)))).symm
    · (refine congrArg (wR aR aT aC aK aF aS cC cI tx len) ?_; first | rfl | (simp [nI_0, cEnds, csz, (eq_true c1)]; done) | (simp_all [nI_0, cEnds, csz]; done))
set_option maxHeartbeats 4000000 in
set_option maxRecDepth 100000 in
theorem c_ends2 {l : Launch} {D : va_G} {aR aT aC aK aF aS : Nat} {cC cI : ClassId} {tx : Nat → Int32} {len : Nat} (r : RS)  (hI : InvR len r) : Mi l yX0_endsInNumbers wsX0_endsInNumbers 1 D [(cC, .char), (cI, .int)] [.ref aC, .int (nI 2)] (wR aR aT aC aK aF aS cC cI tx len r) (b2i (cEnds 2 r.2.2.2.2.2)) (wR aR aT aC aK aF aS cC cI tx len r) := by
  refine Mi.of (cc := cX0_endsInNumbers) (maxL := 3) (by decide) rfl (Nat.le_of_ble_eq_true rfl) ?_
  intro p e s m below meth c A C hr hA
  have in0 : ∀ w ∈ wsX00, w ∈ wsX0_endsInNumbers := by decide +kernel
  show Z p l e (rmN _) s m _ below meth c _ D A _ _ [(0, .ref aC), (1, .int (nI 2))] 0 []
  obtain ⟨hI1, hI2, hI3, hI4⟩ := hI
  dsimp only [csz] at hI3
  refine Z.aload_n C dX0_endsInNumbers_0 0 rfl rfl ?_
  refine Z.get C in0 2 rfl rfl 3 (by decide) (by decide +kernel) rfl rfl dX0_endsInNumbers_1 ?_
  refine Z.iload_n C dX0_endsInNumbers_4 1 rfl rfl ?_
  refine Z.icmp_ge C 10 dX0_endsInNumbers_5 (by decide) (fun c1 => ?_) (fun c1 => ?_)
  · skip
    replace c1 : ¬ r.2.2.2.2.2.2.2.2.1 < 2 := Nat.not_lt.mpr ((nI_leI (by omega) (by omega)).mp c1)
    refine Z.iconst C (v := (nI 1)) dX0_endsInNumbers_10 (by decide) ?_
    refine Z.istore_n C (lv' := [(2, .int (nI 1)), (0, .ref aC), (1, .int (nI 2))]) dX0_endsInNumbers_11 rfl (by decide) rfl ?_
    refine Z.iload_n C dX0_endsInNumbers_12 0 rfl rfl ?_
    refine Z.iload_n C dX0_endsInNumbers_13 2 rfl rfl ?_
    refine Z.icmp_gt C 40 dX0_endsInNumbers_14 (by decide) (fun c2 => ?_) (fun c2 => ?_)
    · skip
      replace c2 : 2 < 1 := (nI_ltI (by omega) (by omega)).mp c2
      exact absurd c2 (by decide)
    · skip
      replace c2 : ¬ 2 < 1 := mt (nI_ltI (by omega) (by omega)).mpr c2
      refine Z.aload_n C dX0_endsInNumbers_17 1 rfl rfl ?_
      refine Z.get C in0 2 rfl rfl 0 (by decide) (by decide +kernel) rfl rfl dX0_endsInNumbers_18 ?_
      refine Z.aload_n C dX0_endsInNumbers_21 1 rfl rfl ?_
      refine Z.get C in0 2 rfl rfl 3 (by decide) (by decide +kernel) rfl rfl dX0_endsInNumbers_22 ?_
      refine Z.iload_n C dX0_endsInNumbers_25 0 rfl rfl ?_
      refine Z.isub C (v := (nI (r.2.2.2.2.2.2.2.2.1 - 1))) dX0_endsInNumbers_26 (pk_sub (a := r.2.2.2.2.2.2.2.2.1) (b := 1) (by omega)) ?_
      refine Z.iald C 3 1 rfl rfl (r.2.2.2.2.2.2.2.2.1 - 1) rfl (by omega) (by decide) dX0_endsInNumbers_27 (v := (r.2.2.2.2.2.1 (r.2.2.2.2.2.2.2.2.1 - 1))) rfl ?_
      refine Z.iconst C (v := (nI 1)) dX0_endsInNumbers_28 (by decide) ?_
      refine Z.icmp_eq C 34 dX0_endsInNumbers_29 (by decide) (fun c3 => ?_) (fun c3 => ?_)
      · skip
        replace c3 : (r.2.2.2.2.2.1 (r.2.2.2.2.2.2.2.2.1 - 1)) = (1 : Int32) := c3
        refine Z.iinc C (v := (nI 2)) (lv' := [(2, .int (nI 2)), (0, .ref aC), (1, .int (nI 2))]) dX0_endsInNumbers_34 0 rfl (nI_add 1 1) (by decide) rfl ?_
        refine Z.goto C 12 dX0_endsInNumbers_37 (by decide) ?_
        refine Z.iload_n C dX0_endsInNumbers_12 0 rfl rfl ?_
        refine Z.iload_n C dX0_endsInNumbers_13 2 rfl rfl ?_
        refine Z.icmp_gt C 40 dX0_endsInNumbers_14 (by decide) (fun c4 => ?_) (fun c4 => ?_)
        · skip
          replace c4 : 2 < 2 := (nI_ltI (by omega) (by omega)).mp c4
          exact absurd c4 (by decide)
        · skip
          replace c4 : ¬ 2 < 2 := mt (nI_ltI (by omega) (by omega)).mpr c4
          refine Z.aload_n C dX0_endsInNumbers_17 1 rfl rfl ?_
          refine Z.get C in0 2 rfl rfl 0 (by decide) (by decide +kernel) rfl rfl dX0_endsInNumbers_18 ?_
          refine Z.aload_n C dX0_endsInNumbers_21 1 rfl rfl ?_
          refine Z.get C in0 2 rfl rfl 3 (by decide) (by decide +kernel) rfl rfl dX0_endsInNumbers_22 ?_
          refine Z.iload_n C dX0_endsInNumbers_25 0 rfl rfl ?_
          refine Z.isub C (v := (nI (r.2.2.2.2.2.2.2.2.1 - 2))) dX0_endsInNumbers_26 (pk_sub (a := r.2.2.2.2.2.2.2.2.1) (b := 2) (by omega)) ?_
          refine Z.iald C 3 1 rfl rfl (r.2.2.2.2.2.2.2.2.1 - 2) rfl (by omega) (by decide) dX0_endsInNumbers_27 (v := (r.2.2.2.2.2.1 (r.2.2.2.2.2.2.2.2.1 - 2))) rfl ?_
          refine Z.iconst C (v := (nI 1)) dX0_endsInNumbers_28 (by decide) ?_
          refine Z.icmp_eq C 34 dX0_endsInNumbers_29 (by decide) (fun c5 => ?_) (fun c5 => ?_)
          · skip
            replace c5 : (r.2.2.2.2.2.1 (r.2.2.2.2.2.2.2.2.1 - 2)) = (1 : Int32) := c5
            refine Z.iinc C (v := (nI 3)) (lv' := [(2, .int (nI 3)), (0, .ref aC), (1, .int (nI 2))]) dX0_endsInNumbers_34 0 rfl (nI_add 2 1) (by decide) rfl ?_
            refine Z.goto C 12 dX0_endsInNumbers_37 (by decide) ?_
            refine Z.iload_n C dX0_endsInNumbers_12 0 rfl rfl ?_
            refine Z.iload_n C dX0_endsInNumbers_13 2 rfl rfl ?_
            refine Z.icmp_gt C 40 dX0_endsInNumbers_14 (by decide) (fun c6 => ?_) (fun c6 => ?_)
            · skip
              replace c6 : 2 < 3 := (nI_ltI (by omega) (by omega)).mp c6
              refine Z.iconst C (v := (nI 1)) dX0_endsInNumbers_40 (by decide) ?_
              refine Z.zret C hr hA dX0_endsInNumbers_41 (b := true) rfl ?_ ?_
              · first | exact congrArg b2i (decide_eq_true ⟨by dsimp only [csz]; omega, by assumption, by intro _; first | assumption | omega⟩).symm | exact congrArg b2i (decide_eq_false (fun h => by first | (have h1 := h.1; dsimp only [csz] at h1; omega) | (exact absurd h.2.1 (by assumption)) | (exact absurd (h.2.2 rfl) (by assumption)))).symm
              · (refine congrArg (wR aR aT aC aK aF aS cC cI tx len) ?_; first | rfl | (simp [nI_0, cEnds, csz, (eq_false c1), (eq_false c2), (eq_true c3), (eq_false c4), (eq_true c5), (eq_true c6)]; done) | (simp_all [nI_0, cEnds, csz]; done))
            · skip
              replace c6 : ¬ 2 < 3 := mt (nI_ltI (by omega) (by omega)).mpr c6
              exact absurd c6 (by decide)
          · skip
            replace c5 : ¬ (r.2.2.2.2.2.1 (r.2.2.2.2.2.2.2.2.1 - 2)) = (1 : Int32) := c5
            refine Z.iconst C (v := (nI 0)) dX0_endsInNumbers_32 (by decide) ?_
            refine Z.zret C hr hA dX0_endsInNumbers_33 (b := false) rfl ?_ ?_
            · first | exact congrArg b2i (decide_eq_true ⟨by dsimp only [csz]; omega, by assumption, by intro _; first | assumption | omega⟩).symm | exact congrArg b2i (decide_eq_false (fun h => by first | (have h1 := h.1; dsimp only [csz] at h1; omega) | (exact absurd h.2.1 (by assumption)) | (exact absurd (h.2.2 rfl) (by assumption)))).symm
            · (refine congrArg (wR aR aT aC aK aF aS cC cI tx len) ?_; first | rfl | (simp [nI_0, cEnds, csz, (eq_false c1), (eq_false c2), (eq_true c3), (eq_false c4), (eq_false c5)]; done) | (simp_all [nI_0, cEnds, csz]; done))
      · skip
        replace c3 : ¬ (r.2.2.2.2.2.1 (r.2.2.2.2.2.2.2.2.1 - 1)) = (1 : Int32) := c3
        refine Z.iconst C (v := (nI 0)) dX0_endsInNumbers_32 (by decide) ?_
        refine Z.zret C hr hA dX0_endsInNumbers_33 (b := false) rfl ?_ ?_
        · first | exact congrArg b2i (decide_eq_true ⟨by dsimp only [csz]; omega, by assumption, by intro _; first | assumption | omega⟩).symm | exact congrArg b2i (decide_eq_false (fun h => by first | (have h1 := h.1; dsimp only [csz] at h1; omega) | (exact absurd h.2.1 (by assumption)) | (exact absurd (h.2.2 rfl) (by assumption)))).symm
        · (refine congrArg (wR aR aT aC aK aF aS cC cI tx len) ?_; first | rfl | (simp [nI_0, cEnds, csz, (eq_false c1), (eq_false c2), (eq_false c3)]; done) | (simp_all [nI_0, cEnds, csz]; done))
  · skip
    replace c1 : r.2.2.2.2.2.2.2.2.1 < 2 := Nat.not_le.mp (mt (nI_leI (by omega) (by omega)).mpr c1)
    refine Z.iconst C (v := (nI 0)) dX0_endsInNumbers_8 (by decide) ?_
    refine Z.zret C hr hA dX0_endsInNumbers_9 (b := false) rfl ?_ ?_
    · first | exact congrArg b2i (decide_eq_true ⟨by dsimp only [csz]; omega, by assumption, by intro _; first | assumption | omega⟩).symm | exact congrArg b2i (decide_eq_false (fun h => by first | (have h1 := h.1; dsimp only [csz] at h1; omega) | (exact absurd h.2.1 (by assumption)) | (exact absurd (h.2.2 rfl) (by assumption)))).symm
    · (refine congrArg (wR aR aT aC aK aF aS cC cI tx len) ?_; first | rfl | (simp [nI_0, cEnds, csz, (eq_true c1)]; done) | (simp_all [nI_0, cEnds, csz]; done))
set_option maxHeartbeats 4000000 in
set_option maxRecDepth 100000 in
theorem c_one {l : Launch} {D : va_G} {aR aT aC aK aF aS : Nat} {cC cI : ClassId} {tx : Nat → Int32} {len : Nat} (r : RS) (p0 : Int32) (p1 : Int32) (hI : InvR len r) : Mv l yX0_addOfOne wsX0_addOfOne 2 D [(cC, .char), (cI, .int)] [.ref aC, .int p0, .int p1] (wR aR aT aC aK aF aS cC cI tx len r) (wR aR aT aC aK aF aS cC cI tx len (rC r (cOne p0 p1 r.2.2.2.2.2))) := by
  refine Mv.of (cc := cX0_addOfOne) (maxL := 3) (by decide) rfl (Nat.le_of_ble_eq_true rfl) ?_
  intro p e s m below meth c A C hr hA
  have in0 : ∀ w ∈ wsX00, w ∈ wsX0_addOfOne := by decide +kernel
  show Z p l e (rmN _) s m _ below meth c _ D A _ _ [(0, .ref aC), (1, .int p0), (2, .int p1)] 0 []
  obtain ⟨hI1, hI2, hI3, hI4⟩ := hI
  dsimp only [csz] at hI3
  refine Z.aload_n C dX0_addOfOne_0 0 rfl rfl ?_
  refine Z.iconst C (v := (nI 1)) dX0_addOfOne_1 (by decide) ?_
  refine Z.callVi C (nA := 1) (As := [.int (nI 1)]) (st := []) (c_ends1 r ⟨by first | omega | (dsimp only; omega), by omega, by first | omega | (dsimp only [csz]; omega), by first | omega | (dsimp only; omega)⟩) gX0_addOfOne_X0_endsInNumbers rfl (by decide +kernel) (rm_ok (by omega) (by decide)) 2 rfl rfl rfl (Nat.le_of_ble_eq_true rfl) rfl dX0_addOfOne_2 ?_
  refine Z.if_eq C 38 dX0_addOfOne_5 (by decide) (fun c1 => ?_) (fun c1 => ?_)
  · skip
    replace c1 : cEnds 1 r.2.2.2.2.2 = false := b2i_0.mp c1
    refine Z.aload_n C dX0_addOfOne_38 0 rfl rfl ?_
    refine Z.iload_n C dX0_addOfOne_39 1 rfl rfl ?_
    refine Z.iload_n C dX0_addOfOne_40 2 rfl rfl ?_
    refine Z.iconst C (v := (nI 0)) dX0_addOfOne_41 (by decide) ?_
    refine Z.callVv C (nA := 3) (As := [.int p0, .int p1, .int (0 : Int32)]) (st := []) (c_add r p0 p1 (0 : Int32) ⟨by first | omega | (dsimp only; omega), by omega, by first | omega | (dsimp only [csz]; omega), by first | omega | (dsimp only; omega)⟩) gX0_addOfOne_X0_add rfl (by decide +kernel) (rm_ok (by omega) (by decide)) 2 rfl rfl rfl (Nat.le_of_ble_eq_true rfl) rfl dX0_addOfOne_42 ?_
    generalize e2 : cAdd p0 p1 (0 : Int32) r.2.2.2.2.2 = x2
    have b2 : x2.2.2.2.1 ≤ 480 := by rw [← e2]; exact cAdd_sz (by first | omega | (dsimp only [csz]; omega))
    refine Z.aload_n C dX0_addOfOne_45 0 rfl rfl ?_
    refine Z.dup C dX0_addOfOne_46 rfl ?_
    refine Z.get C in0 2 rfl rfl 5 (by decide) (by decide +kernel) rfl rfl dX0_addOfOne_47 ?_
    refine Z.iconst C (v := (nI 1)) dX0_addOfOne_50 (by decide) ?_
    refine Z.iadd C (v := (nI (x2.2.2.2.2.2 + 1))) dX0_addOfOne_51 (nI_add x2.2.2.2.2.2 1) ?_
    refine Z.put C in0 2 rfl rfl 5 (by decide) tyX0 tyX0_ok nmX0 (by decide +kernel) rfl rfl rfl rfl (Nat.le_of_ble_eq_true rfl) dX0_addOfOne_52 (w' := (wR aR aT aC aK aF aS cC cI tx len (r.1, r.2.1, r.2.2.1, r.2.2.2.1, r.2.2.2.2.1, x2.1, x2.2.1, x2.2.2.1, x2.2.2.2.1, x2.2.2.2.2.1, x2.2.2.2.2.2 + 1))) rfl ?_
    refine Z.vret C hr hA dX0_addOfOne_55 ?_
    (refine congrArg (wR aR aT aC aK aF aS cC cI tx len) ?_; first | rfl | (simp [nI_0, rC, cOne, csz, c1, e2]; done) | (simp_all [nI_0, rC, cOne, csz]; done))
  · skip
    replace c1 : cEnds 1 r.2.2.2.2.2 = true := b2i_n0.mp c1
    have c1b : 1 ≤ r.2.2.2.2.2.2.2.2.1 := (of_decide_eq_true c1).1
    refine Z.aload_n C dX0_addOfOne_8 0 rfl rfl ?_
    refine Z.get C in0 2 rfl rfl 1 (by decide) (by decide +kernel) rfl rfl dX0_addOfOne_9 ?_
    refine Z.aload_n C dX0_addOfOne_12 0 rfl rfl ?_
    refine Z.get C in0 2 rfl rfl 3 (by decide) (by decide +kernel) rfl rfl dX0_addOfOne_13 ?_
    refine Z.iconst C (v := (nI 1)) dX0_addOfOne_16 (by decide) ?_
    refine Z.isub C (v := (nI (r.2.2.2.2.2.2.2.2.1 - 1))) dX0_addOfOne_17 (pk_sub (a := r.2.2.2.2.2.2.2.2.1) (b := 1) (by omega)) ?_
    refine Z.iload_n C dX0_addOfOne_18 1 rfl rfl ?_
    refine Z.aload_n C dX0_addOfOne_19 0 rfl rfl ?_
    refine Z.get C in0 2 rfl rfl 1 (by decide) (by decide +kernel) rfl rfl dX0_addOfOne_20 ?_
    refine Z.aload_n C dX0_addOfOne_23 0 rfl rfl ?_
    refine Z.get C in0 2 rfl rfl 3 (by decide) (by decide +kernel) rfl rfl dX0_addOfOne_24 ?_
    refine Z.iconst C (v := (nI 1)) dX0_addOfOne_27 (by decide) ?_
    refine Z.isub C (v := (nI (r.2.2.2.2.2.2.2.2.1 - 1))) dX0_addOfOne_28 (pk_sub (a := r.2.2.2.2.2.2.2.2.1) (b := 1) (by omega)) ?_
    refine Z.iald C 4 1 rfl rfl (r.2.2.2.2.2.2.2.2.1 - 1) rfl (by omega) (by decide) dX0_addOfOne_29 (v := (r.2.2.2.2.2.2.1 (r.2.2.2.2.2.2.2.2.1 - 1))) rfl ?_
    refine Z.iload_n C dX0_addOfOne_30 2 rfl rfl ?_
    refine Z.callSNi C (nA := 3) (As := [.int p0, .int (r.2.2.2.2.2.2.1 (r.2.2.2.2.2.2.2.2.1 - 1)), .int p1]) (st := [.int (nI (r.2.2.2.2.2.2.2.2.1 - 1)), .ref aF]) (host := "RoundCompiler") (c_ofOne p0 (r.2.2.2.2.2.2.1 (r.2.2.2.2.2.2.2.2.1 - 1)) p1) gX0_addOfOne_X3_ofOne_n35 rfl (by decide +kernel) (by decide +kernel) (by decide +kernel) (by decide +kernel) (rm_ok (by omega) (by decide)) rfl (Nat.le_of_ble_eq_true rfl) rfl dX0_addOfOne_31 ?_
    refine Z.iast C 4 1 rfl rfl (r.2.2.2.2.2.2.2.2.1 - 1) rfl (by omega) (by decide) dX0_addOfOne_34 (v := (ofOneF p0 (r.2.2.2.2.2.2.1 (r.2.2.2.2.2.2.2.2.1 - 1)) p1)) rfl (w' := (wR aR aT aC aK aF aS cC cI tx len (r.1, r.2.1, r.2.2.1, r.2.2.2.1, r.2.2.2.2.1, r.2.2.2.2.2.1, (upd r.2.2.2.2.2.2.1 (r.2.2.2.2.2.2.2.2.1 - 1) (ofOneF p0 (r.2.2.2.2.2.2.1 (r.2.2.2.2.2.2.2.2.1 - 1)) p1)), r.2.2.2.2.2.2.2))) rfl ?_
    refine Z.goto C 55 dX0_addOfOne_35 (by decide) ?_
    refine Z.vret C hr hA dX0_addOfOne_55 ?_
    (refine congrArg (wR aR aT aC aK aF aS cC cI tx len) ?_; first | rfl | (simp [nI_0, rC, cOne, csz, c1]; done) | (simp_all [nI_0, rC, cOne, csz]; done))
set_option maxHeartbeats 4000000 in
set_option maxRecDepth 100000 in
theorem c_two {l : Launch} {D : va_G} {aR aT aC aK aF aS : Nat} {cC cI : ClassId} {tx : Nat → Int32} {len : Nat} (r : RS) (p0 : Int32) (hI : InvR len r) : Mv l yX0_addOfTwo wsX0_addOfTwo 2 D [(cC, .char), (cI, .int)] [.ref aC, .int p0] (wR aR aT aC aK aF aS cC cI tx len r) (wR aR aT aC aK aF aS cC cI tx len (rC r (cTwo p0 r.2.2.2.2.2))) := by
  refine Mv.of (cc := cX0_addOfTwo) (maxL := 2) (by decide) rfl (Nat.le_of_ble_eq_true rfl) ?_
  intro p e s m below meth c A C hr hA
  have in0 : ∀ w ∈ wsX00, w ∈ wsX0_addOfTwo := by decide +kernel
  show Z p l e (rmN _) s m _ below meth c _ D A _ _ [(0, .ref aC), (1, .int p0)] 0 []
  obtain ⟨hI1, hI2, hI3, hI4⟩ := hI
  dsimp only [csz] at hI3
  refine Z.aload_n C dX0_addOfTwo_0 0 rfl rfl ?_
  refine Z.iconst C (v := (nI 2)) dX0_addOfTwo_1 (by decide) ?_
  refine Z.callVi C (nA := 1) (As := [.int (nI 2)]) (st := []) (c_ends2 r ⟨by first | omega | (dsimp only; omega), by omega, by first | omega | (dsimp only [csz]; omega), by first | omega | (dsimp only; omega)⟩) gX0_addOfTwo_X0_endsInNumbers rfl (by decide +kernel) (rm_ok (by omega) (by decide)) 2 rfl rfl rfl (Nat.le_of_ble_eq_true rfl) rfl dX0_addOfTwo_2 ?_
  refine Z.if_eq C 56 dX0_addOfTwo_5 (by decide) (fun c1 => ?_) (fun c1 => ?_)
  · skip
    replace c1 : cEnds 2 r.2.2.2.2.2 = false := b2i_0.mp c1
    refine Z.aload_n C dX0_addOfTwo_56 0 rfl rfl ?_
    refine Z.iload_n C dX0_addOfTwo_57 1 rfl rfl ?_
    refine Z.iconst C (v := (nI 0)) dX0_addOfTwo_58 (by decide) ?_
    refine Z.iconst C (v := (nI 0)) dX0_addOfTwo_59 (by decide) ?_
    refine Z.callVv C (nA := 3) (As := [.int p0, .int (0 : Int32), .int (0 : Int32)]) (st := []) (c_add r p0 (0 : Int32) (0 : Int32) ⟨by first | omega | (dsimp only; omega), by omega, by first | omega | (dsimp only [csz]; omega), by first | omega | (dsimp only; omega)⟩) gX0_addOfTwo_X0_add rfl (by decide +kernel) (rm_ok (by omega) (by decide)) 2 rfl rfl rfl (Nat.le_of_ble_eq_true rfl) rfl dX0_addOfTwo_60 ?_
    generalize e2 : cAdd p0 (0 : Int32) (0 : Int32) r.2.2.2.2.2 = x2
    have b2 : x2.2.2.2.1 ≤ 480 := by rw [← e2]; exact cAdd_sz (by first | omega | (dsimp only [csz]; omega))
    refine Z.aload_n C dX0_addOfTwo_63 0 rfl rfl ?_
    refine Z.dup C dX0_addOfTwo_64 rfl ?_
    refine Z.get C in0 2 rfl rfl 5 (by decide) (by decide +kernel) rfl rfl dX0_addOfTwo_65 ?_
    refine Z.iconst C (v := (nI 1)) dX0_addOfTwo_68 (by decide) ?_
    refine Z.iadd C (v := (nI (x2.2.2.2.2.2 + 1))) dX0_addOfTwo_69 (nI_add x2.2.2.2.2.2 1) ?_
    refine Z.put C in0 2 rfl rfl 5 (by decide) tyX0 tyX0_ok nmX0 (by decide +kernel) rfl rfl rfl rfl (Nat.le_of_ble_eq_true rfl) dX0_addOfTwo_70 (w' := (wR aR aT aC aK aF aS cC cI tx len (r.1, r.2.1, r.2.2.1, r.2.2.2.1, r.2.2.2.2.1, x2.1, x2.2.1, x2.2.2.1, x2.2.2.2.1, x2.2.2.2.2.1, x2.2.2.2.2.2 + 1))) rfl ?_
    refine Z.vret C hr hA dX0_addOfTwo_73 ?_
    (refine congrArg (wR aR aT aC aK aF aS cC cI tx len) ?_; first | rfl | (simp [nI_0, rC, cTwo, csz, c1, e2]; done) | (simp_all [nI_0, rC, cTwo, csz]; done))
  · skip
    replace c1 : cEnds 2 r.2.2.2.2.2 = true := b2i_n0.mp c1
    have c1b : 2 ≤ r.2.2.2.2.2.2.2.2.1 := (of_decide_eq_true c1).1
    refine Z.aload_n C dX0_addOfTwo_8 0 rfl rfl ?_
    refine Z.dup C dX0_addOfTwo_9 rfl ?_
    refine Z.get C in0 2 rfl rfl 3 (by decide) (by decide +kernel) rfl rfl dX0_addOfTwo_10 ?_
    refine Z.iconst C (v := (nI 1)) dX0_addOfTwo_13 (by decide) ?_
    refine Z.isub C (v := (nI (r.2.2.2.2.2.2.2.2.1 - 1))) dX0_addOfTwo_14 (pk_sub (a := r.2.2.2.2.2.2.2.2.1) (b := 1) (by omega)) ?_
    refine Z.put C in0 2 rfl rfl 3 (by decide) tyX0 tyX0_ok nmX0 (by decide +kernel) rfl rfl rfl rfl (Nat.le_of_ble_eq_true rfl) dX0_addOfTwo_15 (w' := (wR aR aT aC aK aF aS cC cI tx len (r.1, r.2.1, r.2.2.1, r.2.2.2.1, r.2.2.2.2.1, r.2.2.2.2.2.1, r.2.2.2.2.2.2.1, r.2.2.2.2.2.2.2.1, r.2.2.2.2.2.2.2.2.1 - 1, r.2.2.2.2.2.2.2.2.2))) rfl ?_
    refine Z.aload_n C dX0_addOfTwo_18 0 rfl rfl ?_
    refine Z.get C in0 2 rfl rfl 1 (by decide) (by decide +kernel) rfl rfl dX0_addOfTwo_19 ?_
    refine Z.aload_n C dX0_addOfTwo_22 0 rfl rfl ?_
    refine Z.get C in0 2 rfl rfl 3 (by decide) (by decide +kernel) rfl rfl dX0_addOfTwo_23 ?_
    refine Z.iconst C (v := (nI 1)) dX0_addOfTwo_26 (by decide) ?_
    refine Z.isub C (v := (nI ((r.2.2.2.2.2.2.2.2.1 - 1) - 1))) dX0_addOfTwo_27 (pk_sub (a := r.2.2.2.2.2.2.2.2.1 - 1) (b := 1) (by omega)) ?_
    refine Z.iload_n C dX0_addOfTwo_28 1 rfl rfl ?_
    refine Z.aload_n C dX0_addOfTwo_29 0 rfl rfl ?_
    refine Z.get C in0 2 rfl rfl 1 (by decide) (by decide +kernel) rfl rfl dX0_addOfTwo_30 ?_
    refine Z.aload_n C dX0_addOfTwo_33 0 rfl rfl ?_
    refine Z.get C in0 2 rfl rfl 3 (by decide) (by decide +kernel) rfl rfl dX0_addOfTwo_34 ?_
    refine Z.iconst C (v := (nI 1)) dX0_addOfTwo_37 (by decide) ?_
    refine Z.isub C (v := (nI ((r.2.2.2.2.2.2.2.2.1 - 1) - 1))) dX0_addOfTwo_38 (pk_sub (a := r.2.2.2.2.2.2.2.2.1 - 1) (b := 1) (by omega)) ?_
    refine Z.iald C 4 1 rfl rfl ((r.2.2.2.2.2.2.2.2.1 - 1) - 1) rfl (by omega) (by decide) dX0_addOfTwo_39 (v := (r.2.2.2.2.2.2.1 ((r.2.2.2.2.2.2.2.2.1 - 1) - 1))) rfl ?_
    refine Z.aload_n C dX0_addOfTwo_40 0 rfl rfl ?_
    refine Z.get C in0 2 rfl rfl 1 (by decide) (by decide +kernel) rfl rfl dX0_addOfTwo_41 ?_
    refine Z.aload_n C dX0_addOfTwo_44 0 rfl rfl ?_
    refine Z.get C in0 2 rfl rfl 3 (by decide) (by decide +kernel) rfl rfl dX0_addOfTwo_45 ?_
    refine Z.iald C 4 1 rfl rfl (r.2.2.2.2.2.2.2.2.1 - 1) rfl (by omega) (by decide) dX0_addOfTwo_48 (v := (r.2.2.2.2.2.2.1 (r.2.2.2.2.2.2.2.2.1 - 1))) rfl ?_
    refine Z.callSNi C (nA := 3) (As := [.int p0, .int (r.2.2.2.2.2.2.1 ((r.2.2.2.2.2.2.2.2.1 - 1) - 1)), .int (r.2.2.2.2.2.2.1 (r.2.2.2.2.2.2.2.2.1 - 1))]) (st := [.int (nI ((r.2.2.2.2.2.2.2.2.1 - 1) - 1)), .ref aF]) (host := "RoundCompiler") (c_ofTwo p0 (r.2.2.2.2.2.2.1 ((r.2.2.2.2.2.2.2.2.1 - 1) - 1)) (r.2.2.2.2.2.2.1 (r.2.2.2.2.2.2.2.2.1 - 1))) gX0_addOfTwo_X3_ofTwo_n43 rfl (by decide +kernel) (by decide +kernel) (by decide +kernel) (by decide +kernel) (rm_ok (by omega) (by decide)) rfl (Nat.le_of_ble_eq_true rfl) rfl dX0_addOfTwo_49 ?_
    refine Z.iast C 4 1 rfl rfl ((r.2.2.2.2.2.2.2.2.1 - 1) - 1) rfl (by omega) (by decide) dX0_addOfTwo_52 (v := (ofTwoF p0 (r.2.2.2.2.2.2.1 ((r.2.2.2.2.2.2.2.2.1 - 1) - 1)) (r.2.2.2.2.2.2.1 (r.2.2.2.2.2.2.2.2.1 - 1)))) rfl (w' := (wR aR aT aC aK aF aS cC cI tx len (r.1, r.2.1, r.2.2.1, r.2.2.2.1, r.2.2.2.2.1, r.2.2.2.2.2.1, (upd r.2.2.2.2.2.2.1 ((r.2.2.2.2.2.2.2.2.1 - 1) - 1) (ofTwoF p0 (r.2.2.2.2.2.2.1 ((r.2.2.2.2.2.2.2.2.1 - 1) - 1)) (r.2.2.2.2.2.2.1 (r.2.2.2.2.2.2.2.2.1 - 1)))), r.2.2.2.2.2.2.2.1, r.2.2.2.2.2.2.2.2.1 - 1, r.2.2.2.2.2.2.2.2.2))) rfl ?_
    refine Z.goto C 73 dX0_addOfTwo_53 (by decide) ?_
    refine Z.vret C hr hA dX0_addOfTwo_73 ?_
    (refine congrArg (wR aR aT aC aK aF aS cC cI tx len) ?_; first | rfl | (simp [nI_0, rC, cTwo, csz, c1]; done) | (simp_all [nI_0, rC, cTwo, csz]; done))
set_option maxHeartbeats 4000000 in
set_option maxRecDepth 100000 in
theorem c_setFirst {l : Launch} {D : va_G} {aR aT aC aK aF aS : Nat} {cC cI : ClassId} {tx : Nat → Int32} {len : Nat} (r : RS) (p0 : Nat) (p1 : Int32) (hI : InvR len r) (hp0 : p0 < 2 ^ 31) : Mv l yX0_setFirst wsX0_setFirst 1 D [(cC, .char), (cI, .int)] [.ref aC, .int (nI p0), .int p1] (wR aR aT aC aK aF aS cC cI tx len r) (wR aR aT aC aK aF aS cC cI tx len (rC r (cSet p0 p1 r.2.2.2.2.2))) := by
  refine Mv.of (cc := cX0_setFirst) (maxL := 3) (by decide) rfl (Nat.le_of_ble_eq_true rfl) ?_
  intro p e s m below meth c A C hr hA
  have in0 : ∀ w ∈ wsX00, w ∈ wsX0_setFirst := by decide +kernel
  show Z p l e (rmN _) s m _ below meth c _ D A _ _ [(0, .ref aC), (1, .int (nI p0)), (2, .int p1)] 0 []
  obtain ⟨hI1, hI2, hI3, hI4⟩ := hI
  dsimp only [csz] at hI3
  refine Z.iload_n C dX0_setFirst_0 1 rfl rfl ?_
  refine Z.if_lt C 19 dX0_setFirst_1 (by decide) (fun c1 => ?_) (fun c1 => ?_)
  · skip
    replace c1 : p0 < 0 := (nI_ltI (by omega) (by omega)).mp c1
    exact absurd c1 (by omega)
  · skip
    replace c1 : ¬ p0 < 0 := mt (nI_ltI (by omega) (by omega)).mpr c1
    refine Z.iload_n C dX0_setFirst_4 1 rfl rfl ?_
    refine Z.aload_n C dX0_setFirst_5 0 rfl rfl ?_
    refine Z.get C in0 2 rfl rfl 3 (by decide) (by decide +kernel) rfl rfl dX0_setFirst_6 ?_
    refine Z.icmp_ge C 19 dX0_setFirst_9 (by decide) (fun c2 => ?_) (fun c2 => ?_)
    · skip
      replace c2 : ¬ p0 < r.2.2.2.2.2.2.2.2.1 := Nat.not_lt.mpr ((nI_leI (by omega) (by omega)).mp c2)
      refine Z.vret C hr hA dX0_setFirst_19 ?_
      (refine congrArg (wR aR aT aC aK aF aS cC cI tx len) ?_; first | rfl | (simp [nI_0, rC, cSet, csz, (eq_false c1), (eq_false c2)]; done) | (simp_all [nI_0, rC, cSet, csz]; done))
    · skip
      replace c2 : p0 < r.2.2.2.2.2.2.2.2.1 := Nat.not_le.mp (mt (nI_leI (by omega) (by omega)).mpr c2)
      refine Z.aload_n C dX0_setFirst_12 0 rfl rfl ?_
      refine Z.get C in0 2 rfl rfl 1 (by decide) (by decide +kernel) rfl rfl dX0_setFirst_13 ?_
      refine Z.iload_n C dX0_setFirst_16 1 rfl rfl ?_
      refine Z.iload_n C dX0_setFirst_17 2 rfl rfl ?_
      refine Z.iast C 4 1 rfl rfl p0 rfl (by omega) (by decide) dX0_setFirst_18 (v := p1) rfl (w' := (wR aR aT aC aK aF aS cC cI tx len (r.1, r.2.1, r.2.2.1, r.2.2.2.1, r.2.2.2.2.1, r.2.2.2.2.2.1, (upd r.2.2.2.2.2.2.1 p0 p1), r.2.2.2.2.2.2.2))) rfl ?_
      refine Z.vret C hr hA dX0_setFirst_19 ?_
      (refine congrArg (wR aR aT aC aK aF aS cC cI tx len) ?_; first | rfl | (simp [nI_0, rC, cSet, csz, (eq_false c1), (eq_true c2)]; done) | (simp_all [nI_0, rC, cSet, csz]; done))
