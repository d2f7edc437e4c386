theorem c_St {l : Launch} {D : va_G} {aR aT aC aK aF aS : Nat} {cC cI : ClassId} {tx : Nat → Int32} {len : Nat}  : ∀ (d blk : Nat), blk + d = 8 → ∀ r : RS, InvR len r → Mi l yX2_readStatement wsX2_readStatement (lS d) D [(cC, .char), (cI, .int)] [.ref aR, .int (nI blk)] (wR aR aT aC aK aF aS cC cI tx len r) (b2i (mSt tx len d r).1) (wR aR aT aC aK aF aS cC cI tx len (mSt tx len d r).2) := by
  intro d
  induction d with
  | zero =>
    intro blk h r hI
    have h8 : blk = 8 := by omega
    subst h8
    exact c_stmt0 r hI
  | succ d ih =>
    intro blk h r hI
    have hl := lS_ge d
    have hP := fun r hI => c_prog (l := l) (D := D) (aR := aR) (aT := aT) (aC := aC) (aK := aK) (aF := aF) (aS := aS) (cC := cC) (cI := cI) (tx := tx) (len := len) r hI (mSt tx len d) (blk + 1) (lS d) (by omega) (by omega) (ih (blk + 1) (by omega)) (mSt_inv d)
    have hB := fun r hI => c_block (l := l) (D := D) (aR := aR) (aT := aT) (aC := aC) (aK := aK) (aF := aF) (aS := aS) (cC := cC) (cI := cI) (tx := tx) (len := len) r hI (mProg tx len (mSt tx len d)) blk (lS d + 1) (by omega) (by omega) hP (fun r h => mProg_inv (mSt_inv d) h)
    have hBI := fun r (h : InvR len r) => mBlock_inv (tx := tx) (P := mProg tx len (mSt tx len d)) (fun r h => mProg_inv (mSt_inv d) h) h
    exact c_stmt r hI (mLoop tx len (mBlock tx len (mProg tx len (mSt tx len d)))) (mBranch tx len (mBlock tx len (mProg tx len (mSt tx len d)))) blk (lS d + 3) (by omega) (by omega) (by omega)
      (fun r h ha => c_loop r h _ blk (lS d + 2) (by omega) (by omega) hB hBI ha) (fun r h ha => c_branch r h _ blk (lS d + 2) (by omega) (by omega) hB hBI ha)
theorem c_P0 {l : Launch} {D : va_G} {aR aT aC aK aF aS : Nat} {cC cI : ClassId} {tx : Nat → Int32} {len : Nat}  (r : RS) (hI : InvR len r) : Mi l yX2_readProgram wsX2_readProgram 95 D [(cC, .char), (cI, .int)] [.ref aR, .int (nI 0)] (wR aR aT aC aK aF aS cC cI tx len r) (b2i (mProg tx len (mSt tx len 8) r).1) (wR aR aT aC aK aF aS cC cI tx len (mProg tx len (mSt tx len 8) r).2) :=
  c_prog r hI (mSt tx len 8) 0 94 (by decide) (by decide) (c_St 8 0 rfl) (mSt_inv 8)

set_option maxHeartbeats 4000000 in
set_option maxRecDepth 100000 in
theorem c_text {l : Launch} {D : va_G} {aR aT aC aK aF aS : Nat} {cC cI : ClassId} {tx : Nat → Int32} {len : Nat} (r : RS)  (hI : InvR len r) : Mi l yX2_readText wsX2_readText 96 D [(cC, .char), (cI, .int)] [.ref aR] (wR aR aT aC aK aF aS cC cI tx len r) (b2i ((mText tx len r).1)) (wR aR aT aC aK aF aS cC cI tx len ((mText tx len r).2)) := by
  refine Mi.of (cc := cX2_readText) (maxL := 1) (by decide) rfl (Nat.le_of_ble_eq_true rfl) ?_
  intro p e s m below meth c A C hr hA
  have in2 : ∀ w ∈ wsX20, w ∈ wsX2_readText := by decide +kernel
  show Z p l e (rmN _) s m _ below meth c _ D A _ _ [(0, .ref aR)] 0 []
  obtain ⟨hI1, hI2, hI3, hI4⟩ := hI
  dsimp only [csz] at hI3
  refine Z.aload_n C dX2_readText_0 0 rfl rfl ?_
  refine Z.get C in2 0 rfl rfl 2 (by decide) (by decide +kernel) rfl rfl dX2_readText_1 ?_
  refine Z.callVNv C (nA := 0) (As := []) (st := []) (host := "RoundCompiler") (c_empty r ⟨by first | omega | (dsimp only; omega), by omega, by first | omega | (dsimp only [csz]; omega), by first | omega | (dsimp only; omega)⟩) gX2_readText_X0_empty_n26 rfl (by decide +kernel) (by decide +kernel) (by decide +kernel) (by decide +kernel) (by decide +kernel) (rm_ok (by omega) (by decide)) 2 rfl rfl rfl (Nat.le_of_ble_eq_true rfl) rfl dX2_readText_4 ?_
  refine Z.aload_n C dX2_readText_7 0 rfl rfl ?_
  refine Z.iconst C (v := (nI 0)) dX2_readText_8 (by decide) ?_
  refine Z.put C in2 0 rfl rfl 3 (by decide) tyX2 tyX2_ok nmX2 (by decide +kernel) rfl rfl rfl rfl (Nat.le_of_ble_eq_true rfl) dX2_readText_9 (w' := (wR aR aT aC aK aF aS cC cI tx len (0, r.2.1, r.2.2.1, r.2.2.2.1, r.2.2.2.2.1, r.2.2.2.2.2.1, r.2.2.2.2.2.2.1, r.2.2.2.2.2.2.2.1, 0, 0, 0))) rfl ?_
  refine Z.aload_n C dX2_readText_12 0 rfl rfl ?_
  refine Z.iconst C (v := (nI 0)) dX2_readText_13 (by decide) ?_
  refine Z.put C in2 0 rfl rfl 4 (by decide) tyX2 tyX2_ok nmX2 (by decide +kernel) rfl rfl rfl rfl (Nat.le_of_ble_eq_true rfl) dX2_readText_14 (w' := (wR aR aT aC aK aF aS cC cI tx len (0, 0, r.2.2.1, r.2.2.2.1, r.2.2.2.2.1, r.2.2.2.2.2.1, r.2.2.2.2.2.2.1, r.2.2.2.2.2.2.2.1, 0, 0, 0))) rfl ?_
  refine Z.aload_n C dX2_readText_17 0 rfl rfl ?_
  refine Z.iconst C (v := (nI 0)) dX2_readText_18 (by decide) ?_
  refine Z.put C in2 0 rfl rfl 6 (by decide) tyX2 tyX2_ok nmX2 (by decide +kernel) rfl rfl rfl rfl (Nat.le_of_ble_eq_true rfl) dX2_readText_19 (w' := (wR aR aT aC aK aF aS cC cI tx len (0, 0, r.2.2.1, (0 : Int32), r.2.2.2.2.1, r.2.2.2.2.2.1, r.2.2.2.2.2.2.1, r.2.2.2.2.2.2.2.1, 0, 0, 0))) rfl ?_
  refine Z.aload_n C dX2_readText_22 0 rfl rfl ?_
  refine Z.iconst C (v := (nI 1)) dX2_readText_23 (by decide) ?_
  refine Z.put C in2 0 rfl rfl 7 (by decide) tyX2 tyX2_ok nmX2 (by decide +kernel) rfl rfl rfl rfl (Nat.le_of_ble_eq_true rfl) dX2_readText_24 (w' := (wR aR aT aC aK aF aS cC cI tx len (0, 0, r.2.2.1, (0 : Int32), 1, r.2.2.2.2.2.1, r.2.2.2.2.2.2.1, r.2.2.2.2.2.2.2.1, 0, 0, 0))) rfl ?_
  refine Z.aload_n C dX2_readText_27 0 rfl rfl ?_
  refine Z.iconst C (v := (nI 0)) dX2_readText_28 (by decide) ?_
  refine Z.callVi C (nA := 1) (As := [.int (nI 0)]) (st := []) (c_P0 (0, 0, r.2.2.1, (0 : Int32), 1, r.2.2.2.2.2.1, r.2.2.2.2.2.2.1, r.2.2.2.2.2.2.2.1, 0, 0, 0) ⟨by first | omega | (dsimp only; omega), by omega, by first | omega | (dsimp only [csz]; omega), by first | omega | (dsimp only; omega)⟩) gX2_readText_X2_readProgram rfl (by decide +kernel) (rm_ok (by omega) (by decide)) 0 rfl rfl rfl (Nat.le_of_ble_eq_true rfl) rfl dX2_readText_29 ?_
  generalize e1 : mProg tx len (mSt tx len 8) (0, 0, r.2.2.1, (0 : Int32), 1, r.2.2.2.2.2.1, r.2.2.2.2.2.2.1, r.2.2.2.2.2.2.2.1, 0, 0, 0) = x1
  have i1 : InvR len x1.2 := by rw [← e1]; exact mProg_inv (mSt_inv 8) ⟨by first | omega | (dsimp only; omega), by omega, by first | omega | (dsimp only [csz]; omega), by first | omega | (dsimp only; omega)⟩
  obtain ⟨h11, h21, h31, h41⟩ := i1
  dsimp only [csz] at h31
  refine Z.if_eq C 47 dX2_readText_32 (by decide) (fun c2 => ?_) (fun c2 => ?_)
  · skip
    replace c2 : x1.1 = false := b2i_0.mp c2
    refine Z.iconst C (v := (nI 0)) dX2_readText_47 (by decide) ?_
    refine Z.zret C hr hA dX2_readText_48 (b := false) rfl ?_ ?_
    · first | (simp [mText, bnd, e1, c2]; done) | (simp_all [mText, bnd]; done)
    · (refine congrArg (wR aR aT aC aK aF aS cC cI tx len) ?_; first | (simp [mText, bnd, e1, c2]; done) | (simp_all [mText, bnd]; done))
  · skip
    replace c2 : x1.1 = true := b2i_n0.mp c2
    refine Z.aload_n C dX2_readText_35 0 rfl rfl ?_
    refine Z.iconst C (v := (nI 0)) dX2_readText_36 (by decide) ?_
    refine Z.callVi C (nA := 1) (As := [.int (0 : Int32)]) (st := []) (c_expect x1.2 (0 : Int32) ⟨by first | omega | (dsimp only; omega), by omega, by first | omega | (dsimp only [csz]; omega), by first | omega | (dsimp only; omega)⟩) gX2_readText_X2_expect rfl (by decide +kernel) (rm_ok (by omega) (by decide)) 0 rfl rfl rfl (Nat.le_of_ble_eq_true rfl) rfl dX2_readText_37 ?_
    generalize e3 : mExpect tx len (0 : Int32) x1.2 = x3
    refine Z.if_eq C 47 dX2_readText_40 (by decide) (fun c4 => ?_) (fun c4 => ?_)
    · skip
      replace c4 : x3.1 = false := b2i_0.mp c4
      refine Z.iconst C (v := (nI 0)) dX2_readText_47 (by decide) ?_
      refine Z.zret C hr hA dX2_readText_48 (b := false) rfl ?_ ?_
      · first | (simp [mText, bnd, e1, c2, e3, c4]; done) | (simp_all [mText, bnd]; done)
      · (refine congrArg (wR aR aT aC aK aF aS cC cI tx len) ?_; first | (simp [mText, bnd, e1, c2, e3, c4]; done) | (simp_all [mText, bnd]; done))
    · skip
      replace c4 : x3.1 = true := b2i_n0.mp c4
      refine Z.iconst C (v := (nI 1)) dX2_readText_43 (by decide) ?_
      refine Z.goto C 48 dX2_readText_44 (by decide) ?_
      refine Z.zret C hr hA dX2_readText_48 (b := true) rfl ?_ ?_
      · first | (simp [mText, bnd, e1, c2, e3, c4]; done) | (simp_all [mText, bnd]; done)
      · (refine congrArg (wR aR aT aC aK aF aS cC cI tx len) ?_; first | (simp [mText, bnd, e1, c2, e3, c4]; done) | (simp_all [mText, bnd]; done))
