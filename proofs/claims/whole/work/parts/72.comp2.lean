set_option maxHeartbeats 4000000 in
set_option maxRecDepth 100000 in
theorem c_emptyW {l : Launch} {D : va_G} {aR aT aC aK aF aS : Nat} {cC cI : ClassId} {tx : Nat → Int32} {len : Nat} (r : RS)  : Mv l yX0_empty wsX0_empty 1 D [(cC, .char), (cI, .int)] [.ref aC] (wR aR aT aC aK aF aS cC cI tx len r) (wR aR aT aC aK aF aS cC cI tx len (rC r (r.2.2.2.2.2.1, r.2.2.2.2.2.2.1, r.2.2.2.2.2.2.2.1, 0, 0, 0))) := by
  refine Mv.of (cc := cX0_empty) (maxL := 1) (by decide) rfl (Nat.le_of_ble_eq_true rfl) ?_
  intro p e s m below meth c A C hr hA
  have in0 : ∀ w ∈ wsX00, w ∈ wsX0_empty := by decide +kernel
  show Z p l e (rmN _) s m _ below meth c _ D A _ _ [(0, .ref aC)] 0 []
  refine Z.aload_n C dX0_empty_0 0 rfl rfl ?_
  refine Z.iconst C (v := (nI 0)) dX0_empty_1 (by decide) ?_
  refine Z.put C in0 2 rfl rfl 3 (by decide) tyX0 tyX0_ok nmX0 (by decide +kernel) rfl rfl rfl rfl (Nat.le_of_ble_eq_true rfl) dX0_empty_2 (w' := (wR aR aT aC aK aF aS cC cI tx len (r.1, r.2.1, r.2.2.1, r.2.2.2.1, r.2.2.2.2.1, r.2.2.2.2.2.1, r.2.2.2.2.2.2.1, r.2.2.2.2.2.2.2.1, 0, r.2.2.2.2.2.2.2.2.2))) rfl ?_
  refine Z.aload_n C dX0_empty_5 0 rfl rfl ?_
  refine Z.iconst C (v := (nI 0)) dX0_empty_6 (by decide) ?_
  refine Z.put C in0 2 rfl rfl 4 (by decide) tyX0 tyX0_ok nmX0 (by decide +kernel) rfl rfl rfl rfl (Nat.le_of_ble_eq_true rfl) dX0_empty_7 (w' := (wR aR aT aC aK aF aS cC cI tx len (r.1, r.2.1, r.2.2.1, r.2.2.2.1, r.2.2.2.2.1, r.2.2.2.2.2.1, r.2.2.2.2.2.2.1, r.2.2.2.2.2.2.2.1, 0, 0, r.2.2.2.2.2.2.2.2.2.2))) rfl ?_
  refine Z.aload_n C dX0_empty_10 0 rfl rfl ?_
  refine Z.iconst C (v := (nI 0)) dX0_empty_11 (by decide) ?_
  refine Z.put C in0 2 rfl rfl 5 (by decide) tyX0 tyX0_ok nmX0 (by decide +kernel) rfl rfl rfl rfl (Nat.le_of_ble_eq_true rfl) dX0_empty_12 (w' := (wR aR aT aC aK aF aS cC cI tx len (r.1, r.2.1, r.2.2.1, r.2.2.2.1, r.2.2.2.2.1, r.2.2.2.2.2.1, r.2.2.2.2.2.2.1, r.2.2.2.2.2.2.2.1, 0, 0, 0))) rfl ?_
  refine Z.vret C hr hA dX0_empty_15 ?_
  (refine congrArg (wR aR aT aC aK aF aS cC cI tx len) ?_; first | rfl | (simp [nI_0, rC]; done) | (simp_all [nI_0, rC]; done))
set_option maxHeartbeats 4000000 in
set_option maxRecDepth 100000 in
theorem c_textW {l : Launch} {D : va_G} {aR aT aC aK aF aS : Nat} {cC cI : ClassId} {tx : Nat → Int32} {len : Nat} (r : RS)  (hI : len ≤ 480) : Mi l yX2_readText wsX2_readText 96 D [(cC, .char), (cI, .int)] [.ref aR] (wR aR aT aC aK aF aS cC cI tx len r) (b2i ((mText tx len r).1)) (wR aR aT aC aK aF aS cC cI tx len ((mText tx len r).2)) := by
  refine Mi.of (cc := cX2_readText) (maxL := 1) (by decide) rfl (Nat.le_of_ble_eq_true rfl) ?_
  intro p e s m below meth c A C hr hA
  have in2 : ∀ w ∈ wsX20, w ∈ wsX2_readText := by decide +kernel
  show Z p l e (rmN _) s m _ below meth c _ D A _ _ [(0, .ref aR)] 0 []
  refine Z.aload_n C dX2_readText_0 0 rfl rfl ?_
  refine Z.get C in2 0 rfl rfl 2 (by decide) (by decide +kernel) rfl rfl dX2_readText_1 ?_
  refine Z.callVNv C (nA := 0) (As := []) (st := []) (host := "RoundCompiler") (c_emptyW r) gX2_readText_X0_empty_n26 rfl (by decide +kernel) (by decide +kernel) (by decide +kernel) (by decide +kernel) (by decide +kernel) (rm_ok (by omega) (by decide)) 2 rfl rfl rfl (Nat.le_of_ble_eq_true rfl) rfl dX2_readText_4 ?_
  refine Z.aload_n C dX2_readText_7 0 rfl rfl ?_
  refine Z.iconst C (v := (nI 0)) dX2_readText_8 (by decide) ?_
  refine Z.put C in2 0 rfl rfl 3 (by decide) tyX2 tyX2_ok nmX2 (by decide +kernel) rfl rfl rfl rfl (Nat.le_of_ble_eq_true rfl) dX2_readText_9 (w' := (wR aR aT aC aK aF aS cC cI tx len (0, r.2.1, r.2.2.1, r.2.2.2.1, r.2.2.2.2.1, r.2.2.2.2.2.1, r.2.2.2.2.2.2.1, r.2.2.2.2.2.2.2.1, 0, 0, 0))) rfl ?_
  refine Z.aload_n C dX2_readText_12 0 rfl rfl ?_
  refine Z.iconst C (v := (nI 0)) dX2_readText_13 (by decide) ?_
  refine Z.put C in2 0 rfl rfl 4 (by decide) tyX2 tyX2_ok nmX2 (by decide +kernel) rfl rfl rfl rfl (Nat.le_of_ble_eq_true rfl) dX2_readText_14 (w' := (wR aR aT aC aK aF aS cC cI tx len (0, 0, r.2.2.1, r.2.2.2.1, r.2.2.2.2.1, r.2.2.2.2.2.1, r.2.2.2.2.2.2.1, r.2.2.2.2.2.2.2.1, 0, 0, 0))) rfl ?_
  refine Z.aload_n C dX2_readText_17 0 rfl rfl ?_
  refine Z.iconst C (v := (nI 0)) dX2_readText_18 (by decide) ?_
  refine Z.put C in2 0 rfl rfl 6 (by decide) tyX2 tyX2_ok nmX2 (by decide +kernel) rfl rfl rfl rfl (Nat.le_of_ble_eq_true rfl) dX2_readText_19 (w' := (wR aR aT aC aK aF aS cC cI tx len (0, 0, r.2.2.1, (0 : Int32), r.2.2.2.2.1, r.2.2.2.2.2.1, r.2.2.2.2.2.2.1, r.2.2.2.2.2.2.2.1, 0, 0, 0))) rfl ?_
  refine Z.aload_n C dX2_readText_22 0 rfl rfl ?_
  refine Z.iconst C (v := (nI 1)) dX2_readText_23 (by decide) ?_
  refine Z.put C in2 0 rfl rfl 7 (by decide) tyX2 tyX2_ok nmX2 (by decide +kernel) rfl rfl rfl rfl (Nat.le_of_ble_eq_true rfl) dX2_readText_24 (w' := (wR aR aT aC aK aF aS cC cI tx len (0, 0, r.2.2.1, (0 : Int32), 1, r.2.2.2.2.2.1, r.2.2.2.2.2.2.1, r.2.2.2.2.2.2.2.1, 0, 0, 0))) rfl ?_
  refine Z.aload_n C dX2_readText_27 0 rfl rfl ?_
  refine Z.iconst C (v := (nI 0)) dX2_readText_28 (by decide) ?_
  refine Z.callVi C (nA := 1) (As := [.int (nI 0)]) (st := []) (c_P0 (0, 0, r.2.2.1, (0 : Int32), 1, r.2.2.2.2.2.1, r.2.2.2.2.2.2.1, r.2.2.2.2.2.2.2.1, 0, 0, 0) ⟨by first | omega | (dsimp only; omega), by omega, by first | omega | (dsimp only [csz]; omega), by first | omega | (dsimp only; omega)⟩) gX2_readText_X2_readProgram rfl (by decide +kernel) (rm_ok (by omega) (by decide)) 0 rfl rfl rfl (Nat.le_of_ble_eq_true rfl) rfl dX2_readText_29 ?_
  generalize e1 : mProg tx len (mSt tx len 8) (0, 0, r.2.2.1, (0 : Int32), 1, r.2.2.2.2.2.1, r.2.2.2.2.2.2.1, r.2.2.2.2.2.2.2.1, 0, 0, 0) = x1
  have i1 : InvR len x1.2 := by rw [← e1]; exact mProg_inv (mSt_inv 8) ⟨by first | omega | (dsimp only; omega), by omega, by first | omega | (dsimp only [csz]; omega), by first | omega | (dsimp only; omega)⟩
  obtain ⟨h11, h21, h31, h41⟩ := i1
  dsimp only [csz] at h31
  refine Z.if_eq C 47 dX2_readText_32 (by decide) (fun c2 => ?_) (fun c2 => ?_)
  · skip
    replace c2 : x1.1 = false := b2i_0.mp c2
    refine Z.iconst C (v := (nI 0)) dX2_readText_47 (by decide) ?_
    refine Z.zret C hr hA dX2_readText_48 (b := false) rfl ?_ ?_
    · first | (simp [mText, bnd, e1, c2]; done) | (simp_all [mText, bnd]; done)
    · (refine congrArg (wR aR aT aC aK aF aS cC cI tx len) ?_; first | (simp [mText, bnd, e1, c2]; done) | (simp_all [mText, bnd]; done))
  · skip
    replace c2 : x1.1 = true := b2i_n0.mp c2
    refine Z.aload_n C dX2_readText_35 0 rfl rfl ?_
    refine Z.iconst C (v := (nI 0)) dX2_readText_36 (by decide) ?_
    refine Z.callVi C (nA := 1) (As := [.int (0 : Int32)]) (st := []) (c_expect x1.2 (0 : Int32) ⟨by first | omega | (dsimp only; omega), by omega, by first | omega | (dsimp only [csz]; omega), by first | omega | (dsimp only; omega)⟩) gX2_readText_X2_expect rfl (by decide +kernel) (rm_ok (by omega) (by decide)) 0 rfl rfl rfl (Nat.le_of_ble_eq_true rfl) rfl dX2_readText_37 ?_
    generalize e3 : mExpect tx len (0 : Int32) x1.2 = x3
    refine Z.if_eq C 47 dX2_readText_40 (by decide) (fun c4 => ?_) (fun c4 => ?_)
    · skip
      replace c4 : x3.1 = false := b2i_0.mp c4
      refine Z.iconst C (v := (nI 0)) dX2_readText_47 (by decide) ?_
      refine Z.zret C hr hA dX2_readText_48 (b := false) rfl ?_ ?_
      · first | (simp [mText, bnd, e1, c2, e3, c4]; done) | (simp_all [mText, bnd]; done)
      · (refine congrArg (wR aR aT aC aK aF aS cC cI tx len) ?_; first | (simp [mText, bnd, e1, c2, e3, c4]; done) | (simp_all [mText, bnd]; done))
    · skip
      replace c4 : x3.1 = true := b2i_n0.mp c4
      refine Z.iconst C (v := (nI 1)) dX2_readText_43 (by decide) ?_
      refine Z.goto C 48 dX2_readText_44 (by decide) ?_
      refine Z.zret C hr hA dX2_readText_48 (b := true) rfl ?_ ?_
      · first | (simp [mText, bnd, e1, c2, e3, c4]; done) | (simp_all [mText, bnd]; done)
      · (refine congrArg (wR aR aT aC aK aF aS cC cI tx len) ?_; first | (simp [mText, bnd, e1, c2, e3, c4]; done) | (simp_all [mText, bnd]; done))
set_option maxHeartbeats 4000000 in
set_option maxRecDepth 100000 in
theorem c_compileW {l : Launch} {D : va_G} {aO aR aT aC aK aF aS aM aA aB aV aN aX bC bK bF bS : Nat} {cC cI : ClassId} {rdy : Bool} {tx : Nat → Int32} {len : Nat} {r : RS} {K F S : Nat → Int32} {sz stm ops : Nat} {g : MS}  (hlt : l.stackTraces = false) (hI : len ≤ 480) : Xi l yX3_compile wsX3_compile 100 D [(cC, .char), (cI, .int)] [.ref aO] (wX aO aR aT aC aK aF aS aM aA aB aV aN aX bC bK bF bS cC cI rdy tx len r K F S sz stm ops g) ((mText tx len r).1 = true) (nI (mText tx len r).2.2.2.2.2.2.2.2.2.2.1) (wX aO aR aT bC bK bF bS aM aA aB aV aN aX aC aK aF aS cC cI true tx len (rC (mText tx len r).2 (K, F, S, sz, stm, ops)) (mText tx len r).2.2.2.2.2.2.1 (mText tx len r).2.2.2.2.2.2.2.1 (mText tx len r).2.2.2.2.2.2.2.2.1 (mText tx len r).2.2.2.2.2.2.2.2.2.1 (mText tx len r).2.2.2.2.2.2.2.2.2.2.1 (mText tx len r).2.2.2.2.2.2.2.2.2.2.2 g) ("java/lang/IllegalArgumentException") (wX aO aR aT aC aK aF aS aM aA aB aV aN aX bC bK bF bS cC cI rdy tx len (mText tx len r).2 K F S sz stm ops g) := by
  refine Xi.of (cc := cX3_compile) (maxL := 1) (by decide) rfl (Nat.le_of_ble_eq_true rfl) ?_
  intro p e s m below meth c A C hr hA hzt htb
  have in0 : ∀ w ∈ wsX00, w ∈ wsX3_compile := by decide +kernel
  have in3 : ∀ w ∈ wsX30, w ∈ wsX3_compile := by decide +kernel
  show Z p l e (rmX _) s m _ below meth c _ D A _ _ [(0, .ref aO)] 0 []
  refine Z.aload_n C dX3_compile_0 0 rfl rfl ?_
  refine Z.get C in3 0 rfl rfl 0 (by decide) (by decide +kernel) rfl rfl dX3_compile_1 ?_
  refine Z.callVNi C (nA := 0) (As := []) (st := []) (host := "RoundCompiler") (frMiR (c_textW r hI)) gX3_compile_X2_readText_n46 rfl (by decide +kernel) (by decide +kernel) (by decide +kernel) (by decide +kernel) (by decide +kernel) (rm_ok (by omega) (by decide)) 1 rfl rfl rfl (Nat.le_of_ble_eq_true rfl) rfl dX3_compile_4 ?_
  generalize e1 : mText tx len r = x1
  refine Z.if_ne C 20 dX3_compile_7 (by decide) (fun c2 => ?_) (fun c2 => ?_)
  · skip
    replace c2 : x1.1 = true := b2i_n0.mp c2
    refine Z.aload_n C dX3_compile_20 0 rfl rfl ?_
    refine Z.aload_n C dX3_compile_21 0 rfl rfl ?_
    refine Z.get C in3 0 rfl rfl 0 (by decide) (by decide +kernel) rfl rfl dX3_compile_22 ?_
    refine Z.aload_n C dX3_compile_25 0 rfl rfl ?_
    refine Z.get C in3 0 rfl rfl 2 (by decide) (by decide +kernel) rfl rfl dX3_compile_26 ?_
    refine Z.callVNr C (nA := 1) (As := [.ref bC]) (st := [.ref aO]) (host := "RoundCompiler") (c_exchanged (aO := aO) (aR := aR) (aT := aT) (aC := aC) (aK := aK) (aF := aF) (aS := aS) (aM := aM) (aA := aA) (aB := aB) (aV := aV) (aN := aN) (aX := aX) (bC := bC) (bK := bK) (bF := bF) (bS := bS) (rdy := rdy) (tx := tx) (len := len) (r := x1.2) (K := K) (F := F) (S := S) (sz := sz) (stm := stm) (ops := ops) (g := g)) gX3_compile_X2_exchanged_n57 rfl (by decide +kernel) (by decide +kernel) (by decide +kernel) (by decide +kernel) (by decide +kernel) (rm_ok (by omega) (by decide)) 1 rfl rfl rfl (Nat.le_of_ble_eq_true rfl) rfl dX3_compile_29 ?_
    refine Z.put C in3 0 rfl rfl 2 (by decide) tyX3 tyX3_ok nmX3 (by decide +kernel) rfl rfl rfl rfl (Nat.le_of_ble_eq_true rfl) dX3_compile_32 (w' := (wXg aO aR aT aC aK aF aS aM aA aB aV aN aX bC bK bF bS bC aC cC cI rdy tx len x1.2 K F S sz stm ops g)) rfl ?_
    refine Z.aload_n C dX3_compile_35 0 rfl rfl ?_
    refine Z.iconst C (v := (nI 1)) dX3_compile_36 (by decide) ?_
    refine Z.put C in3 0 rfl rfl 3 (by decide) tyX3 tyX3_ok nmX3 (by decide +kernel) rfl rfl (by decide) (by decide) (Nat.le_of_ble_eq_true rfl) dX3_compile_37 (w' := (wXg aO aR aT aC aK aF aS aM aA aB aV aN aX bC bK bF bS bC aC cC cI true tx len x1.2 K F S sz stm ops g)) rfl ?_
    refine Z.aload_n C dX3_compile_40 0 rfl rfl ?_
    refine Z.get C in3 0 rfl rfl 2 (by decide) (by decide +kernel) rfl rfl dX3_compile_41 ?_
    refine Z.getN C (host := "RoundCompiler") in0 3 rfl rfl 4 (by decide) (by decide +kernel) rfl rfl dX3_compile_44 ?_
    refine Z.perm (w' := (wX aO aR aT bC bK bF bS aM aA aB aV aN aX aC aK aF aS cC cI true tx len (rC x1.2 (K, F, S, sz, stm, ops)) x1.2.2.2.2.2.2.1 x1.2.2.2.2.2.2.2.1 x1.2.2.2.2.2.2.2.2.1 x1.2.2.2.2.2.2.2.2.2.1 x1.2.2.2.2.2.2.2.2.2.2.1 x1.2.2.2.2.2.2.2.2.2.2.2 g)) [0, 1, 2, 13, 14, 15, 16, 7, 8, 9, 10, 11, 12, 3, 4, 5, 6] rfl rfl (by decide) ?_
    refine Z.xiret C hr hA dX3_compile_47 ?_ ?_ ?_
    · exact c2
    · rfl
    · rfl
  · skip
    replace c2 : x1.1 = false := b2i_0.mp c2
    refine Z.throw C hlt hzt htb (X := "java/lang/IllegalArgumentException") (text := "the text has a fault") (ik := 50) (is := 52) (ic := 54) (by decide) (by decide +kernel) (by decide +kernel) (by decide +kernel) (by decide) (by decide +kernel) (by decide +kernel) (by decide +kernel) dX3_compile_10 dX3_compile_13 dX3_compile_14 dX3_compile_16 dX3_compile_19 ⟨by decide, by decide, by decide, by decide⟩ hA ?_ ?_ ?_
    · (simp [c2])
    · rfl
    · rfl
