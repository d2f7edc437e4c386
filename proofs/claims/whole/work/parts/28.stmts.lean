set_option maxHeartbeats 4000000 in
set_option maxRecDepth 100000 in
theorem c_set {l : Launch} {D : va_G} {aR aT aC aK aF aS : Nat} {cC cI : ClassId} {tx : Nat → Int32} {len : Nat} (r : RS)  (hI : InvR len r) : Mi l yX2_readSet wsX2_readSet 60 D [(cC, .char), (cI, .int)] [.ref aR] (wR aR aT aC aK aF aS cC cI tx len r) (b2i ((mSet tx len r).1)) (wR aR aT aC aK aF aS cC cI tx len ((mSet tx len r).2)) := by
  refine Mi.of (cc := cX2_readSet) (maxL := 2) (by decide) rfl (Nat.le_of_ble_eq_true rfl) ?_
  intro p e s m below meth c A C hr hA
  have in2 : ∀ w ∈ wsX20, w ∈ wsX2_readSet := by decide +kernel
  show Z p l e (rmN _) s m _ below meth c _ D A _ _ [(0, .ref aR)] 0 []
  obtain ⟨hI1, hI2, hI3, hI4⟩ := hI
  dsimp only [csz] at hI3
  refine Z.aload_n C dX2_readSet_0 0 rfl rfl ?_
  refine Z.callVi C (nA := 0) (As := []) (st := []) (c_freeName r ⟨by first | omega | (dsimp only; omega), by omega, by first | omega | (dsimp only [csz]; omega), by first | omega | (dsimp only; omega)⟩) gX2_readSet_X2_freeName rfl (by decide +kernel) (rm_ok (by omega) (by decide)) 0 rfl rfl rfl (Nat.le_of_ble_eq_true rfl) rfl dX2_readSet_1 ?_
  refine Z.istore_n C (lv' := [(1, .int (freeF tx len r)), (0, .ref aR)]) dX2_readSet_4 rfl (by decide) rfl ?_
  refine Z.iload_n C dX2_readSet_5 0 rfl rfl ?_
  refine Z.if_ge C 18 dX2_readSet_6 (by decide) (fun c1 => ?_) (fun c1 => ?_)
  · skip
    replace c1 : (0 : Int32) ≤ (freeF tx len r) := c1
    have c1l := free_lt c1
    refine Z.aload_n C dX2_readSet_18 1 rfl rfl ?_
    refine Z.dup C dX2_readSet_19 rfl ?_
    refine Z.get C in2 0 rfl rfl 3 (by decide) (by decide +kernel) rfl rfl dX2_readSet_20 ?_
    refine Z.iconst C (v := (nI 1)) dX2_readSet_23 (by decide) ?_
    refine Z.iadd C (v := (nI (r.1 + 1))) dX2_readSet_24 (nI_add r.1 1) ?_
    refine Z.put C in2 0 rfl rfl 3 (by decide) tyX2 tyX2_ok nmX2 (by decide +kernel) rfl rfl rfl rfl (Nat.le_of_ble_eq_true rfl) dX2_readSet_25 (w' := (wR aR aT aC aK aF aS cC cI tx len (r.1 + 1, r.2))) rfl ?_
    refine Z.aload_n C dX2_readSet_28 1 rfl rfl ?_
    refine Z.bipush C (v := (nI 61)) dX2_readSet_29 (by decide) ?_
    refine Z.callVi C (nA := 1) (As := [.int (61 : Int32)]) (st := []) (c_expect (r.1 + 1, r.2) (61 : Int32) ⟨by first | omega | (dsimp only; omega), by omega, by first | omega | (dsimp only [csz]; omega), by first | omega | (dsimp only; omega)⟩) gX2_readSet_X2_expect rfl (by decide +kernel) (rm_ok (by omega) (by decide)) 0 rfl rfl rfl (Nat.le_of_ble_eq_true rfl) rfl dX2_readSet_31 ?_
    generalize e2 : mExpect tx len (61 : Int32) (r.1 + 1, r.2) = x2
    have i2 : InvR len x2.2 := by rw [← e2]; exact mExpect_inv (by decide) ⟨by first | omega | (dsimp only; omega), by omega, by first | omega | (dsimp only [csz]; omega), by first | omega | (dsimp only; omega)⟩
    obtain ⟨h12, h22, h32, h42⟩ := i2
    dsimp only [csz] at h32
    refine Z.if_eq C 54 dX2_readSet_34 (by decide) (fun c3 => ?_) (fun c3 => ?_)
    · skip
      replace c3 : x2.1 = false := b2i_0.mp c3
      refine Z.iconst C (v := (nI 0)) dX2_readSet_54 (by decide) ?_
      refine Z.zret C hr hA dX2_readSet_55 (b := false) rfl ?_ ?_
      · first | (simp [mSet, bnd, rC, (eq_true c1), e2, c3]; done) | (simp_all [mSet, bnd, rC]; done)
      · (refine congrArg (wR aR aT aC aK aF aS cC cI tx len) ?_; first | (simp [mSet, bnd, rC, (eq_true c1), e2, c3]; done) | (simp_all [mSet, bnd, rC]; done))
    · skip
      replace c3 : x2.1 = true := b2i_n0.mp c3
      refine Z.aload_n C dX2_readSet_37 1 rfl rfl ?_
      refine Z.iconst C (v := (nI 0)) dX2_readSet_38 (by decide) ?_
      refine Z.callVi C (nA := 1) (As := [.int (nI 0)]) (st := []) (c_S0 x2.2 ⟨by first | omega | (dsimp only; omega), by omega, by first | omega | (dsimp only [csz]; omega), by first | omega | (dsimp only; omega)⟩) gX2_readSet_X2_readSum rfl (by decide +kernel) (rm_ok (by omega) (by decide)) 0 rfl rfl rfl (Nat.le_of_ble_eq_true rfl) rfl dX2_readSet_39 ?_
      generalize e4 : mS tx len x2.2 = x4
      have i4 : InvR len x4.2 := by rw [← e4]; exact mS_inv ⟨by first | omega | (dsimp only; omega), by omega, by first | omega | (dsimp only [csz]; omega), by first | omega | (dsimp only; omega)⟩
      obtain ⟨h14, h24, h34, h44⟩ := i4
      dsimp only [csz] at h34
      refine Z.if_eq C 54 dX2_readSet_42 (by decide) (fun c5 => ?_) (fun c5 => ?_)
      · skip
        replace c5 : x4.1 = false := b2i_0.mp c5
        refine Z.iconst C (v := (nI 0)) dX2_readSet_54 (by decide) ?_
        refine Z.zret C hr hA dX2_readSet_55 (b := false) rfl ?_ ?_
        · first | (simp [mSet, bnd, rC, (eq_true c1), e2, c3, e4, c5]; done) | (simp_all [mSet, bnd, rC]; done)
        · (refine congrArg (wR aR aT aC aK aF aS cC cI tx len) ?_; first | (simp [mSet, bnd, rC, (eq_true c1), e2, c3, e4, c5]; done) | (simp_all [mSet, bnd, rC]; done))
      · skip
        replace c5 : x4.1 = true := b2i_n0.mp c5
        refine Z.aload_n C dX2_readSet_45 1 rfl rfl ?_
        refine Z.bipush C (v := (nI 59)) dX2_readSet_46 (by decide) ?_
        refine Z.callVi C (nA := 1) (As := [.int (59 : Int32)]) (st := []) (c_expect x4.2 (59 : Int32) ⟨by first | omega | (dsimp only; omega), by omega, by first | omega | (dsimp only [csz]; omega), by first | omega | (dsimp only; omega)⟩) gX2_readSet_X2_expect rfl (by decide +kernel) (rm_ok (by omega) (by decide)) 0 rfl rfl rfl (Nat.le_of_ble_eq_true rfl) rfl dX2_readSet_48 ?_
        generalize e6 : mExpect tx len (59 : Int32) x4.2 = x6
        have i6 : InvR len x6.2 := by rw [← e6]; exact mExpect_inv (by decide) ⟨by first | omega | (dsimp only; omega), by omega, by first | omega | (dsimp only [csz]; omega), by first | omega | (dsimp only; omega)⟩
        obtain ⟨h16, h26, h36, h46⟩ := i6
        dsimp only [csz] at h36
        refine Z.if_ne C 56 dX2_readSet_51 (by decide) (fun c7 => ?_) (fun c7 => ?_)
        · skip
          replace c7 : x6.1 = true := b2i_n0.mp c7
          refine Z.aload_n C dX2_readSet_56 1 rfl rfl ?_
          refine Z.get C in2 0 rfl rfl 2 (by decide) (by decide +kernel) rfl rfl dX2_readSet_57 ?_
          refine Z.iconst C (v := (nI 4)) dX2_readSet_60 (by decide) ?_
          refine Z.iload_n C dX2_readSet_61 0 rfl rfl ?_
          refine Z.iconst C (v := (nI 0)) dX2_readSet_62 (by decide) ?_
          refine Z.callVNv C (nA := 3) (As := [.int (4 : Int32), .int (freeF tx len r), .int (0 : Int32)]) (st := []) (host := "RoundCompiler") (c_add x6.2 (4 : Int32) (freeF tx len r) (0 : Int32) ⟨by first | omega | (dsimp only; omega), by omega, by first | omega | (dsimp only [csz]; omega), by first | omega | (dsimp only; omega)⟩) gX2_readSet_X0_add_n80 rfl (by decide +kernel) (by decide +kernel) (by decide +kernel) (by decide +kernel) (by decide +kernel) (rm_ok (by omega) (by decide)) 2 rfl rfl rfl (Nat.le_of_ble_eq_true rfl) rfl dX2_readSet_63 ?_
          generalize e8 : cAdd (4 : Int32) (freeF tx len r) (0 : Int32) x6.2.2.2.2.2.2 = x8
          have b8 : x8.2.2.2.1 ≤ 480 := by rw [← e8]; exact cAdd_sz (by first | omega | (dsimp only [csz]; omega))
          refine Z.iconst C (v := (nI 1)) dX2_readSet_66 (by decide) ?_
          refine Z.zret C hr hA dX2_readSet_67 (b := true) rfl ?_ ?_
          · first | (simp [mSet, bnd, rC, (eq_true c1), e2, c3, e4, c5, e6, c7, e8]; done) | (simp_all [mSet, bnd, rC]; done)
          · (refine congrArg (wR aR aT aC aK aF aS cC cI tx len) ?_; first | (simp [mSet, bnd, rC, (eq_true c1), e2, c3, e4, c5, e6, c7, e8]; done) | (simp_all [mSet, bnd, rC]; done))
        · skip
          replace c7 : x6.1 = false := b2i_0.mp c7
          refine Z.iconst C (v := (nI 0)) dX2_readSet_54 (by decide) ?_
          refine Z.zret C hr hA dX2_readSet_55 (b := false) rfl ?_ ?_
          · first | (simp [mSet, bnd, rC, (eq_true c1), e2, c3, e4, c5, e6, c7]; done) | (simp_all [mSet, bnd, rC]; done)
          · (refine congrArg (wR aR aT aC aK aF aS cC cI tx len) ?_; first | (simp [mSet, bnd, rC, (eq_true c1), e2, c3, e4, c5, e6, c7]; done) | (simp_all [mSet, bnd, rC]; done))
  · skip
    replace c1 : ¬ (0 : Int32) ≤ (freeF tx len r) := c1
    refine Z.aload_n C dX2_readSet_9 1 rfl rfl ?_
    refine Z.aload_n C dX2_readSet_10 1 rfl rfl ?_
    refine Z.get C in2 0 rfl rfl 3 (by decide) (by decide +kernel) rfl rfl dX2_readSet_11 ?_
    refine Z.callVi C (nA := 1) (As := [.int (nI r.1)]) (st := []) (c_refuse r r.1) gX2_readSet_X2_refuse rfl (by decide +kernel) (rm_ok (by omega) (by decide)) 0 rfl rfl rfl (Nat.le_of_ble_eq_true rfl) rfl dX2_readSet_14 ?_
    refine Z.zret C hr hA dX2_readSet_17 (b := false) rfl ?_ ?_
    · first | (simp [mSet, bnd, rC, (eq_false c1)]; done) | (simp_all [mSet, bnd, rC]; done)
    · (refine congrArg (wR aR aT aC aK aF aS cC cI tx len) ?_; first | (simp [mSet, bnd, rC, (eq_false c1)]; done) | (simp_all [mSet, bnd, rC]; done))
set_option maxHeartbeats 4000000 in
set_option maxRecDepth 100000 in
theorem c_store {l : Launch} {D : va_G} {aR aT aC aK aF aS : Nat} {cC cI : ClassId} {tx : Nat → Int32} {len : Nat} (r : RS)  (hI : InvR len r) (ha : r.1 < len) : Mi l yX2_readStore wsX2_readStore 60 D [(cC, .char), (cI, .int)] [.ref aR] (wR aR aT aC aK aF aS cC cI tx len r) (b2i ((mStore tx len r).1)) (wR aR aT aC aK aF aS cC cI tx len ((mStore tx len r).2)) := by
  refine Mi.of (cc := cX2_readStore) (maxL := 1) (by decide) rfl (Nat.le_of_ble_eq_true rfl) ?_
  intro p e s m below meth c A C hr hA
  have in2 : ∀ w ∈ wsX20, w ∈ wsX2_readStore := by decide +kernel
  show Z p l e (rmN _) s m _ below meth c _ D A _ _ [(0, .ref aR)] 0 []
  obtain ⟨hI1, hI2, hI3, hI4⟩ := hI
  dsimp only [csz] at hI3
  refine Z.aload_n C dX2_readStore_0 0 rfl rfl ?_
  refine Z.dup C dX2_readStore_1 rfl ?_
  refine Z.get C in2 0 rfl rfl 3 (by decide) (by decide +kernel) rfl rfl dX2_readStore_2 ?_
  refine Z.iconst C (v := (nI 1)) dX2_readStore_5 (by decide) ?_
  refine Z.iadd C (v := (nI (r.1 + 1))) dX2_readStore_6 (nI_add r.1 1) ?_
  refine Z.put C in2 0 rfl rfl 3 (by decide) tyX2 tyX2_ok nmX2 (by decide +kernel) rfl rfl rfl rfl (Nat.le_of_ble_eq_true rfl) dX2_readStore_7 (w' := (wR aR aT aC aK aF aS cC cI tx len (r.1 + 1, r.2))) rfl ?_
  refine Z.aload_n C dX2_readStore_10 0 rfl rfl ?_
  refine Z.bipush C (v := (nI 91)) dX2_readStore_11 (by decide) ?_
  refine Z.callVi C (nA := 1) (As := [.int (91 : Int32)]) (st := []) (c_expect (r.1 + 1, r.2) (91 : Int32) ⟨by first | omega | (dsimp only; omega), by omega, by first | omega | (dsimp only [csz]; omega), by first | omega | (dsimp only; omega)⟩) gX2_readStore_X2_expect rfl (by decide +kernel) (rm_ok (by omega) (by decide)) 0 rfl rfl rfl (Nat.le_of_ble_eq_true rfl) rfl dX2_readStore_13 ?_
  generalize e1 : mExpect tx len (91 : Int32) (r.1 + 1, r.2) = x1
  have i1 : InvR len x1.2 := by rw [← e1]; exact mExpect_inv (by decide) ⟨by first | omega | (dsimp only; omega), by omega, by first | omega | (dsimp only [csz]; omega), by first | omega | (dsimp only; omega)⟩
  obtain ⟨h11, h21, h31, h41⟩ := i1
  dsimp only [csz] at h31
  refine Z.if_eq C 36 dX2_readStore_16 (by decide) (fun c2 => ?_) (fun c2 => ?_)
  · skip
    replace c2 : x1.1 = false := b2i_0.mp c2
    refine Z.iconst C (v := (nI 0)) dX2_readStore_36 (by decide) ?_
    refine Z.zret C hr hA dX2_readStore_37 (b := false) rfl ?_ ?_
    · first | (simp [mStore, bnd, rC, e1, c2]; done) | (simp_all [mStore, bnd, rC]; done)
    · (refine congrArg (wR aR aT aC aK aF aS cC cI tx len) ?_; first | (simp [mStore, bnd, rC, e1, c2]; done) | (simp_all [mStore, bnd, rC]; done))
  · skip
    replace c2 : x1.1 = true := b2i_n0.mp c2
    refine Z.aload_n C dX2_readStore_19 0 rfl rfl ?_
    refine Z.iconst C (v := (nI 0)) dX2_readStore_20 (by decide) ?_
    refine Z.callVi C (nA := 1) (As := [.int (nI 0)]) (st := []) (c_S0 x1.2 ⟨by first | omega | (dsimp only; omega), by omega, by first | omega | (dsimp only [csz]; omega), by first | omega | (dsimp only; omega)⟩) gX2_readStore_X2_readSum rfl (by decide +kernel) (rm_ok (by omega) (by decide)) 0 rfl rfl rfl (Nat.le_of_ble_eq_true rfl) rfl dX2_readStore_21 ?_
    generalize e3 : mS tx len x1.2 = x3
    have i3 : InvR len x3.2 := by rw [← e3]; exact mS_inv ⟨by first | omega | (dsimp only; omega), by omega, by first | omega | (dsimp only [csz]; omega), by first | omega | (dsimp only; omega)⟩
    obtain ⟨h13, h23, h33, h43⟩ := i3
    dsimp only [csz] at h33
    refine Z.if_eq C 36 dX2_readStore_24 (by decide) (fun c4 => ?_) (fun c4 => ?_)
    · skip
      replace c4 : x3.1 = false := b2i_0.mp c4
      refine Z.iconst C (v := (nI 0)) dX2_readStore_36 (by decide) ?_
      refine Z.zret C hr hA dX2_readStore_37 (b := false) rfl ?_ ?_
      · first | (simp [mStore, bnd, rC, e1, c2, e3, c4]; done) | (simp_all [mStore, bnd, rC]; done)
      · (refine congrArg (wR aR aT aC aK aF aS cC cI tx len) ?_; first | (simp [mStore, bnd, rC, e1, c2, e3, c4]; done) | (simp_all [mStore, bnd, rC]; done))
    · skip
      replace c4 : x3.1 = true := b2i_n0.mp c4
      refine Z.aload_n C dX2_readStore_27 0 rfl rfl ?_
      refine Z.bipush C (v := (nI 93)) dX2_readStore_28 (by decide) ?_
      refine Z.callVi C (nA := 1) (As := [.int (93 : Int32)]) (st := []) (c_expect x3.2 (93 : Int32) ⟨by first | omega | (dsimp only; omega), by omega, by first | omega | (dsimp only [csz]; omega), by first | omega | (dsimp only; omega)⟩) gX2_readStore_X2_expect rfl (by decide +kernel) (rm_ok (by omega) (by decide)) 0 rfl rfl rfl (Nat.le_of_ble_eq_true rfl) rfl dX2_readStore_30 ?_
      generalize e5 : mExpect tx len (93 : Int32) x3.2 = x5
      have i5 : InvR len x5.2 := by rw [← e5]; exact mExpect_inv (by decide) ⟨by first | omega | (dsimp only; omega), by omega, by first | omega | (dsimp only [csz]; omega), by first | omega | (dsimp only; omega)⟩
      obtain ⟨h15, h25, h35, h45⟩ := i5
      dsimp only [csz] at h35
      refine Z.if_ne C 38 dX2_readStore_33 (by decide) (fun c6 => ?_) (fun c6 => ?_)
      · skip
        replace c6 : x5.1 = true := b2i_n0.mp c6
        refine Z.aload_n C dX2_readStore_38 0 rfl rfl ?_
        refine Z.bipush C (v := (nI 61)) dX2_readStore_39 (by decide) ?_
        refine Z.callVi C (nA := 1) (As := [.int (61 : Int32)]) (st := []) (c_expect x5.2 (61 : Int32) ⟨by first | omega | (dsimp only; omega), by omega, by first | omega | (dsimp only [csz]; omega), by first | omega | (dsimp only; omega)⟩) gX2_readStore_X2_expect rfl (by decide +kernel) (rm_ok (by omega) (by decide)) 0 rfl rfl rfl (Nat.le_of_ble_eq_true rfl) rfl dX2_readStore_41 ?_
        generalize e7 : mExpect tx len (61 : Int32) x5.2 = x7
        have i7 : InvR len x7.2 := by rw [← e7]; exact mExpect_inv (by decide) ⟨by first | omega | (dsimp only; omega), by omega, by first | omega | (dsimp only [csz]; omega), by first | omega | (dsimp only; omega)⟩
        obtain ⟨h17, h27, h37, h47⟩ := i7
        dsimp only [csz] at h37
        refine Z.if_eq C 64 dX2_readStore_44 (by decide) (fun c8 => ?_) (fun c8 => ?_)
        · skip
          replace c8 : x7.1 = false := b2i_0.mp c8
          refine Z.iconst C (v := (nI 0)) dX2_readStore_64 (by decide) ?_
          refine Z.zret C hr hA dX2_readStore_65 (b := false) rfl ?_ ?_
          · first | (simp [mStore, bnd, rC, e1, c2, e3, c4, e5, c6, e7, c8]; done) | (simp_all [mStore, bnd, rC]; done)
          · (refine congrArg (wR aR aT aC aK aF aS cC cI tx len) ?_; first | (simp [mStore, bnd, rC, e1, c2, e3, c4, e5, c6, e7, c8]; done) | (simp_all [mStore, bnd, rC]; done))
        · skip
          replace c8 : x7.1 = true := b2i_n0.mp c8
          refine Z.aload_n C dX2_readStore_47 0 rfl rfl ?_
          refine Z.iconst C (v := (nI 0)) dX2_readStore_48 (by decide) ?_
          refine Z.callVi C (nA := 1) (As := [.int (nI 0)]) (st := []) (c_S0 x7.2 ⟨by first | omega | (dsimp only; omega), by omega, by first | omega | (dsimp only [csz]; omega), by first | omega | (dsimp only; omega)⟩) gX2_readStore_X2_readSum rfl (by decide +kernel) (rm_ok (by omega) (by decide)) 0 rfl rfl rfl (Nat.le_of_ble_eq_true rfl) rfl dX2_readStore_49 ?_
          generalize e9 : mS tx len x7.2 = x9
          have i9 : InvR len x9.2 := by rw [← e9]; exact mS_inv ⟨by first | omega | (dsimp only; omega), by omega, by first | omega | (dsimp only [csz]; omega), by first | omega | (dsimp only; omega)⟩
          obtain ⟨h19, h29, h39, h49⟩ := i9
          dsimp only [csz] at h39
          refine Z.if_eq C 64 dX2_readStore_52 (by decide) (fun c10 => ?_) (fun c10 => ?_)
          · skip
            replace c10 : x9.1 = false := b2i_0.mp c10
            refine Z.iconst C (v := (nI 0)) dX2_readStore_64 (by decide) ?_
            refine Z.zret C hr hA dX2_readStore_65 (b := false) rfl ?_ ?_
            · first | (simp [mStore, bnd, rC, e1, c2, e3, c4, e5, c6, e7, c8, e9, c10]; done) | (simp_all [mStore, bnd, rC]; done)
            · (refine congrArg (wR aR aT aC aK aF aS cC cI tx len) ?_; first | (simp [mStore, bnd, rC, e1, c2, e3, c4, e5, c6, e7, c8, e9, c10]; done) | (simp_all [mStore, bnd, rC]; done))
          · skip
            replace c10 : x9.1 = true := b2i_n0.mp c10
            refine Z.aload_n C dX2_readStore_55 0 rfl rfl ?_
            refine Z.bipush C (v := (nI 59)) dX2_readStore_56 (by decide) ?_
            refine Z.callVi C (nA := 1) (As := [.int (59 : Int32)]) (st := []) (c_expect x9.2 (59 : Int32) ⟨by first | omega | (dsimp only; omega), by omega, by first | omega | (dsimp only [csz]; omega), by first | omega | (dsimp only; omega)⟩) gX2_readStore_X2_expect rfl (by decide +kernel) (rm_ok (by omega) (by decide)) 0 rfl rfl rfl (Nat.le_of_ble_eq_true rfl) rfl dX2_readStore_58 ?_
            generalize e11 : mExpect tx len (59 : Int32) x9.2 = x11
            have i11 : InvR len x11.2 := by rw [← e11]; exact mExpect_inv (by decide) ⟨by first | omega | (dsimp only; omega), by omega, by first | omega | (dsimp only [csz]; omega), by first | omega | (dsimp only; omega)⟩
            obtain ⟨h111, h211, h311, h411⟩ := i11
            dsimp only [csz] at h311
            refine Z.if_ne C 66 dX2_readStore_61 (by decide) (fun c12 => ?_) (fun c12 => ?_)
            · skip
              replace c12 : x11.1 = true := b2i_n0.mp c12
              refine Z.aload_n C dX2_readStore_66 0 rfl rfl ?_
              refine Z.get C in2 0 rfl rfl 2 (by decide) (by decide +kernel) rfl rfl dX2_readStore_67 ?_
              refine Z.iconst C (v := (nI 5)) dX2_readStore_70 (by decide) ?_
              refine Z.iconst C (v := (nI 0)) dX2_readStore_71 (by decide) ?_
              refine Z.iconst C (v := (nI 0)) dX2_readStore_72 (by decide) ?_
              refine Z.callVNv C (nA := 3) (As := [.int (5 : Int32), .int (0 : Int32), .int (0 : Int32)]) (st := []) (host := "RoundCompiler") (c_add x11.2 (5 : Int32) (0 : Int32) (0 : Int32) ⟨by first | omega | (dsimp only; omega), by omega, by first | omega | (dsimp only [csz]; omega), by first | omega | (dsimp only; omega)⟩) gX2_readStore_X0_add_n80 rfl (by decide +kernel) (by decide +kernel) (by decide +kernel) (by decide +kernel) (by decide +kernel) (rm_ok (by omega) (by decide)) 2 rfl rfl rfl (Nat.le_of_ble_eq_true rfl) rfl dX2_readStore_73 ?_
              generalize e13 : cAdd (5 : Int32) (0 : Int32) (0 : Int32) x11.2.2.2.2.2.2 = x13
              have b13 : x13.2.2.2.1 ≤ 480 := by rw [← e13]; exact cAdd_sz (by first | omega | (dsimp only [csz]; omega))
              refine Z.iconst C (v := (nI 1)) dX2_readStore_76 (by decide) ?_
              refine Z.zret C hr hA dX2_readStore_77 (b := true) rfl ?_ ?_
              · first | (simp [mStore, bnd, rC, e1, c2, e3, c4, e5, c6, e7, c8, e9, c10, e11, c12, e13]; done) | (simp_all [mStore, bnd, rC]; done)
              · (refine congrArg (wR aR aT aC aK aF aS cC cI tx len) ?_; first | (simp [mStore, bnd, rC, e1, c2, e3, c4, e5, c6, e7, c8, e9, c10, e11, c12, e13]; done) | (simp_all [mStore, bnd, rC]; done))
            · skip
              replace c12 : x11.1 = false := b2i_0.mp c12
              refine Z.iconst C (v := (nI 0)) dX2_readStore_64 (by decide) ?_
              refine Z.zret C hr hA dX2_readStore_65 (b := false) rfl ?_ ?_
              · first | (simp [mStore, bnd, rC, e1, c2, e3, c4, e5, c6, e7, c8, e9, c10, e11, c12]; done) | (simp_all [mStore, bnd, rC]; done)
              · (refine congrArg (wR aR aT aC aK aF aS cC cI tx len) ?_; first | (simp [mStore, bnd, rC, e1, c2, e3, c4, e5, c6, e7, c8, e9, c10, e11, c12]; done) | (simp_all [mStore, bnd, rC]; done))
      · skip
        replace c6 : x5.1 = false := b2i_0.mp c6
        refine Z.iconst C (v := (nI 0)) dX2_readStore_36 (by decide) ?_
        refine Z.zret C hr hA dX2_readStore_37 (b := false) rfl ?_ ?_
        · first | (simp [mStore, bnd, rC, e1, c2, e3, c4, e5, c6]; done) | (simp_all [mStore, bnd, rC]; done)
        · (refine congrArg (wR aR aT aC aK aF aS cC cI tx len) ?_; first | (simp [mStore, bnd, rC, e1, c2, e3, c4, e5, c6]; done) | (simp_all [mStore, bnd, rC]; done))
set_option maxHeartbeats 4000000 in
set_option maxRecDepth 100000 in
theorem c_block {l : Launch} {D : va_G} {aR aT aC aK aF aS : Nat} {cC cI : ClassId} {tx : Nat → Int32} {len : Nat} (r : RS)  (hI : InvR len r) (P : RS → Bool × RS) (blk k : Nat) (hk : 60 ≤ k) (hb : blk ≤ 8) (hP : ∀ r : RS, InvR len r → Mi l yX2_readProgram wsX2_readProgram k D [(cC, .char), (cI, .int)] [.ref aR, .int (nI (blk + 1))] (wR aR aT aC aK aF aS cC cI tx len r) (b2i (P r).1) (wR aR aT aC aK aF aS cC cI tx len (P r).2)) (hPI : ∀ r, InvR len r → InvR len (P r).2) : Mi l yX2_readBlock wsX2_readBlock (k + 1) D [(cC, .char), (cI, .int)] [.ref aR, .int (nI blk)] (wR aR aT aC aK aF aS cC cI tx len r) (b2i ((mBlock tx len P r).1)) (wR aR aT aC aK aF aS cC cI tx len ((mBlock tx len P r).2)) := by
  refine Mi.of (cc := cX2_readBlock) (maxL := 2) (by decide) rfl (Nat.le_of_ble_eq_true rfl) ?_
  intro p e s m below meth c A C hr hA
  show Z p l e (rmN _) s m _ below meth c _ D A _ _ [(0, .ref aR), (1, .int (nI blk))] 0 []
  obtain ⟨hI1, hI2, hI3, hI4⟩ := hI
  dsimp only [csz] at hI3
  refine Z.aload_n C dX2_readBlock_0 0 rfl rfl ?_
  refine Z.bipush C (v := (nI 123)) dX2_readBlock_1 (by decide) ?_
  refine Z.callVi C (nA := 1) (As := [.int (123 : Int32)]) (st := []) (c_expect r (123 : Int32) ⟨by first | omega | (dsimp only; omega), by omega, by first | omega | (dsimp only [csz]; omega), by first | omega | (dsimp only; omega)⟩) gX2_readBlock_X2_expect rfl (by decide +kernel) (rm_ok (by omega) (by decide)) 0 rfl rfl rfl (Nat.le_of_ble_eq_true rfl) rfl dX2_readBlock_3 ?_
  generalize e1 : mExpect tx len (123 : Int32) r = x1
  have i1 : InvR len x1.2 := by rw [← e1]; exact mExpect_inv (by decide) ⟨by first | omega | (dsimp only; omega), by omega, by first | omega | (dsimp only [csz]; omega), by first | omega | (dsimp only; omega)⟩
  obtain ⟨h11, h21, h31, h41⟩ := i1
  dsimp only [csz] at h31
  refine Z.if_eq C 32 dX2_readBlock_6 (by decide) (fun c2 => ?_) (fun c2 => ?_)
  · skip
    replace c2 : x1.1 = false := b2i_0.mp c2
    refine Z.iconst C (v := (nI 0)) dX2_readBlock_32 (by decide) ?_
    refine Z.zret C hr hA dX2_readBlock_33 (b := false) rfl ?_ ?_
    · first | (simp [mBlock, bnd, e1, c2]; done) | (simp_all [mBlock, bnd]; done)
    · (refine congrArg (wR aR aT aC aK aF aS cC cI tx len) ?_; first | (simp [mBlock, bnd, e1, c2]; done) | (simp_all [mBlock, bnd]; done))
  · skip
    replace c2 : x1.1 = true := b2i_n0.mp c2
    refine Z.aload_n C dX2_readBlock_9 0 rfl rfl ?_
    refine Z.iload_n C dX2_readBlock_10 1 rfl rfl ?_
    refine Z.iconst C (v := (nI 1)) dX2_readBlock_11 (by decide) ?_
    refine Z.iadd C (v := (nI (blk + 1))) dX2_readBlock_12 (nI_add blk 1) ?_
    refine Z.callVi C (nA := 1) (As := [.int (nI (blk + 1))]) (st := []) (hP x1.2 ⟨by first | omega | (dsimp only; omega), by omega, by first | omega | (dsimp only [csz]; omega), by first | omega | (dsimp only; omega)⟩) gX2_readBlock_X2_readProgram rfl (by decide +kernel) (rm_ok (by omega) (by decide)) 0 rfl rfl rfl (Nat.le_of_ble_eq_true rfl) rfl dX2_readBlock_13 ?_
    generalize e3 : P x1.2 = x3
    have i3 : InvR len x3.2 := by rw [← e3]; exact hPI _ ⟨by first | omega | (dsimp only; omega), by omega, by first | omega | (dsimp only [csz]; omega), by first | omega | (dsimp only; omega)⟩
    obtain ⟨h13, h23, h33, h43⟩ := i3
    dsimp only [csz] at h33
    refine Z.if_eq C 32 dX2_readBlock_16 (by decide) (fun c4 => ?_) (fun c4 => ?_)
    · skip
      replace c4 : x3.1 = false := b2i_0.mp c4
      refine Z.iconst C (v := (nI 0)) dX2_readBlock_32 (by decide) ?_
      refine Z.zret C hr hA dX2_readBlock_33 (b := false) rfl ?_ ?_
      · first | (simp [mBlock, bnd, e1, c2, e3, c4]; done) | (simp_all [mBlock, bnd]; done)
      · (refine congrArg (wR aR aT aC aK aF aS cC cI tx len) ?_; first | (simp [mBlock, bnd, e1, c2, e3, c4]; done) | (simp_all [mBlock, bnd]; done))
    · skip
      replace c4 : x3.1 = true := b2i_n0.mp c4
      refine Z.aload_n C dX2_readBlock_19 0 rfl rfl ?_
      refine Z.bipush C (v := (nI 125)) dX2_readBlock_20 (by decide) ?_
      refine Z.callVi C (nA := 1) (As := [.int (125 : Int32)]) (st := []) (c_expect x3.2 (125 : Int32) ⟨by first | omega | (dsimp only; omega), by omega, by first | omega | (dsimp only [csz]; omega), by first | omega | (dsimp only; omega)⟩) gX2_readBlock_X2_expect rfl (by decide +kernel) (rm_ok (by omega) (by decide)) 0 rfl rfl rfl (Nat.le_of_ble_eq_true rfl) rfl dX2_readBlock_22 ?_
      generalize e5 : mExpect tx len (125 : Int32) x3.2 = x5
      have i5 : InvR len x5.2 := by rw [← e5]; exact mExpect_inv (by decide) ⟨by first | omega | (dsimp only; omega), by omega, by first | omega | (dsimp only [csz]; omega), by first | omega | (dsimp only; omega)⟩
      obtain ⟨h15, h25, h35, h45⟩ := i5
      dsimp only [csz] at h35
      refine Z.if_eq C 32 dX2_readBlock_25 (by decide) (fun c6 => ?_) (fun c6 => ?_)
      · skip
        replace c6 : x5.1 = false := b2i_0.mp c6
        refine Z.iconst C (v := (nI 0)) dX2_readBlock_32 (by decide) ?_
        refine Z.zret C hr hA dX2_readBlock_33 (b := false) rfl ?_ ?_
        · first | (simp [mBlock, bnd, e1, c2, e3, c4, e5, c6]; done) | (simp_all [mBlock, bnd]; done)
        · (refine congrArg (wR aR aT aC aK aF aS cC cI tx len) ?_; first | (simp [mBlock, bnd, e1, c2, e3, c4, e5, c6]; done) | (simp_all [mBlock, bnd]; done))
      · skip
        replace c6 : x5.1 = true := b2i_n0.mp c6
        refine Z.iconst C (v := (nI 1)) dX2_readBlock_28 (by decide) ?_
        refine Z.goto C 33 dX2_readBlock_29 (by decide) ?_
        refine Z.zret C hr hA dX2_readBlock_33 (b := true) rfl ?_ ?_
        · first | (simp [mBlock, bnd, e1, c2, e3, c4, e5, c6]; done) | (simp_all [mBlock, bnd]; done)
        · (refine congrArg (wR aR aT aC aK aF aS cC cI tx len) ?_; first | (simp [mBlock, bnd, e1, c2, e3, c4, e5, c6]; done) | (simp_all [mBlock, bnd]; done))
set_option maxHeartbeats 4000000 in
set_option maxRecDepth 100000 in
theorem c_branch {l : Launch} {D : va_G} {aR aT aC aK aF aS : Nat} {cC cI : ClassId} {tx : Nat → Int32} {len : Nat} (r : RS)  (hI : InvR len r) (B : RS → Bool × RS) (blk k : Nat) (hk : 60 ≤ k) (hb : blk ≤ 8) (hB : ∀ r : RS, InvR len r → Mi l yX2_readBlock wsX2_readBlock k D [(cC, .char), (cI, .int)] [.ref aR, .int (nI blk)] (wR aR aT aC aK aF aS cC cI tx len r) (b2i (B r).1) (wR aR aT aC aK aF aS cC cI tx len (B r).2)) (hBI : ∀ r, InvR len r → InvR len (B r).2) (ha : r.1 < len) : Mi l yX2_readBranch wsX2_readBranch (k + 1) D [(cC, .char), (cI, .int)] [.ref aR, .int (nI blk)] (wR aR aT aC aK aF aS cC cI tx len r) (b2i ((mBranch tx len B r).1)) (wR aR aT aC aK aF aS cC cI tx len ((mBranch tx len B r).2)) := by
  refine Mi.of (cc := cX2_readBranch) (maxL := 3) (by decide) rfl (Nat.le_of_ble_eq_true rfl) ?_
  intro p e s m below meth c A C hr hA
  have in0 : ∀ w ∈ wsX00, w ∈ wsX2_readBranch := by decide +kernel
  have in2 : ∀ w ∈ wsX20, w ∈ wsX2_readBranch := by decide +kernel
  show Z p l e (rmN _) s m _ below meth c _ D A _ _ [(0, .ref aR), (1, .int (nI blk))] 0 []
  obtain ⟨hI1, hI2, hI3, hI4⟩ := hI
  dsimp only [csz] at hI3
  refine Z.aload_n C dX2_readBranch_0 0 rfl rfl ?_
  refine Z.dup C dX2_readBranch_1 rfl ?_
  refine Z.get C in2 0 rfl rfl 3 (by decide) (by decide +kernel) rfl rfl dX2_readBranch_2 ?_
  refine Z.iconst C (v := (nI 1)) dX2_readBranch_5 (by decide) ?_
  refine Z.iadd C (v := (nI (r.1 + 1))) dX2_readBranch_6 (nI_add r.1 1) ?_
  refine Z.put C in2 0 rfl rfl 3 (by decide) tyX2 tyX2_ok nmX2 (by decide +kernel) rfl rfl rfl rfl (Nat.le_of_ble_eq_true rfl) dX2_readBranch_7 (w' := (wR aR aT aC aK aF aS cC cI tx len (r.1 + 1, r.2))) rfl ?_
  refine Z.aload_n C dX2_readBranch_10 0 rfl rfl ?_
  refine Z.iconst C (v := (nI 0)) dX2_readBranch_11 (by decide) ?_
  refine Z.callVi C (nA := 1) (As := [.int (nI 0)]) (st := []) (c_S0 (r.1 + 1, r.2) ⟨by first | omega | (dsimp only; omega), by omega, by first | omega | (dsimp only [csz]; omega), by first | omega | (dsimp only; omega)⟩) gX2_readBranch_X2_readSum rfl (by decide +kernel) (rm_ok (by omega) (by decide)) 0 rfl rfl rfl (Nat.le_of_ble_eq_true rfl) rfl dX2_readBranch_12 ?_
  generalize e1 : mS tx len (r.1 + 1, r.2) = x1
  have i1 : InvR len x1.2 := by rw [← e1]; exact mS_inv ⟨by first | omega | (dsimp only; omega), by omega, by first | omega | (dsimp only [csz]; omega), by first | omega | (dsimp only; omega)⟩
  obtain ⟨h11, h21, h31, h41⟩ := i1
  dsimp only [csz] at h31
  refine Z.if_ne C 20 dX2_readBranch_15 (by decide) (fun c2 => ?_) (fun c2 => ?_)
  · skip
    replace c2 : x1.1 = true := b2i_n0.mp c2
    refine Z.aload_n C dX2_readBranch_20 0 rfl rfl ?_
    refine Z.get C in2 0 rfl rfl 2 (by decide) (by decide +kernel) rfl rfl dX2_readBranch_21 ?_
    refine Z.getN C (host := "RoundCompiler") in0 2 rfl rfl 3 (by decide) (by decide +kernel) rfl rfl dX2_readBranch_24 ?_
    refine Z.istore_n C (lv' := [(2, .int (nI x1.2.2.2.2.2.2.2.2.2.1)), (0, .ref aR), (1, .int (nI blk))]) dX2_readBranch_27 rfl (by decide) rfl ?_
    refine Z.aload_n C dX2_readBranch_28 1 rfl rfl ?_
    refine Z.get C in2 0 rfl rfl 2 (by decide) (by decide +kernel) rfl rfl dX2_readBranch_29 ?_
    refine Z.bipush C (v := (nI 8)) dX2_readBranch_32 (by decide) ?_
    refine Z.iconst C (v := (nI 0)) dX2_readBranch_34 (by decide) ?_
    refine Z.iconst C (v := (nI 0)) dX2_readBranch_35 (by decide) ?_
    refine Z.callVNv C (nA := 3) (As := [.int (8 : Int32), .int (0 : Int32), .int (0 : Int32)]) (st := []) (host := "RoundCompiler") (c_add x1.2 (8 : Int32) (0 : Int32) (0 : Int32) ⟨by first | omega | (dsimp only; omega), by omega, by first | omega | (dsimp only [csz]; omega), by first | omega | (dsimp only; omega)⟩) gX2_readBranch_X0_add_n80 rfl (by decide +kernel) (by decide +kernel) (by decide +kernel) (by decide +kernel) (by decide +kernel) (rm_ok (by omega) (by decide)) 2 rfl rfl rfl (Nat.le_of_ble_eq_true rfl) rfl dX2_readBranch_36 ?_
    generalize e3 : cAdd (8 : Int32) (0 : Int32) (0 : Int32) x1.2.2.2.2.2.2 = x3
    have b3 : x3.2.2.2.1 ≤ 480 := by rw [← e3]; exact cAdd_sz (by first | omega | (dsimp only [csz]; omega))
    refine Z.aload_n C dX2_readBranch_39 1 rfl rfl ?_
    refine Z.iload_n C dX2_readBranch_40 2 rfl rfl ?_
    refine Z.callVi C (nA := 1) (As := [.int (nI blk)]) (st := []) (hB (x1.2.1, x1.2.2.1, x1.2.2.2.1, x1.2.2.2.2.1, x1.2.2.2.2.2.1, x3) ⟨by first | omega | (dsimp only; omega), by omega, by first | omega | (dsimp only [csz]; omega), by first | omega | (dsimp only; omega)⟩) gX2_readBranch_X2_readBlock rfl (by decide +kernel) (rm_ok (by omega) (by decide)) 0 rfl rfl rfl (Nat.le_of_ble_eq_true rfl) rfl dX2_readBranch_41 ?_
    generalize e4 : B (x1.2.1, x1.2.2.1, x1.2.2.2.1, x1.2.2.2.2.1, x1.2.2.2.2.2.1, x3) = x4
    have i4 : InvR len x4.2 := by rw [← e4]; exact hBI _ ⟨by first | omega | (dsimp only; omega), by omega, by first | omega | (dsimp only [csz]; omega), by first | omega | (dsimp only; omega)⟩
    obtain ⟨h14, h24, h34, h44⟩ := i4
    dsimp only [csz] at h34
    refine Z.if_ne C 49 dX2_readBranch_44 (by decide) (fun c5 => ?_) (fun c5 => ?_)
    · skip
      replace c5 : x4.1 = true := b2i_n0.mp c5
      refine Z.aload_n C dX2_readBranch_49 1 rfl rfl ?_
      refine Z.get C in2 0 rfl rfl 2 (by decide) (by decide +kernel) rfl rfl dX2_readBranch_50 ?_
      refine Z.iload_n C dX2_readBranch_53 0 rfl rfl ?_
      refine Z.aload_n C dX2_readBranch_54 1 rfl rfl ?_
      refine Z.get C in2 0 rfl rfl 2 (by decide) (by decide +kernel) rfl rfl dX2_readBranch_55 ?_
      refine Z.getN C (host := "RoundCompiler") in0 2 rfl rfl 3 (by decide) (by decide +kernel) rfl rfl dX2_readBranch_58 ?_
      refine Z.callVNv C (nA := 2) (As := [.int (nI x1.2.2.2.2.2.2.2.2.2.1), .int (nI x4.2.2.2.2.2.2.2.2.2.1)]) (st := []) (host := "RoundCompiler") (c_setFirst x4.2 x1.2.2.2.2.2.2.2.2.2.1 (nI x4.2.2.2.2.2.2.2.2.2.1) ⟨by first | omega | (dsimp only; omega), by omega, by first | omega | (dsimp only [csz]; omega), by first | omega | (dsimp only; omega)⟩ (by omega)) gX2_readBranch_X0_setFirst_n100 rfl (by decide +kernel) (by decide +kernel) (by decide +kernel) (by decide +kernel) (by decide +kernel) (rm_ok (by omega) (by decide)) 2 rfl rfl rfl (Nat.le_of_ble_eq_true rfl) rfl dX2_readBranch_61 ?_
      generalize e6 : cSet x1.2.2.2.2.2.2.2.2.2.1 (nI x4.2.2.2.2.2.2.2.2.2.1) x4.2.2.2.2.2.2 = x6
      have b6 : x6.2.2.2.1 ≤ 480 := by rw [← e6]; exact cSet_sz (by first | omega | (dsimp only [csz]; omega))
      refine Z.iconst C (v := (nI 1)) dX2_readBranch_64 (by decide) ?_
      refine Z.zret C hr hA dX2_readBranch_65 (b := true) rfl ?_ ?_
      · first | (simp [mBranch, bnd, rC, csz, e1, c2, e3, e4, c5, e6]; done) | (simp_all [mBranch, bnd, rC, csz]; done)
      · (refine congrArg (wR aR aT aC aK aF aS cC cI tx len) ?_; first | (simp [mBranch, bnd, rC, csz, e1, c2, e3, e4, c5, e6]; done) | (simp_all [mBranch, bnd, rC, csz]; done))
    · skip
      replace c5 : x4.1 = false := b2i_0.mp c5
      refine Z.iconst C (v := (nI 0)) dX2_readBranch_47 (by decide) ?_
      refine Z.zret C hr hA dX2_readBranch_48 (b := false) rfl ?_ ?_
      · first | (simp [mBranch, bnd, rC, csz, e1, c2, e3, e4, c5]; done) | (simp_all [mBranch, bnd, rC, csz]; done)
      · (refine congrArg (wR aR aT aC aK aF aS cC cI tx len) ?_; first | (simp [mBranch, bnd, rC, csz, e1, c2, e3, e4, c5]; done) | (simp_all [mBranch, bnd, rC, csz]; done))
  · skip
    replace c2 : x1.1 = false := b2i_0.mp c2
    refine Z.iconst C (v := (nI 0)) dX2_readBranch_18 (by decide) ?_
    refine Z.zret C hr hA dX2_readBranch_19 (b := false) rfl ?_ ?_
    · first | (simp [mBranch, bnd, rC, csz, e1, c2]; done) | (simp_all [mBranch, bnd, rC, csz]; done)
    · (refine congrArg (wR aR aT aC aK aF aS cC cI tx len) ?_; first | (simp [mBranch, bnd, rC, csz, e1, c2]; done) | (simp_all [mBranch, bnd, rC, csz]; done))
set_option maxHeartbeats 4000000 in
set_option maxRecDepth 100000 in
theorem c_loop {l : Launch} {D : va_G} {aR aT aC aK aF aS : Nat} {cC cI : ClassId} {tx : Nat → Int32} {len : Nat} (r : RS)  (hI : InvR len r) (B : RS → Bool × RS) (blk k : Nat) (hk : 60 ≤ k) (hb : blk ≤ 8) (hB : ∀ r : RS, InvR len r → Mi l yX2_readBlock wsX2_readBlock k D [(cC, .char), (cI, .int)] [.ref aR, .int (nI blk)] (wR aR aT aC aK aF aS cC cI tx len r) (b2i (B r).1) (wR aR aT aC aK aF aS cC cI tx len (B r).2)) (hBI : ∀ r, InvR len r → InvR len (B r).2) (ha : r.1 < len) : Mi l yX2_readLoop wsX2_readLoop (k + 1) D [(cC, .char), (cI, .int)] [.ref aR, .int (nI blk)] (wR aR aT aC aK aF aS cC cI tx len r) (b2i ((mLoop tx len B r).1)) (wR aR aT aC aK aF aS cC cI tx len ((mLoop tx len B r).2)) := by
  refine Mi.of (cc := cX2_readLoop) (maxL := 7) (by decide) rfl (Nat.le_of_ble_eq_true rfl) ?_
  intro p e s m below meth c A C hr hA
  have in0 : ∀ w ∈ wsX00, w ∈ wsX2_readLoop := by decide +kernel
  have in2 : ∀ w ∈ wsX20, w ∈ wsX2_readLoop := by decide +kernel
  show Z p l e (rmN _) s m _ below meth c _ D A _ _ [(0, .ref aR), (1, .int (nI blk))] 0 []
  obtain ⟨hI1, hI2, hI3, hI4⟩ := hI
  dsimp only [csz] at hI3
  refine Z.aload_n C dX2_readLoop_0 0 rfl rfl ?_
  refine Z.dup C dX2_readLoop_1 rfl ?_
  refine Z.get C in2 0 rfl rfl 3 (by decide) (by decide +kernel) rfl rfl dX2_readLoop_2 ?_
  refine Z.iconst C (v := (nI 1)) dX2_readLoop_5 (by decide) ?_
  refine Z.iadd C (v := (nI (r.1 + 1))) dX2_readLoop_6 (nI_add r.1 1) ?_
  refine Z.put C in2 0 rfl rfl 3 (by decide) tyX2 tyX2_ok nmX2 (by decide +kernel) rfl rfl rfl rfl (Nat.le_of_ble_eq_true rfl) dX2_readLoop_7 (w' := (wR aR aT aC aK aF aS cC cI tx len (r.1 + 1, r.2))) rfl ?_
  refine Z.aload_n C dX2_readLoop_10 0 rfl rfl ?_
  refine Z.callVi C (nA := 0) (As := []) (st := []) (c_freeName (r.1 + 1, r.2) ⟨by first | omega | (dsimp only; omega), by omega, by first | omega | (dsimp only [csz]; omega), by first | omega | (dsimp only; omega)⟩) gX2_readLoop_X2_freeName rfl (by decide +kernel) (rm_ok (by omega) (by decide)) 0 rfl rfl rfl (Nat.le_of_ble_eq_true rfl) rfl dX2_readLoop_11 ?_
  refine Z.istore_n C (lv' := [(2, .int (freeF tx len (r.1 + 1, r.2))), (0, .ref aR), (1, .int (nI blk))]) dX2_readLoop_14 rfl (by decide) rfl ?_
  refine Z.iload_n C dX2_readLoop_15 0 rfl rfl ?_
  refine Z.if_ge C 28 dX2_readLoop_16 (by decide) (fun c1 => ?_) (fun c1 => ?_)
  · skip
    replace c1 : (0 : Int32) ≤ (freeF tx len (r.1 + 1, r.2)) := c1
    have c1l := free_lt c1
    refine Z.aload_n C dX2_readLoop_28 1 rfl rfl ?_
    refine Z.dup C dX2_readLoop_29 rfl ?_
    refine Z.get C in2 0 rfl rfl 3 (by decide) (by decide +kernel) rfl rfl dX2_readLoop_30 ?_
    refine Z.iconst C (v := (nI 1)) dX2_readLoop_33 (by decide) ?_
    refine Z.iadd C (v := (nI (r.1 + 1 + 1))) dX2_readLoop_34 (nI_add (r.1 + 1) 1) ?_
    refine Z.put C in2 0 rfl rfl 3 (by decide) tyX2 tyX2_ok nmX2 (by decide +kernel) rfl rfl rfl rfl (Nat.le_of_ble_eq_true rfl) dX2_readLoop_35 (w' := (wR aR aT aC aK aF aS cC cI tx len (r.1 + 1 + 1, r.2))) rfl ?_
    refine Z.aload_n C dX2_readLoop_38 1 rfl rfl ?_
    refine Z.get C in2 0 rfl rfl 3 (by decide) (by decide +kernel) rfl rfl dX2_readLoop_39 ?_
    refine Z.istore_n C (lv' := [(3, .int (nI (r.1 + 1 + 1))), (2, .int (freeF tx len (r.1 + 1, r.2))), (0, .ref aR), (1, .int (nI blk))]) dX2_readLoop_42 rfl (by decide) rfl ?_
    refine Z.aload_n C dX2_readLoop_43 2 rfl rfl ?_
    refine Z.lconst C (v := lN 1) dX2_readLoop_44 (by decide) ?_
    refine Z.ldc2 C (v := lN 64) dX2_readLoop_45 (by decide +kernel) ?_
    refine Z.callVi C (nA := 2) (As := [.long (lN 1), .long (lN 64)]) (st := []) (c_readNumber (r.1 + 1 + 1, r.2) 1 64 ⟨by first | omega | (dsimp only; omega), by omega, by first | omega | (dsimp only [csz]; omega), by first | omega | (dsimp only; omega)⟩) gX2_readLoop_X2_readNumber rfl (by decide +kernel) (rm_ok (by omega) (by decide)) 0 rfl rfl rfl (Nat.le_of_ble_eq_true rfl) rfl dX2_readLoop_48 ?_
    generalize e2 : mNumber tx len 1 64 (r.1 + 1 + 1, r.2) = x2
    have i2 : InvR len x2.2 := by rw [← e2]; exact mNumber_inv ⟨by first | omega | (dsimp only; omega), by omega, by first | omega | (dsimp only [csz]; omega), by first | omega | (dsimp only; omega)⟩
    obtain ⟨h12, h22, h32, h42⟩ := i2
    dsimp only [csz] at h32
    refine Z.if_ne C 56 dX2_readLoop_51 (by decide) (fun c3 => ?_) (fun c3 => ?_)
    · skip
      replace c3 : x2.1 = true := b2i_n0.mp c3
      have hn64 := (mNumber_le (lo := 1) (hi := 64) (by decide) (by rw [e2]; exact c3)).2
      rw [e2] at hn64
      have hnt : x2.2.2.2.2.2.1 * x2.2.2.2.1 ≤ 640 * 64 := Nat.mul_le_mul (by omega) hn64
      refine Z.aload_n C dX2_readLoop_56 2 rfl rfl ?_
      refine Z.get C in2 0 rfl rfl 5 (by decide) (by decide +kernel) rfl rfl dX2_readLoop_57 ?_
      refine Z.l2i C (v := (nI x2.2.2.2.1)) dX2_readLoop_60 (lN_i x2.2.2.2.1) ?_
      refine Z.istore C (lv' := [(4, .int (nI x2.2.2.2.1)), (3, .int (nI (r.1 + 1 + 1))), (2, .int (freeF tx len (r.1 + 1, r.2))), (0, .ref aR), (1, .int (nI blk))]) dX2_readLoop_61 (by decide) rfl ?_
      refine Z.aload_n C dX2_readLoop_63 3 rfl rfl ?_
      refine Z.get C in2 0 rfl rfl 7 (by decide) (by decide +kernel) rfl rfl dX2_readLoop_64 ?_
      refine Z.iload C dX2_readLoop_67 0 rfl ?_
      refine Z.imul C (v := (nI (x2.2.2.2.2.2.1 * x2.2.2.2.1))) dX2_readLoop_69 (pk_mul x2.2.2.2.2.2.1 x2.2.2.2.1) ?_
      refine Z.sipush C (v := (nI 640)) dX2_readLoop_70 (by decide) ?_
      refine Z.icmp_le C 82 dX2_readLoop_73 (by decide) (fun c4 => ?_) (fun c4 => ?_)
      · skip
        replace c4 : ¬ 640 < (x2.2.2.2.2.2.1 * x2.2.2.2.1) := Nat.not_lt.mpr ((nI_leI (by omega) (by omega)).mp c4)
        refine Z.aload_n C dX2_readLoop_82 3 rfl rfl ?_
        refine Z.get C in2 0 rfl rfl 2 (by decide) (by decide +kernel) rfl rfl dX2_readLoop_83 ?_
        refine Z.getN C (host := "RoundCompiler") in0 2 rfl rfl 3 (by decide) (by decide +kernel) rfl rfl dX2_readLoop_86 ?_
        refine Z.istore C (lv' := [(5, .int (nI x2.2.2.2.2.2.2.2.2.2.1)), (4, .int (nI x2.2.2.2.1)), (3, .int (nI (r.1 + 1 + 1))), (2, .int (freeF tx len (r.1 + 1, r.2))), (0, .ref aR), (1, .int (nI blk))]) dX2_readLoop_89 (by decide) rfl ?_
        refine Z.aload_n C dX2_readLoop_91 4 rfl rfl ?_
        refine Z.get C in2 0 rfl rfl 2 (by decide) (by decide +kernel) rfl rfl dX2_readLoop_92 ?_
        refine Z.bipush C (v := (nI 6)) dX2_readLoop_95 (by decide) ?_
        refine Z.iload_n C dX2_readLoop_97 3 rfl rfl ?_
        refine Z.iload C dX2_readLoop_98 1 rfl ?_
        refine Z.callVNv C (nA := 3) (As := [.int (6 : Int32), .int (freeF tx len (r.1 + 1, r.2)), .int (nI x2.2.2.2.1)]) (st := []) (host := "RoundCompiler") (c_add x2.2 (6 : Int32) (freeF tx len (r.1 + 1, r.2)) (nI x2.2.2.2.1) ⟨by first | omega | (dsimp only; omega), by omega, by first | omega | (dsimp only [csz]; omega), by first | omega | (dsimp only; omega)⟩) gX2_readLoop_X0_add_n80 rfl (by decide +kernel) (by decide +kernel) (by decide +kernel) (by decide +kernel) (by decide +kernel) (rm_ok (by omega) (by decide)) 2 rfl rfl rfl (Nat.le_of_ble_eq_true rfl) rfl dX2_readLoop_100 ?_
        generalize e5 : cAdd (6 : Int32) (freeF tx len (r.1 + 1, r.2)) (nI x2.2.2.2.1) x2.2.2.2.2.2.2 = x5
        have b5 : x5.2.2.2.1 ≤ 480 := by rw [← e5]; exact cAdd_sz (by first | omega | (dsimp only [csz]; omega))
        refine Z.aload_n C dX2_readLoop_103 4 rfl rfl ?_
        refine Z.get C in2 0 rfl rfl 7 (by decide) (by decide +kernel) rfl rfl dX2_readLoop_104 ?_
        refine Z.istore C (lv' := [(6, .int (nI x2.2.2.2.2.2.1)), (5, .int (nI x2.2.2.2.2.2.2.2.2.2.1)), (4, .int (nI x2.2.2.2.1)), (3, .int (nI (r.1 + 1 + 1))), (2, .int (freeF tx len (r.1 + 1, r.2))), (0, .ref aR), (1, .int (nI blk))]) dX2_readLoop_107 (by decide) rfl ?_
        refine Z.aload_n C dX2_readLoop_109 5 rfl rfl ?_
        refine Z.dup C dX2_readLoop_110 rfl ?_
        refine Z.get C in2 0 rfl rfl 7 (by decide) (by decide +kernel) rfl rfl dX2_readLoop_111 ?_
        refine Z.iload C dX2_readLoop_114 2 rfl ?_
        refine Z.imul C (v := (nI (x2.2.2.2.2.2.1 * x2.2.2.2.1))) dX2_readLoop_116 (pk_mul x2.2.2.2.2.2.1 x2.2.2.2.1) ?_
        refine Z.put C in2 0 rfl rfl 7 (by decide) tyX2 tyX2_ok nmX2 (by decide +kernel) rfl rfl rfl rfl (Nat.le_of_ble_eq_true rfl) dX2_readLoop_117 (w' := (wR aR aT aC aK aF aS cC cI tx len (x2.2.1, x2.2.2.1, x2.2.2.2.1, x2.2.2.2.2.1, x2.2.2.2.2.2.1 * x2.2.2.2.1, x5))) rfl ?_
        refine Z.aload_n C dX2_readLoop_120 5 rfl rfl ?_
        refine Z.dup C dX2_readLoop_121 rfl ?_
        refine Z.get C in2 0 rfl rfl 6 (by decide) (by decide +kernel) rfl rfl dX2_readLoop_122 ?_
        refine Z.iconst C (v := (nI 1)) dX2_readLoop_125 (by decide) ?_
        refine Z.iload_n C dX2_readLoop_126 4 rfl rfl ?_
        refine Z.ishl C (v := ((1 : Int32) <<< ((freeF tx len (r.1 + 1, r.2)) &&& 31))) dX2_readLoop_127 rfl ?_
        refine Z.ior C (v := (x2.2.2.2.2.1 ||| ((1 : Int32) <<< ((freeF tx len (r.1 + 1, r.2)) &&& 31)))) dX2_readLoop_128 rfl ?_
        refine Z.put C in2 0 rfl rfl 6 (by decide) tyX2 tyX2_ok nmX2 (by decide +kernel) rfl rfl rfl rfl (Nat.le_of_ble_eq_true rfl) dX2_readLoop_129 (w' := (wR aR aT aC aK aF aS cC cI tx len (x2.2.1, x2.2.2.1, x2.2.2.2.1, x2.2.2.2.2.1 ||| ((1 : Int32) <<< ((freeF tx len (r.1 + 1, r.2)) &&& 31)), x2.2.2.2.2.2.1 * x2.2.2.2.1, x5))) rfl ?_
        refine Z.aload_n C dX2_readLoop_132 5 rfl rfl ?_
        refine Z.iload_n C dX2_readLoop_133 6 rfl rfl ?_
        refine Z.callVi C (nA := 1) (As := [.int (nI blk)]) (st := []) (hB (x2.2.1, x2.2.2.1, x2.2.2.2.1, x2.2.2.2.2.1 ||| ((1 : Int32) <<< ((freeF tx len (r.1 + 1, r.2)) &&& 31)), x2.2.2.2.2.2.1 * x2.2.2.2.1, x5) ⟨by first | omega | (dsimp only; omega), by omega, by first | omega | (dsimp only [csz]; omega), by first | omega | (dsimp only; omega)⟩) gX2_readLoop_X2_readBlock rfl (by decide +kernel) (rm_ok (by omega) (by decide)) 0 rfl rfl rfl (Nat.le_of_ble_eq_true rfl) rfl dX2_readLoop_134 ?_
        generalize e6 : B (x2.2.1, x2.2.2.1, x2.2.2.2.1, x2.2.2.2.2.1 ||| ((1 : Int32) <<< ((freeF tx len (r.1 + 1, r.2)) &&& 31)), x2.2.2.2.2.2.1 * x2.2.2.2.1, x5) = x6
        have i6 : InvR len x6.2 := by rw [← e6]; exact hBI _ ⟨by first | omega | (dsimp only; omega), by omega, by first | omega | (dsimp only [csz]; omega), by first | omega | (dsimp only; omega)⟩
        obtain ⟨h16, h26, h36, h46⟩ := i6
        dsimp only [csz] at h36
        refine Z.if_ne C 142 dX2_readLoop_137 (by decide) (fun c7 => ?_) (fun c7 => ?_)
        · skip
          replace c7 : x6.1 = true := b2i_n0.mp c7
          refine Z.aload_n C dX2_readLoop_142 5 rfl rfl ?_
          refine Z.dup C dX2_readLoop_143 rfl ?_
          refine Z.get C in2 0 rfl rfl 6 (by decide) (by decide +kernel) rfl rfl dX2_readLoop_144 ?_
          refine Z.iconst C (v := (nI 1)) dX2_readLoop_147 (by decide) ?_
          refine Z.iload_n C dX2_readLoop_148 4 rfl rfl ?_
          refine Z.ishl C (v := ((1 : Int32) <<< ((freeF tx len (r.1 + 1, r.2)) &&& 31))) dX2_readLoop_149 rfl ?_
          refine Z.iconst C (v := (-1)) dX2_readLoop_150 (by decide) ?_
          refine Z.ixor C (v := (((1 : Int32) <<< ((freeF tx len (r.1 + 1, r.2)) &&& 31)) ^^^ (-1))) dX2_readLoop_151 rfl ?_
          refine Z.iand C (v := (x6.2.2.2.2.1 &&& (((1 : Int32) <<< ((freeF tx len (r.1 + 1, r.2)) &&& 31)) ^^^ (-1)))) dX2_readLoop_152 rfl ?_
          refine Z.put C in2 0 rfl rfl 6 (by decide) tyX2 tyX2_ok nmX2 (by decide +kernel) rfl rfl rfl rfl (Nat.le_of_ble_eq_true rfl) dX2_readLoop_153 (w' := (wR aR aT aC aK aF aS cC cI tx len (x6.2.1, x6.2.2.1, x6.2.2.2.1, x6.2.2.2.2.1 &&& (((1 : Int32) <<< ((freeF tx len (r.1 + 1, r.2)) &&& 31)) ^^^ (-1)), x6.2.2.2.2.2))) rfl ?_
          refine Z.aload_n C dX2_readLoop_156 5 rfl rfl ?_
          refine Z.iload C dX2_readLoop_157 0 rfl ?_
          refine Z.put C in2 0 rfl rfl 7 (by decide) tyX2 tyX2_ok nmX2 (by decide +kernel) rfl rfl rfl rfl (Nat.le_of_ble_eq_true rfl) dX2_readLoop_159 (w' := (wR aR aT aC aK aF aS cC cI tx len (x6.2.1, x6.2.2.1, x6.2.2.2.1, x6.2.2.2.2.1 &&& (((1 : Int32) <<< ((freeF tx len (r.1 + 1, r.2)) &&& 31)) ^^^ (-1)), x2.2.2.2.2.2.1, x6.2.2.2.2.2.2))) rfl ?_
          refine Z.aload_n C dX2_readLoop_162 5 rfl rfl ?_
          refine Z.get C in2 0 rfl rfl 2 (by decide) (by decide +kernel) rfl rfl dX2_readLoop_163 ?_
          refine Z.bipush C (v := (nI 7)) dX2_readLoop_166 (by decide) ?_
          refine Z.iload C dX2_readLoop_168 1 rfl ?_
          refine Z.iconst C (v := (nI 0)) dX2_readLoop_170 (by decide) ?_
          refine Z.callVNv C (nA := 3) (As := [.int (7 : Int32), .int (nI x2.2.2.2.2.2.2.2.2.2.1), .int (0 : Int32)]) (st := []) (host := "RoundCompiler") (c_add (x6.2.1, x6.2.2.1, x6.2.2.2.1, x6.2.2.2.2.1 &&& (((1 : Int32) <<< ((freeF tx len (r.1 + 1, r.2)) &&& 31)) ^^^ (-1)), x2.2.2.2.2.2.1, x6.2.2.2.2.2.2) (7 : Int32) (nI x2.2.2.2.2.2.2.2.2.2.1) (0 : Int32) ⟨by first | omega | (dsimp only; omega), by omega, by first | omega | (dsimp only [csz]; omega), by first | omega | (dsimp only; omega)⟩) gX2_readLoop_X0_add_n80 rfl (by decide +kernel) (by decide +kernel) (by decide +kernel) (by decide +kernel) (by decide +kernel) (rm_ok (by omega) (by decide)) 2 rfl rfl rfl (Nat.le_of_ble_eq_true rfl) rfl dX2_readLoop_171 ?_
          generalize e8 : cAdd (7 : Int32) (nI x2.2.2.2.2.2.2.2.2.2.1) (0 : Int32) x6.2.2.2.2.2.2 = x8
          have b8 : x8.2.2.2.1 ≤ 480 := by rw [← e8]; exact cAdd_sz (by first | omega | (dsimp only [csz]; omega))
          refine Z.iconst C (v := (nI 1)) dX2_readLoop_174 (by decide) ?_
          refine Z.zret C hr hA dX2_readLoop_175 (b := true) rfl ?_ ?_
          · first | (simp [mLoop, bnd, rC, csz, (eq_true c1), e2, c3, (eq_false c4), e5, e6, c7, e8]; done) | (simp_all [mLoop, bnd, rC, csz]; done)
          · (refine congrArg (wR aR aT aC aK aF aS cC cI tx len) ?_; first | (simp [mLoop, bnd, rC, csz, (eq_true c1), e2, c3, (eq_false c4), e5, e6, c7, e8]; done) | (simp_all [mLoop, bnd, rC, csz]; done))
        · skip
          replace c7 : x6.1 = false := b2i_0.mp c7
          refine Z.iconst C (v := (nI 0)) dX2_readLoop_140 (by decide) ?_
          refine Z.zret C hr hA dX2_readLoop_141 (b := false) rfl ?_ ?_
          · first | (simp [mLoop, bnd, rC, csz, (eq_true c1), e2, c3, (eq_false c4), e5, e6, c7]; done) | (simp_all [mLoop, bnd, rC, csz]; done)
          · (refine congrArg (wR aR aT aC aK aF aS cC cI tx len) ?_; first | (simp [mLoop, bnd, rC, csz, (eq_true c1), e2, c3, (eq_false c4), e5, e6, c7]; done) | (simp_all [mLoop, bnd, rC, csz]; done))
      · skip
        replace c4 : 640 < (x2.2.2.2.2.2.1 * x2.2.2.2.1) := Nat.not_le.mp (mt (nI_leI (by omega) (by omega)).mpr c4)
        refine Z.aload_n C dX2_readLoop_76 3 rfl rfl ?_
        refine Z.iload_n C dX2_readLoop_77 1 rfl rfl ?_
        refine Z.callVi C (nA := 1) (As := [.int (nI (r.1 + 1 + 1))]) (st := []) (c_refuse x2.2 (r.1 + 1 + 1)) gX2_readLoop_X2_refuse rfl (by decide +kernel) (rm_ok (by omega) (by decide)) 0 rfl rfl rfl (Nat.le_of_ble_eq_true rfl) rfl dX2_readLoop_78 ?_
        refine Z.zret C hr hA dX2_readLoop_81 (b := false) rfl ?_ ?_
        · first | (simp [mLoop, bnd, rC, csz, (eq_true c1), e2, c3, (eq_true c4)]; done) | (simp_all [mLoop, bnd, rC, csz]; done)
        · (refine congrArg (wR aR aT aC aK aF aS cC cI tx len) ?_; first | (simp [mLoop, bnd, rC, csz, (eq_true c1), e2, c3, (eq_true c4)]; done) | (simp_all [mLoop, bnd, rC, csz]; done))
    · skip
      replace c3 : x2.1 = false := b2i_0.mp c3
      refine Z.iconst C (v := (nI 0)) dX2_readLoop_54 (by decide) ?_
      refine Z.zret C hr hA dX2_readLoop_55 (b := false) rfl ?_ ?_
      · first | (simp [mLoop, bnd, rC, csz, (eq_true c1), e2, c3]; done) | (simp_all [mLoop, bnd, rC, csz]; done)
      · (refine congrArg (wR aR aT aC aK aF aS cC cI tx len) ?_; first | (simp [mLoop, bnd, rC, csz, (eq_true c1), e2, c3]; done) | (simp_all [mLoop, bnd, rC, csz]; done))
  · skip
    replace c1 : ¬ (0 : Int32) ≤ (freeF tx len (r.1 + 1, r.2)) := c1
    refine Z.aload_n C dX2_readLoop_19 1 rfl rfl ?_
    refine Z.aload_n C dX2_readLoop_20 1 rfl rfl ?_
    refine Z.get C in2 0 rfl rfl 3 (by decide) (by decide +kernel) rfl rfl dX2_readLoop_21 ?_
    refine Z.callVi C (nA := 1) (As := [.int (nI (r.1 + 1))]) (st := []) (c_refuse (r.1 + 1, r.2) (r.1 + 1)) gX2_readLoop_X2_refuse rfl (by decide +kernel) (rm_ok (by omega) (by decide)) 0 rfl rfl rfl (Nat.le_of_ble_eq_true rfl) rfl dX2_readLoop_24 ?_
    refine Z.zret C hr hA dX2_readLoop_27 (b := false) rfl ?_ ?_
    · first | (simp [mLoop, bnd, rC, csz, (eq_false c1)]; done) | (simp_all [mLoop, bnd, rC, csz]; done)
    · (refine congrArg (wR aR aT aC aK aF aS cC cI tx len) ?_; first | (simp [mLoop, bnd, rC, csz, (eq_false c1)]; done) | (simp_all [mLoop, bnd, rC, csz]; done))
set_option maxHeartbeats 4000000 in
set_option maxRecDepth 100000 in
theorem c_stmt {l : Launch} {D : va_G} {aR aT aC aK aF aS : Nat} {cC cI : ClassId} {tx : Nat → Int32} {len : Nat} (r : RS)  (hI : InvR len r) (L Br : RS → Bool × RS) (blk k : Nat) (hk : 60 ≤ k) (hb : blk ≤ 8) (hb8 : blk < 8) (hL : ∀ r : RS, InvR len r → r.1 < len → Mi l yX2_readLoop wsX2_readLoop k D [(cC, .char), (cI, .int)] [.ref aR, .int (nI blk)] (wR aR aT aC aK aF aS cC cI tx len r) (b2i (L r).1) (wR aR aT aC aK aF aS cC cI tx len (L r).2)) (hBr : ∀ r : RS, InvR len r → r.1 < len → Mi l yX2_readBranch wsX2_readBranch k D [(cC, .char), (cI, .int)] [.ref aR, .int (nI blk)] (wR aR aT aC aK aF aS cC cI tx len r) (b2i (Br r).1) (wR aR aT aC aK aF aS cC cI tx len (Br r).2)) : Mi l yX2_readStatement wsX2_readStatement (k + 1) D [(cC, .char), (cI, .int)] [.ref aR, .int (nI blk)] (wR aR aT aC aK aF aS cC cI tx len r) (b2i ((mStmt tx len L Br r).1)) (wR aR aT aC aK aF aS cC cI tx len ((mStmt tx len L Br r).2)) := by
  refine Mi.of (cc := cX2_readStatement) (maxL := 2) (by decide) rfl (Nat.le_of_ble_eq_true rfl) ?_
  intro p e s m below meth c A C hr hA
  show Z p l e (rmN _) s m _ below meth c _ D A _ _ [(0, .ref aR), (1, .int (nI blk))] 0 []
  obtain ⟨hI1, hI2, hI3, hI4⟩ := hI
  dsimp only [csz] at hI3
  refine Z.aload_n C dX2_readStatement_0 0 rfl rfl ?_
  refine Z.callVi C (nA := 0) (As := []) (st := []) (c_here r ⟨by first | omega | (dsimp only; omega), by omega, by first | omega | (dsimp only [csz]; omega), by first | omega | (dsimp only; omega)⟩) gX2_readStatement_X2_here rfl (by decide +kernel) (rm_ok (by omega) (by decide)) 0 rfl rfl rfl (Nat.le_of_ble_eq_true rfl) rfl dX2_readStatement_1 ?_
  by_cases s1 : hereF tx len r.1 = 35
  · refine Z.lookup C (off := 41) 45 dX2_readStatement_4 (by decide) (by rw [s1]; decide) (by decide) ?_
    have hlt := here_lt s1 (by decide)
    refine Z.iload_n C dX2_readStatement_45 1 rfl rfl ?_
    refine Z.bipush C (v := (nI 8)) dX2_readStatement_46 (by decide) ?_
    refine Z.icmp_ge C 59 dX2_readStatement_48 (by decide) (fun c2 => ?_) (fun c2 => ?_)
    · skip
      replace c2 : ¬ blk < 8 := Nat.not_lt.mpr ((nI_leI (by omega) (by omega)).mp c2)
      exact absurd c2 (by omega)
    · skip
      replace c2 : blk < 8 := Nat.not_le.mp (mt (nI_leI (by omega) (by omega)).mpr c2)
      refine Z.aload_n C dX2_readStatement_51 0 rfl rfl ?_
      refine Z.iload_n C dX2_readStatement_52 1 rfl rfl ?_
      refine Z.callVi C (nA := 1) (As := [.int (nI blk)]) (st := []) (hL r ⟨by first | omega | (dsimp only; omega), by omega, by first | omega | (dsimp only [csz]; omega), by first | omega | (dsimp only; omega)⟩ (by omega)) gX2_readStatement_X2_readLoop rfl (by decide +kernel) (rm_ok (by omega) (by decide)) 0 rfl rfl rfl (Nat.le_of_ble_eq_true rfl) rfl dX2_readStatement_53 ?_
      generalize e3 : L r = x3
      refine Z.goto C 67 dX2_readStatement_56 (by decide) ?_
      refine Z.zret C hr hA dX2_readStatement_67 (b := x3.1) rfl ?_ ?_
      · first | (simp [mStmt, (eq_true s1), (eq_true c2), e3]; done) | (simp_all [mStmt]; done)
      · (refine congrArg (wR aR aT aC aK aF aS cC cI tx len) ?_; first | (simp [mStmt, (eq_true s1), (eq_true c2), e3]; done) | (simp_all [mStmt]; done))
  by_cases s4 : hereF tx len r.1 = 63
  · refine Z.lookup C (off := 64) 68 dX2_readStatement_4 (by decide) (by rw [s4]; decide) (by decide) ?_
    have hlt := here_lt s4 (by decide)
    refine Z.iload_n C dX2_readStatement_68 1 rfl rfl ?_
    refine Z.bipush C (v := (nI 8)) dX2_readStatement_69 (by decide) ?_
    refine Z.icmp_ge C 82 dX2_readStatement_71 (by decide) (fun c5 => ?_) (fun c5 => ?_)
    · skip
      replace c5 : ¬ blk < 8 := Nat.not_lt.mpr ((nI_leI (by omega) (by omega)).mp c5)
      exact absurd c5 (by omega)
    · skip
      replace c5 : blk < 8 := Nat.not_le.mp (mt (nI_leI (by omega) (by omega)).mpr c5)
      refine Z.aload_n C dX2_readStatement_74 0 rfl rfl ?_
      refine Z.iload_n C dX2_readStatement_75 1 rfl rfl ?_
      refine Z.callVi C (nA := 1) (As := [.int (nI blk)]) (st := []) (hBr r ⟨by first | omega | (dsimp only; omega), by omega, by first | omega | (dsimp only [csz]; omega), by first | omega | (dsimp only; omega)⟩ (by omega)) gX2_readStatement_X2_readBranch rfl (by decide +kernel) (rm_ok (by omega) (by decide)) 0 rfl rfl rfl (Nat.le_of_ble_eq_true rfl) rfl dX2_readStatement_76 ?_
      generalize e6 : Br r = x6
      refine Z.goto C 90 dX2_readStatement_79 (by decide) ?_
      refine Z.zret C hr hA dX2_readStatement_90 (b := x6.1) rfl ?_ ?_
      · first | (simp [mStmt, (eq_false s1), (eq_true s4), (eq_true c5), e6]; done) | (simp_all [mStmt]; done)
      · (refine congrArg (wR aR aT aC aK aF aS cC cI tx len) ?_; first | (simp [mStmt, (eq_false s1), (eq_true s4), (eq_true c5), e6]; done) | (simp_all [mStmt]; done))
  by_cases s7 : hereF tx len r.1 = 64
  · refine Z.lookup C (off := 36) 40 dX2_readStatement_4 (by decide) (by rw [s7]; decide) (by decide) ?_
    have hlt := here_lt s7 (by decide)
    refine Z.aload_n C dX2_readStatement_40 0 rfl rfl ?_
    refine Z.callVi C (nA := 0) (As := []) (st := []) (c_store r ⟨by first | omega | (dsimp only; omega), by omega, by first | omega | (dsimp only [csz]; omega), by first | omega | (dsimp only; omega)⟩ (by omega)) gX2_readStatement_X2_readStore rfl (by decide +kernel) (rm_ok (by omega) (by decide)) 0 rfl rfl rfl (Nat.le_of_ble_eq_true rfl) rfl dX2_readStatement_41 ?_
    generalize e8 : mStore tx len r = x8
    refine Z.zret C hr hA dX2_readStatement_44 (b := x8.1) rfl ?_ ?_
    · first | (simp [mStmt, (eq_false s1), (eq_false s4), (eq_true s7), e8]; done) | (simp_all [mStmt]; done)
    · (refine congrArg (wR aR aT aC aK aF aS cC cI tx len) ?_; first | (simp [mStmt, (eq_false s1), (eq_false s4), (eq_true s7), e8]; done) | (simp_all [mStmt]; done))
  · refine Z.lookup C (off := 87) 91 dX2_readStatement_4 (by decide) (by show Op.lookupswitch.offset [(35, 41), (63, 64), (64, 36)] _ _ = _; rw [lv_osw s1 (k := 35) (by decide), lv_osw s4 (k := 63) (by decide), lv_osw s7 (k := 64) (by decide)]; rfl) (by decide) ?_
    refine Z.aload_n C dX2_readStatement_91 0 rfl rfl ?_
    refine Z.callVi C (nA := 0) (As := []) (st := []) (c_set r ⟨by first | omega | (dsimp only; omega), by omega, by first | omega | (dsimp only [csz]; omega), by first | omega | (dsimp only; omega)⟩) gX2_readStatement_X2_readSet rfl (by decide +kernel) (rm_ok (by omega) (by decide)) 0 rfl rfl rfl (Nat.le_of_ble_eq_true rfl) rfl dX2_readStatement_92 ?_
    generalize e9 : mSet tx len r = x9
    refine Z.zret C hr hA dX2_readStatement_95 (b := x9.1) rfl ?_ ?_
    · first | (simp [mStmt, (eq_false s1), (eq_false s4), (eq_false s7), e9]; done) | (simp_all [mStmt]; done)
    · (refine congrArg (wR aR aT aC aK aF aS cC cI tx len) ?_; first | (simp [mStmt, (eq_false s1), (eq_false s4), (eq_false s7), e9]; done) | (simp_all [mStmt]; done))
set_option maxHeartbeats 4000000 in
set_option maxRecDepth 100000 in
theorem c_stmt0 {l : Launch} {D : va_G} {aR aT aC aK aF aS : Nat} {cC cI : ClassId} {tx : Nat → Int32} {len : Nat} (r : RS)  (hI : InvR len r) : Mi l yX2_readStatement wsX2_readStatement 62 D [(cC, .char), (cI, .int)] [.ref aR, .int (nI 8)] (wR aR aT aC aK aF aS cC cI tx len r) (b2i ((mStmt tx len gRef gRef r).1)) (wR aR aT aC aK aF aS cC cI tx len ((mStmt tx len gRef gRef r).2)) := by
  refine Mi.of (cc := cX2_readStatement) (maxL := 2) (by decide) rfl (Nat.le_of_ble_eq_true rfl) ?_
  intro p e s m below meth c A C hr hA
  have in2 : ∀ w ∈ wsX20, w ∈ wsX2_readStatement := by decide +kernel
  show Z p l e (rmN _) s m _ below meth c _ D A _ _ [(0, .ref aR), (1, .int (nI 8))] 0 []
  obtain ⟨hI1, hI2, hI3, hI4⟩ := hI
  dsimp only [csz] at hI3
  refine Z.aload_n C dX2_readStatement_0 0 rfl rfl ?_
  refine Z.callVi C (nA := 0) (As := []) (st := []) (c_here r ⟨by first | omega | (dsimp only; omega), by omega, by first | omega | (dsimp only [csz]; omega), by first | omega | (dsimp only; omega)⟩) gX2_readStatement_X2_here rfl (by decide +kernel) (rm_ok (by omega) (by decide)) 0 rfl rfl rfl (Nat.le_of_ble_eq_true rfl) rfl dX2_readStatement_1 ?_
  by_cases s1 : hereF tx len r.1 = 35
  · refine Z.lookup C (off := 41) 45 dX2_readStatement_4 (by decide) (by rw [s1]; decide) (by decide) ?_
    have hlt := here_lt s1 (by decide)
    refine Z.iload_n C dX2_readStatement_45 1 rfl rfl ?_
    refine Z.bipush C (v := (nI 8)) dX2_readStatement_46 (by decide) ?_
    refine Z.icmp_ge C 59 dX2_readStatement_48 (by decide) (fun c2 => ?_) (fun c2 => ?_)
    · skip
      replace c2 : ¬ 8 < 8 := Nat.not_lt.mpr ((nI_leI (by omega) (by omega)).mp c2)
      refine Z.aload_n C dX2_readStatement_59 0 rfl rfl ?_
      refine Z.aload_n C dX2_readStatement_60 0 rfl rfl ?_
      refine Z.get C in2 0 rfl rfl 3 (by decide) (by decide +kernel) rfl rfl dX2_readStatement_61 ?_
      refine Z.callVi C (nA := 1) (As := [.int (nI r.1)]) (st := []) (c_refuse r r.1) gX2_readStatement_X2_refuse rfl (by decide +kernel) (rm_ok (by omega) (by decide)) 0 rfl rfl rfl (Nat.le_of_ble_eq_true rfl) rfl dX2_readStatement_64 ?_
      refine Z.zret C hr hA dX2_readStatement_67 (b := false) rfl ?_ ?_
      · first | (simp [mStmt, gRef, (eq_true s1), (eq_false c2)]; done) | (simp_all [mStmt, gRef]; done)
      · (refine congrArg (wR aR aT aC aK aF aS cC cI tx len) ?_; first | (simp [mStmt, gRef, (eq_true s1), (eq_false c2)]; done) | (simp_all [mStmt, gRef]; done))
    · skip
      replace c2 : 8 < 8 := Nat.not_le.mp (mt (nI_leI (by omega) (by omega)).mpr c2)
      exact absurd c2 (by decide)
  by_cases s3 : hereF tx len r.1 = 63
  · refine Z.lookup C (off := 64) 68 dX2_readStatement_4 (by decide) (by rw [s3]; decide) (by decide) ?_
    have hlt := here_lt s3 (by decide)
    refine Z.iload_n C dX2_readStatement_68 1 rfl rfl ?_
    refine Z.bipush C (v := (nI 8)) dX2_readStatement_69 (by decide) ?_
    refine Z.icmp_ge C 82 dX2_readStatement_71 (by decide) (fun c4 => ?_) (fun c4 => ?_)
    · skip
      replace c4 : ¬ 8 < 8 := Nat.not_lt.mpr ((nI_leI (by omega) (by omega)).mp c4)
      refine Z.aload_n C dX2_readStatement_82 0 rfl rfl ?_
      refine Z.aload_n C dX2_readStatement_83 0 rfl rfl ?_
      refine Z.get C in2 0 rfl rfl 3 (by decide) (by decide +kernel) rfl rfl dX2_readStatement_84 ?_
      refine Z.callVi C (nA := 1) (As := [.int (nI r.1)]) (st := []) (c_refuse r r.1) gX2_readStatement_X2_refuse rfl (by decide +kernel) (rm_ok (by omega) (by decide)) 0 rfl rfl rfl (Nat.le_of_ble_eq_true rfl) rfl dX2_readStatement_87 ?_
      refine Z.zret C hr hA dX2_readStatement_90 (b := false) rfl ?_ ?_
      · first | (simp [mStmt, gRef, (eq_false s1), (eq_true s3), (eq_false c4)]; done) | (simp_all [mStmt, gRef]; done)
      · (refine congrArg (wR aR aT aC aK aF aS cC cI tx len) ?_; first | (simp [mStmt, gRef, (eq_false s1), (eq_true s3), (eq_false c4)]; done) | (simp_all [mStmt, gRef]; done))
    · skip
      replace c4 : 8 < 8 := Nat.not_le.mp (mt (nI_leI (by omega) (by omega)).mpr c4)
      exact absurd c4 (by decide)
  by_cases s5 : hereF tx len r.1 = 64
  · refine Z.lookup C (off := 36) 40 dX2_readStatement_4 (by decide) (by rw [s5]; decide) (by decide) ?_
    have hlt := here_lt s5 (by decide)
    refine Z.aload_n C dX2_readStatement_40 0 rfl rfl ?_
    refine Z.callVi C (nA := 0) (As := []) (st := []) (c_store r ⟨by first | omega | (dsimp only; omega), by omega, by first | omega | (dsimp only [csz]; omega), by first | omega | (dsimp only; omega)⟩ (by omega)) gX2_readStatement_X2_readStore rfl (by decide +kernel) (rm_ok (by omega) (by decide)) 0 rfl rfl rfl (Nat.le_of_ble_eq_true rfl) rfl dX2_readStatement_41 ?_
    generalize e6 : mStore tx len r = x6
    refine Z.zret C hr hA dX2_readStatement_44 (b := x6.1) rfl ?_ ?_
    · first | (simp [mStmt, gRef, (eq_false s1), (eq_false s3), (eq_true s5), e6]; done) | (simp_all [mStmt, gRef]; done)
    · (refine congrArg (wR aR aT aC aK aF aS cC cI tx len) ?_; first | (simp [mStmt, gRef, (eq_false s1), (eq_false s3), (eq_true s5), e6]; done) | (simp_all [mStmt, gRef]; done))
  · refine Z.lookup C (off := 87) 91 dX2_readStatement_4 (by decide) (by show Op.lookupswitch.offset [(35, 41), (63, 64), (64, 36)] _ _ = _; rw [lv_osw s1 (k := 35) (by decide), lv_osw s3 (k := 63) (by decide), lv_osw s5 (k := 64) (by decide)]; rfl) (by decide) ?_
    refine Z.aload_n C dX2_readStatement_91 0 rfl rfl ?_
    refine Z.callVi C (nA := 0) (As := []) (st := []) (c_set r ⟨by first | omega | (dsimp only; omega), by omega, by first | omega | (dsimp only [csz]; omega), by first | omega | (dsimp only; omega)⟩) gX2_readStatement_X2_readSet rfl (by decide +kernel) (rm_ok (by omega) (by decide)) 0 rfl rfl rfl (Nat.le_of_ble_eq_true rfl) rfl dX2_readStatement_92 ?_
    generalize e7 : mSet tx len r = x7
    refine Z.zret C hr hA dX2_readStatement_95 (b := x7.1) rfl ?_ ?_
    · first | (simp [mStmt, gRef, (eq_false s1), (eq_false s3), (eq_false s5), e7]; done) | (simp_all [mStmt, gRef]; done)
    · (refine congrArg (wR aR aT aC aK aF aS cC cI tx len) ?_; first | (simp [mStmt, gRef, (eq_false s1), (eq_false s3), (eq_false s5), e7]; done) | (simp_all [mStmt, gRef]; done))
set_option maxHeartbeats 4000000 in
set_option maxRecDepth 100000 in
theorem c_prog {l : Launch} {D : va_G} {aR aT aC aK aF aS : Nat} {cC cI : ClassId} {tx : Nat → Int32} {len : Nat} (r : RS)  (hI : InvR len r) (G : RS → Bool × RS) (blk k : Nat) (hk : 60 ≤ k) (hb : blk ≤ 8) (hG : ∀ r : RS, InvR len r → Mi l yX2_readStatement wsX2_readStatement k D [(cC, .char), (cI, .int)] [.ref aR, .int (nI blk)] (wR aR aT aC aK aF aS cC cI tx len r) (b2i (G r).1) (wR aR aT aC aK aF aS cC cI tx len (G r).2)) (hGI : ∀ r, InvR len r → InvR len (G r).2) : Mi l yX2_readProgram wsX2_readProgram (k + 1) D [(cC, .char), (cI, .int)] [.ref aR, .int (nI blk)] (wR aR aT aC aK aF aS cC cI tx len r) (b2i ((mProg tx len G r).1)) (wR aR aT aC aK aF aS cC cI tx len ((mProg tx len G r).2)) := by
  refine Mi.of (cc := cX2_readProgram) (maxL := 3) (by decide) rfl (Nat.le_of_ble_eq_true rfl) ?_
  intro p e s m below meth c A C hr hA
  have in0 : ∀ w ∈ wsX00, w ∈ wsX2_readProgram := by decide +kernel
  have in2 : ∀ w ∈ wsX20, w ∈ wsX2_readProgram := by decide +kernel
  show Z p l e (rmN _) s m _ below meth c _ D A _ _ [(0, .ref aR), (1, .int (nI blk))] 0 []
  obtain ⟨hI1, hI2, hI3, hI4⟩ := hI
  dsimp only [csz] at hI3
  refine Z.iconst C (v := (nI 0)) dX2_readProgram_0 (by decide) ?_
  refine Z.istore_n C (lv' := [(2, .int (nI 0)), (0, .ref aR), (1, .int (nI blk))]) dX2_readProgram_1 rfl (by decide) rfl ?_
  have key2 : ∀ (n : Nat) (i : Nat) (r2 : RS), i + n = 480 → InvR len r2 → mProg tx len G r = pLoop tx len G n r2 → Z p l e (rmN (k + 1)) s m ([.ref aR, .int (nI blk)] : List Value).toArray below meth c 3 D A (QI below D [(cC, .char), (cI, .int)] [.ref aR, .int (nI blk)] (wR aR aT aC aK aF aS cC cI tx len r) (b2i ((mProg tx len G r).1)) (wR aR aT aC aK aF aS cC cI tx len ((mProg tx len G r).2)) s) (wR aR aT aC aK aF aS cC cI tx len r2) [(2, .int (nI i)), (0, .ref aR), (1, .int (nI blk))] 2 [] := by
    intro n
    induction n with
    | zero =>
      intro i r2 hn hi hm2
      obtain ⟨k1, k2, k3, k4⟩ := hi
      dsimp only [csz] at k3
      refine Z.iload_n C dX2_readProgram_2 0 rfl rfl ?_
      refine Z.sipush C (v := (nI 480)) dX2_readProgram_3 (by decide) ?_
      refine Z.icmp_ge C 54 dX2_readProgram_6 (by decide) (fun c1 => ?_) (fun c1 => ?_)
      · skip
        replace c1 : ¬ i < 480 := Nat.not_lt.mpr ((nI_leI (by omega) (by omega)).mp c1)
        refine Z.iconst C (v := (nI 1)) dX2_readProgram_54 (by decide) ?_
        refine Z.zret C hr hA dX2_readProgram_55 (b := true) rfl ?_ ?_
        · first | (rw [hm2]; simp [pLoop, bnd, rC, (eq_false c1)]; done) | (rw [hm2]; simp_all [pLoop, bnd, rC]; done)
        · (refine congrArg (wR aR aT aC aK aF aS cC cI tx len) ?_; first | (rw [hm2]; simp [pLoop, bnd, rC, (eq_false c1)]; done) | (rw [hm2]; simp_all [pLoop, bnd, rC]; done))
      · skip
        replace c1 : i < 480 := Nat.not_le.mp (mt (nI_leI (by omega) (by omega)).mpr c1)
        exact absurd c1 (by omega)
    | succ n ih2 =>
      intro i r2 hn hi hm2
      obtain ⟨k1, k2, k3, k4⟩ := hi
      dsimp only [csz] at k3
      refine Z.iload_n C dX2_readProgram_2 0 rfl rfl ?_
      refine Z.sipush C (v := (nI 480)) dX2_readProgram_3 (by decide) ?_
      refine Z.icmp_ge C 54 dX2_readProgram_6 (by decide) (fun c2 => ?_) (fun c2 => ?_)
      · skip
        replace c2 : ¬ i < 480 := Nat.not_lt.mpr ((nI_leI (by omega) (by omega)).mp c2)
        exact absurd c2 (by omega)
      · skip
        replace c2 : i < 480 := Nat.not_le.mp (mt (nI_leI (by omega) (by omega)).mpr c2)
        refine Z.aload_n C dX2_readProgram_9 1 rfl rfl ?_
        refine Z.callVi C (nA := 0) (As := []) (st := []) (c_here r2 ⟨by first | omega | (dsimp only; omega), by omega, by first | omega | (dsimp only [csz]; omega), by first | omega | (dsimp only; omega)⟩) gX2_readProgram_X2_here rfl (by decide +kernel) (rm_ok (by omega) (by decide)) 0 rfl rfl rfl (Nat.le_of_ble_eq_true rfl) rfl dX2_readProgram_10 ?_
        refine Z.if_eq C 54 dX2_readProgram_13 (by decide) (fun c3 => ?_) (fun c3 => ?_)
        · skip
          replace c3 : (hereF tx len r2.1) = (0 : Int32) := c3
          refine Z.iconst C (v := (nI 1)) dX2_readProgram_54 (by decide) ?_
          refine Z.zret C hr hA dX2_readProgram_55 (b := true) rfl ?_ ?_
          · first | (rw [hm2]; simp [pLoop, bnd, rC, (eq_true c2), (eq_true c3)]; done) | (rw [hm2]; simp_all [pLoop, bnd, rC]; done)
          · (refine congrArg (wR aR aT aC aK aF aS cC cI tx len) ?_; first | (rw [hm2]; simp [pLoop, bnd, rC, (eq_true c2), (eq_true c3)]; done) | (rw [hm2]; simp_all [pLoop, bnd, rC]; done))
        · skip
          replace c3 : ¬ (hereF tx len r2.1) = (0 : Int32) := c3
          refine Z.aload_n C dX2_readProgram_16 1 rfl rfl ?_
          refine Z.callVi C (nA := 0) (As := []) (st := []) (c_here r2 ⟨by first | omega | (dsimp only; omega), by omega, by first | omega | (dsimp only [csz]; omega), by first | omega | (dsimp only; omega)⟩) gX2_readProgram_X2_here rfl (by decide +kernel) (rm_ok (by omega) (by decide)) 0 rfl rfl rfl (Nat.le_of_ble_eq_true rfl) rfl dX2_readProgram_17 ?_
          refine Z.bipush C (v := (nI 125)) dX2_readProgram_20 (by decide) ?_
          refine Z.icmp_eq C 54 dX2_readProgram_22 (by decide) (fun c4 => ?_) (fun c4 => ?_)
          · skip
            replace c4 : (hereF tx len r2.1) = (125 : Int32) := c4
            have c4l := here_lt c4 (by decide)
            refine Z.iconst C (v := (nI 1)) dX2_readProgram_54 (by decide) ?_
            refine Z.zret C hr hA dX2_readProgram_55 (b := true) rfl ?_ ?_
            · first | (rw [hm2]; simp [pLoop, bnd, rC, (eq_true c2), (eq_false c3), (eq_true c4)]; done) | (rw [hm2]; simp_all [pLoop, bnd, rC]; done)
            · (refine congrArg (wR aR aT aC aK aF aS cC cI tx len) ?_; first | (rw [hm2]; simp [pLoop, bnd, rC, (eq_true c2), (eq_false c3), (eq_true c4)]; done) | (rw [hm2]; simp_all [pLoop, bnd, rC]; done))
          · skip
            replace c4 : ¬ (hereF tx len r2.1) = (125 : Int32) := c4
            refine Z.aload_n C dX2_readProgram_25 1 rfl rfl ?_
            refine Z.get C in2 0 rfl rfl 2 (by decide) (by decide +kernel) rfl rfl dX2_readProgram_26 ?_
            refine Z.dup C dX2_readProgram_29 rfl ?_
            refine Z.getN C (host := "RoundCompiler") in0 2 rfl rfl 4 (by decide) (by decide +kernel) rfl rfl dX2_readProgram_30 ?_
            refine Z.iconst C (v := (nI 1)) dX2_readProgram_33 (by decide) ?_
            refine Z.iadd C (v := (nI (r2.2.2.2.2.2.2.2.2.2.1 + 1))) dX2_readProgram_34 (nI_add r2.2.2.2.2.2.2.2.2.2.1 1) ?_
            refine Z.putN C (host := "RoundCompiler") in0 2 rfl rfl 4 (by decide) tyX0 tyX0_ok nmX0 (by decide +kernel) rfl rfl rfl rfl (Nat.le_of_ble_eq_true rfl) dX2_readProgram_35 (w' := (wR aR aT aC aK aF aS cC cI tx len (r2.1, r2.2.1, r2.2.2.1, r2.2.2.2.1, r2.2.2.2.2.1, r2.2.2.2.2.2.1, r2.2.2.2.2.2.2.1, r2.2.2.2.2.2.2.2.1, r2.2.2.2.2.2.2.2.2.1, r2.2.2.2.2.2.2.2.2.2.1 + 1, r2.2.2.2.2.2.2.2.2.2.2))) rfl ?_
            refine Z.aload_n C dX2_readProgram_38 1 rfl rfl ?_
            refine Z.iload_n C dX2_readProgram_39 2 rfl rfl ?_
            refine Z.callVi C (nA := 1) (As := [.int (nI blk)]) (st := []) (hG (r2.1, r2.2.1, r2.2.2.1, r2.2.2.2.1, r2.2.2.2.2.1, r2.2.2.2.2.2.1, r2.2.2.2.2.2.2.1, r2.2.2.2.2.2.2.2.1, r2.2.2.2.2.2.2.2.2.1, r2.2.2.2.2.2.2.2.2.2.1 + 1, r2.2.2.2.2.2.2.2.2.2.2) ⟨by first | omega | (dsimp only; omega), by omega, by first | omega | (dsimp only [csz]; omega), by first | omega | (dsimp only; omega)⟩) gX2_readProgram_X2_readStatement rfl (by decide +kernel) (rm_ok (by omega) (by decide)) 0 rfl rfl rfl (Nat.le_of_ble_eq_true rfl) rfl dX2_readProgram_40 ?_
            generalize e5 : G (r2.1, r2.2.1, r2.2.2.1, r2.2.2.2.1, r2.2.2.2.2.1, r2.2.2.2.2.2.1, r2.2.2.2.2.2.2.1, r2.2.2.2.2.2.2.2.1, r2.2.2.2.2.2.2.2.2.1, r2.2.2.2.2.2.2.2.2.2.1 + 1, r2.2.2.2.2.2.2.2.2.2.2) = x5
            have i5 : InvR len x5.2 := by rw [← e5]; exact hGI _ ⟨by first | omega | (dsimp only; omega), by omega, by first | omega | (dsimp only [csz]; omega), by first | omega | (dsimp only; omega)⟩
            obtain ⟨h15, h25, h35, h45⟩ := i5
            dsimp only [csz] at h35
            refine Z.if_ne C 48 dX2_readProgram_43 (by decide) (fun c6 => ?_) (fun c6 => ?_)
            · skip
              replace c6 : x5.1 = true := b2i_n0.mp c6
              refine Z.iinc C (v := (nI (i + 1))) (lv' := [(2, .int (nI (i + 1))), (0, .ref aR), (1, .int (nI blk))]) dX2_readProgram_48 0 rfl (nI_add i 1) (by decide) rfl ?_
              refine Z.goto C 2 dX2_readProgram_51 (by decide) ?_
              refine Z.sub [0, 1, 2] rfl ?_
              exact ih2 (i + 1) x5.2 (by omega) ⟨by first | omega | (dsimp only; omega), by omega, by first | omega | (dsimp only [csz]; omega), by first | omega | (dsimp only; omega)⟩ (by rw [hm2, pLoop]; simp [bnd, rC, (eq_true c2), (eq_false c3), (eq_false c4), e5, c6])
            · skip
              replace c6 : x5.1 = false := b2i_0.mp c6
              refine Z.iconst C (v := (nI 0)) dX2_readProgram_46 (by decide) ?_
              refine Z.zret C hr hA dX2_readProgram_47 (b := false) rfl ?_ ?_
              · first | (rw [hm2]; simp [pLoop, bnd, rC, (eq_true c2), (eq_false c3), (eq_false c4), e5, c6]; done) | (rw [hm2]; simp_all [pLoop, bnd, rC]; done)
              · (refine congrArg (wR aR aT aC aK aF aS cC cI tx len) ?_; first | (rw [hm2]; simp [pLoop, bnd, rC, (eq_true c2), (eq_false c3), (eq_false c4), e5, c6]; done) | (rw [hm2]; simp_all [pLoop, bnd, rC]; done))
  refine Z.sub [0, 1, 2] rfl ?_
  exact key2 480 0 r (by omega) ⟨by first | omega | (dsimp only; omega), by omega, by first | omega | (dsimp only [csz]; omega), by first | omega | (dsimp only; omega)⟩ rfl
