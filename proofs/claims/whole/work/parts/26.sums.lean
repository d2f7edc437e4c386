set_option maxHeartbeats 4000000 in
set_option maxRecDepth 100000 in
theorem c_turned {l : Launch} {D : va_G} {aR aT aC aK aF aS : Nat} {cC cI : ClassId} {tx : Nat → Int32} {len : Nat} (r : RS)  (hI : InvR len r) (f : RS → Bool × RS) (ins k : Nat) (hk : 8 ≤ k) (hF : ∀ r : RS, InvR len r → Mi l yX2_readFactor wsX2_readFactor k D [(cC, .char), (cI, .int)] [.ref aR, .int (nI ins)] (wR aR aT aC aK aF aS cC cI tx len r) (b2i (f r).1) (wR aR aT aC aK aF aS cC cI tx len (f r).2)) (hfI : ∀ r, InvR len r → InvR len (f r).2) : Mi l yX2_readTurned wsX2_readTurned (k + 1) D [(cC, .char), (cI, .int)] [.ref aR, .int (nI ins)] (wR aR aT aC aK aF aS cC cI tx len r) (b2i ((mTurned tx len f r).1)) (wR aR aT aC aK aF aS cC cI tx len ((mTurned tx len f r).2)) := by
  refine Mi.of (cc := cX2_readTurned) (maxL := 4) (by decide) rfl (Nat.le_of_ble_eq_true rfl) ?_
  intro p e s m below meth c A C hr hA
  have in2 : ∀ w ∈ wsX20, w ∈ wsX2_readTurned := by decide +kernel
  show Z p l e (rmN _) s m _ below meth c _ D A _ _ [(0, .ref aR), (1, .int (nI ins))] 0 []
  obtain ⟨hI1, hI2, hI3, hI4⟩ := hI
  dsimp only [csz] at hI3
  refine Z.aload_n C dX2_readTurned_0 0 rfl rfl ?_
  refine Z.iload_n C dX2_readTurned_1 1 rfl rfl ?_
  refine Z.callVi C (nA := 1) (As := [.int (nI ins)]) (st := []) (hF r ⟨by first | omega | (dsimp only; omega), by omega, by first | omega | (dsimp only [csz]; omega), by first | omega | (dsimp only; omega)⟩) gX2_readTurned_X2_readFactor rfl (by decide +kernel) (rm_ok (by omega) (by decide)) 0 rfl rfl rfl (Nat.le_of_ble_eq_true rfl) rfl dX2_readTurned_2 ?_
  generalize e1 : f r = x1
  have i1 : InvR len x1.2 := by rw [← e1]; exact hfI _ ⟨by first | omega | (dsimp only; omega), by omega, by first | omega | (dsimp only [csz]; omega), by first | omega | (dsimp only; omega)⟩
  obtain ⟨h11, h21, h31, h41⟩ := i1
  dsimp only [csz] at h31
  refine Z.if_ne C 10 dX2_readTurned_5 (by decide) (fun c2 => ?_) (fun c2 => ?_)
  · skip
    replace c2 : x1.1 = true := b2i_n0.mp c2
    refine Z.iconst C (v := (nI 0)) dX2_readTurned_10 (by decide) ?_
    refine Z.istore_n C (lv' := [(2, .int (nI 0)), (0, .ref aR), (1, .int (nI ins))]) dX2_readTurned_11 rfl (by decide) rfl ?_
    have key12 : ∀ (n : Nat) (i : Nat) (r2 : RS), i + n = 480 → InvR len r2 → mTurned tx len f r = tLoop tx len n r2 → Z p l e (rmN (k + 1)) s m ([.ref aR, .int (nI ins)] : List Value).toArray below meth c 4 D A (QI below D [(cC, .char), (cI, .int)] [.ref aR, .int (nI ins)] (wR aR aT aC aK aF aS cC cI tx len r) (b2i ((mTurned tx len f r).1)) (wR aR aT aC aK aF aS cC cI tx len ((mTurned tx len f r).2)) s) (wR aR aT aC aK aF aS cC cI tx len r2) [(2, .int (nI i)), (0, .ref aR), (1, .int (nI ins))] 12 [] := by
      intro n
      induction n with
      | zero =>
        intro i r2 hn hi hm12
        obtain ⟨k1, k2, k3, k4⟩ := hi
        dsimp only [csz] at k3
        refine Z.iload_n C dX2_readTurned_12 0 rfl rfl ?_
        refine Z.sipush C (v := (nI 480)) dX2_readTurned_13 (by decide) ?_
        refine Z.icmp_ge C 84 dX2_readTurned_16 (by decide) (fun c3 => ?_) (fun c3 => ?_)
        · skip
          replace c3 : ¬ i < 480 := Nat.not_lt.mpr ((nI_leI (by omega) (by omega)).mp c3)
          refine Z.iconst C (v := (nI 1)) dX2_readTurned_84 (by decide) ?_
          refine Z.zret C hr hA dX2_readTurned_85 (b := true) rfl ?_ ?_
          · first | (rw [hm12]; simp [tLoop, rC, e1, c2, (eq_false c3)]; done) | (rw [hm12]; simp_all [tLoop, rC]; done)
          · (refine congrArg (wR aR aT aC aK aF aS cC cI tx len) ?_; first | (rw [hm12]; simp [tLoop, rC, e1, c2, (eq_false c3)]; done) | (rw [hm12]; simp_all [tLoop, rC]; done))
        · skip
          replace c3 : i < 480 := Nat.not_le.mp (mt (nI_leI (by omega) (by omega)).mpr c3)
          exact absurd c3 (by omega)
      | succ n ih12 =>
        intro i r2 hn hi hm12
        obtain ⟨k1, k2, k3, k4⟩ := hi
        dsimp only [csz] at k3
        refine Z.iload_n C dX2_readTurned_12 0 rfl rfl ?_
        refine Z.sipush C (v := (nI 480)) dX2_readTurned_13 (by decide) ?_
        refine Z.icmp_ge C 84 dX2_readTurned_16 (by decide) (fun c4 => ?_) (fun c4 => ?_)
        · skip
          replace c4 : ¬ i < 480 := Nat.not_lt.mpr ((nI_leI (by omega) (by omega)).mp c4)
          exact absurd c4 (by omega)
        · skip
          replace c4 : i < 480 := Nat.not_le.mp (mt (nI_leI (by omega) (by omega)).mpr c4)
          refine Z.aload_n C dX2_readTurned_19 1 rfl rfl ?_
          refine Z.callVi C (nA := 0) (As := []) (st := []) (c_here r2 ⟨by first | omega | (dsimp only; omega), by omega, by first | omega | (dsimp only [csz]; omega), by first | omega | (dsimp only; omega)⟩) gX2_readTurned_X2_here rfl (by decide +kernel) (rm_ok (by omega) (by decide)) 0 rfl rfl rfl (Nat.le_of_ble_eq_true rfl) rfl dX2_readTurned_20 ?_
          refine Z.bipush C (v := (nI 60)) dX2_readTurned_23 (by decide) ?_
          refine Z.icmp_eq C 37 dX2_readTurned_25 (by decide) (fun c5 => ?_) (fun c5 => ?_)
          · skip
            replace c5 : (hereF tx len r2.1) = (60 : Int32) := c5
            have c5l := here_lt c5 (by decide)
            refine Z.aload_n C dX2_readTurned_37 1 rfl rfl ?_
            refine Z.callVi C (nA := 0) (As := []) (st := []) (c_here r2 ⟨by first | omega | (dsimp only; omega), by omega, by first | omega | (dsimp only [csz]; omega), by first | omega | (dsimp only; omega)⟩) gX2_readTurned_X2_here rfl (by decide +kernel) (rm_ok (by omega) (by decide)) 0 rfl rfl rfl (Nat.le_of_ble_eq_true rfl) rfl dX2_readTurned_38 ?_
            refine Z.istore_n C (lv' := [(3, .int (hereF tx len r2.1)), (2, .int (nI i)), (0, .ref aR), (1, .int (nI ins))]) dX2_readTurned_41 rfl (by decide) rfl ?_
            refine Z.aload_n C dX2_readTurned_42 2 rfl rfl ?_
            refine Z.dup C dX2_readTurned_43 rfl ?_
            refine Z.get C in2 0 rfl rfl 3 (by decide) (by decide +kernel) rfl rfl dX2_readTurned_44 ?_
            refine Z.iconst C (v := (nI 1)) dX2_readTurned_47 (by decide) ?_
            refine Z.iadd C (v := (nI (r2.1 + 1))) dX2_readTurned_48 (nI_add r2.1 1) ?_
            refine Z.put C in2 0 rfl rfl 3 (by decide) tyX2 tyX2_ok nmX2 (by decide +kernel) rfl rfl rfl rfl (Nat.le_of_ble_eq_true rfl) dX2_readTurned_49 (w' := (wR aR aT aC aK aF aS cC cI tx len (r2.1 + 1, r2.2))) rfl ?_
            refine Z.aload_n C dX2_readTurned_52 2 rfl rfl ?_
            refine Z.lconst C (v := lN 1) dX2_readTurned_53 (by decide) ?_
            refine Z.ldc2 C (v := lN 31) dX2_readTurned_54 (by decide +kernel) ?_
            refine Z.callVi C (nA := 2) (As := [.long (lN 1), .long (lN 31)]) (st := []) (c_readNumber (r2.1 + 1, r2.2) 1 31 ⟨by first | omega | (dsimp only; omega), by omega, by first | omega | (dsimp only [csz]; omega), by first | omega | (dsimp only; omega)⟩) gX2_readTurned_X2_readNumber rfl (by decide +kernel) (rm_ok (by omega) (by decide)) 0 rfl rfl rfl (Nat.le_of_ble_eq_true rfl) rfl dX2_readTurned_57 ?_
            generalize e6 : mNumber tx len 1 31 (r2.1 + 1, r2.2) = x6
            have i6 : InvR len x6.2 := by rw [← e6]; exact mNumber_inv ⟨by first | omega | (dsimp only; omega), by omega, by first | omega | (dsimp only [csz]; omega), by first | omega | (dsimp only; omega)⟩
            obtain ⟨h16, h26, h36, h46⟩ := i6
            dsimp only [csz] at h36
            refine Z.if_ne C 65 dX2_readTurned_60 (by decide) (fun c7 => ?_) (fun c7 => ?_)
            · skip
              replace c7 : x6.1 = true := b2i_n0.mp c7
              refine Z.aload_n C dX2_readTurned_65 2 rfl rfl ?_
              refine Z.get C in2 0 rfl rfl 2 (by decide) (by decide +kernel) rfl rfl dX2_readTurned_66 ?_
              refine Z.iload_n C dX2_readTurned_69 0 rfl rfl ?_
              refine Z.aload_n C dX2_readTurned_70 2 rfl rfl ?_
              refine Z.get C in2 0 rfl rfl 5 (by decide) (by decide +kernel) rfl rfl dX2_readTurned_71 ?_
              refine Z.l2i C (v := (nI x6.2.2.2.1)) dX2_readTurned_74 (lN_i x6.2.2.2.1) ?_
              refine Z.callVNv C (nA := 2) (As := [.int (hereF tx len r2.1), .int (nI x6.2.2.2.1)]) (st := []) (host := "RoundCompiler") (c_one x6.2 (hereF tx len r2.1) (nI x6.2.2.2.1) ⟨by first | omega | (dsimp only; omega), by omega, by first | omega | (dsimp only [csz]; omega), by first | omega | (dsimp only; omega)⟩) gX2_readTurned_X0_addOfOne_n119 rfl (by decide +kernel) (by decide +kernel) (by decide +kernel) (by decide +kernel) (by decide +kernel) (rm_ok (by omega) (by decide)) 2 rfl rfl rfl (Nat.le_of_ble_eq_true rfl) rfl dX2_readTurned_75 ?_
              generalize e8 : cOne (hereF tx len r2.1) (nI x6.2.2.2.1) x6.2.2.2.2.2.2 = x8
              have b8 : x8.2.2.2.1 ≤ 480 := by rw [← e8]; exact cOne_sz (by first | omega | (dsimp only [csz]; omega))
              refine Z.iinc C (v := (nI (i + 1))) (lv' := [(2, .int (nI (i + 1))), (3, .int (hereF tx len r2.1)), (0, .ref aR), (1, .int (nI ins))]) dX2_readTurned_78 1 rfl (nI_add i 1) (by decide) rfl ?_
              refine Z.goto C 12 dX2_readTurned_81 (by decide) ?_
              refine Z.sub [0, 2, 3] rfl ?_
              exact ih12 (i + 1) (x6.2.1, x6.2.2.1, x6.2.2.2.1, x6.2.2.2.2.1, x6.2.2.2.2.2.1, x8) (by omega) ⟨by first | omega | (dsimp only; omega), by omega, by first | omega | (dsimp only [csz]; omega), by first | omega | (dsimp only; omega)⟩ (by rw [hm12, tLoop]; simp [rC, e1, c2, (eq_true c4), (eq_true c5), e6, c7, e8])
            · skip
              replace c7 : x6.1 = false := b2i_0.mp c7
              refine Z.iconst C (v := (nI 0)) dX2_readTurned_63 (by decide) ?_
              refine Z.zret C hr hA dX2_readTurned_64 (b := false) rfl ?_ ?_
              · first | (rw [hm12]; simp [tLoop, rC, e1, c2, (eq_true c4), (eq_true c5), e6, c7]; done) | (rw [hm12]; simp_all [tLoop, rC]; done)
              · (refine congrArg (wR aR aT aC aK aF aS cC cI tx len) ?_; first | (rw [hm12]; simp [tLoop, rC, e1, c2, (eq_true c4), (eq_true c5), e6, c7]; done) | (rw [hm12]; simp_all [tLoop, rC]; done))
          · skip
            replace c5 : ¬ (hereF tx len r2.1) = (60 : Int32) := c5
            refine Z.aload_n C dX2_readTurned_28 1 rfl rfl ?_
            refine Z.callVi C (nA := 0) (As := []) (st := []) (c_here r2 ⟨by first | omega | (dsimp only; omega), by omega, by first | omega | (dsimp only [csz]; omega), by first | omega | (dsimp only; omega)⟩) gX2_readTurned_X2_here rfl (by decide +kernel) (rm_ok (by omega) (by decide)) 0 rfl rfl rfl (Nat.le_of_ble_eq_true rfl) rfl dX2_readTurned_29 ?_
            refine Z.bipush C (v := (nI 62)) dX2_readTurned_32 (by decide) ?_
            refine Z.icmp_ne C 84 dX2_readTurned_34 (by decide) (fun c9 => ?_) (fun c9 => ?_)
            · skip
              replace c9 : ¬ (hereF tx len r2.1) = (62 : Int32) := c9
              refine Z.iconst C (v := (nI 1)) dX2_readTurned_84 (by decide) ?_
              refine Z.zret C hr hA dX2_readTurned_85 (b := true) rfl ?_ ?_
              · first | (rw [hm12]; simp [tLoop, rC, e1, c2, (eq_true c4), (eq_false c5), (eq_false c9)]; done) | (rw [hm12]; simp_all [tLoop, rC]; done)
              · (refine congrArg (wR aR aT aC aK aF aS cC cI tx len) ?_; first | (rw [hm12]; simp [tLoop, rC, e1, c2, (eq_true c4), (eq_false c5), (eq_false c9)]; done) | (rw [hm12]; simp_all [tLoop, rC]; done))
            · skip
              replace c9 : (hereF tx len r2.1) = (62 : Int32) := c9
              have c9l := here_lt c9 (by decide)
              refine Z.aload_n C dX2_readTurned_37 1 rfl rfl ?_
              refine Z.callVi C (nA := 0) (As := []) (st := []) (c_here r2 ⟨by first | omega | (dsimp only; omega), by omega, by first | omega | (dsimp only [csz]; omega), by first | omega | (dsimp only; omega)⟩) gX2_readTurned_X2_here rfl (by decide +kernel) (rm_ok (by omega) (by decide)) 0 rfl rfl rfl (Nat.le_of_ble_eq_true rfl) rfl dX2_readTurned_38 ?_
              refine Z.istore_n C (lv' := [(3, .int (hereF tx len r2.1)), (2, .int (nI i)), (0, .ref aR), (1, .int (nI ins))]) dX2_readTurned_41 rfl (by decide) rfl ?_
              refine Z.aload_n C dX2_readTurned_42 2 rfl rfl ?_
              refine Z.dup C dX2_readTurned_43 rfl ?_
              refine Z.get C in2 0 rfl rfl 3 (by decide) (by decide +kernel) rfl rfl dX2_readTurned_44 ?_
              refine Z.iconst C (v := (nI 1)) dX2_readTurned_47 (by decide) ?_
              refine Z.iadd C (v := (nI (r2.1 + 1))) dX2_readTurned_48 (nI_add r2.1 1) ?_
              refine Z.put C in2 0 rfl rfl 3 (by decide) tyX2 tyX2_ok nmX2 (by decide +kernel) rfl rfl rfl rfl (Nat.le_of_ble_eq_true rfl) dX2_readTurned_49 (w' := (wR aR aT aC aK aF aS cC cI tx len (r2.1 + 1, r2.2))) rfl ?_
              refine Z.aload_n C dX2_readTurned_52 2 rfl rfl ?_
              refine Z.lconst C (v := lN 1) dX2_readTurned_53 (by decide) ?_
              refine Z.ldc2 C (v := lN 31) dX2_readTurned_54 (by decide +kernel) ?_
              refine Z.callVi C (nA := 2) (As := [.long (lN 1), .long (lN 31)]) (st := []) (c_readNumber (r2.1 + 1, r2.2) 1 31 ⟨by first | omega | (dsimp only; omega), by omega, by first | omega | (dsimp only [csz]; omega), by first | omega | (dsimp only; omega)⟩) gX2_readTurned_X2_readNumber rfl (by decide +kernel) (rm_ok (by omega) (by decide)) 0 rfl rfl rfl (Nat.le_of_ble_eq_true rfl) rfl dX2_readTurned_57 ?_
              generalize e10 : mNumber tx len 1 31 (r2.1 + 1, r2.2) = x10
              have i10 : InvR len x10.2 := by rw [← e10]; exact mNumber_inv ⟨by first | omega | (dsimp only; omega), by omega, by first | omega | (dsimp only [csz]; omega), by first | omega | (dsimp only; omega)⟩
              obtain ⟨h110, h210, h310, h410⟩ := i10
              dsimp only [csz] at h310
              refine Z.if_ne C 65 dX2_readTurned_60 (by decide) (fun c11 => ?_) (fun c11 => ?_)
              · skip
                replace c11 : x10.1 = true := b2i_n0.mp c11
                refine Z.aload_n C dX2_readTurned_65 2 rfl rfl ?_
                refine Z.get C in2 0 rfl rfl 2 (by decide) (by decide +kernel) rfl rfl dX2_readTurned_66 ?_
                refine Z.iload_n C dX2_readTurned_69 0 rfl rfl ?_
                refine Z.aload_n C dX2_readTurned_70 2 rfl rfl ?_
                refine Z.get C in2 0 rfl rfl 5 (by decide) (by decide +kernel) rfl rfl dX2_readTurned_71 ?_
                refine Z.l2i C (v := (nI x10.2.2.2.1)) dX2_readTurned_74 (lN_i x10.2.2.2.1) ?_
                refine Z.callVNv C (nA := 2) (As := [.int (hereF tx len r2.1), .int (nI x10.2.2.2.1)]) (st := []) (host := "RoundCompiler") (c_one x10.2 (hereF tx len r2.1) (nI x10.2.2.2.1) ⟨by first | omega | (dsimp only; omega), by omega, by first | omega | (dsimp only [csz]; omega), by first | omega | (dsimp only; omega)⟩) gX2_readTurned_X0_addOfOne_n119 rfl (by decide +kernel) (by decide +kernel) (by decide +kernel) (by decide +kernel) (by decide +kernel) (rm_ok (by omega) (by decide)) 2 rfl rfl rfl (Nat.le_of_ble_eq_true rfl) rfl dX2_readTurned_75 ?_
                generalize e12 : cOne (hereF tx len r2.1) (nI x10.2.2.2.1) x10.2.2.2.2.2.2 = x12
                have b12 : x12.2.2.2.1 ≤ 480 := by rw [← e12]; exact cOne_sz (by first | omega | (dsimp only [csz]; omega))
                refine Z.iinc C (v := (nI (i + 1))) (lv' := [(2, .int (nI (i + 1))), (3, .int (hereF tx len r2.1)), (0, .ref aR), (1, .int (nI ins))]) dX2_readTurned_78 1 rfl (nI_add i 1) (by decide) rfl ?_
                refine Z.goto C 12 dX2_readTurned_81 (by decide) ?_
                refine Z.sub [0, 2, 3] rfl ?_
                exact ih12 (i + 1) (x10.2.1, x10.2.2.1, x10.2.2.2.1, x10.2.2.2.2.1, x10.2.2.2.2.2.1, x12) (by omega) ⟨by first | omega | (dsimp only; omega), by omega, by first | omega | (dsimp only [csz]; omega), by first | omega | (dsimp only; omega)⟩ (by rw [hm12, tLoop]; simp [rC, e1, c2, (eq_true c4), (eq_false c5), (eq_true c9), e10, c11, e12])
              · skip
                replace c11 : x10.1 = false := b2i_0.mp c11
                refine Z.iconst C (v := (nI 0)) dX2_readTurned_63 (by decide) ?_
                refine Z.zret C hr hA dX2_readTurned_64 (b := false) rfl ?_ ?_
                · first | (rw [hm12]; simp [tLoop, rC, e1, c2, (eq_true c4), (eq_false c5), (eq_true c9), e10, c11]; done) | (rw [hm12]; simp_all [tLoop, rC]; done)
                · (refine congrArg (wR aR aT aC aK aF aS cC cI tx len) ?_; first | (rw [hm12]; simp [tLoop, rC, e1, c2, (eq_true c4), (eq_false c5), (eq_true c9), e10, c11]; done) | (rw [hm12]; simp_all [tLoop, rC]; done))
    refine Z.sub [0, 1, 2] rfl ?_
    exact key12 480 0 x1.2 (by omega) ⟨by first | omega | (dsimp only; omega), by omega, by first | omega | (dsimp only [csz]; omega), by first | omega | (dsimp only; omega)⟩ (by simp [mTurned, e1, c2])
  · skip
    replace c2 : x1.1 = false := b2i_0.mp c2
    refine Z.iconst C (v := (nI 0)) dX2_readTurned_8 (by decide) ?_
    refine Z.zret C hr hA dX2_readTurned_9 (b := false) rfl ?_ ?_
    · first | (simp [mTurned, e1, c2]; done) | (simp_all [mTurned]; done)
    · (refine congrArg (wR aR aT aC aK aF aS cC cI tx len) ?_; first | (simp [mTurned, e1, c2]; done) | (simp_all [mTurned]; done))
set_option maxHeartbeats 4000000 in
set_option maxRecDepth 100000 in
theorem c_sum {l : Launch} {D : va_G} {aR aT aC aK aF aS : Nat} {cC cI : ClassId} {tx : Nat → Int32} {len : Nat} (r : RS)  (hI : InvR len r) (f : RS → Bool × RS) (ins k : Nat) (hk : 8 ≤ k) (hT : ∀ r : RS, InvR len r → Mi l yX2_readTurned wsX2_readTurned k D [(cC, .char), (cI, .int)] [.ref aR, .int (nI ins)] (wR aR aT aC aK aF aS cC cI tx len r) (b2i (mTurned tx len f r).1) (wR aR aT aC aK aF aS cC cI tx len (mTurned tx len f r).2)) (hfI : ∀ r, InvR len r → InvR len (f r).2) : Mi l yX2_readSum wsX2_readSum (k + 1) D [(cC, .char), (cI, .int)] [.ref aR, .int (nI ins)] (wR aR aT aC aK aF aS cC cI tx len r) (b2i ((mSum tx len f r).1)) (wR aR aT aC aK aF aS cC cI tx len ((mSum tx len f r).2)) := by
  refine Mi.of (cc := cX2_readSum) (maxL := 4) (by decide) rfl (Nat.le_of_ble_eq_true rfl) ?_
  intro p e s m below meth c A C hr hA
  have in2 : ∀ w ∈ wsX20, w ∈ wsX2_readSum := by decide +kernel
  show Z p l e (rmN _) s m _ below meth c _ D A _ _ [(0, .ref aR), (1, .int (nI ins))] 0 []
  obtain ⟨hI1, hI2, hI3, hI4⟩ := hI
  dsimp only [csz] at hI3
  refine Z.aload_n C dX2_readSum_0 0 rfl rfl ?_
  refine Z.iload_n C dX2_readSum_1 1 rfl rfl ?_
  refine Z.callVi C (nA := 1) (As := [.int (nI ins)]) (st := []) (hT r ⟨by first | omega | (dsimp only; omega), by omega, by first | omega | (dsimp only [csz]; omega), by first | omega | (dsimp only; omega)⟩) gX2_readSum_X2_readTurned rfl (by decide +kernel) (rm_ok (by omega) (by decide)) 0 rfl rfl rfl (Nat.le_of_ble_eq_true rfl) rfl dX2_readSum_2 ?_
  generalize e1 : mTurned tx len f r = x1
  have i1 : InvR len x1.2 := by rw [← e1]; exact mTurned_inv hfI ⟨by first | omega | (dsimp only; omega), by omega, by first | omega | (dsimp only [csz]; omega), by first | omega | (dsimp only; omega)⟩
  obtain ⟨h11, h21, h31, h41⟩ := i1
  dsimp only [csz] at h31
  refine Z.if_ne C 10 dX2_readSum_5 (by decide) (fun c2 => ?_) (fun c2 => ?_)
  · skip
    replace c2 : x1.1 = true := b2i_n0.mp c2
    refine Z.iconst C (v := (nI 0)) dX2_readSum_10 (by decide) ?_
    refine Z.istore_n C (lv' := [(2, .int (nI 0)), (0, .ref aR), (1, .int (nI ins))]) dX2_readSum_11 rfl (by decide) rfl ?_
    have key12 : ∀ (n : Nat) (i : Nat) (r2 : RS), i + n = 480 → InvR len r2 → mSum tx len f r = sLoop tx len f n r2 → Z p l e (rmN (k + 1)) s m ([.ref aR, .int (nI ins)] : List Value).toArray below meth c 4 D A (QI below D [(cC, .char), (cI, .int)] [.ref aR, .int (nI ins)] (wR aR aT aC aK aF aS cC cI tx len r) (b2i ((mSum tx len f r).1)) (wR aR aT aC aK aF aS cC cI tx len ((mSum tx len f r).2)) s) (wR aR aT aC aK aF aS cC cI tx len r2) [(2, .int (nI i)), (0, .ref aR), (1, .int (nI ins))] 12 [] := by
      intro n
      induction n with
      | zero =>
        intro i r2 hn hi hm12
        obtain ⟨k1, k2, k3, k4⟩ := hi
        dsimp only [csz] at k3
        refine Z.iload_n C dX2_readSum_12 0 rfl rfl ?_
        refine Z.sipush C (v := (nI 480)) dX2_readSum_13 (by decide) ?_
        refine Z.icmp_ge C 68 dX2_readSum_16 (by decide) (fun c3 => ?_) (fun c3 => ?_)
        · skip
          replace c3 : ¬ i < 480 := Nat.not_lt.mpr ((nI_leI (by omega) (by omega)).mp c3)
          refine Z.iconst C (v := (nI 1)) dX2_readSum_68 (by decide) ?_
          refine Z.zret C hr hA dX2_readSum_69 (b := true) rfl ?_ ?_
          · first | (rw [hm12]; simp [sLoop, rC, e1, c2, (eq_false c3)]; done) | (rw [hm12]; simp_all [sLoop, rC]; done)
          · (refine congrArg (wR aR aT aC aK aF aS cC cI tx len) ?_; first | (rw [hm12]; simp [sLoop, rC, e1, c2, (eq_false c3)]; done) | (rw [hm12]; simp_all [sLoop, rC]; done))
        · skip
          replace c3 : i < 480 := Nat.not_le.mp (mt (nI_leI (by omega) (by omega)).mpr c3)
          exact absurd c3 (by omega)
      | succ n ih12 =>
        intro i r2 hn hi hm12
        obtain ⟨k1, k2, k3, k4⟩ := hi
        dsimp only [csz] at k3
        refine Z.iload_n C dX2_readSum_12 0 rfl rfl ?_
        refine Z.sipush C (v := (nI 480)) dX2_readSum_13 (by decide) ?_
        refine Z.icmp_ge C 68 dX2_readSum_16 (by decide) (fun c4 => ?_) (fun c4 => ?_)
        · skip
          replace c4 : ¬ i < 480 := Nat.not_lt.mpr ((nI_leI (by omega) (by omega)).mp c4)
          exact absurd c4 (by omega)
        · skip
          replace c4 : i < 480 := Nat.not_le.mp (mt (nI_leI (by omega) (by omega)).mpr c4)
          refine Z.aload_n C dX2_readSum_19 1 rfl rfl ?_
          refine Z.callVi C (nA := 0) (As := []) (st := []) (c_here r2 ⟨by first | omega | (dsimp only; omega), by omega, by first | omega | (dsimp only [csz]; omega), by first | omega | (dsimp only; omega)⟩) gX2_readSum_X2_here rfl (by decide +kernel) (rm_ok (by omega) (by decide)) 0 rfl rfl rfl (Nat.le_of_ble_eq_true rfl) rfl dX2_readSum_20 ?_
          refine Z.callSi C (nA := 1) (As := [.int (hereF tx len r2.1)]) (st := []) (c_isOp (hereF tx len r2.1)) gX2_readSum_X2_isOperator rfl (by decide +kernel) (rm_ok (by omega) (by decide)) rfl (Nat.le_of_ble_eq_true rfl) rfl dX2_readSum_23 ?_
          refine Z.if_eq C 68 dX2_readSum_26 (by decide) (fun c5 => ?_) (fun c5 => ?_)
          · skip
            replace c5 : isOpF (hereF tx len r2.1) = false := b2i_0.mp c5
            refine Z.iconst C (v := (nI 1)) dX2_readSum_68 (by decide) ?_
            refine Z.zret C hr hA dX2_readSum_69 (b := true) rfl ?_ ?_
            · first | (rw [hm12]; simp [sLoop, rC, e1, c2, (eq_true c4), c5]; done) | (rw [hm12]; simp_all [sLoop, rC]; done)
            · (refine congrArg (wR aR aT aC aK aF aS cC cI tx len) ?_; first | (rw [hm12]; simp [sLoop, rC, e1, c2, (eq_true c4), c5]; done) | (rw [hm12]; simp_all [sLoop, rC]; done))
          · skip
            replace c5 : isOpF (hereF tx len r2.1) = true := b2i_n0.mp c5
            have c5l := isOp_lt c5
            refine Z.aload_n C dX2_readSum_29 1 rfl rfl ?_
            refine Z.callVi C (nA := 0) (As := []) (st := []) (c_here r2 ⟨by first | omega | (dsimp only; omega), by omega, by first | omega | (dsimp only [csz]; omega), by first | omega | (dsimp only; omega)⟩) gX2_readSum_X2_here rfl (by decide +kernel) (rm_ok (by omega) (by decide)) 0 rfl rfl rfl (Nat.le_of_ble_eq_true rfl) rfl dX2_readSum_30 ?_
            refine Z.istore_n C (lv' := [(3, .int (hereF tx len r2.1)), (2, .int (nI i)), (0, .ref aR), (1, .int (nI ins))]) dX2_readSum_33 rfl (by decide) rfl ?_
            refine Z.aload_n C dX2_readSum_34 2 rfl rfl ?_
            refine Z.dup C dX2_readSum_35 rfl ?_
            refine Z.get C in2 0 rfl rfl 3 (by decide) (by decide +kernel) rfl rfl dX2_readSum_36 ?_
            refine Z.iconst C (v := (nI 1)) dX2_readSum_39 (by decide) ?_
            refine Z.iadd C (v := (nI (r2.1 + 1))) dX2_readSum_40 (nI_add r2.1 1) ?_
            refine Z.put C in2 0 rfl rfl 3 (by decide) tyX2 tyX2_ok nmX2 (by decide +kernel) rfl rfl rfl rfl (Nat.le_of_ble_eq_true rfl) dX2_readSum_41 (w' := (wR aR aT aC aK aF aS cC cI tx len (r2.1 + 1, r2.2))) rfl ?_
            refine Z.aload_n C dX2_readSum_44 2 rfl rfl ?_
            refine Z.iload_n C dX2_readSum_45 3 rfl rfl ?_
            refine Z.callVi C (nA := 1) (As := [.int (nI ins)]) (st := []) (hT (r2.1 + 1, r2.2) ⟨by first | omega | (dsimp only; omega), by omega, by first | omega | (dsimp only [csz]; omega), by first | omega | (dsimp only; omega)⟩) gX2_readSum_X2_readTurned rfl (by decide +kernel) (rm_ok (by omega) (by decide)) 0 rfl rfl rfl (Nat.le_of_ble_eq_true rfl) rfl dX2_readSum_46 ?_
            generalize e6 : mTurned tx len f (r2.1 + 1, r2.2) = x6
            have i6 : InvR len x6.2 := by rw [← e6]; exact mTurned_inv hfI ⟨by first | omega | (dsimp only; omega), by omega, by first | omega | (dsimp only [csz]; omega), by first | omega | (dsimp only; omega)⟩
            obtain ⟨h16, h26, h36, h46⟩ := i6
            dsimp only [csz] at h36
            refine Z.if_ne C 54 dX2_readSum_49 (by decide) (fun c7 => ?_) (fun c7 => ?_)
            · skip
              replace c7 : x6.1 = true := b2i_n0.mp c7
              refine Z.aload_n C dX2_readSum_54 2 rfl rfl ?_
              refine Z.get C in2 0 rfl rfl 2 (by decide) (by decide +kernel) rfl rfl dX2_readSum_55 ?_
              refine Z.iload_n C dX2_readSum_58 0 rfl rfl ?_
              refine Z.callVNv C (nA := 1) (As := [.int (hereF tx len r2.1)]) (st := []) (host := "RoundCompiler") (c_two x6.2 (hereF tx len r2.1) ⟨by first | omega | (dsimp only; omega), by omega, by first | omega | (dsimp only [csz]; omega), by first | omega | (dsimp only; omega)⟩) gX2_readSum_X0_addOfTwo_n110 rfl (by decide +kernel) (by decide +kernel) (by decide +kernel) (by decide +kernel) (by decide +kernel) (rm_ok (by omega) (by decide)) 2 rfl rfl rfl (Nat.le_of_ble_eq_true rfl) rfl dX2_readSum_59 ?_
              generalize e8 : cTwo (hereF tx len r2.1) x6.2.2.2.2.2.2 = x8
              have b8 : x8.2.2.2.1 ≤ 480 := by rw [← e8]; exact cTwo_sz (by first | omega | (dsimp only [csz]; omega))
              refine Z.iinc C (v := (nI (i + 1))) (lv' := [(2, .int (nI (i + 1))), (3, .int (hereF tx len r2.1)), (0, .ref aR), (1, .int (nI ins))]) dX2_readSum_62 1 rfl (nI_add i 1) (by decide) rfl ?_
              refine Z.goto C 12 dX2_readSum_65 (by decide) ?_
              refine Z.sub [0, 2, 3] rfl ?_
              exact ih12 (i + 1) (x6.2.1, x6.2.2.1, x6.2.2.2.1, x6.2.2.2.2.1, x6.2.2.2.2.2.1, x8) (by omega) ⟨by first | omega | (dsimp only; omega), by omega, by first | omega | (dsimp only [csz]; omega), by first | omega | (dsimp only; omega)⟩ (by rw [hm12, sLoop]; simp [rC, e1, c2, (eq_true c4), c5, e6, c7, e8])
            · skip
              replace c7 : x6.1 = false := b2i_0.mp c7
              refine Z.iconst C (v := (nI 0)) dX2_readSum_52 (by decide) ?_
              refine Z.zret C hr hA dX2_readSum_53 (b := false) rfl ?_ ?_
              · first | (rw [hm12]; simp [sLoop, rC, e1, c2, (eq_true c4), c5, e6, c7]; done) | (rw [hm12]; simp_all [sLoop, rC]; done)
              · (refine congrArg (wR aR aT aC aK aF aS cC cI tx len) ?_; first | (rw [hm12]; simp [sLoop, rC, e1, c2, (eq_true c4), c5, e6, c7]; done) | (rw [hm12]; simp_all [sLoop, rC]; done))
    refine Z.sub [0, 1, 2] rfl ?_
    exact key12 480 0 x1.2 (by omega) ⟨by first | omega | (dsimp only; omega), by omega, by first | omega | (dsimp only [csz]; omega), by first | omega | (dsimp only; omega)⟩ (by simp [mSum, e1, c2])
  · skip
    replace c2 : x1.1 = false := b2i_0.mp c2
    refine Z.iconst C (v := (nI 0)) dX2_readSum_8 (by decide) ?_
    refine Z.zret C hr hA dX2_readSum_9 (b := false) rfl ?_ ?_
    · first | (simp [mSum, e1, c2]; done) | (simp_all [mSum]; done)
    · (refine congrArg (wR aR aT aC aK aF aS cC cI tx len) ?_; first | (simp [mSum, e1, c2]; done) | (simp_all [mSum]; done))
set_option maxHeartbeats 4000000 in
set_option maxRecDepth 100000 in
theorem c_nested {l : Launch} {D : va_G} {aR aT aC aK aF aS : Nat} {cC cI : ClassId} {tx : Nat → Int32} {len : Nat} (r : RS)  (hI : InvR len r) (f : RS → Bool × RS) (ins k : Nat) (hk : 8 ≤ k) (hF : ∀ r : RS, InvR len r → Mi l yX2_readFactor wsX2_readFactor k D [(cC, .char), (cI, .int)] [.ref aR, .int (nI ins)] (wR aR aT aC aK aF aS cC cI tx len r) (b2i (f r).1) (wR aR aT aC aK aF aS cC cI tx len (f r).2)) (hS : ∀ r : RS, InvR len r → Mi l yX2_readSum wsX2_readSum (k + 2) D [(cC, .char), (cI, .int)] [.ref aR, .int (nI ins)] (wR aR aT aC aK aF aS cC cI tx len r) (b2i (mSum tx len f r).1) (wR aR aT aC aK aF aS cC cI tx len (mSum tx len f r).2)) (hfI : ∀ r, InvR len r → InvR len (f r).2) (ha : r.1 < len) : Mi l yX2_readNested wsX2_readNested (k + 3) D [(cC, .char), (cI, .int)] [.ref aR, .int (nI ins)] (wR aR aT aC aK aF aS cC cI tx len r) (b2i ((mNest tx len f r).1)) (wR aR aT aC aK aF aS cC cI tx len ((mNest tx len f r).2)) := by
  refine Mi.of (cc := cX2_readNested) (maxL := 3) (by decide) rfl (Nat.le_of_ble_eq_true rfl) ?_
  intro p e s m below meth c A C hr hA
  have in2 : ∀ w ∈ wsX20, w ∈ wsX2_readNested := by decide +kernel
  show Z p l e (rmN _) s m _ below meth c _ D A _ _ [(0, .ref aR), (1, .int (nI ins))] 0 []
  obtain ⟨hI1, hI2, hI3, hI4⟩ := hI
  dsimp only [csz] at hI3
  refine Z.aload_n C dX2_readNested_0 0 rfl rfl ?_
  refine Z.callVi C (nA := 0) (As := []) (st := []) (c_here r ⟨by first | omega | (dsimp only; omega), by omega, by first | omega | (dsimp only [csz]; omega), by first | omega | (dsimp only; omega)⟩) gX2_readNested_X2_here rfl (by decide +kernel) (rm_ok (by omega) (by decide)) 0 rfl rfl rfl (Nat.le_of_ble_eq_true rfl) rfl dX2_readNested_1 ?_
  refine Z.istore_n C (lv' := [(2, .int (hereF tx len r.1)), (0, .ref aR), (1, .int (nI ins))]) dX2_readNested_4 rfl (by decide) rfl ?_
  refine Z.aload_n C dX2_readNested_5 1 rfl rfl ?_
  refine Z.dup C dX2_readNested_6 rfl ?_
  refine Z.get C in2 0 rfl rfl 3 (by decide) (by decide +kernel) rfl rfl dX2_readNested_7 ?_
  refine Z.iconst C (v := (nI 1)) dX2_readNested_10 (by decide) ?_
  refine Z.iadd C (v := (nI (r.1 + 1))) dX2_readNested_11 (nI_add r.1 1) ?_
  refine Z.put C in2 0 rfl rfl 3 (by decide) tyX2 tyX2_ok nmX2 (by decide +kernel) rfl rfl rfl rfl (Nat.le_of_ble_eq_true rfl) dX2_readNested_12 (w' := (wR aR aT aC aK aF aS cC cI tx len (r.1 + 1, r.2))) rfl ?_
  refine Z.iload_n C dX2_readNested_15 0 rfl rfl ?_
  refine Z.bipush C (v := (nI 40)) dX2_readNested_16 (by decide) ?_
  refine Z.icmp_ne C 44 dX2_readNested_18 (by decide) (fun c1 => ?_) (fun c1 => ?_)
  · skip
    replace c1 : ¬ (hereF tx len r.1) = (40 : Int32) := c1
    refine Z.iload_n C dX2_readNested_44 0 rfl rfl ?_
    refine Z.bipush C (v := (nI 126)) dX2_readNested_45 (by decide) ?_
    refine Z.icmp_ne C 71 dX2_readNested_47 (by decide) (fun c2 => ?_) (fun c2 => ?_)
    · skip
      replace c2 : ¬ (hereF tx len r.1) = (126 : Int32) := c2
      refine Z.aload_n C dX2_readNested_71 1 rfl rfl ?_
      refine Z.bipush C (v := (nI 91)) dX2_readNested_72 (by decide) ?_
      refine Z.callVi C (nA := 1) (As := [.int (91 : Int32)]) (st := []) (c_expect (r.1 + 1, r.2) (91 : Int32) ⟨by first | omega | (dsimp only; omega), by omega, by first | omega | (dsimp only [csz]; omega), by first | omega | (dsimp only; omega)⟩) gX2_readNested_X2_expect rfl (by decide +kernel) (rm_ok (by omega) (by decide)) 0 rfl rfl rfl (Nat.le_of_ble_eq_true rfl) rfl dX2_readNested_74 ?_
      generalize e3 : mExpect tx len (91 : Int32) (r.1 + 1, r.2) = x3
      have i3 : InvR len x3.2 := by rw [← e3]; exact mExpect_inv (by decide) ⟨by first | omega | (dsimp only; omega), by omega, by first | omega | (dsimp only [csz]; omega), by first | omega | (dsimp only; omega)⟩
      obtain ⟨h13, h23, h33, h43⟩ := i3
      dsimp only [csz] at h33
      refine Z.if_eq C 97 dX2_readNested_77 (by decide) (fun c4 => ?_) (fun c4 => ?_)
      · skip
        replace c4 : x3.1 = false := b2i_0.mp c4
        refine Z.iconst C (v := (nI 0)) dX2_readNested_97 (by decide) ?_
        refine Z.zret C hr hA dX2_readNested_98 (b := false) rfl ?_ ?_
        · first | (simp [mNest, rC, (eq_false c1), (eq_false c2), e3, c4]; done) | (simp_all [mNest, rC]; done)
        · (refine congrArg (wR aR aT aC aK aF aS cC cI tx len) ?_; first | (simp [mNest, rC, (eq_false c1), (eq_false c2), e3, c4]; done) | (simp_all [mNest, rC]; done))
      · skip
        replace c4 : x3.1 = true := b2i_n0.mp c4
        refine Z.aload_n C dX2_readNested_80 1 rfl rfl ?_
        refine Z.iload_n C dX2_readNested_81 2 rfl rfl ?_
        refine Z.callVi C (nA := 1) (As := [.int (nI ins)]) (st := []) (hS x3.2 ⟨by first | omega | (dsimp only; omega), by omega, by first | omega | (dsimp only [csz]; omega), by first | omega | (dsimp only; omega)⟩) gX2_readNested_X2_readSum rfl (by decide +kernel) (rm_ok (by omega) (by decide)) 0 rfl rfl rfl (Nat.le_of_ble_eq_true rfl) rfl dX2_readNested_82 ?_
        generalize e5 : mSum tx len f x3.2 = x5
        have i5 : InvR len x5.2 := by rw [← e5]; exact mSum_inv hfI ⟨by first | omega | (dsimp only; omega), by omega, by first | omega | (dsimp only [csz]; omega), by first | omega | (dsimp only; omega)⟩
        obtain ⟨h15, h25, h35, h45⟩ := i5
        dsimp only [csz] at h35
        refine Z.if_eq C 97 dX2_readNested_85 (by decide) (fun c6 => ?_) (fun c6 => ?_)
        · skip
          replace c6 : x5.1 = false := b2i_0.mp c6
          refine Z.iconst C (v := (nI 0)) dX2_readNested_97 (by decide) ?_
          refine Z.zret C hr hA dX2_readNested_98 (b := false) rfl ?_ ?_
          · first | (simp [mNest, rC, (eq_false c1), (eq_false c2), e3, c4, e5, c6]; done) | (simp_all [mNest, rC]; done)
          · (refine congrArg (wR aR aT aC aK aF aS cC cI tx len) ?_; first | (simp [mNest, rC, (eq_false c1), (eq_false c2), e3, c4, e5, c6]; done) | (simp_all [mNest, rC]; done))
        · skip
          replace c6 : x5.1 = true := b2i_n0.mp c6
          refine Z.aload_n C dX2_readNested_88 1 rfl rfl ?_
          refine Z.bipush C (v := (nI 93)) dX2_readNested_89 (by decide) ?_
          refine Z.callVi C (nA := 1) (As := [.int (93 : Int32)]) (st := []) (c_expect x5.2 (93 : Int32) ⟨by first | omega | (dsimp only; omega), by omega, by first | omega | (dsimp only [csz]; omega), by first | omega | (dsimp only; omega)⟩) gX2_readNested_X2_expect rfl (by decide +kernel) (rm_ok (by omega) (by decide)) 0 rfl rfl rfl (Nat.le_of_ble_eq_true rfl) rfl dX2_readNested_91 ?_
          generalize e7 : mExpect tx len (93 : Int32) x5.2 = x7
          have i7 : InvR len x7.2 := by rw [← e7]; exact mExpect_inv (by decide) ⟨by first | omega | (dsimp only; omega), by omega, by first | omega | (dsimp only [csz]; omega), by first | omega | (dsimp only; omega)⟩
          obtain ⟨h17, h27, h37, h47⟩ := i7
          dsimp only [csz] at h37
          refine Z.if_ne C 99 dX2_readNested_94 (by decide) (fun c8 => ?_) (fun c8 => ?_)
          · skip
            replace c8 : x7.1 = true := b2i_n0.mp c8
            refine Z.aload_n C dX2_readNested_99 1 rfl rfl ?_
            refine Z.get C in2 0 rfl rfl 2 (by decide) (by decide +kernel) rfl rfl dX2_readNested_100 ?_
            refine Z.iconst C (v := (nI 3)) dX2_readNested_103 (by decide) ?_
            refine Z.iconst C (v := (nI 0)) dX2_readNested_104 (by decide) ?_
            refine Z.iconst C (v := (nI 0)) dX2_readNested_105 (by decide) ?_
            refine Z.callVNv C (nA := 3) (As := [.int (3 : Int32), .int (0 : Int32), .int (0 : Int32)]) (st := []) (host := "RoundCompiler") (c_add x7.2 (3 : Int32) (0 : Int32) (0 : Int32) ⟨by first | omega | (dsimp only; omega), by omega, by first | omega | (dsimp only [csz]; omega), by first | omega | (dsimp only; omega)⟩) gX2_readNested_X0_add_n80 rfl (by decide +kernel) (by decide +kernel) (by decide +kernel) (by decide +kernel) (by decide +kernel) (rm_ok (by omega) (by decide)) 2 rfl rfl rfl (Nat.le_of_ble_eq_true rfl) rfl dX2_readNested_106 ?_
            generalize e9 : cAdd (3 : Int32) (0 : Int32) (0 : Int32) x7.2.2.2.2.2.2 = x9
            have b9 : x9.2.2.2.1 ≤ 480 := by rw [← e9]; exact cAdd_sz (by first | omega | (dsimp only [csz]; omega))
            refine Z.iconst C (v := (nI 1)) dX2_readNested_109 (by decide) ?_
            refine Z.zret C hr hA dX2_readNested_110 (b := true) rfl ?_ ?_
            · first | (simp [mNest, rC, (eq_false c1), (eq_false c2), e3, c4, e5, c6, e7, c8, e9]; done) | (simp_all [mNest, rC]; done)
            · (refine congrArg (wR aR aT aC aK aF aS cC cI tx len) ?_; first | (simp [mNest, rC, (eq_false c1), (eq_false c2), e3, c4, e5, c6, e7, c8, e9]; done) | (simp_all [mNest, rC]; done))
          · skip
            replace c8 : x7.1 = false := b2i_0.mp c8
            refine Z.iconst C (v := (nI 0)) dX2_readNested_97 (by decide) ?_
            refine Z.zret C hr hA dX2_readNested_98 (b := false) rfl ?_ ?_
            · first | (simp [mNest, rC, (eq_false c1), (eq_false c2), e3, c4, e5, c6, e7, c8]; done) | (simp_all [mNest, rC]; done)
            · (refine congrArg (wR aR aT aC aK aF aS cC cI tx len) ?_; first | (simp [mNest, rC, (eq_false c1), (eq_false c2), e3, c4, e5, c6, e7, c8]; done) | (simp_all [mNest, rC]; done))
    · skip
      replace c2 : (hereF tx len r.1) = (126 : Int32) := c2
      have c2l := here_lt c2 (by decide)
      refine Z.aload_n C dX2_readNested_50 1 rfl rfl ?_
      refine Z.iload_n C dX2_readNested_51 2 rfl rfl ?_
      refine Z.callVi C (nA := 1) (As := [.int (nI ins)]) (st := []) (hF (r.1 + 1, r.2) ⟨by first | omega | (dsimp only; omega), by omega, by first | omega | (dsimp only [csz]; omega), by first | omega | (dsimp only; omega)⟩) gX2_readNested_X2_readFactor rfl (by decide +kernel) (rm_ok (by omega) (by decide)) 0 rfl rfl rfl (Nat.le_of_ble_eq_true rfl) rfl dX2_readNested_52 ?_
      generalize e10 : f (r.1 + 1, r.2) = x10
      have i10 : InvR len x10.2 := by rw [← e10]; exact hfI _ ⟨by first | omega | (dsimp only; omega), by omega, by first | omega | (dsimp only [csz]; omega), by first | omega | (dsimp only; omega)⟩
      obtain ⟨h110, h210, h310, h410⟩ := i10
      dsimp only [csz] at h310
      refine Z.if_ne C 60 dX2_readNested_55 (by decide) (fun c11 => ?_) (fun c11 => ?_)
      · skip
        replace c11 : x10.1 = true := b2i_n0.mp c11
        refine Z.aload_n C dX2_readNested_60 1 rfl rfl ?_
        refine Z.get C in2 0 rfl rfl 2 (by decide) (by decide +kernel) rfl rfl dX2_readNested_61 ?_
        refine Z.iload_n C dX2_readNested_64 0 rfl rfl ?_
        refine Z.iconst C (v := (nI 0)) dX2_readNested_65 (by decide) ?_
        refine Z.callVNv C (nA := 2) (As := [.int (hereF tx len r.1), .int (0 : Int32)]) (st := []) (host := "RoundCompiler") (c_one x10.2 (hereF tx len r.1) (0 : Int32) ⟨by first | omega | (dsimp only; omega), by omega, by first | omega | (dsimp only [csz]; omega), by first | omega | (dsimp only; omega)⟩) gX2_readNested_X0_addOfOne_n119 rfl (by decide +kernel) (by decide +kernel) (by decide +kernel) (by decide +kernel) (by decide +kernel) (rm_ok (by omega) (by decide)) 2 rfl rfl rfl (Nat.le_of_ble_eq_true rfl) rfl dX2_readNested_66 ?_
        generalize e12 : cOne (hereF tx len r.1) (0 : Int32) x10.2.2.2.2.2.2 = x12
        have b12 : x12.2.2.2.1 ≤ 480 := by rw [← e12]; exact cOne_sz (by first | omega | (dsimp only [csz]; omega))
        refine Z.iconst C (v := (nI 1)) dX2_readNested_69 (by decide) ?_
        refine Z.zret C hr hA dX2_readNested_70 (b := true) rfl ?_ ?_
        · first | (simp [mNest, rC, (eq_false c1), (eq_true c2), e10, c11, e12]; done) | (simp_all [mNest, rC]; done)
        · (refine congrArg (wR aR aT aC aK aF aS cC cI tx len) ?_; first | (simp [mNest, rC, (eq_false c1), (eq_true c2), e10, c11, e12]; done) | (simp_all [mNest, rC]; done))
      · skip
        replace c11 : x10.1 = false := b2i_0.mp c11
        refine Z.iconst C (v := (nI 0)) dX2_readNested_58 (by decide) ?_
        refine Z.zret C hr hA dX2_readNested_59 (b := false) rfl ?_ ?_
        · first | (simp [mNest, rC, (eq_false c1), (eq_true c2), e10, c11]; done) | (simp_all [mNest, rC]; done)
        · (refine congrArg (wR aR aT aC aK aF aS cC cI tx len) ?_; first | (simp [mNest, rC, (eq_false c1), (eq_true c2), e10, c11]; done) | (simp_all [mNest, rC]; done))
  · skip
    replace c1 : (hereF tx len r.1) = (40 : Int32) := c1
    have c1l := here_lt c1 (by decide)
    refine Z.aload_n C dX2_readNested_21 1 rfl rfl ?_
    refine Z.iload_n C dX2_readNested_22 2 rfl rfl ?_
    refine Z.callVi C (nA := 1) (As := [.int (nI ins)]) (st := []) (hS (r.1 + 1, r.2) ⟨by first | omega | (dsimp only; omega), by omega, by first | omega | (dsimp only [csz]; omega), by first | omega | (dsimp only; omega)⟩) gX2_readNested_X2_readSum rfl (by decide +kernel) (rm_ok (by omega) (by decide)) 0 rfl rfl rfl (Nat.le_of_ble_eq_true rfl) rfl dX2_readNested_23 ?_
    generalize e13 : mSum tx len f (r.1 + 1, r.2) = x13
    have i13 : InvR len x13.2 := by rw [← e13]; exact mSum_inv hfI ⟨by first | omega | (dsimp only; omega), by omega, by first | omega | (dsimp only [csz]; omega), by first | omega | (dsimp only; omega)⟩
    obtain ⟨h113, h213, h313, h413⟩ := i13
    dsimp only [csz] at h313
    refine Z.if_eq C 42 dX2_readNested_26 (by decide) (fun c14 => ?_) (fun c14 => ?_)
    · skip
      replace c14 : x13.1 = false := b2i_0.mp c14
      refine Z.iconst C (v := (nI 0)) dX2_readNested_42 (by decide) ?_
      refine Z.zret C hr hA dX2_readNested_43 (b := false) rfl ?_ ?_
      · first | (simp [mNest, rC, (eq_true c1), e13, c14]; done) | (simp_all [mNest, rC]; done)
      · (refine congrArg (wR aR aT aC aK aF aS cC cI tx len) ?_; first | (simp [mNest, rC, (eq_true c1), e13, c14]; done) | (simp_all [mNest, rC]; done))
    · skip
      replace c14 : x13.1 = true := b2i_n0.mp c14
      refine Z.aload_n C dX2_readNested_29 1 rfl rfl ?_
      refine Z.bipush C (v := (nI 41)) dX2_readNested_30 (by decide) ?_
      refine Z.callVi C (nA := 1) (As := [.int (41 : Int32)]) (st := []) (c_expect x13.2 (41 : Int32) ⟨by first | omega | (dsimp only; omega), by omega, by first | omega | (dsimp only [csz]; omega), by first | omega | (dsimp only; omega)⟩) gX2_readNested_X2_expect rfl (by decide +kernel) (rm_ok (by omega) (by decide)) 0 rfl rfl rfl (Nat.le_of_ble_eq_true rfl) rfl dX2_readNested_32 ?_
      generalize e15 : mExpect tx len (41 : Int32) x13.2 = x15
      have i15 : InvR len x15.2 := by rw [← e15]; exact mExpect_inv (by decide) ⟨by first | omega | (dsimp only; omega), by omega, by first | omega | (dsimp only [csz]; omega), by first | omega | (dsimp only; omega)⟩
      obtain ⟨h115, h215, h315, h415⟩ := i15
      dsimp only [csz] at h315
      refine Z.if_eq C 42 dX2_readNested_35 (by decide) (fun c16 => ?_) (fun c16 => ?_)
      · skip
        replace c16 : x15.1 = false := b2i_0.mp c16
        refine Z.iconst C (v := (nI 0)) dX2_readNested_42 (by decide) ?_
        refine Z.zret C hr hA dX2_readNested_43 (b := false) rfl ?_ ?_
        · first | (simp [mNest, rC, (eq_true c1), e13, c14, e15, c16]; done) | (simp_all [mNest, rC]; done)
        · (refine congrArg (wR aR aT aC aK aF aS cC cI tx len) ?_; first | (simp [mNest, rC, (eq_true c1), e13, c14, e15, c16]; done) | (simp_all [mNest, rC]; done))
      · skip
        replace c16 : x15.1 = true := b2i_n0.mp c16
        refine Z.iconst C (v := (nI 1)) dX2_readNested_38 (by decide) ?_
        refine Z.goto C 43 dX2_readNested_39 (by decide) ?_
        refine Z.zret C hr hA dX2_readNested_43 (b := true) rfl ?_ ?_
        · first | (simp [mNest, rC, (eq_true c1), e13, c14, e15, c16]; done) | (simp_all [mNest, rC]; done)
        · (refine congrArg (wR aR aT aC aK aF aS cC cI tx len) ?_; first | (simp [mNest, rC, (eq_true c1), e13, c14, e15, c16]; done) | (simp_all [mNest, rC]; done))
set_option maxHeartbeats 4000000 in
set_option maxRecDepth 100000 in
theorem c_factor {l : Launch} {D : va_G} {aR aT aC aK aF aS : Nat} {cC cI : ClassId} {tx : Nat → Int32} {len : Nat} (r : RS)  (hI : InvR len r) (g : RS → Bool × RS) (ins k : Nat) (hk : 8 ≤ k) (hins : ins < 12) (hN : ∀ r : RS, InvR len r → r.1 < len → Mi l yX2_readNested wsX2_readNested k D [(cC, .char), (cI, .int)] [.ref aR, .int (nI (ins + 1))] (wR aR aT aC aK aF aS cC cI tx len r) (b2i (g r).1) (wR aR aT aC aK aF aS cC cI tx len (g r).2)) : Mi l yX2_readFactor wsX2_readFactor (k + 1) D [(cC, .char), (cI, .int)] [.ref aR, .int (nI ins)] (wR aR aT aC aK aF aS cC cI tx len r) (b2i ((mFac tx len g r).1)) (wR aR aT aC aK aF aS cC cI tx len ((mFac tx len g r).2)) := by
  refine Mi.of (cc := cX2_readFactor) (maxL := 3) (by decide) rfl (Nat.le_of_ble_eq_true rfl) ?_
  intro p e s m below meth c A C hr hA
  have in2 : ∀ w ∈ wsX20, w ∈ wsX2_readFactor := by decide +kernel
  show Z p l e (rmN _) s m _ below meth c _ D A _ _ [(0, .ref aR), (1, .int (nI ins))] 0 []
  obtain ⟨hI1, hI2, hI3, hI4⟩ := hI
  dsimp only [csz] at hI3
  refine Z.aload_n C dX2_readFactor_0 0 rfl rfl ?_
  refine Z.callVi C (nA := 0) (As := []) (st := []) (c_here r ⟨by first | omega | (dsimp only; omega), by omega, by first | omega | (dsimp only [csz]; omega), by first | omega | (dsimp only; omega)⟩) gX2_readFactor_X2_here rfl (by decide +kernel) (rm_ok (by omega) (by decide)) 0 rfl rfl rfl (Nat.le_of_ble_eq_true rfl) rfl dX2_readFactor_1 ?_
  refine Z.callSi C (nA := 1) (As := [.int (hereF tx len r.1)]) (st := []) (c_nameOf (hereF tx len r.1)) gX2_readFactor_X2_nameOf rfl (by decide +kernel) (rm_ok (by omega) (by decide)) rfl (Nat.le_of_ble_eq_true rfl) rfl dX2_readFactor_4 ?_
  refine Z.istore_n C (lv' := [(2, .int (nameF (hereF tx len r.1))), (0, .ref aR), (1, .int (nI ins))]) dX2_readFactor_7 rfl (by decide) rfl ?_
  refine Z.iload_n C dX2_readFactor_8 0 rfl rfl ?_
  refine Z.if_lt C 34 dX2_readFactor_9 (by decide) (fun c1 => ?_) (fun c1 => ?_)
  · skip
    replace c1 : ¬ (0 : Int32) ≤ (nameF (hereF tx len r.1)) := Int32.not_le.mpr c1
    refine Z.aload_n C dX2_readFactor_34 1 rfl rfl ?_
    refine Z.callVi C (nA := 0) (As := []) (st := []) (c_here r ⟨by first | omega | (dsimp only; omega), by omega, by first | omega | (dsimp only [csz]; omega), by first | omega | (dsimp only; omega)⟩) gX2_readFactor_X2_here rfl (by decide +kernel) (rm_ok (by omega) (by decide)) 0 rfl rfl rfl (Nat.le_of_ble_eq_true rfl) rfl dX2_readFactor_35 ?_
    refine Z.bipush C (v := (nI 126)) dX2_readFactor_38 (by decide) ?_
    refine Z.icmp_eq C 61 dX2_readFactor_40 (by decide) (fun c2 => ?_) (fun c2 => ?_)
    · skip
      replace c2 : (hereF tx len r.1) = (126 : Int32) := c2
      have c2l := here_lt c2 (by decide)
      refine Z.iload_n C dX2_readFactor_61 2 rfl rfl ?_
      refine Z.bipush C (v := (nI 12)) dX2_readFactor_62 (by decide) ?_
      refine Z.icmp_ge C 77 dX2_readFactor_64 (by decide) (fun c3 => ?_) (fun c3 => ?_)
      · skip
        replace c3 : ¬ ins < 12 := Nat.not_lt.mpr ((nI_leI (by omega) (by omega)).mp c3)
        exact absurd c3 (by omega)
      · skip
        replace c3 : ins < 12 := Nat.not_le.mp (mt (nI_leI (by omega) (by omega)).mpr c3)
        refine Z.aload_n C dX2_readFactor_67 1 rfl rfl ?_
        refine Z.iload_n C dX2_readFactor_68 2 rfl rfl ?_
        refine Z.iconst C (v := (nI 1)) dX2_readFactor_69 (by decide) ?_
        refine Z.iadd C (v := (nI (ins + 1))) dX2_readFactor_70 (nI_add ins 1) ?_
        refine Z.callVi C (nA := 1) (As := [.int (nI (ins + 1))]) (st := []) (hN r ⟨by first | omega | (dsimp only; omega), by omega, by first | omega | (dsimp only [csz]; omega), by first | omega | (dsimp only; omega)⟩ (by omega)) gX2_readFactor_X2_readNested rfl (by decide +kernel) (rm_ok (by omega) (by decide)) 0 rfl rfl rfl (Nat.le_of_ble_eq_true rfl) rfl dX2_readFactor_71 ?_
        generalize e4 : g r = x4
        refine Z.goto C 85 dX2_readFactor_74 (by decide) ?_
        refine Z.zret C hr hA dX2_readFactor_85 (b := x4.1) rfl ?_ ?_
        · first | (simp [mFac, rC, (eq_false c1), (eq_true c2), (eq_true c3), e4]; done) | (simp_all [mFac, rC]; done)
        · (refine congrArg (wR aR aT aC aK aF aS cC cI tx len) ?_; first | (simp [mFac, rC, (eq_false c1), (eq_true c2), (eq_true c3), e4]; done) | (simp_all [mFac, rC]; done))
    · skip
      replace c2 : ¬ (hereF tx len r.1) = (126 : Int32) := c2
      refine Z.aload_n C dX2_readFactor_43 1 rfl rfl ?_
      refine Z.callVi C (nA := 0) (As := []) (st := []) (c_here r ⟨by first | omega | (dsimp only; omega), by omega, by first | omega | (dsimp only [csz]; omega), by first | omega | (dsimp only; omega)⟩) gX2_readFactor_X2_here rfl (by decide +kernel) (rm_ok (by omega) (by decide)) 0 rfl rfl rfl (Nat.le_of_ble_eq_true rfl) rfl dX2_readFactor_44 ?_
      refine Z.bipush C (v := (nI 40)) dX2_readFactor_47 (by decide) ?_
      refine Z.icmp_eq C 61 dX2_readFactor_49 (by decide) (fun c5 => ?_) (fun c5 => ?_)
      · skip
        replace c5 : (hereF tx len r.1) = (40 : Int32) := c5
        have c5l := here_lt c5 (by decide)
        refine Z.iload_n C dX2_readFactor_61 2 rfl rfl ?_
        refine Z.bipush C (v := (nI 12)) dX2_readFactor_62 (by decide) ?_
        refine Z.icmp_ge C 77 dX2_readFactor_64 (by decide) (fun c6 => ?_) (fun c6 => ?_)
        · skip
          replace c6 : ¬ ins < 12 := Nat.not_lt.mpr ((nI_leI (by omega) (by omega)).mp c6)
          exact absurd c6 (by omega)
        · skip
          replace c6 : ins < 12 := Nat.not_le.mp (mt (nI_leI (by omega) (by omega)).mpr c6)
          refine Z.aload_n C dX2_readFactor_67 1 rfl rfl ?_
          refine Z.iload_n C dX2_readFactor_68 2 rfl rfl ?_
          refine Z.iconst C (v := (nI 1)) dX2_readFactor_69 (by decide) ?_
          refine Z.iadd C (v := (nI (ins + 1))) dX2_readFactor_70 (nI_add ins 1) ?_
          refine Z.callVi C (nA := 1) (As := [.int (nI (ins + 1))]) (st := []) (hN r ⟨by first | omega | (dsimp only; omega), by omega, by first | omega | (dsimp only [csz]; omega), by first | omega | (dsimp only; omega)⟩ (by omega)) gX2_readFactor_X2_readNested rfl (by decide +kernel) (rm_ok (by omega) (by decide)) 0 rfl rfl rfl (Nat.le_of_ble_eq_true rfl) rfl dX2_readFactor_71 ?_
          generalize e7 : g r = x7
          refine Z.goto C 85 dX2_readFactor_74 (by decide) ?_
          refine Z.zret C hr hA dX2_readFactor_85 (b := x7.1) rfl ?_ ?_
          · first | (simp [mFac, rC, (eq_false c1), (eq_false c2), (eq_true c5), (eq_true c6), e7]; done) | (simp_all [mFac, rC]; done)
          · (refine congrArg (wR aR aT aC aK aF aS cC cI tx len) ?_; first | (simp [mFac, rC, (eq_false c1), (eq_false c2), (eq_true c5), (eq_true c6), e7]; done) | (simp_all [mFac, rC]; done))
      · skip
        replace c5 : ¬ (hereF tx len r.1) = (40 : Int32) := c5
        refine Z.aload_n C dX2_readFactor_52 1 rfl rfl ?_
        refine Z.callVi C (nA := 0) (As := []) (st := []) (c_here r ⟨by first | omega | (dsimp only; omega), by omega, by first | omega | (dsimp only [csz]; omega), by first | omega | (dsimp only; omega)⟩) gX2_readFactor_X2_here rfl (by decide +kernel) (rm_ok (by omega) (by decide)) 0 rfl rfl rfl (Nat.le_of_ble_eq_true rfl) rfl dX2_readFactor_53 ?_
        refine Z.bipush C (v := (nI 64)) dX2_readFactor_56 (by decide) ?_
        refine Z.icmp_ne C 86 dX2_readFactor_58 (by decide) (fun c8 => ?_) (fun c8 => ?_)
        · skip
          replace c8 : ¬ (hereF tx len r.1) = (64 : Int32) := c8
          refine Z.aload_n C dX2_readFactor_86 1 rfl rfl ?_
          refine Z.lconst C (v := lN 0) dX2_readFactor_87 (by decide) ?_
          refine Z.ldc2 C (v := lN 4294967295) dX2_readFactor_88 (by decide +kernel) ?_
          refine Z.callVi C (nA := 2) (As := [.long (lN 0), .long (lN 4294967295)]) (st := []) (c_readNumber r 0 4294967295 ⟨by first | omega | (dsimp only; omega), by omega, by first | omega | (dsimp only [csz]; omega), by first | omega | (dsimp only; omega)⟩) gX2_readFactor_X2_readNumber rfl (by decide +kernel) (rm_ok (by omega) (by decide)) 0 rfl rfl rfl (Nat.le_of_ble_eq_true rfl) rfl dX2_readFactor_91 ?_
          generalize e9 : mNumber tx len 0 4294967295 r = x9
          have i9 : InvR len x9.2 := by rw [← e9]; exact mNumber_inv ⟨by first | omega | (dsimp only; omega), by omega, by first | omega | (dsimp only [csz]; omega), by first | omega | (dsimp only; omega)⟩
          obtain ⟨h19, h29, h39, h49⟩ := i9
          dsimp only [csz] at h39
          refine Z.if_ne C 99 dX2_readFactor_94 (by decide) (fun c10 => ?_) (fun c10 => ?_)
          · skip
            replace c10 : x9.1 = true := b2i_n0.mp c10
            refine Z.aload_n C dX2_readFactor_99 1 rfl rfl ?_
            refine Z.get C in2 0 rfl rfl 2 (by decide) (by decide +kernel) rfl rfl dX2_readFactor_100 ?_
            refine Z.iconst C (v := (nI 1)) dX2_readFactor_103 (by decide) ?_
            refine Z.aload_n C dX2_readFactor_104 1 rfl rfl ?_
            refine Z.get C in2 0 rfl rfl 5 (by decide) (by decide +kernel) rfl rfl dX2_readFactor_105 ?_
            refine Z.l2i C (v := (nI x9.2.2.2.1)) dX2_readFactor_108 (lN_i x9.2.2.2.1) ?_
            refine Z.iconst C (v := (nI 0)) dX2_readFactor_109 (by decide) ?_
            refine Z.callVNv C (nA := 3) (As := [.int (1 : Int32), .int (nI x9.2.2.2.1), .int (0 : Int32)]) (st := []) (host := "RoundCompiler") (c_add x9.2 (1 : Int32) (nI x9.2.2.2.1) (0 : Int32) ⟨by first | omega | (dsimp only; omega), by omega, by first | omega | (dsimp only [csz]; omega), by first | omega | (dsimp only; omega)⟩) gX2_readFactor_X0_add_n80 rfl (by decide +kernel) (by decide +kernel) (by decide +kernel) (by decide +kernel) (by decide +kernel) (rm_ok (by omega) (by decide)) 2 rfl rfl rfl (Nat.le_of_ble_eq_true rfl) rfl dX2_readFactor_110 ?_
            generalize e11 : cAdd (1 : Int32) (nI x9.2.2.2.1) (0 : Int32) x9.2.2.2.2.2.2 = x11
            have b11 : x11.2.2.2.1 ≤ 480 := by rw [← e11]; exact cAdd_sz (by first | omega | (dsimp only [csz]; omega))
            refine Z.iconst C (v := (nI 1)) dX2_readFactor_113 (by decide) ?_
            refine Z.zret C hr hA dX2_readFactor_114 (b := true) rfl ?_ ?_
            · first | (simp [mFac, rC, (eq_false c1), (eq_false c2), (eq_false c5), (eq_false c8), e9, c10, e11]; done) | (simp_all [mFac, rC]; done)
            · (refine congrArg (wR aR aT aC aK aF aS cC cI tx len) ?_; first | (simp [mFac, rC, (eq_false c1), (eq_false c2), (eq_false c5), (eq_false c8), e9, c10, e11]; done) | (simp_all [mFac, rC]; done))
          · skip
            replace c10 : x9.1 = false := b2i_0.mp c10
            refine Z.iconst C (v := (nI 0)) dX2_readFactor_97 (by decide) ?_
            refine Z.zret C hr hA dX2_readFactor_98 (b := false) rfl ?_ ?_
            · first | (simp [mFac, rC, (eq_false c1), (eq_false c2), (eq_false c5), (eq_false c8), e9, c10]; done) | (simp_all [mFac, rC]; done)
            · (refine congrArg (wR aR aT aC aK aF aS cC cI tx len) ?_; first | (simp [mFac, rC, (eq_false c1), (eq_false c2), (eq_false c5), (eq_false c8), e9, c10]; done) | (simp_all [mFac, rC]; done))
        · skip
          replace c8 : (hereF tx len r.1) = (64 : Int32) := c8
          have c8l := here_lt c8 (by decide)
          refine Z.iload_n C dX2_readFactor_61 2 rfl rfl ?_
          refine Z.bipush C (v := (nI 12)) dX2_readFactor_62 (by decide) ?_
          refine Z.icmp_ge C 77 dX2_readFactor_64 (by decide) (fun c12 => ?_) (fun c12 => ?_)
          · skip
            replace c12 : ¬ ins < 12 := Nat.not_lt.mpr ((nI_leI (by omega) (by omega)).mp c12)
            exact absurd c12 (by omega)
          · skip
            replace c12 : ins < 12 := Nat.not_le.mp (mt (nI_leI (by omega) (by omega)).mpr c12)
            refine Z.aload_n C dX2_readFactor_67 1 rfl rfl ?_
            refine Z.iload_n C dX2_readFactor_68 2 rfl rfl ?_
            refine Z.iconst C (v := (nI 1)) dX2_readFactor_69 (by decide) ?_
            refine Z.iadd C (v := (nI (ins + 1))) dX2_readFactor_70 (nI_add ins 1) ?_
            refine Z.callVi C (nA := 1) (As := [.int (nI (ins + 1))]) (st := []) (hN r ⟨by first | omega | (dsimp only; omega), by omega, by first | omega | (dsimp only [csz]; omega), by first | omega | (dsimp only; omega)⟩ (by omega)) gX2_readFactor_X2_readNested rfl (by decide +kernel) (rm_ok (by omega) (by decide)) 0 rfl rfl rfl (Nat.le_of_ble_eq_true rfl) rfl dX2_readFactor_71 ?_
            generalize e13 : g r = x13
            refine Z.goto C 85 dX2_readFactor_74 (by decide) ?_
            refine Z.zret C hr hA dX2_readFactor_85 (b := x13.1) rfl ?_ ?_
            · first | (simp [mFac, rC, (eq_false c1), (eq_false c2), (eq_false c5), (eq_true c8), (eq_true c12), e13]; done) | (simp_all [mFac, rC]; done)
            · (refine congrArg (wR aR aT aC aK aF aS cC cI tx len) ?_; first | (simp [mFac, rC, (eq_false c1), (eq_false c2), (eq_false c5), (eq_true c8), (eq_true c12), e13]; done) | (simp_all [mFac, rC]; done))
  · skip
    replace c1 : (0 : Int32) ≤ (nameF (hereF tx len r.1)) := Int32.not_lt.mp c1
    have c1l := name_lt c1
    refine Z.aload_n C dX2_readFactor_12 1 rfl rfl ?_
    refine Z.dup C dX2_readFactor_13 rfl ?_
    refine Z.get C in2 0 rfl rfl 3 (by decide) (by decide +kernel) rfl rfl dX2_readFactor_14 ?_
    refine Z.iconst C (v := (nI 1)) dX2_readFactor_17 (by decide) ?_
    refine Z.iadd C (v := (nI (r.1 + 1))) dX2_readFactor_18 (nI_add r.1 1) ?_
    refine Z.put C in2 0 rfl rfl 3 (by decide) tyX2 tyX2_ok nmX2 (by decide +kernel) rfl rfl rfl rfl (Nat.le_of_ble_eq_true rfl) dX2_readFactor_19 (w' := (wR aR aT aC aK aF aS cC cI tx len (r.1 + 1, r.2))) rfl ?_
    refine Z.aload_n C dX2_readFactor_22 1 rfl rfl ?_
    refine Z.get C in2 0 rfl rfl 2 (by decide) (by decide +kernel) rfl rfl dX2_readFactor_23 ?_
    refine Z.iconst C (v := (nI 2)) dX2_readFactor_26 (by decide) ?_
    refine Z.iload_n C dX2_readFactor_27 0 rfl rfl ?_
    refine Z.iconst C (v := (nI 0)) dX2_readFactor_28 (by decide) ?_
    refine Z.callVNv C (nA := 3) (As := [.int (2 : Int32), .int (nameF (hereF tx len r.1)), .int (0 : Int32)]) (st := []) (host := "RoundCompiler") (c_add (r.1 + 1, r.2) (2 : Int32) (nameF (hereF tx len r.1)) (0 : Int32) ⟨by first | omega | (dsimp only; omega), by omega, by first | omega | (dsimp only [csz]; omega), by first | omega | (dsimp only; omega)⟩) gX2_readFactor_X0_add_n80 rfl (by decide +kernel) (by decide +kernel) (by decide +kernel) (by decide +kernel) (by decide +kernel) (rm_ok (by omega) (by decide)) 2 rfl rfl rfl (Nat.le_of_ble_eq_true rfl) rfl dX2_readFactor_29 ?_
    generalize e14 : cAdd (2 : Int32) (nameF (hereF tx len r.1)) (0 : Int32) r.2.2.2.2.2 = x14
    have b14 : x14.2.2.2.1 ≤ 480 := by rw [← e14]; exact cAdd_sz (by first | omega | (dsimp only [csz]; omega))
    refine Z.iconst C (v := (nI 1)) dX2_readFactor_32 (by decide) ?_
    refine Z.zret C hr hA dX2_readFactor_33 (b := true) rfl ?_ ?_
    · first | (simp [mFac, rC, (eq_true c1), e14]; done) | (simp_all [mFac, rC]; done)
    · (refine congrArg (wR aR aT aC aK aF aS cC cI tx len) ?_; first | (simp [mFac, rC, (eq_true c1), e14]; done) | (simp_all [mFac, rC]; done))
set_option maxHeartbeats 4000000 in
set_option maxRecDepth 100000 in
theorem c_factor0 {l : Launch} {D : va_G} {aR aT aC aK aF aS : Nat} {cC cI : ClassId} {tx : Nat → Int32} {len : Nat} (r : RS)  (hI : InvR len r) : Mi l yX2_readFactor wsX2_readFactor 8 D [(cC, .char), (cI, .int)] [.ref aR, .int (nI 12)] (wR aR aT aC aK aF aS cC cI tx len r) (b2i ((mFac tx len gRef r).1)) (wR aR aT aC aK aF aS cC cI tx len ((mFac tx len gRef r).2)) := by
  refine Mi.of (cc := cX2_readFactor) (maxL := 3) (by decide) rfl (Nat.le_of_ble_eq_true rfl) ?_
  intro p e s m below meth c A C hr hA
  have in2 : ∀ w ∈ wsX20, w ∈ wsX2_readFactor := by decide +kernel
  show Z p l e (rmN _) s m _ below meth c _ D A _ _ [(0, .ref aR), (1, .int (nI 12))] 0 []
  obtain ⟨hI1, hI2, hI3, hI4⟩ := hI
  dsimp only [csz] at hI3
  refine Z.aload_n C dX2_readFactor_0 0 rfl rfl ?_
  refine Z.callVi C (nA := 0) (As := []) (st := []) (c_here r ⟨by first | omega | (dsimp only; omega), by omega, by first | omega | (dsimp only [csz]; omega), by first | omega | (dsimp only; omega)⟩) gX2_readFactor_X2_here rfl (by decide +kernel) (rm_ok (by omega) (by decide)) 0 rfl rfl rfl (Nat.le_of_ble_eq_true rfl) rfl dX2_readFactor_1 ?_
  refine Z.callSi C (nA := 1) (As := [.int (hereF tx len r.1)]) (st := []) (c_nameOf (hereF tx len r.1)) gX2_readFactor_X2_nameOf rfl (by decide +kernel) (rm_ok (by omega) (by decide)) rfl (Nat.le_of_ble_eq_true rfl) rfl dX2_readFactor_4 ?_
  refine Z.istore_n C (lv' := [(2, .int (nameF (hereF tx len r.1))), (0, .ref aR), (1, .int (nI 12))]) dX2_readFactor_7 rfl (by decide) rfl ?_
  refine Z.iload_n C dX2_readFactor_8 0 rfl rfl ?_
  refine Z.if_lt C 34 dX2_readFactor_9 (by decide) (fun c1 => ?_) (fun c1 => ?_)
  · skip
    replace c1 : ¬ (0 : Int32) ≤ (nameF (hereF tx len r.1)) := Int32.not_le.mpr c1
    refine Z.aload_n C dX2_readFactor_34 1 rfl rfl ?_
    refine Z.callVi C (nA := 0) (As := []) (st := []) (c_here r ⟨by first | omega | (dsimp only; omega), by omega, by first | omega | (dsimp only [csz]; omega), by first | omega | (dsimp only; omega)⟩) gX2_readFactor_X2_here rfl (by decide +kernel) (rm_ok (by omega) (by decide)) 0 rfl rfl rfl (Nat.le_of_ble_eq_true rfl) rfl dX2_readFactor_35 ?_
    refine Z.bipush C (v := (nI 126)) dX2_readFactor_38 (by decide) ?_
    refine Z.icmp_eq C 61 dX2_readFactor_40 (by decide) (fun c2 => ?_) (fun c2 => ?_)
    · skip
      replace c2 : (hereF tx len r.1) = (126 : Int32) := c2
      have c2l := here_lt c2 (by decide)
      refine Z.iload_n C dX2_readFactor_61 2 rfl rfl ?_
      refine Z.bipush C (v := (nI 12)) dX2_readFactor_62 (by decide) ?_
      refine Z.icmp_ge C 77 dX2_readFactor_64 (by decide) (fun c3 => ?_) (fun c3 => ?_)
      · skip
        replace c3 : ¬ 12 < 12 := Nat.not_lt.mpr ((nI_leI (by omega) (by omega)).mp c3)
        refine Z.aload_n C dX2_readFactor_77 1 rfl rfl ?_
        refine Z.aload_n C dX2_readFactor_78 1 rfl rfl ?_
        refine Z.get C in2 0 rfl rfl 3 (by decide) (by decide +kernel) rfl rfl dX2_readFactor_79 ?_
        refine Z.callVi C (nA := 1) (As := [.int (nI r.1)]) (st := []) (c_refuse r r.1) gX2_readFactor_X2_refuse rfl (by decide +kernel) (rm_ok (by omega) (by decide)) 0 rfl rfl rfl (Nat.le_of_ble_eq_true rfl) rfl dX2_readFactor_82 ?_
        refine Z.zret C hr hA dX2_readFactor_85 (b := false) rfl ?_ ?_
        · first | (simp [mFac, gRef, rC, (eq_false c1), (eq_true c2), (eq_false c3)]; done) | (simp_all [mFac, gRef, rC]; done)
        · (refine congrArg (wR aR aT aC aK aF aS cC cI tx len) ?_; first | (simp [mFac, gRef, rC, (eq_false c1), (eq_true c2), (eq_false c3)]; done) | (simp_all [mFac, gRef, rC]; done))
      · skip
        replace c3 : 12 < 12 := Nat.not_le.mp (mt (nI_leI (by omega) (by omega)).mpr c3)
        exact absurd c3 (by decide)
    · skip
      replace c2 : ¬ (hereF tx len r.1) = (126 : Int32) := c2
      refine Z.aload_n C dX2_readFactor_43 1 rfl rfl ?_
      refine Z.callVi C (nA := 0) (As := []) (st := []) (c_here r ⟨by first | omega | (dsimp only; omega), by omega, by first | omega | (dsimp only [csz]; omega), by first | omega | (dsimp only; omega)⟩) gX2_readFactor_X2_here rfl (by decide +kernel) (rm_ok (by omega) (by decide)) 0 rfl rfl rfl (Nat.le_of_ble_eq_true rfl) rfl dX2_readFactor_44 ?_
      refine Z.bipush C (v := (nI 40)) dX2_readFactor_47 (by decide) ?_
      refine Z.icmp_eq C 61 dX2_readFactor_49 (by decide) (fun c4 => ?_) (fun c4 => ?_)
      · skip
        replace c4 : (hereF tx len r.1) = (40 : Int32) := c4
        have c4l := here_lt c4 (by decide)
        refine Z.iload_n C dX2_readFactor_61 2 rfl rfl ?_
        refine Z.bipush C (v := (nI 12)) dX2_readFactor_62 (by decide) ?_
        refine Z.icmp_ge C 77 dX2_readFactor_64 (by decide) (fun c5 => ?_) (fun c5 => ?_)
        · skip
          replace c5 : ¬ 12 < 12 := Nat.not_lt.mpr ((nI_leI (by omega) (by omega)).mp c5)
          refine Z.aload_n C dX2_readFactor_77 1 rfl rfl ?_
          refine Z.aload_n C dX2_readFactor_78 1 rfl rfl ?_
          refine Z.get C in2 0 rfl rfl 3 (by decide) (by decide +kernel) rfl rfl dX2_readFactor_79 ?_
          refine Z.callVi C (nA := 1) (As := [.int (nI r.1)]) (st := []) (c_refuse r r.1) gX2_readFactor_X2_refuse rfl (by decide +kernel) (rm_ok (by omega) (by decide)) 0 rfl rfl rfl (Nat.le_of_ble_eq_true rfl) rfl dX2_readFactor_82 ?_
          refine Z.zret C hr hA dX2_readFactor_85 (b := false) rfl ?_ ?_
          · first | (simp [mFac, gRef, rC, (eq_false c1), (eq_false c2), (eq_true c4), (eq_false c5)]; done) | (simp_all [mFac, gRef, rC]; done)
          · (refine congrArg (wR aR aT aC aK aF aS cC cI tx len) ?_; first | (simp [mFac, gRef, rC, (eq_false c1), (eq_false c2), (eq_true c4), (eq_false c5)]; done) | (simp_all [mFac, gRef, rC]; done))
        · skip
          replace c5 : 12 < 12 := Nat.not_le.mp (mt (nI_leI (by omega) (by omega)).mpr c5)
          exact absurd c5 (by decide)
      · skip
        replace c4 : ¬ (hereF tx len r.1) = (40 : Int32) := c4
        refine Z.aload_n C dX2_readFactor_52 1 rfl rfl ?_
        refine Z.callVi C (nA := 0) (As := []) (st := []) (c_here r ⟨by first | omega | (dsimp only; omega), by omega, by first | omega | (dsimp only [csz]; omega), by first | omega | (dsimp only; omega)⟩) gX2_readFactor_X2_here rfl (by decide +kernel) (rm_ok (by omega) (by decide)) 0 rfl rfl rfl (Nat.le_of_ble_eq_true rfl) rfl dX2_readFactor_53 ?_
        refine Z.bipush C (v := (nI 64)) dX2_readFactor_56 (by decide) ?_
        refine Z.icmp_ne C 86 dX2_readFactor_58 (by decide) (fun c6 => ?_) (fun c6 => ?_)
        · skip
          replace c6 : ¬ (hereF tx len r.1) = (64 : Int32) := c6
          refine Z.aload_n C dX2_readFactor_86 1 rfl rfl ?_
          refine Z.lconst C (v := lN 0) dX2_readFactor_87 (by decide) ?_
          refine Z.ldc2 C (v := lN 4294967295) dX2_readFactor_88 (by decide +kernel) ?_
          refine Z.callVi C (nA := 2) (As := [.long (lN 0), .long (lN 4294967295)]) (st := []) (c_readNumber r 0 4294967295 ⟨by first | omega | (dsimp only; omega), by omega, by first | omega | (dsimp only [csz]; omega), by first | omega | (dsimp only; omega)⟩) gX2_readFactor_X2_readNumber rfl (by decide +kernel) (rm_ok (by omega) (by decide)) 0 rfl rfl rfl (Nat.le_of_ble_eq_true rfl) rfl dX2_readFactor_91 ?_
          generalize e7 : mNumber tx len 0 4294967295 r = x7
          have i7 : InvR len x7.2 := by rw [← e7]; exact mNumber_inv ⟨by first | omega | (dsimp only; omega), by omega, by first | omega | (dsimp only [csz]; omega), by first | omega | (dsimp only; omega)⟩
          obtain ⟨h17, h27, h37, h47⟩ := i7
          dsimp only [csz] at h37
          refine Z.if_ne C 99 dX2_readFactor_94 (by decide) (fun c8 => ?_) (fun c8 => ?_)
          · skip
            replace c8 : x7.1 = true := b2i_n0.mp c8
            refine Z.aload_n C dX2_readFactor_99 1 rfl rfl ?_
            refine Z.get C in2 0 rfl rfl 2 (by decide) (by decide +kernel) rfl rfl dX2_readFactor_100 ?_
            refine Z.iconst C (v := (nI 1)) dX2_readFactor_103 (by decide) ?_
            refine Z.aload_n C dX2_readFactor_104 1 rfl rfl ?_
            refine Z.get C in2 0 rfl rfl 5 (by decide) (by decide +kernel) rfl rfl dX2_readFactor_105 ?_
            refine Z.l2i C (v := (nI x7.2.2.2.1)) dX2_readFactor_108 (lN_i x7.2.2.2.1) ?_
            refine Z.iconst C (v := (nI 0)) dX2_readFactor_109 (by decide) ?_
            refine Z.callVNv C (nA := 3) (As := [.int (1 : Int32), .int (nI x7.2.2.2.1), .int (0 : Int32)]) (st := []) (host := "RoundCompiler") (c_add x7.2 (1 : Int32) (nI x7.2.2.2.1) (0 : Int32) ⟨by first | omega | (dsimp only; omega), by omega, by first | omega | (dsimp only [csz]; omega), by first | omega | (dsimp only; omega)⟩) gX2_readFactor_X0_add_n80 rfl (by decide +kernel) (by decide +kernel) (by decide +kernel) (by decide +kernel) (by decide +kernel) (rm_ok (by omega) (by decide)) 2 rfl rfl rfl (Nat.le_of_ble_eq_true rfl) rfl dX2_readFactor_110 ?_
            generalize e9 : cAdd (1 : Int32) (nI x7.2.2.2.1) (0 : Int32) x7.2.2.2.2.2.2 = x9
            have b9 : x9.2.2.2.1 ≤ 480 := by rw [← e9]; exact cAdd_sz (by first | omega | (dsimp only [csz]; omega))
            refine Z.iconst C (v := (nI 1)) dX2_readFactor_113 (by decide) ?_
            refine Z.zret C hr hA dX2_readFactor_114 (b := true) rfl ?_ ?_
            · first | (simp [mFac, gRef, rC, (eq_false c1), (eq_false c2), (eq_false c4), (eq_false c6), e7, c8, e9]; done) | (simp_all [mFac, gRef, rC]; done)
            · (refine congrArg (wR aR aT aC aK aF aS cC cI tx len) ?_; first | (simp [mFac, gRef, rC, (eq_false c1), (eq_false c2), (eq_false c4), (eq_false c6), e7, c8, e9]; done) | (simp_all [mFac, gRef, rC]; done))
          · skip
            replace c8 : x7.1 = false := b2i_0.mp c8
            refine Z.iconst C (v := (nI 0)) dX2_readFactor_97 (by decide) ?_
            refine Z.zret C hr hA dX2_readFactor_98 (b := false) rfl ?_ ?_
            · first | (simp [mFac, gRef, rC, (eq_false c1), (eq_false c2), (eq_false c4), (eq_false c6), e7, c8]; done) | (simp_all [mFac, gRef, rC]; done)
            · (refine congrArg (wR aR aT aC aK aF aS cC cI tx len) ?_; first | (simp [mFac, gRef, rC, (eq_false c1), (eq_false c2), (eq_false c4), (eq_false c6), e7, c8]; done) | (simp_all [mFac, gRef, rC]; done))
        · skip
          replace c6 : (hereF tx len r.1) = (64 : Int32) := c6
          have c6l := here_lt c6 (by decide)
          refine Z.iload_n C dX2_readFactor_61 2 rfl rfl ?_
          refine Z.bipush C (v := (nI 12)) dX2_readFactor_62 (by decide) ?_
          refine Z.icmp_ge C 77 dX2_readFactor_64 (by decide) (fun c10 => ?_) (fun c10 => ?_)
          · skip
            replace c10 : ¬ 12 < 12 := Nat.not_lt.mpr ((nI_leI (by omega) (by omega)).mp c10)
            refine Z.aload_n C dX2_readFactor_77 1 rfl rfl ?_
            refine Z.aload_n C dX2_readFactor_78 1 rfl rfl ?_
            refine Z.get C in2 0 rfl rfl 3 (by decide) (by decide +kernel) rfl rfl dX2_readFactor_79 ?_
            refine Z.callVi C (nA := 1) (As := [.int (nI r.1)]) (st := []) (c_refuse r r.1) gX2_readFactor_X2_refuse rfl (by decide +kernel) (rm_ok (by omega) (by decide)) 0 rfl rfl rfl (Nat.le_of_ble_eq_true rfl) rfl dX2_readFactor_82 ?_
            refine Z.zret C hr hA dX2_readFactor_85 (b := false) rfl ?_ ?_
            · first | (simp [mFac, gRef, rC, (eq_false c1), (eq_false c2), (eq_false c4), (eq_true c6), (eq_false c10)]; done) | (simp_all [mFac, gRef, rC]; done)
            · (refine congrArg (wR aR aT aC aK aF aS cC cI tx len) ?_; first | (simp [mFac, gRef, rC, (eq_false c1), (eq_false c2), (eq_false c4), (eq_true c6), (eq_false c10)]; done) | (simp_all [mFac, gRef, rC]; done))
          · skip
            replace c10 : 12 < 12 := Nat.not_le.mp (mt (nI_leI (by omega) (by omega)).mpr c10)
            exact absurd c10 (by decide)
  · skip
    replace c1 : (0 : Int32) ≤ (nameF (hereF tx len r.1)) := Int32.not_lt.mp c1
    have c1l := name_lt c1
    refine Z.aload_n C dX2_readFactor_12 1 rfl rfl ?_
    refine Z.dup C dX2_readFactor_13 rfl ?_
    refine Z.get C in2 0 rfl rfl 3 (by decide) (by decide +kernel) rfl rfl dX2_readFactor_14 ?_
    refine Z.iconst C (v := (nI 1)) dX2_readFactor_17 (by decide) ?_
    refine Z.iadd C (v := (nI (r.1 + 1))) dX2_readFactor_18 (nI_add r.1 1) ?_
    refine Z.put C in2 0 rfl rfl 3 (by decide) tyX2 tyX2_ok nmX2 (by decide +kernel) rfl rfl rfl rfl (Nat.le_of_ble_eq_true rfl) dX2_readFactor_19 (w' := (wR aR aT aC aK aF aS cC cI tx len (r.1 + 1, r.2))) rfl ?_
    refine Z.aload_n C dX2_readFactor_22 1 rfl rfl ?_
    refine Z.get C in2 0 rfl rfl 2 (by decide) (by decide +kernel) rfl rfl dX2_readFactor_23 ?_
    refine Z.iconst C (v := (nI 2)) dX2_readFactor_26 (by decide) ?_
    refine Z.iload_n C dX2_readFactor_27 0 rfl rfl ?_
    refine Z.iconst C (v := (nI 0)) dX2_readFactor_28 (by decide) ?_
    refine Z.callVNv C (nA := 3) (As := [.int (2 : Int32), .int (nameF (hereF tx len r.1)), .int (0 : Int32)]) (st := []) (host := "RoundCompiler") (c_add (r.1 + 1, r.2) (2 : Int32) (nameF (hereF tx len r.1)) (0 : Int32) ⟨by first | omega | (dsimp only; omega), by omega, by first | omega | (dsimp only [csz]; omega), by first | omega | (dsimp only; omega)⟩) gX2_readFactor_X0_add_n80 rfl (by decide +kernel) (by decide +kernel) (by decide +kernel) (by decide +kernel) (by decide +kernel) (rm_ok (by omega) (by decide)) 2 rfl rfl rfl (Nat.le_of_ble_eq_true rfl) rfl dX2_readFactor_29 ?_
    generalize e11 : cAdd (2 : Int32) (nameF (hereF tx len r.1)) (0 : Int32) r.2.2.2.2.2 = x11
    have b11 : x11.2.2.2.1 ≤ 480 := by rw [← e11]; exact cAdd_sz (by first | omega | (dsimp only [csz]; omega))
    refine Z.iconst C (v := (nI 1)) dX2_readFactor_32 (by decide) ?_
    refine Z.zret C hr hA dX2_readFactor_33 (b := true) rfl ?_ ?_
    · first | (simp [mFac, gRef, rC, (eq_true c1), e11]; done) | (simp_all [mFac, gRef, rC]; done)
    · (refine congrArg (wR aR aT aC aK aF aS cC cI tx len) ?_; first | (simp [mFac, gRef, rC, (eq_true c1), e11]; done) | (simp_all [mFac, gRef, rC]; done))
