set_option maxHeartbeats 4000000 in
set_option maxRecDepth 100000 in
theorem c_byteOf {l : Launch} {D : va_G} (p0 : Int64) (p1 : Nat) : Mi l yX3_byteOf wsX3_byteOf 0 D [] [.long p0, .int (nI p1)] [] (byC p0 p1) [] := by
  refine Mi.of (cc := cX3_byteOf) (maxL := 3) (by decide) rfl (Nat.le_of_ble_eq_true rfl) ?_
  intro p e s m below meth c A C hr hA
  show Z p l e (rmN _) s m _ below meth c _ D A _ _ [(0, .long p0), (2, .int (nI p1))] 0 []
  refine Z.lload_n C dX3_byteOf_0 0 rfl rfl ?_
  refine Z.bipush C (v := (nI 8)) dX3_byteOf_1 (by decide) ?_
  refine Z.iload_n C dX3_byteOf_3 1 rfl rfl ?_
  refine Z.imul C (v := (nI (8 * p1))) dX3_byteOf_4 (pk_mul 8 p1) ?_
  refine Z.lushr C (v := ((p0.toUInt64 >>> ((nI (8 * p1)).toInt64.toUInt64 &&& Int64.toUInt64 63)).toInt64)) dX3_byteOf_5 rfl ?_
  refine Z.l2i C (v := (((p0.toUInt64 >>> ((nI (8 * p1)).toInt64.toUInt64 &&& Int64.toUInt64 63)).toInt64).toInt32)) dX3_byteOf_6 rfl ?_
  refine Z.sipush C (v := (nI 255)) dX3_byteOf_7 (by decide) ?_
  refine Z.iand C (v := (byC p0 p1)) dX3_byteOf_10 rfl ?_
  refine Z.iret C hr hA dX3_byteOf_11 ?_ ?_
  · rfl
  · rfl
set_option maxHeartbeats 4000000 in
set_option maxRecDepth 100000 in
theorem c_append {l : Launch} {D : va_G} {aR aT aC aK aF aS : Nat} {cC cI : ClassId} {tx : Nat → Int32} {len : Nat} {r : RS} (p0 : Int32) (hL : len ≤ 480) (hp : (p0.toUInt32 % 65536).toInt32 = p0) : Mv l yX2_append wsX2_append 1 D [(cC, .char), (cI, .int)] [.ref aR, .int p0] (wR aR aT aC aK aF aS cC cI tx len r) (wR aR aT aC aK aF aS cC cI (apT p0 (tx, len)).1 (apT p0 (tx, len)).2 r) := by
  refine Mv.of (cc := cX2_append) (maxL := 2) (by decide) rfl (Nat.le_of_ble_eq_true rfl) ?_
  intro p e s m below meth c A C hr hA
  have in2 : ∀ w ∈ wsX20, w ∈ wsX2_append := by decide +kernel
  show Z p l e (rmN _) s m _ below meth c _ D A _ _ [(0, .ref aR), (1, .int p0)] 0 []
  refine Z.aload_n C dX2_append_0 0 rfl rfl ?_
  refine Z.get C in2 0 rfl rfl 1 (by decide) (by decide +kernel) rfl rfl dX2_append_1 ?_
  refine Z.aload_n C dX2_append_4 0 rfl rfl ?_
  refine Z.get C in2 0 rfl rfl 0 (by decide) (by decide +kernel) rfl rfl dX2_append_5 ?_
  refine Z.alen C 1 0 rfl rfl (v := nI 480) rfl dX2_append_8 ?_
  refine Z.icmp_ge C 33 dX2_append_9 (by decide) (fun c1 => ?_) (fun c1 => ?_)
  · skip
    replace c1 : ¬ len < 480 := Nat.not_lt.mpr ((nI_leI (by omega) (by omega)).mp c1)
    refine Z.vret C hr hA dX2_append_33 ?_
    (refine congrArg (fun z : (Nat → Int32) × Nat => wR aR aT aC aK aF aS cC cI z.1 z.2 r) (a₁ := (tx, len)) (a₂ := apT p0 (tx, len)) ?_; simp [apT, (eq_false c1)])
  · skip
    replace c1 : len < 480 := Nat.not_le.mp (mt (nI_leI (by omega) (by omega)).mpr c1)
    refine Z.aload_n C dX2_append_12 0 rfl rfl ?_
    refine Z.get C in2 0 rfl rfl 0 (by decide) (by decide +kernel) rfl rfl dX2_append_13 ?_
    refine Z.aload_n C dX2_append_16 0 rfl rfl ?_
    refine Z.get C in2 0 rfl rfl 1 (by decide) (by decide +kernel) rfl rfl dX2_append_17 ?_
    refine Z.iload_n C dX2_append_20 1 rfl rfl ?_
    refine Z.i2c C (v := p0) dX2_append_21 hp ?_
    refine Z.cast C 1 0 rfl rfl len rfl (by omega) (by decide) dX2_append_22 (v := p0) (by rw [← hp]; exact pk_vc p0) (w' := (wR aR aT aC aK aF aS cC cI (upd tx len p0) len r)) rfl ?_
    refine Z.aload_n C dX2_append_23 0 rfl rfl ?_
    refine Z.dup C dX2_append_24 rfl ?_
    refine Z.get C in2 0 rfl rfl 1 (by decide) (by decide +kernel) rfl rfl dX2_append_25 ?_
    refine Z.iconst C (v := (nI 1)) dX2_append_28 (by decide) ?_
    refine Z.iadd C (v := (nI (len + 1))) dX2_append_29 (nI_add len 1) ?_
    refine Z.put C in2 0 rfl rfl 1 (by decide) tyX2 tyX2_ok nmX2 (by decide +kernel) rfl rfl rfl rfl (Nat.le_of_ble_eq_true rfl) dX2_append_30 (w' := (wR aR aT aC aK aF aS cC cI (upd tx len p0) (len + 1) r)) rfl ?_
    refine Z.vret C hr hA dX2_append_33 ?_
    (refine congrArg (fun z : (Nat → Int32) × Nat => wR aR aT aC aK aF aS cC cI z.1 z.2 r) (a₁ := ((upd tx len p0), len + 1)) (a₂ := apT p0 (tx, len)) ?_; simp [apT, (eq_true c1)])
set_option maxHeartbeats 4000000 in
set_option maxRecDepth 100000 in
theorem c_writeX {l : Launch} {D : va_G} {aO aR aT aC aK aF aS aM aA aB aV aN aX bC bK bF bS : Nat} {cC cI : ClassId} {rdy : Bool} {tx : Nat → Int32} {len : Nat} {r : RS} {K F S : Nat → Int32} {sz stm ops : Nat} {g : MS} (p0 : Int64) (hL : len ≤ 480) : Mi l yX3_write wsX3_write 3 D [(cC, .char), (cI, .int)] [.ref aO, .long p0] (wX aO aR aT aC aK aF aS aM aA aB aV aN aX bC bK bF bS cC cI rdy tx len r K F S sz stm ops g) (b2i ((mWrite p0 (tx, len)).1)) (wX aO aR aT aC aK aF aS aM aA aB aV aN aX bC bK bF bS cC cI rdy (mWrite p0 (tx, len)).2.1 (mWrite p0 (tx, len)).2.2 r K F S sz stm ops g) := by
  refine Mi.of (cc := cX3_write) (maxL := 6) (by decide) rfl (Nat.le_of_ble_eq_true rfl) ?_
  intro p e s m below meth c A C hr hA
  have in2 : ∀ w ∈ wsX20, w ∈ wsX3_write := by decide +kernel
  have in3 : ∀ w ∈ wsX30, w ∈ wsX3_write := by decide +kernel
  show Z p l e (rmN _) s m _ below meth c _ D A _ _ [(0, .ref aO), (1, .long p0)] 0 []
  refine Z.iconst C (v := (nI 0)) dX3_write_0 (by decide) ?_
  refine Z.istore_n C (lv' := [(3, .int (nI 0)), (0, .ref aO), (1, .long p0)]) dX3_write_1 rfl (by decide) rfl ?_
  refine Z.iconst C (v := (nI 0)) dX3_write_2 (by decide) ?_
  refine Z.istore C (lv' := [(4, .int (nI 0)), (3, .int (nI 0)), (0, .ref aO), (1, .long p0)]) dX3_write_3 (by decide) rfl ?_
  have key5 : ∀ (n : Nat) (k ad : Nat), k + n = 8 → ad ≤ k → cw1 p0 8 0 0 = cw1 p0 n k ad → Z p l e (rmN 3) s m ([.ref aO, .long p0] : List Value).toArray below meth c 6 D A (QI below D [(cC, .char), (cI, .int)] [.ref aO, .long p0] (wX aO aR aT aC aK aF aS aM aA aB aV aN aX bC bK bF bS cC cI rdy tx len r K F S sz stm ops g) (b2i ((mWrite p0 (tx, len)).1)) (wX aO aR aT aC aK aF aS aM aA aB aV aN aX bC bK bF bS cC cI rdy (mWrite p0 (tx, len)).2.1 (mWrite p0 (tx, len)).2.2 r K F S sz stm ops g) s) (wX aO aR aT aC aK aF aS aM aA aB aV aN aX bC bK bF bS cC cI rdy tx len r K F S sz stm ops g) [(4, .int (nI k)), (3, .int (nI ad)), (0, .ref aO), (1, .long p0)] 5 [] := by
    intro n
    induction n with
    | zero =>
      intro k ad hn had hm5
      refine Z.iload C dX3_write_5 0 rfl ?_
      refine Z.bipush C (v := (nI 8)) dX3_write_7 (by decide) ?_
      refine Z.icmp_ge C 50 dX3_write_9 (by decide) (fun c1 => ?_) (fun c1 => ?_)
      · skip
        replace c1 : ¬ k < 8 := Nat.not_lt.mpr ((nI_leI (by omega) (by omega)).mp c1)
        refine Z.iload_n C dX3_write_50 1 rfl rfl ?_
        refine Z.sipush C (v := (nI 480)) dX3_write_51 (by decide) ?_
        refine Z.aload_n C dX3_write_54 2 rfl rfl ?_
        refine Z.get C in3 0 rfl rfl 0 (by decide) (by decide +kernel) rfl rfl dX3_write_55 ?_
        refine Z.getN C (host := "RoundCompiler") in2 1 rfl rfl 1 (by decide) (by decide +kernel) rfl rfl dX3_write_58 ?_
        refine Z.isub C (v := (nI (480 - len))) dX3_write_61 (pk_sub (a := 480) (b := len) (by omega)) ?_
        refine Z.icmp_le C 67 dX3_write_62 (by decide) (fun c2 => ?_) (fun c2 => ?_)
        · skip
          replace c2 : ¬ (480 - len) < ad := Nat.not_lt.mpr ((nI_leI (by omega) (by omega)).mp c2)
          refine Z.iconst C (v := (nI 0)) dX3_write_67 (by decide) ?_
          refine Z.istore C (lv' := [(4, .int (nI 0)), (3, .int (nI ad)), (0, .ref aO), (1, .long p0)]) dX3_write_68 (by decide) rfl ?_
          have key70 : ∀ (n : Nat) (k : Nat) (t : (Nat → Int32) × Nat), k + n = 8 → t.2 ≤ 480 → mWrite p0 (tx, len) = (true, cw2 p0 n k t) → Z p l e (rmN 3) s m ([.ref aO, .long p0] : List Value).toArray below meth c 6 D A (QI below D [(cC, .char), (cI, .int)] [.ref aO, .long p0] (wX aO aR aT aC aK aF aS aM aA aB aV aN aX bC bK bF bS cC cI rdy tx len r K F S sz stm ops g) (b2i ((mWrite p0 (tx, len)).1)) (wX aO aR aT aC aK aF aS aM aA aB aV aN aX bC bK bF bS cC cI rdy (mWrite p0 (tx, len)).2.1 (mWrite p0 (tx, len)).2.2 r K F S sz stm ops g) s) (wX aO aR aT aC aK aF aS aM aA aB aV aN aX bC bK bF bS cC cI rdy t.1 t.2 r K F S sz stm ops g) [(4, .int (nI k)), (0, .ref aO), (1, .long p0)] 70 [] := by
            intro n
            induction n with
            | zero =>
              intro k t hn ht hm70
              refine Z.iload C dX3_write_70 0 rfl ?_
              refine Z.bipush C (v := (nI 8)) dX3_write_72 (by decide) ?_
              refine Z.icmp_ge C 105 dX3_write_74 (by decide) (fun c3 => ?_) (fun c3 => ?_)
              · skip
                replace c3 : ¬ k < 8 := Nat.not_lt.mpr ((nI_leI (by omega) (by omega)).mp c3)
                refine Z.iconst C (v := (nI 1)) dX3_write_105 (by decide) ?_
                refine Z.zret C hr hA dX3_write_106 (b := true) rfl ?_ ?_
                · (rw [hm70]; try rfl)
                · (refine congrArg (fun z : (Nat → Int32) × Nat => wX aO aR aT aC aK aF aS aM aA aB aV aN aX bC bK bF bS cC cI rdy z.1 z.2 r K F S sz stm ops g) (a₁ := (t.1, t.2)) (a₂ := (mWrite p0 (tx, len)).2) ?_; (rw [hm70]; try rfl))
              · skip
                replace c3 : k < 8 := Nat.not_le.mp (mt (nI_leI (by omega) (by omega)).mpr c3)
                exact absurd c3 (by omega)
            | succ n ih70 =>
              intro k t hn ht hm70
              refine Z.iload C dX3_write_70 0 rfl ?_
              refine Z.bipush C (v := (nI 8)) dX3_write_72 (by decide) ?_
              refine Z.icmp_ge C 105 dX3_write_74 (by decide) (fun c4 => ?_) (fun c4 => ?_)
              · skip
                replace c4 : ¬ k < 8 := Nat.not_lt.mpr ((nI_leI (by omega) (by omega)).mp c4)
                exact absurd c4 (by omega)
              · skip
                replace c4 : k < 8 := Nat.not_le.mp (mt (nI_leI (by omega) (by omega)).mpr c4)
                refine Z.lload_n C dX3_write_77 2 rfl rfl ?_
                refine Z.iload C dX3_write_78 0 rfl ?_
                refine Z.callSi C (nA := 2) (As := [.long p0, .int (nI k)]) (st := []) (c_byteOf p0 k) gX3_write_X3_byteOf rfl (by decide +kernel) (rm_ok (by omega) (by decide)) rfl (Nat.le_of_ble_eq_true rfl) rfl dX3_write_80 ?_
                refine Z.istore C (lv' := [(5, .int (byC p0 k)), (4, .int (nI k)), (0, .ref aO), (1, .long p0)]) dX3_write_83 (by decide) rfl ?_
                refine Z.iload C dX3_write_85 0 rfl ?_
                refine Z.if_eq C 99 dX3_write_87 (by decide) (fun c5 => ?_) (fun c5 => ?_)
                · skip
                  replace c5 : (byC p0 k) = (0 : Int32) := c5
                  refine Z.iinc C (v := (nI (k + 1))) (lv' := [(4, .int (nI (k + 1))), (5, .int (byC p0 k)), (0, .ref aO), (1, .long p0)]) dX3_write_99 1 rfl (nI_add k 1) (by decide) rfl ?_
                  refine Z.goto C 70 dX3_write_102 (by decide) ?_
                  refine Z.sub [0, 2, 3] rfl ?_
                  exact ih70 (k + 1) t (by omega) ht (by rw [hm70, cw2]; simp [(eq_true c5)])
                · skip
                  replace c5 : ¬ (byC p0 k) = (0 : Int32) := c5
                  refine Z.aload_n C dX3_write_90 2 rfl rfl ?_
                  refine Z.get C in3 0 rfl rfl 0 (by decide) (by decide +kernel) rfl rfl dX3_write_91 ?_
                  refine Z.iload C dX3_write_94 0 rfl ?_
                  refine Z.callVNv C (nA := 1) (As := [.int (byC p0 k)]) (st := []) (host := "RoundCompiler") (frMvR (c_append (r := r) (tx := t.1) (len := t.2) (byC p0 k) (by omega) (byC_c _ _))) gX3_write_X2_append_n42 rfl (by decide +kernel) (by decide +kernel) (by decide +kernel) (by decide +kernel) (by decide +kernel) (rm_ok (by omega) (by decide)) 1 rfl rfl rfl (Nat.le_of_ble_eq_true rfl) rfl dX3_write_96 ?_
                  generalize e6 : apT (byC p0 k) (t.1, t.2) = x6
                  refine Z.iinc C (v := (nI (k + 1))) (lv' := [(4, .int (nI (k + 1))), (5, .int (byC p0 k)), (0, .ref aO), (1, .long p0)]) dX3_write_99 1 rfl (nI_add k 1) (by decide) rfl ?_
                  refine Z.goto C 70 dX3_write_102 (by decide) ?_
                  refine Z.sub [0, 2, 3] rfl ?_
                  exact ih70 (k + 1) (x6.1, x6.2) (by omega) (by rw [← e6]; exact apT_le ht) (by rw [hm70, cw2]; simp [(eq_false c5), e6])
          refine Z.sub [0, 2, 3] rfl ?_
          exact key70 8 0 (tx, len) (by omega) hL (by rw [mWrite, hm5]; simp [cw1, (eq_false c2)])
        · skip
          replace c2 : (480 - len) < ad := Nat.not_le.mp (mt (nI_leI (by omega) (by omega)).mpr c2)
          refine Z.iconst C (v := (nI 0)) dX3_write_65 (by decide) ?_
          refine Z.zret C hr hA dX3_write_66 (b := false) rfl ?_ ?_
          · (rw [mWrite, hm5]; simp [cw1, (eq_true c2)])
          · (refine congrArg (fun z : (Nat → Int32) × Nat => wX aO aR aT aC aK aF aS aM aA aB aV aN aX bC bK bF bS cC cI rdy z.1 z.2 r K F S sz stm ops g) (a₁ := (tx, len)) (a₂ := (mWrite p0 (tx, len)).2) ?_; (rw [mWrite, hm5]; simp [cw1, (eq_true c2)]))
      · skip
        replace c1 : k < 8 := Nat.not_le.mp (mt (nI_leI (by omega) (by omega)).mpr c1)
        exact absurd c1 (by omega)
    | succ n ih5 =>
      intro k ad hn had hm5
      refine Z.iload C dX3_write_5 0 rfl ?_
      refine Z.bipush C (v := (nI 8)) dX3_write_7 (by decide) ?_
      refine Z.icmp_ge C 50 dX3_write_9 (by decide) (fun c7 => ?_) (fun c7 => ?_)
      · skip
        replace c7 : ¬ k < 8 := Nat.not_lt.mpr ((nI_leI (by omega) (by omega)).mp c7)
        exact absurd c7 (by omega)
      · skip
        replace c7 : k < 8 := Nat.not_le.mp (mt (nI_leI (by omega) (by omega)).mpr c7)
        refine Z.lload_n C dX3_write_12 3 rfl rfl ?_
        refine Z.iload C dX3_write_13 0 rfl ?_
        refine Z.callSi C (nA := 2) (As := [.long p0, .int (nI k)]) (st := []) (c_byteOf p0 k) gX3_write_X3_byteOf rfl (by decide +kernel) (rm_ok (by omega) (by decide)) rfl (Nat.le_of_ble_eq_true rfl) rfl dX3_write_15 ?_
        refine Z.istore C (lv' := [(5, .int (byC p0 k)), (4, .int (nI k)), (3, .int (nI ad)), (0, .ref aO), (1, .long p0)]) dX3_write_18 (by decide) rfl ?_
        refine Z.iload C dX3_write_20 0 rfl ?_
        refine Z.if_eq C 44 dX3_write_22 (by decide) (fun c8 => ?_) (fun c8 => ?_)
        · skip
          replace c8 : (byC p0 k) = (0 : Int32) := c8
          refine Z.iinc C (v := (nI (k + 1))) (lv' := [(4, .int (nI (k + 1))), (5, .int (byC p0 k)), (3, .int (nI ad)), (0, .ref aO), (1, .long p0)]) dX3_write_44 1 rfl (nI_add k 1) (by decide) rfl ?_
          refine Z.goto C 5 dX3_write_47 (by decide) ?_
          refine Z.sub [0, 2, 3, 4] rfl ?_
          exact ih5 (k + 1) ad (by omega) (by omega) (by rw [hm5, cw1]; simp [(eq_true c8)])
        · skip
          replace c8 : ¬ (byC p0 k) = (0 : Int32) := c8
          refine Z.iload C dX3_write_25 0 rfl ?_
          refine Z.bipush C (v := (nI 33)) dX3_write_27 (by decide) ?_
          refine Z.icmp_lt C 39 dX3_write_29 (by decide) (fun c9 => ?_) (fun c9 => ?_)
          · skip
            replace c9 : ¬ (33 : Int32) ≤ (byC p0 k) := Int32.not_le.mpr c9
            refine Z.iconst C (v := (nI 0)) dX3_write_39 (by decide) ?_
            refine Z.zret C hr hA dX3_write_40 (b := false) rfl ?_ ?_
            · (rw [mWrite, hm5]; simp [cw1, (eq_false c8), (eq_false c9)])
            · (refine congrArg (fun z : (Nat → Int32) × Nat => wX aO aR aT aC aK aF aS aM aA aB aV aN aX bC bK bF bS cC cI rdy z.1 z.2 r K F S sz stm ops g) (a₁ := (tx, len)) (a₂ := (mWrite p0 (tx, len)).2) ?_; (rw [mWrite, hm5]; simp [cw1, (eq_false c8), (eq_false c9)]))
          · skip
            replace c9 : (33 : Int32) ≤ (byC p0 k) := Int32.not_lt.mp c9
            refine Z.iload C dX3_write_32 0 rfl ?_
            refine Z.bipush C (v := (nI 126)) dX3_write_34 (by decide) ?_
            refine Z.icmp_le C 41 dX3_write_36 (by decide) (fun c10 => ?_) (fun c10 => ?_)
            · skip
              replace c10 : (byC p0 k) ≤ (126 : Int32) := c10
              refine Z.iinc C (v := (nI (ad + 1))) (lv' := [(3, .int (nI (ad + 1))), (5, .int (byC p0 k)), (4, .int (nI k)), (0, .ref aO), (1, .long p0)]) dX3_write_41 2 rfl (nI_add ad 1) (by decide) rfl ?_
              refine Z.iinc C (v := (nI (k + 1))) (lv' := [(4, .int (nI (k + 1))), (3, .int (nI (ad + 1))), (5, .int (byC p0 k)), (0, .ref aO), (1, .long p0)]) dX3_write_44 2 rfl (nI_add k 1) (by decide) rfl ?_
              refine Z.goto C 5 dX3_write_47 (by decide) ?_
              refine Z.sub [0, 1, 3, 4] rfl ?_
              exact ih5 (k + 1) (ad + 1) (by omega) (by omega) (by rw [hm5, cw1]; simp [(eq_false c8), (eq_true c9), (eq_true c10)])
            · skip
              replace c10 : ¬ (byC p0 k) ≤ (126 : Int32) := c10
              refine Z.iconst C (v := (nI 0)) dX3_write_39 (by decide) ?_
              refine Z.zret C hr hA dX3_write_40 (b := false) rfl ?_ ?_
              · (rw [mWrite, hm5]; simp [cw1, (eq_false c8), (eq_true c9), (eq_false c10)])
              · (refine congrArg (fun z : (Nat → Int32) × Nat => wX aO aR aT aC aK aF aS aM aA aB aV aN aX bC bK bF bS cC cI rdy z.1 z.2 r K F S sz stm ops g) (a₁ := (tx, len)) (a₂ := (mWrite p0 (tx, len)).2) ?_; (rw [mWrite, hm5]; simp [cw1, (eq_false c8), (eq_true c9), (eq_false c10)]))
  refine Z.sub [0, 1, 2, 3] rfl ?_
  exact key5 8 0 0 (by omega) (by omega) rfl
set_option maxHeartbeats 4000000 in
set_option maxRecDepth 100000 in
theorem c_wipeX {l : Launch} {D : va_G} {aO aR aT aC aK aF aS aM aA aB aV aN aX bC bK bF bS : Nat} {cC cI : ClassId} {rdy : Bool} {tx : Nat → Int32} {len : Nat} {r : RS} {K F S : Nat → Int32} {sz stm ops : Nat} {g : MS}   : Mv l yX3_wipe wsX3_wipe 1 D [(cC, .char), (cI, .int)] [.ref aO] (wX aO aR aT aC aK aF aS aM aA aB aV aN aX bC bK bF bS cC cI rdy tx len r K F S sz stm ops g) (wX aO aR aT aC aK aF aS aM aA aB aV aN aX bC bK bF bS cC cI rdy tx 0 r K F S sz stm ops g) := by
  refine Mv.of (cc := cX3_wipe) (maxL := 1) (by decide) rfl (Nat.le_of_ble_eq_true rfl) ?_
  intro p e s m below meth c A C hr hA
  have in2 : ∀ w ∈ wsX20, w ∈ wsX3_wipe := by decide +kernel
  have in3 : ∀ w ∈ wsX30, w ∈ wsX3_wipe := by decide +kernel
  show Z p l e (rmN _) s m _ below meth c _ D A _ _ [(0, .ref aO)] 0 []
  refine Z.aload_n C dX3_wipe_0 0 rfl rfl ?_
  refine Z.get C in3 0 rfl rfl 0 (by decide) (by decide +kernel) rfl rfl dX3_wipe_1 ?_
  refine Z.iconst C (v := (nI 0)) dX3_wipe_4 (by decide) ?_
  refine Z.putN C (host := "RoundCompiler") in2 1 rfl rfl 1 (by decide) tyX2 tyX2_ok nmX2 (by decide +kernel) rfl rfl rfl rfl (Nat.le_of_ble_eq_true rfl) dX3_wipe_5 (w' := (wX aO aR aT aC aK aF aS aM aA aB aV aN aX bC bK bF bS cC cI rdy tx 0 r K F S sz stm ops g)) rfl ?_
  refine Z.vret C hr hA dX3_wipe_8 ?_
  rfl
set_option maxHeartbeats 4000000 in
set_option maxRecDepth 100000 in
theorem c_faultX {l : Launch} {D : va_G} {aO aR aT aC aK aF aS aM aA aB aV aN aX bC bK bF bS : Nat} {cC cI : ClassId} {rdy : Bool} {tx : Nat → Int32} {len : Nat} {r : RS} {K F S : Nat → Int32} {sz stm ops : Nat} {g : MS}   : Mi l yX3_fault wsX3_fault 1 D [(cC, .char), (cI, .int)] [.ref aO] (wX aO aR aT aC aK aF aS aM aA aB aV aN aX bC bK bF bS cC cI rdy tx len r K F S sz stm ops g) (nI r.2.1) (wX aO aR aT aC aK aF aS aM aA aB aV aN aX bC bK bF bS cC cI rdy tx len r K F S sz stm ops g) := by
  refine Mi.of (cc := cX3_fault) (maxL := 1) (by decide) rfl (Nat.le_of_ble_eq_true rfl) ?_
  intro p e s m below meth c A C hr hA
  have in2 : ∀ w ∈ wsX20, w ∈ wsX3_fault := by decide +kernel
  have in3 : ∀ w ∈ wsX30, w ∈ wsX3_fault := by decide +kernel
  show Z p l e (rmN _) s m _ below meth c _ D A _ _ [(0, .ref aO)] 0 []
  refine Z.aload_n C dX3_fault_0 0 rfl rfl ?_
  refine Z.get C in3 0 rfl rfl 0 (by decide) (by decide +kernel) rfl rfl dX3_fault_1 ?_
  refine Z.getN C (host := "RoundCompiler") in2 1 rfl rfl 4 (by decide) (by decide +kernel) rfl rfl dX3_fault_4 ?_
  refine Z.iret C hr hA dX3_fault_7 ?_ ?_
  · rfl
  · rfl
set_option maxHeartbeats 4000000 in
set_option maxRecDepth 100000 in
theorem c_workX {l : Launch} {D : va_G} {aO aR aT aC aK aF aS aM aA aB aV aN aX bC bK bF bS : Nat} {cC cI : ClassId} {rdy : Bool} {tx : Nat → Int32} {len : Nat} {r : RS} {K F S : Nat → Int32} {sz stm ops : Nat} {g : MS}   : Mi l yX3_work wsX3_work 1 D [(cC, .char), (cI, .int)] [.ref aO] (wX aO aR aT aC aK aF aS aM aA aB aV aN aX bC bK bF bS cC cI rdy tx len r K F S sz stm ops g) (nI ops) (wX aO aR aT aC aK aF aS aM aA aB aV aN aX bC bK bF bS cC cI rdy tx len r K F S sz stm ops g) := by
  refine Mi.of (cc := cX3_work) (maxL := 1) (by decide) rfl (Nat.le_of_ble_eq_true rfl) ?_
  intro p e s m below meth c A C hr hA
  have in0 : ∀ w ∈ wsX00, w ∈ wsX3_work := by decide +kernel
  have in3 : ∀ w ∈ wsX30, w ∈ wsX3_work := by decide +kernel
  show Z p l e (rmN _) s m _ below meth c _ D A _ _ [(0, .ref aO)] 0 []
  refine Z.aload_n C dX3_work_0 0 rfl rfl ?_
  refine Z.get C in3 0 rfl rfl 2 (by decide) (by decide +kernel) rfl rfl dX3_work_1 ?_
  refine Z.getN C (host := "RoundCompiler") in0 13 rfl rfl 5 (by decide) (by decide +kernel) rfl rfl dX3_work_4 ?_
  refine Z.iret C hr hA dX3_work_7 ?_ ?_
  · rfl
  · rfl
set_option maxHeartbeats 4000000 in
set_option maxRecDepth 100000 in
theorem c_mixedX {l : Launch} {D : va_G} {aO aR aT aC aK aF aS aM aA aB aV aN aX bC bK bF bS : Nat} {cC cI : ClassId} {rdy : Bool} {tx : Nat → Int32} {len : Nat} {r : RS} {K F S : Nat → Int32} {sz stm ops : Nat} {g : MS}   : Mi l yX3_mixed wsX3_mixed 1 D [(cC, .char), (cI, .int)] [.ref aO] (wX aO aR aT aC aK aF aS aM aA aB aV aN aX bC bK bF bS cC cI rdy tx len r K F S sz stm ops g) (mixL g.1 192 0 (nI 0)) (wX aO aR aT aC aK aF aS aM aA aB aV aN aX bC bK bF bS cC cI rdy tx len r K F S sz stm ops g) := by
  refine Mi.of (cc := cX3_mixed) (maxL := 3) (by decide) rfl (Nat.le_of_ble_eq_true rfl) ?_
  intro p e s m below meth c A C hr hA
  have in1 : ∀ w ∈ wsX10, w ∈ wsX3_mixed := by decide +kernel
  have in3 : ∀ w ∈ wsX30, w ∈ wsX3_mixed := by decide +kernel
  show Z p l e (rmN _) s m _ below meth c _ D A _ _ [(0, .ref aO)] 0 []
  refine Z.iconst C (v := (nI 0)) dX3_mixed_0 (by decide) ?_
  refine Z.istore_n C (lv' := [(1, .int (nI 0)), (0, .ref aO)]) dX3_mixed_1 rfl (by decide) rfl ?_
  refine Z.iconst C (v := (nI 0)) dX3_mixed_2 (by decide) ?_
  refine Z.istore_n C (lv' := [(2, .int (nI 0)), (1, .int (nI 0)), (0, .ref aO)]) dX3_mixed_3 rfl (by decide) rfl ?_
  have key4 : ∀ (n : Nat) (k : Nat) (sm : Int32), k + n = 192 → mixL g.1 192 0 (nI 0) = mixL g.1 n k sm → Z p l e (rmN 1) s m ([.ref aO] : List Value).toArray below meth c 3 D A (QI below D [(cC, .char), (cI, .int)] [.ref aO] (wX aO aR aT aC aK aF aS aM aA aB aV aN aX bC bK bF bS cC cI rdy tx len r K F S sz stm ops g) (mixL g.1 192 0 (nI 0)) (wX aO aR aT aC aK aF aS aM aA aB aV aN aX bC bK bF bS cC cI rdy tx len r K F S sz stm ops g) s) (wX aO aR aT aC aK aF aS aM aA aB aV aN aX bC bK bF bS cC cI rdy tx len r K F S sz stm ops g) [(2, .int (nI k)), (1, .int sm), (0, .ref aO)] 4 [] := by
    intro n
    induction n with
    | zero =>
      intro k sm hn hm4
      refine Z.iload_n C dX3_mixed_4 0 rfl rfl ?_
      refine Z.sipush C (v := (nI 192)) dX3_mixed_5 (by decide) ?_
      refine Z.icmp_ge C 38 dX3_mixed_8 (by decide) (fun c1 => ?_) (fun c1 => ?_)
      · skip
        replace c1 : ¬ k < 192 := Nat.not_lt.mpr ((nI_leI (by omega) (by omega)).mp c1)
        refine Z.iload_n C dX3_mixed_38 1 rfl rfl ?_
        refine Z.iret C hr hA dX3_mixed_39 ?_ ?_
        · (rw [hm4]; rfl)
        · rfl
      · skip
        replace c1 : k < 192 := Nat.not_le.mp (mt (nI_leI (by omega) (by omega)).mpr c1)
        exact absurd c1 (by omega)
    | succ n ih4 =>
      intro k sm hn hm4
      refine Z.iload_n C dX3_mixed_4 0 rfl rfl ?_
      refine Z.sipush C (v := (nI 192)) dX3_mixed_5 (by decide) ?_
      refine Z.icmp_ge C 38 dX3_mixed_8 (by decide) (fun c2 => ?_) (fun c2 => ?_)
      · skip
        replace c2 : ¬ k < 192 := Nat.not_lt.mpr ((nI_leI (by omega) (by omega)).mp c2)
        exact absurd c2 (by omega)
      · skip
        replace c2 : k < 192 := Nat.not_le.mp (mt (nI_leI (by omega) (by omega)).mpr c2)
        refine Z.iload_n C dX3_mixed_11 1 rfl rfl ?_
        refine Z.bipush C (v := (nI 60)) dX3_mixed_12 (by decide) ?_
        refine Z.aload_n C dX3_mixed_14 2 rfl rfl ?_
        refine Z.get C in3 0 rfl rfl 1 (by decide) (by decide +kernel) rfl rfl dX3_mixed_15 ?_
        refine Z.getN C (host := "RoundCompiler") in1 7 rfl rfl 0 (by decide) (by decide +kernel) rfl rfl dX3_mixed_18 ?_
        refine Z.iload_n C dX3_mixed_21 0 rfl rfl ?_
        refine Z.iald C 8 1 rfl rfl k rfl (by omega) (by decide) dX3_mixed_22 (v := (g.1 k)) rfl ?_
        refine Z.iload_n C dX3_mixed_23 0 rfl rfl ?_
        refine Z.bipush C (v := (nI 32)) dX3_mixed_24 (by decide) ?_
        refine Z.irem C (v := (nI (k % 32))) dX3_mixed_26 (by decide) (pk_rem (a := k) (d := 32) (by omega) (by decide) (by decide)) ?_
        refine Z.callSi C (nA := 3) (As := [.int (60 : Int32), .int (g.1 k), .int (nI (k % 32))]) (st := [.int sm]) (c_ofOne (60 : Int32) (g.1 k) (nI (k % 32))) gX3_mixed_X3_ofOne rfl (by decide +kernel) (rm_ok (by omega) (by decide)) rfl (Nat.le_of_ble_eq_true rfl) rfl dX3_mixed_27 ?_
        refine Z.ixor C (v := (sm ^^^ (ofOneF (60 : Int32) (g.1 k) (nI (k % 32))))) dX3_mixed_30 rfl ?_
        refine Z.istore_n C (lv' := [(1, .int (sm ^^^ (ofOneF (60 : Int32) (g.1 k) (nI (k % 32))))), (2, .int (nI k)), (0, .ref aO)]) dX3_mixed_31 rfl (by decide) rfl ?_
        refine Z.iinc C (v := (nI (k + 1))) (lv' := [(2, .int (nI (k + 1))), (1, .int (sm ^^^ (ofOneF (60 : Int32) (g.1 k) (nI (k % 32))))), (0, .ref aO)]) dX3_mixed_32 1 rfl (nI_add k 1) (by decide) rfl ?_
        refine Z.goto C 4 dX3_mixed_35 (by decide) ?_
        refine Z.sub [0, 1, 2] rfl ?_
        exact ih4 (k + 1) (sm ^^^ (ofOneF (60 : Int32) (g.1 k) (nI (k % 32)))) (by omega) (by rw [hm4]; rfl)
  refine Z.sub [0, 1, 2] rfl ?_
  exact key4 192 0 (nI 0) (by omega) rfl
