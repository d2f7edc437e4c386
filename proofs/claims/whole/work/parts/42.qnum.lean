set_option maxHeartbeats 4000000 in
set_option maxRecDepth 100000 in
theorem c_readNumberN {l : Launch} {D : va_G} {a : Nat → Nat} {cI cZ : ClassId} (o : OS) (q : QS) (p0 : Nat) (p1 : Nat) (hL : o.2.2.1 ≤ 480) (ha : q.2.1 ≤ 489) (hf : q.1 < 1000) : Mv l yX4_readNumber wsX4_readNumber 2 D [(cI, .int), (cZ, .boolean)] [.ref (a 0), .long (lN p0), .long (lN p1)] (wN a cI cZ o q) (wN a cI cZ o (qNumber o.2.1 o.2.2.1 p0 p1 q)) := by
  refine Mv.of (cc := cX4_readNumber) (maxL := 9) (by decide) rfl (Nat.le_of_ble_eq_true rfl) ?_
  intro p e s m below meth c A C hr hA
  have in4 : ∀ w ∈ wsX40, w ∈ wsX4_readNumber := by decide +kernel
  show Z p l e (rmN _) s m _ below meth c _ D A _ _ [(0, .ref (a 0)), (1, .long (lN p0)), (3, .long (lN p1))] 0 []
  refine Z.aload_n C dX4_readNumber_0 0 rfl rfl ?_
  refine Z.get C in4 0 rfl rfl 28 (by decide) (by decide +kernel) rfl rfl dX4_readNumber_1 ?_
  refine Z.istore C (lv' := [(5, .int (nI q.2.1)), (0, .ref (a 0)), (1, .long (lN p0)), (3, .long (lN p1))]) dX4_readNumber_4 (by decide) rfl ?_
  refine Z.iconst C (v := (nI 0)) dX4_readNumber_6 (by decide) ?_
  refine Z.istore C (lv' := [(6, .int (nI 0)), (5, .int (nI q.2.1)), (0, .ref (a 0)), (1, .long (lN p0)), (3, .long (lN p1))]) dX4_readNumber_7 (by decide) rfl ?_
  refine Z.aload_n C dX4_readNumber_9 2 rfl rfl ?_
  refine Z.lconst C (v := lN 0) dX4_readNumber_10 (by decide) ?_
  refine Z.put C in4 0 rfl rfl 29 (by decide) tyX4 tyX4_ok nmX4 (by decide +kernel) rfl rfl rfl rfl (Nat.le_of_ble_eq_true rfl) dX4_readNumber_11 (w' := (wN a cI cZ o (q.1, q.2.1, 0, q.2.2.2))) rfl ?_
  refine Z.aload_n C dX4_readNumber_14 2 rfl rfl ?_
  refine Z.callVi C (nA := 0) (As := []) (st := []) (c_hereN o (q.1, q.2.1, 0, q.2.2.2) (by first | omega | (dsimp only; omega)) (by first | omega | (dsimp only; omega))) gX4_readNumber_X4_here rfl (by decide +kernel) (rm_ok (by omega) (by decide)) 0 rfl rfl rfl (Nat.le_of_ble_eq_true rfl) rfl dX4_readNumber_15 ?_
  refine Z.bipush C (v := (nI 36)) dX4_readNumber_18 (by decide) ?_
  refine Z.icmp_ne C 27 dX4_readNumber_20 (by decide) (fun c1 => ?_) (fun c1 => ?_)
  · skip
    replace c1 : ¬ (hereN o.2.1 o.2.2.1 q.2.1) = (36 : Int32) := c1
    refine Z.iconst C (v := (nI 0)) dX4_readNumber_27 (by decide) ?_
    refine Z.istore C (lv' := [(7, .int (nI 0)), (6, .int (nI 0)), (5, .int (nI q.2.1)), (0, .ref (a 0)), (1, .long (lN p0)), (3, .long (lN p1))]) dX4_readNumber_28 (by decide) rfl ?_
    refine Z.iload C dX4_readNumber_30 0 rfl ?_
    refine Z.if_eq C 45 dX4_readNumber_32 (by decide) (fun c2 => ?_) (fun c2 => ?_)
    · skip
      replace c2 : 0 = 0 := (nI_eq (by omega) (by omega)).mp c2
      have key45 : ∀ (n : Nat) (dg : Nat) (q2 : QS), o.2.2.1 ≤ q2.2.1 + n → dg + n ≤ 1000 → q2.2.1 ≤ 490 ∧ q2.1 < 1000 → qNumber o.2.1 o.2.2.1 p0 p1 q = nLoop o.2.1 o.2.2.1 p0 p1 q.2.1 10 false n dg q2 → Z p l e (rmN 2) s m ([.ref (a 0), .long (lN p0), .long (lN p1)] : List Value).toArray below meth c 9 D A (QV below D [(cI, .int), (cZ, .boolean)] [.ref (a 0), .long (lN p0), .long (lN p1)] (wN a cI cZ o q) (wN a cI cZ o (qNumber o.2.1 o.2.2.1 p0 p1 q)) s) (wN a cI cZ o q2) [(6, .int (nI dg)), (7, .int (nI 0)), (5, .int (nI q.2.1)), (0, .ref (a 0)), (1, .long (lN p0)), (3, .long (lN p1))] 45 [] := by
        intro n
        induction n with
        | zero =>
          intro dg q2 hn hdg hat hm45
          obtain ⟨k1, k2⟩ := hat
          refine Z.aload_n C dX4_readNumber_45 3 rfl rfl ?_
          refine Z.callVi C (nA := 0) (As := []) (st := []) (c_hereN o q2 (by first | omega | (dsimp only; omega)) (by first | omega | (dsimp only; omega))) gX4_readNumber_X4_here rfl (by decide +kernel) (rm_ok (by omega) (by decide)) 0 rfl rfl rfl (Nat.le_of_ble_eq_true rfl) rfl dX4_readNumber_46 ?_
          refine Z.callSi C (nA := 1) (As := [.int (hereN o.2.1 o.2.2.1 q2.2.1)]) (st := []) (c_isDigit (hereN o.2.1 o.2.2.1 q2.2.1)) gX4_readNumber_X4_isDigit rfl (by decide +kernel) (rm_ok (by omega) (by decide)) rfl (Nat.le_of_ble_eq_true rfl) rfl dX4_readNumber_49 ?_
          refine Z.if_ne C 78 dX4_readNumber_52 (by decide) (fun c3 => ?_) (fun c3 => ?_)
          · skip
            replace c3 : isDigF (hereN o.2.1 o.2.2.1 q2.2.1) = true := b2i_n0.mp c3
            have c3l := digN_lt c3
            exact absurd c3l (by omega)
          · skip
            replace c3 : isDigF (hereN o.2.1 o.2.2.1 q2.2.1) = false := b2i_0.mp c3
            refine Z.iload C dX4_readNumber_55 1 rfl ?_
            refine Z.if_eq C 167 dX4_readNumber_57 (by decide) (fun c4 => ?_) (fun c4 => ?_)
            · skip
              replace c4 : 0 = 0 := (nI_eq (by omega) (by omega)).mp c4
              refine Z.iload C dX4_readNumber_167 0 rfl ?_
              refine Z.if_ne C 183 dX4_readNumber_169 (by decide) (fun c5 => ?_) (fun c5 => ?_)
              · skip
                replace c5 : ¬ dg = 0 := mt (nI_eq (by omega) (by omega)).mpr c5
                refine Z.iload C dX4_readNumber_183 0 rfl ?_
                refine Z.iload C dX4_readNumber_185 1 rfl ?_
                refine Z.if_eq C 195 dX4_readNumber_187 (by decide) (fun c6 => ?_) (fun c6 => ?_)
                · skip
                  replace c6 : 0 = 0 := (nI_eq (by omega) (by omega)).mp c6
                  refine Z.bipush C (v := (nI 10)) dX4_readNumber_195 (by decide) ?_
                  refine Z.icmp_gt C 218 dX4_readNumber_197 (by decide) (fun c7 => ?_) (fun c7 => ?_)
                  · skip
                    replace c7 : 10 < dg := (nI_ltI (by omega) (by omega)).mp c7
                    refine Z.aload_n C dX4_readNumber_218 3 rfl rfl ?_
                    refine Z.iload C dX4_readNumber_219 2 rfl ?_
                    refine Z.callVv C (nA := 1) (As := [.int (nI q.2.1)]) (st := []) (c_wrong o q2 q.2.1  (by first | omega | (dsimp only; omega))) gX4_readNumber_X4_wrong rfl (by decide +kernel) (rm_ok (by omega) (by decide)) 0 rfl rfl rfl (Nat.le_of_ble_eq_true rfl) rfl dX4_readNumber_221 ?_
                    have w8 : wrF q2.1 q.2.1 < 1000 := wrF_b (by first | omega | (dsimp only; omega)) (by first | omega | (dsimp only; omega))
                    refine Z.vret C hr hA dX4_readNumber_224 ?_
                    (refine congrArg (wN a cI cZ o) ?_; first | (rw [hm45]; simp [nLoop, nEnd, qWr, c3, (eq_true c4), (eq_false c5), (eq_true c6), (eq_true c7)]; done) | (rw [hm45]; simp_all [nLoop, nEnd, qWr]; done))
                  · skip
                    replace c7 : ¬ 10 < dg := mt (nI_ltI (by omega) (by omega)).mpr c7
                    refine Z.aload_n C dX4_readNumber_200 3 rfl rfl ?_
                    refine Z.get C in4 0 rfl rfl 29 (by decide) (by decide +kernel) rfl rfl dX4_readNumber_201 ?_
                    refine Z.lload_n C dX4_readNumber_204 4 rfl rfl ?_
                    refine Z.lcmp C (v := (lg_cmp (lN q2.2.2.1) (lN p0))) dX4_readNumber_205 rfl ?_
                    refine Z.if_lt C 218 dX4_readNumber_206 (by decide) (fun c9 => ?_) (fun c9 => ?_)
                    · skip
                      replace c9 : lN q2.2.2.1 < lN p0 := lgc_lt.mp c9
                      refine Z.aload_n C dX4_readNumber_218 3 rfl rfl ?_
                      refine Z.iload C dX4_readNumber_219 2 rfl ?_
                      refine Z.callVv C (nA := 1) (As := [.int (nI q.2.1)]) (st := []) (c_wrong o q2 q.2.1  (by first | omega | (dsimp only; omega))) gX4_readNumber_X4_wrong rfl (by decide +kernel) (rm_ok (by omega) (by decide)) 0 rfl rfl rfl (Nat.le_of_ble_eq_true rfl) rfl dX4_readNumber_221 ?_
                      have w10 : wrF q2.1 q.2.1 < 1000 := wrF_b (by first | omega | (dsimp only; omega)) (by first | omega | (dsimp only; omega))
                      refine Z.vret C hr hA dX4_readNumber_224 ?_
                      (refine congrArg (wN a cI cZ o) ?_; first | (rw [hm45]; simp [nLoop, nEnd, qWr, c3, (eq_true c4), (eq_false c5), (eq_true c6), (eq_false c7), (eq_true c9)]; done) | (rw [hm45]; simp_all [nLoop, nEnd, qWr]; done))
                    · skip
                      replace c9 : ¬ lN q2.2.2.1 < lN p0 := mt lgc_lt.mpr c9
                      refine Z.aload_n C dX4_readNumber_209 3 rfl rfl ?_
                      refine Z.get C in4 0 rfl rfl 29 (by decide) (by decide +kernel) rfl rfl dX4_readNumber_210 ?_
                      refine Z.lload_n C dX4_readNumber_213 5 rfl rfl ?_
                      refine Z.lcmp C (v := (lg_cmp (lN q2.2.2.1) (lN p1))) dX4_readNumber_214 rfl ?_
                      refine Z.if_le C 224 dX4_readNumber_215 (by decide) (fun c11 => ?_) (fun c11 => ?_)
                      · skip
                        replace c11 : ¬ lN p1 < lN q2.2.2.1 := lgc_le.mp c11
                        refine Z.vret C hr hA dX4_readNumber_224 ?_
                        (refine congrArg (wN a cI cZ o) ?_; first | (rw [hm45]; simp [nLoop, nEnd, qWr, c3, (eq_true c4), (eq_false c5), (eq_true c6), (eq_false c7), (eq_false c9), (eq_false c11)]; done) | (rw [hm45]; simp_all [nLoop, nEnd, qWr]; done))
                      · skip
                        replace c11 : lN p1 < lN q2.2.2.1 := Classical.not_not.mp (mt lgc_le.mpr c11)
                        refine Z.aload_n C dX4_readNumber_218 3 rfl rfl ?_
                        refine Z.iload C dX4_readNumber_219 2 rfl ?_
                        refine Z.callVv C (nA := 1) (As := [.int (nI q.2.1)]) (st := []) (c_wrong o q2 q.2.1  (by first | omega | (dsimp only; omega))) gX4_readNumber_X4_wrong rfl (by decide +kernel) (rm_ok (by omega) (by decide)) 0 rfl rfl rfl (Nat.le_of_ble_eq_true rfl) rfl dX4_readNumber_221 ?_
                        have w12 : wrF q2.1 q.2.1 < 1000 := wrF_b (by first | omega | (dsimp only; omega)) (by first | omega | (dsimp only; omega))
                        refine Z.vret C hr hA dX4_readNumber_224 ?_
                        (refine congrArg (wN a cI cZ o) ?_; first | (rw [hm45]; simp [nLoop, nEnd, qWr, c3, (eq_true c4), (eq_false c5), (eq_true c6), (eq_false c7), (eq_false c9), (eq_true c11)]; done) | (rw [hm45]; simp_all [nLoop, nEnd, qWr]; done))
                · skip
                  replace c6 : ¬ 0 = 0 := mt (nI_eq (by omega) (by omega)).mpr c6
                  exact absurd c6 (by decide)
              · skip
                replace c5 : dg = 0 := (nI_eq (by omega) (by omega)).mp c5
                refine Z.aload_n C dX4_readNumber_172 3 rfl rfl ?_
                refine Z.aload_n C dX4_readNumber_173 3 rfl rfl ?_
                refine Z.get C in4 0 rfl rfl 28 (by decide) (by decide +kernel) rfl rfl dX4_readNumber_174 ?_
                refine Z.callVv C (nA := 1) (As := [.int (nI q2.2.1)]) (st := []) (c_wrong o q2 q2.2.1  (by first | omega | (dsimp only; omega))) gX4_readNumber_X4_wrong rfl (by decide +kernel) (rm_ok (by omega) (by decide)) 0 rfl rfl rfl (Nat.le_of_ble_eq_true rfl) rfl dX4_readNumber_177 ?_
                have w13 : wrF q2.1 q2.2.1 < 1000 := wrF_b (by first | omega | (dsimp only; omega)) (by first | omega | (dsimp only; omega))
                refine Z.goto C 224 dX4_readNumber_180 (by decide) ?_
                refine Z.vret C hr hA dX4_readNumber_224 ?_
                (refine congrArg (wN a cI cZ o) ?_; first | (rw [hm45]; simp [nLoop, nEnd, qWr, c3, (eq_true c4), (eq_true c5)]; done) | (rw [hm45]; simp_all [nLoop, nEnd, qWr]; done))
            · skip
              replace c4 : ¬ 0 = 0 := mt (nI_eq (by omega) (by omega)).mpr c4
              exact absurd c4 (by decide)
        | succ n ih45 =>
          intro dg q2 hn hdg hat hm45
          obtain ⟨k1, k2⟩ := hat
          refine Z.aload_n C dX4_readNumber_45 3 rfl rfl ?_
          refine Z.callVi C (nA := 0) (As := []) (st := []) (c_hereN o q2 (by first | omega | (dsimp only; omega)) (by first | omega | (dsimp only; omega))) gX4_readNumber_X4_here rfl (by decide +kernel) (rm_ok (by omega) (by decide)) 0 rfl rfl rfl (Nat.le_of_ble_eq_true rfl) rfl dX4_readNumber_46 ?_
          refine Z.callSi C (nA := 1) (As := [.int (hereN o.2.1 o.2.2.1 q2.2.1)]) (st := []) (c_isDigit (hereN o.2.1 o.2.2.1 q2.2.1)) gX4_readNumber_X4_isDigit rfl (by decide +kernel) (rm_ok (by omega) (by decide)) rfl (Nat.le_of_ble_eq_true rfl) rfl dX4_readNumber_49 ?_
          refine Z.if_ne C 78 dX4_readNumber_52 (by decide) (fun c14 => ?_) (fun c14 => ?_)
          · skip
            replace c14 : isDigF (hereN o.2.1 o.2.2.1 q2.2.1) = true := b2i_n0.mp c14
            have c14l := digN_lt c14
            refine Z.aload_n C dX4_readNumber_78 3 rfl rfl ?_
            refine Z.callVi C (nA := 0) (As := []) (st := []) (c_hereN o q2 (by first | omega | (dsimp only; omega)) (by first | omega | (dsimp only; omega))) gX4_readNumber_X4_here rfl (by decide +kernel) (rm_ok (by omega) (by decide)) 0 rfl rfl rfl (Nat.le_of_ble_eq_true rfl) rfl dX4_readNumber_79 ?_
            refine Z.callSi C (nA := 1) (As := [.int (hereN o.2.1 o.2.2.1 q2.2.1)]) (st := []) (c_isDigit (hereN o.2.1 o.2.2.1 q2.2.1)) gX4_readNumber_X4_isDigit rfl (by decide +kernel) (rm_ok (by omega) (by decide)) rfl (Nat.le_of_ble_eq_true rfl) rfl dX4_readNumber_82 ?_
            refine Z.if_eq C 98 dX4_readNumber_85 (by decide) (fun c15 => ?_) (fun c15 => ?_)
            · skip
              replace c15 : isDigF (hereN o.2.1 o.2.2.1 q2.2.1) = false := b2i_0.mp c15
              exact absurd (c14.symm.trans c15) (by decide)
            · skip
              replace c15 : isDigF (hereN o.2.1 o.2.2.1 q2.2.1) = true := b2i_n0.mp c15
              refine Z.aload_n C dX4_readNumber_88 3 rfl rfl ?_
              refine Z.callVi C (nA := 0) (As := []) (st := []) (c_hereN o q2 (by first | omega | (dsimp only; omega)) (by first | omega | (dsimp only; omega))) gX4_readNumber_X4_here rfl (by decide +kernel) (rm_ok (by omega) (by decide)) 0 rfl rfl rfl (Nat.le_of_ble_eq_true rfl) rfl dX4_readNumber_89 ?_
              refine Z.bipush C (v := (nI 48)) dX4_readNumber_92 (by decide) ?_
              refine Z.isub C (v := ((hereN o.2.1 o.2.2.1 q2.2.1) - (48 : Int32))) dX4_readNumber_94 rfl ?_
              refine Z.goto C 108 dX4_readNumber_95 (by decide) ?_
              refine Z.istore C (lv' := [(8, .int ((hereN o.2.1 o.2.2.1 q2.2.1) - (48 : Int32))), (6, .int (nI dg)), (7, .int (nI 0)), (5, .int (nI q.2.1)), (0, .ref (a 0)), (1, .long (lN p0)), (3, .long (lN p1))]) dX4_readNumber_108 (by decide) rfl ?_
              refine Z.aload_n C dX4_readNumber_110 4 rfl rfl ?_
              refine Z.iload C dX4_readNumber_111 1 rfl ?_
              refine Z.bipush C (v := (nI 10)) dX4_readNumber_113 (by decide) ?_
              refine Z.icmp_ge C 144 dX4_readNumber_115 (by decide) (fun c16 => ?_) (fun c16 => ?_)
              · skip
                replace c16 : ¬ dg < 10 := Nat.not_lt.mpr ((nI_leI (by omega) (by omega)).mp c16)
                refine Z.aload_n C dX4_readNumber_144 4 rfl rfl ?_
                refine Z.get C in4 0 rfl rfl 29 (by decide) (by decide +kernel) rfl rfl dX4_readNumber_145 ?_
                refine Z.put C in4 0 rfl rfl 29 (by decide) tyX4 tyX4_ok nmX4 (by decide +kernel) rfl rfl rfl rfl (Nat.le_of_ble_eq_true rfl) dX4_readNumber_148 (w' := (wN a cI cZ o q2)) rfl ?_
                refine Z.iinc C (v := (nI (dg + 1))) (lv' := [(6, .int (nI (dg + 1))), (8, .int ((hereN o.2.1 o.2.2.1 q2.2.1) - (48 : Int32))), (7, .int (nI 0)), (5, .int (nI q.2.1)), (0, .ref (a 0)), (1, .long (lN p0)), (3, .long (lN p1))]) dX4_readNumber_151 1 rfl (nI_add dg 1) (by decide) rfl ?_
                refine Z.aload_n C dX4_readNumber_154 4 rfl rfl ?_
                refine Z.dup C dX4_readNumber_155 rfl ?_
                refine Z.get C in4 0 rfl rfl 28 (by decide) (by decide +kernel) rfl rfl dX4_readNumber_156 ?_
                refine Z.iconst C (v := (nI 1)) dX4_readNumber_159 (by decide) ?_
                refine Z.iadd C (v := (nI (q2.2.1 + 1))) dX4_readNumber_160 (nI_add q2.2.1 1) ?_
                refine Z.put C in4 0 rfl rfl 28 (by decide) tyX4 tyX4_ok nmX4 (by decide +kernel) rfl rfl rfl rfl (Nat.le_of_ble_eq_true rfl) dX4_readNumber_161 (w' := (wN a cI cZ o (q2.1, q2.2.1 + 1, q2.2.2))) rfl ?_
                refine Z.goto C 45 dX4_readNumber_164 (by decide) ?_
                refine Z.sub [0, 2, 3, 4, 5, 6] rfl ?_
                exact ih45 (dg + 1) (q2.1, q2.2.1 + 1, q2.2.2) (by first | omega | (dsimp only; omega)) (by omega) ⟨by first | omega | (dsimp only; omega), by first | omega | (dsimp only; omega)⟩ (by rw [hm45, nLoop]; simp [qAt1, c14, c15, (eq_false c16)])
              · skip
                replace c16 : dg < 10 := Nat.not_le.mp (mt (nI_leI (by omega) (by omega)).mpr c16)
                refine Z.iload C dX4_readNumber_118 2 rfl ?_
                refine Z.if_eq C 129 dX4_readNumber_120 (by decide) (fun c17 => ?_) (fun c17 => ?_)
                · skip
                  replace c17 : 0 = 0 := (nI_eq (by omega) (by omega)).mp c17
                  refine Z.ldc2 C (v := lN 10) dX4_readNumber_129 (by decide +kernel) ?_
                  refine Z.aload_n C dX4_readNumber_132 4 rfl rfl ?_
                  refine Z.get C in4 0 rfl rfl 29 (by decide) (by decide +kernel) rfl rfl dX4_readNumber_133 ?_
                  refine Z.lmul C (v := (lN (10 * q2.2.2.1))) dX4_readNumber_136 (lN_mul 10 q2.2.2.1) ?_
                  refine Z.iload C dX4_readNumber_137 0 rfl ?_
                  refine Z.i2l C (v := (lN (((hereN o.2.1 o.2.2.1 q2.2.1) - (48 : Int32)).toNatClampNeg))) dX4_readNumber_139 (i64_of (digN_ge (by assumption))) ?_
                  refine Z.ladd C (v := (lN ((10 * q2.2.2.1) + (((hereN o.2.1 o.2.2.1 q2.2.1) - (48 : Int32)).toNatClampNeg)))) dX4_readNumber_140 (lN_add (10 * q2.2.2.1) (((hereN o.2.1 o.2.2.1 q2.2.1) - (48 : Int32)).toNatClampNeg)) ?_
                  refine Z.goto C 148 dX4_readNumber_141 (by decide) ?_
                  refine Z.put C in4 0 rfl rfl 29 (by decide) tyX4 tyX4_ok nmX4 (by decide +kernel) rfl rfl rfl rfl (Nat.le_of_ble_eq_true rfl) dX4_readNumber_148 (w' := (wN a cI cZ o (q2.1, q2.2.1, (10 * q2.2.2.1) + (((hereN o.2.1 o.2.2.1 q2.2.1) - (48 : Int32)).toNatClampNeg), q2.2.2.2))) rfl ?_
                  refine Z.iinc C (v := (nI (dg + 1))) (lv' := [(6, .int (nI (dg + 1))), (8, .int ((hereN o.2.1 o.2.2.1 q2.2.1) - (48 : Int32))), (7, .int (nI 0)), (5, .int (nI q.2.1)), (0, .ref (a 0)), (1, .long (lN p0)), (3, .long (lN p1))]) dX4_readNumber_151 1 rfl (nI_add dg 1) (by decide) rfl ?_
                  refine Z.aload_n C dX4_readNumber_154 4 rfl rfl ?_
                  refine Z.dup C dX4_readNumber_155 rfl ?_
                  refine Z.get C in4 0 rfl rfl 28 (by decide) (by decide +kernel) rfl rfl dX4_readNumber_156 ?_
                  refine Z.iconst C (v := (nI 1)) dX4_readNumber_159 (by decide) ?_
                  refine Z.iadd C (v := (nI (q2.2.1 + 1))) dX4_readNumber_160 (nI_add q2.2.1 1) ?_
                  refine Z.put C in4 0 rfl rfl 28 (by decide) tyX4 tyX4_ok nmX4 (by decide +kernel) rfl rfl rfl rfl (Nat.le_of_ble_eq_true rfl) dX4_readNumber_161 (w' := (wN a cI cZ o (q2.1, q2.2.1 + 1, (10 * q2.2.2.1) + (((hereN o.2.1 o.2.2.1 q2.2.1) - (48 : Int32)).toNatClampNeg), q2.2.2.2))) rfl ?_
                  refine Z.goto C 45 dX4_readNumber_164 (by decide) ?_
                  refine Z.sub [0, 2, 3, 4, 5, 6] rfl ?_
                  exact ih45 (dg + 1) (q2.1, q2.2.1 + 1, (10 * q2.2.2.1) + (((hereN o.2.1 o.2.2.1 q2.2.1) - (48 : Int32)).toNatClampNeg), q2.2.2.2) (by first | omega | (dsimp only; omega)) (by omega) ⟨by first | omega | (dsimp only; omega), by first | omega | (dsimp only; omega)⟩ (by rw [hm45, nLoop]; simp [qAt1, c14, c15, (eq_true c16), (eq_true c17)])
                · skip
                  replace c17 : ¬ 0 = 0 := mt (nI_eq (by omega) (by omega)).mpr c17
                  exact absurd c17 (by decide)
          · skip
            replace c14 : isDigF (hereN o.2.1 o.2.2.1 q2.2.1) = false := b2i_0.mp c14
            refine Z.iload C dX4_readNumber_55 1 rfl ?_
            refine Z.if_eq C 167 dX4_readNumber_57 (by decide) (fun c18 => ?_) (fun c18 => ?_)
            · skip
              replace c18 : 0 = 0 := (nI_eq (by omega) (by omega)).mp c18
              refine Z.iload C dX4_readNumber_167 0 rfl ?_
              refine Z.if_ne C 183 dX4_readNumber_169 (by decide) (fun c19 => ?_) (fun c19 => ?_)
              · skip
                replace c19 : ¬ dg = 0 := mt (nI_eq (by omega) (by omega)).mpr c19
                refine Z.iload C dX4_readNumber_183 0 rfl ?_
                refine Z.iload C dX4_readNumber_185 1 rfl ?_
                refine Z.if_eq C 195 dX4_readNumber_187 (by decide) (fun c20 => ?_) (fun c20 => ?_)
                · skip
                  replace c20 : 0 = 0 := (nI_eq (by omega) (by omega)).mp c20
                  refine Z.bipush C (v := (nI 10)) dX4_readNumber_195 (by decide) ?_
                  refine Z.icmp_gt C 218 dX4_readNumber_197 (by decide) (fun c21 => ?_) (fun c21 => ?_)
                  · skip
                    replace c21 : 10 < dg := (nI_ltI (by omega) (by omega)).mp c21
                    refine Z.aload_n C dX4_readNumber_218 3 rfl rfl ?_
                    refine Z.iload C dX4_readNumber_219 2 rfl ?_
                    refine Z.callVv C (nA := 1) (As := [.int (nI q.2.1)]) (st := []) (c_wrong o q2 q.2.1  (by first | omega | (dsimp only; omega))) gX4_readNumber_X4_wrong rfl (by decide +kernel) (rm_ok (by omega) (by decide)) 0 rfl rfl rfl (Nat.le_of_ble_eq_true rfl) rfl dX4_readNumber_221 ?_
                    have w22 : wrF q2.1 q.2.1 < 1000 := wrF_b (by first | omega | (dsimp only; omega)) (by first | omega | (dsimp only; omega))
                    refine Z.vret C hr hA dX4_readNumber_224 ?_
                    (refine congrArg (wN a cI cZ o) ?_; first | (rw [hm45]; simp [nLoop, nEnd, qWr, c14, (eq_true c18), (eq_false c19), (eq_true c20), (eq_true c21)]; done) | (rw [hm45]; simp_all [nLoop, nEnd, qWr]; done))
                  · skip
                    replace c21 : ¬ 10 < dg := mt (nI_ltI (by omega) (by omega)).mpr c21
                    refine Z.aload_n C dX4_readNumber_200 3 rfl rfl ?_
                    refine Z.get C in4 0 rfl rfl 29 (by decide) (by decide +kernel) rfl rfl dX4_readNumber_201 ?_
                    refine Z.lload_n C dX4_readNumber_204 4 rfl rfl ?_
                    refine Z.lcmp C (v := (lg_cmp (lN q2.2.2.1) (lN p0))) dX4_readNumber_205 rfl ?_
                    refine Z.if_lt C 218 dX4_readNumber_206 (by decide) (fun c23 => ?_) (fun c23 => ?_)
                    · skip
                      replace c23 : lN q2.2.2.1 < lN p0 := lgc_lt.mp c23
                      refine Z.aload_n C dX4_readNumber_218 3 rfl rfl ?_
                      refine Z.iload C dX4_readNumber_219 2 rfl ?_
                      refine Z.callVv C (nA := 1) (As := [.int (nI q.2.1)]) (st := []) (c_wrong o q2 q.2.1  (by first | omega | (dsimp only; omega))) gX4_readNumber_X4_wrong rfl (by decide +kernel) (rm_ok (by omega) (by decide)) 0 rfl rfl rfl (Nat.le_of_ble_eq_true rfl) rfl dX4_readNumber_221 ?_
                      have w24 : wrF q2.1 q.2.1 < 1000 := wrF_b (by first | omega | (dsimp only; omega)) (by first | omega | (dsimp only; omega))
                      refine Z.vret C hr hA dX4_readNumber_224 ?_
                      (refine congrArg (wN a cI cZ o) ?_; first | (rw [hm45]; simp [nLoop, nEnd, qWr, c14, (eq_true c18), (eq_false c19), (eq_true c20), (eq_false c21), (eq_true c23)]; done) | (rw [hm45]; simp_all [nLoop, nEnd, qWr]; done))
                    · skip
                      replace c23 : ¬ lN q2.2.2.1 < lN p0 := mt lgc_lt.mpr c23
                      refine Z.aload_n C dX4_readNumber_209 3 rfl rfl ?_
                      refine Z.get C in4 0 rfl rfl 29 (by decide) (by decide +kernel) rfl rfl dX4_readNumber_210 ?_
                      refine Z.lload_n C dX4_readNumber_213 5 rfl rfl ?_
                      refine Z.lcmp C (v := (lg_cmp (lN q2.2.2.1) (lN p1))) dX4_readNumber_214 rfl ?_
                      refine Z.if_le C 224 dX4_readNumber_215 (by decide) (fun c25 => ?_) (fun c25 => ?_)
                      · skip
                        replace c25 : ¬ lN p1 < lN q2.2.2.1 := lgc_le.mp c25
                        refine Z.vret C hr hA dX4_readNumber_224 ?_
                        (refine congrArg (wN a cI cZ o) ?_; first | (rw [hm45]; simp [nLoop, nEnd, qWr, c14, (eq_true c18), (eq_false c19), (eq_true c20), (eq_false c21), (eq_false c23), (eq_false c25)]; done) | (rw [hm45]; simp_all [nLoop, nEnd, qWr]; done))
                      · skip
                        replace c25 : lN p1 < lN q2.2.2.1 := Classical.not_not.mp (mt lgc_le.mpr c25)
                        refine Z.aload_n C dX4_readNumber_218 3 rfl rfl ?_
                        refine Z.iload C dX4_readNumber_219 2 rfl ?_
                        refine Z.callVv C (nA := 1) (As := [.int (nI q.2.1)]) (st := []) (c_wrong o q2 q.2.1  (by first | omega | (dsimp only; omega))) gX4_readNumber_X4_wrong rfl (by decide +kernel) (rm_ok (by omega) (by decide)) 0 rfl rfl rfl (Nat.le_of_ble_eq_true rfl) rfl dX4_readNumber_221 ?_
                        have w26 : wrF q2.1 q.2.1 < 1000 := wrF_b (by first | omega | (dsimp only; omega)) (by first | omega | (dsimp only; omega))
                        refine Z.vret C hr hA dX4_readNumber_224 ?_
                        (refine congrArg (wN a cI cZ o) ?_; first | (rw [hm45]; simp [nLoop, nEnd, qWr, c14, (eq_true c18), (eq_false c19), (eq_true c20), (eq_false c21), (eq_false c23), (eq_true c25)]; done) | (rw [hm45]; simp_all [nLoop, nEnd, qWr]; done))
                · skip
                  replace c20 : ¬ 0 = 0 := mt (nI_eq (by omega) (by omega)).mpr c20
                  exact absurd c20 (by decide)
              · skip
                replace c19 : dg = 0 := (nI_eq (by omega) (by omega)).mp c19
                refine Z.aload_n C dX4_readNumber_172 3 rfl rfl ?_
                refine Z.aload_n C dX4_readNumber_173 3 rfl rfl ?_
                refine Z.get C in4 0 rfl rfl 28 (by decide) (by decide +kernel) rfl rfl dX4_readNumber_174 ?_
                refine Z.callVv C (nA := 1) (As := [.int (nI q2.2.1)]) (st := []) (c_wrong o q2 q2.2.1  (by first | omega | (dsimp only; omega))) gX4_readNumber_X4_wrong rfl (by decide +kernel) (rm_ok (by omega) (by decide)) 0 rfl rfl rfl (Nat.le_of_ble_eq_true rfl) rfl dX4_readNumber_177 ?_
                have w27 : wrF q2.1 q2.2.1 < 1000 := wrF_b (by first | omega | (dsimp only; omega)) (by first | omega | (dsimp only; omega))
                refine Z.goto C 224 dX4_readNumber_180 (by decide) ?_
                refine Z.vret C hr hA dX4_readNumber_224 ?_
                (refine congrArg (wN a cI cZ o) ?_; first | (rw [hm45]; simp [nLoop, nEnd, qWr, c14, (eq_true c18), (eq_true c19)]; done) | (rw [hm45]; simp_all [nLoop, nEnd, qWr]; done))
            · skip
              replace c18 : ¬ 0 = 0 := mt (nI_eq (by omega) (by omega)).mpr c18
              exact absurd c18 (by decide)
      refine Z.sub [1, 0, 2, 3, 4, 5] rfl ?_
      exact key45 o.2.2.1 0 (q.1, q.2.1, 0, q.2.2.2) (by first | omega | (dsimp only; omega)) (by omega) ⟨by first | omega | (dsimp only; omega), by first | omega | (dsimp only; omega)⟩ (by simp [qNumber, qAt1, (eq_false c1), (eq_true c2)])
    · skip
      replace c2 : ¬ 0 = 0 := mt (nI_eq (by omega) (by omega)).mpr c2
      exact absurd c2 (by decide)
  · skip
    replace c1 : (hereN o.2.1 o.2.2.1 q.2.1) = (36 : Int32) := c1
    refine Z.iconst C (v := (nI 1)) dX4_readNumber_23 (by decide) ?_
    refine Z.goto C 28 dX4_readNumber_24 (by decide) ?_
    refine Z.istore C (lv' := [(7, .int (nI 1)), (6, .int (nI 0)), (5, .int (nI q.2.1)), (0, .ref (a 0)), (1, .long (lN p0)), (3, .long (lN p1))]) dX4_readNumber_28 (by decide) rfl ?_
    refine Z.iload C dX4_readNumber_30 0 rfl ?_
    refine Z.if_eq C 45 dX4_readNumber_32 (by decide) (fun c28 => ?_) (fun c28 => ?_)
    · skip
      replace c28 : 1 = 0 := (nI_eq (by omega) (by omega)).mp c28
      exact absurd c28 (by decide)
    · skip
      replace c28 : ¬ 1 = 0 := mt (nI_eq (by omega) (by omega)).mpr c28
      refine Z.aload_n C dX4_readNumber_35 3 rfl rfl ?_
      refine Z.dup C dX4_readNumber_36 rfl ?_
      refine Z.get C in4 0 rfl rfl 28 (by decide) (by decide +kernel) rfl rfl dX4_readNumber_37 ?_
      refine Z.iconst C (v := (nI 1)) dX4_readNumber_40 (by decide) ?_
      refine Z.iadd C (v := (nI (q.2.1 + 1))) dX4_readNumber_41 (nI_add q.2.1 1) ?_
      refine Z.put C in4 0 rfl rfl 28 (by decide) tyX4 tyX4_ok nmX4 (by decide +kernel) rfl rfl rfl rfl (Nat.le_of_ble_eq_true rfl) dX4_readNumber_42 (w' := (wN a cI cZ o (q.1, q.2.1 + 1, 0, q.2.2.2))) rfl ?_
      have key45 : ∀ (n : Nat) (dg : Nat) (q2 : QS), o.2.2.1 ≤ q2.2.1 + n → dg + n ≤ 1000 → q2.2.1 ≤ 490 ∧ q2.1 < 1000 → qNumber o.2.1 o.2.2.1 p0 p1 q = nLoop o.2.1 o.2.2.1 p0 p1 q.2.1 8 true n dg q2 → Z p l e (rmN 2) s m ([.ref (a 0), .long (lN p0), .long (lN p1)] : List Value).toArray below meth c 9 D A (QV below D [(cI, .int), (cZ, .boolean)] [.ref (a 0), .long (lN p0), .long (lN p1)] (wN a cI cZ o q) (wN a cI cZ o (qNumber o.2.1 o.2.2.1 p0 p1 q)) s) (wN a cI cZ o q2) [(6, .int (nI dg)), (7, .int (nI 1)), (5, .int (nI q.2.1)), (0, .ref (a 0)), (1, .long (lN p0)), (3, .long (lN p1))] 45 [] := by
        intro n
        induction n with
        | zero =>
          intro dg q2 hn hdg hat hm45
          obtain ⟨k1, k2⟩ := hat
          refine Z.aload_n C dX4_readNumber_45 3 rfl rfl ?_
          refine Z.callVi C (nA := 0) (As := []) (st := []) (c_hereN o q2 (by first | omega | (dsimp only; omega)) (by first | omega | (dsimp only; omega))) gX4_readNumber_X4_here rfl (by decide +kernel) (rm_ok (by omega) (by decide)) 0 rfl rfl rfl (Nat.le_of_ble_eq_true rfl) rfl dX4_readNumber_46 ?_
          refine Z.callSi C (nA := 1) (As := [.int (hereN o.2.1 o.2.2.1 q2.2.1)]) (st := []) (c_isDigit (hereN o.2.1 o.2.2.1 q2.2.1)) gX4_readNumber_X4_isDigit rfl (by decide +kernel) (rm_ok (by omega) (by decide)) rfl (Nat.le_of_ble_eq_true rfl) rfl dX4_readNumber_49 ?_
          refine Z.if_ne C 78 dX4_readNumber_52 (by decide) (fun c29 => ?_) (fun c29 => ?_)
          · skip
            replace c29 : isDigF (hereN o.2.1 o.2.2.1 q2.2.1) = true := b2i_n0.mp c29
            have c29l := digN_lt c29
            exact absurd c29l (by omega)
          · skip
            replace c29 : isDigF (hereN o.2.1 o.2.2.1 q2.2.1) = false := b2i_0.mp c29
            refine Z.iload C dX4_readNumber_55 1 rfl ?_
            refine Z.if_eq C 167 dX4_readNumber_57 (by decide) (fun c30 => ?_) (fun c30 => ?_)
            · skip
              replace c30 : 1 = 0 := (nI_eq (by omega) (by omega)).mp c30
              exact absurd c30 (by decide)
            · skip
              replace c30 : ¬ 1 = 0 := mt (nI_eq (by omega) (by omega)).mpr c30
              refine Z.aload_n C dX4_readNumber_60 3 rfl rfl ?_
              refine Z.callVi C (nA := 0) (As := []) (st := []) (c_hereN o q2 (by first | omega | (dsimp only; omega)) (by first | omega | (dsimp only; omega))) gX4_readNumber_X4_here rfl (by decide +kernel) (rm_ok (by omega) (by decide)) 0 rfl rfl rfl (Nat.le_of_ble_eq_true rfl) rfl dX4_readNumber_61 ?_
              refine Z.bipush C (v := (nI 97)) dX4_readNumber_64 (by decide) ?_
              refine Z.icmp_lt C 167 dX4_readNumber_66 (by decide) (fun c31 => ?_) (fun c31 => ?_)
              · skip
                replace c31 : ¬ (97 : Int32) ≤ (hereN o.2.1 o.2.2.1 q2.2.1) := Int32.not_le.mpr c31
                refine Z.iload C dX4_readNumber_167 0 rfl ?_
                refine Z.if_ne C 183 dX4_readNumber_169 (by decide) (fun c32 => ?_) (fun c32 => ?_)
                · skip
                  replace c32 : ¬ dg = 0 := mt (nI_eq (by omega) (by omega)).mpr c32
                  refine Z.iload C dX4_readNumber_183 0 rfl ?_
                  refine Z.iload C dX4_readNumber_185 1 rfl ?_
                  refine Z.if_eq C 195 dX4_readNumber_187 (by decide) (fun c33 => ?_) (fun c33 => ?_)
                  · skip
                    replace c33 : 1 = 0 := (nI_eq (by omega) (by omega)).mp c33
                    exact absurd c33 (by decide)
                  · skip
                    replace c33 : ¬ 1 = 0 := mt (nI_eq (by omega) (by omega)).mpr c33
                    refine Z.bipush C (v := (nI 8)) dX4_readNumber_190 (by decide) ?_
                    refine Z.goto C 197 dX4_readNumber_192 (by decide) ?_
                    refine Z.icmp_gt C 218 dX4_readNumber_197 (by decide) (fun c34 => ?_) (fun c34 => ?_)
                    · skip
                      replace c34 : 8 < dg := (nI_ltI (by omega) (by omega)).mp c34
                      refine Z.aload_n C dX4_readNumber_218 3 rfl rfl ?_
                      refine Z.iload C dX4_readNumber_219 2 rfl ?_
                      refine Z.callVv C (nA := 1) (As := [.int (nI q.2.1)]) (st := []) (c_wrong o q2 q.2.1  (by first | omega | (dsimp only; omega))) gX4_readNumber_X4_wrong rfl (by decide +kernel) (rm_ok (by omega) (by decide)) 0 rfl rfl rfl (Nat.le_of_ble_eq_true rfl) rfl dX4_readNumber_221 ?_
                      have w35 : wrF q2.1 q.2.1 < 1000 := wrF_b (by first | omega | (dsimp only; omega)) (by first | omega | (dsimp only; omega))
                      refine Z.vret C hr hA dX4_readNumber_224 ?_
                      (refine congrArg (wN a cI cZ o) ?_; first | (rw [hm45]; simp [nLoop, nEnd, qWr, c29, (eq_false c30), (eq_false c31), (eq_false c32), (eq_false c33), (eq_true c34)]; done) | (rw [hm45]; simp_all [nLoop, nEnd, qWr]; done))
                    · skip
                      replace c34 : ¬ 8 < dg := mt (nI_ltI (by omega) (by omega)).mpr c34
                      refine Z.aload_n C dX4_readNumber_200 3 rfl rfl ?_
                      refine Z.get C in4 0 rfl rfl 29 (by decide) (by decide +kernel) rfl rfl dX4_readNumber_201 ?_
                      refine Z.lload_n C dX4_readNumber_204 4 rfl rfl ?_
                      refine Z.lcmp C (v := (lg_cmp (lN q2.2.2.1) (lN p0))) dX4_readNumber_205 rfl ?_
                      refine Z.if_lt C 218 dX4_readNumber_206 (by decide) (fun c36 => ?_) (fun c36 => ?_)
                      · skip
                        replace c36 : lN q2.2.2.1 < lN p0 := lgc_lt.mp c36
                        refine Z.aload_n C dX4_readNumber_218 3 rfl rfl ?_
                        refine Z.iload C dX4_readNumber_219 2 rfl ?_
                        refine Z.callVv C (nA := 1) (As := [.int (nI q.2.1)]) (st := []) (c_wrong o q2 q.2.1  (by first | omega | (dsimp only; omega))) gX4_readNumber_X4_wrong rfl (by decide +kernel) (rm_ok (by omega) (by decide)) 0 rfl rfl rfl (Nat.le_of_ble_eq_true rfl) rfl dX4_readNumber_221 ?_
                        have w37 : wrF q2.1 q.2.1 < 1000 := wrF_b (by first | omega | (dsimp only; omega)) (by first | omega | (dsimp only; omega))
                        refine Z.vret C hr hA dX4_readNumber_224 ?_
                        (refine congrArg (wN a cI cZ o) ?_; first | (rw [hm45]; simp [nLoop, nEnd, qWr, c29, (eq_false c30), (eq_false c31), (eq_false c32), (eq_false c33), (eq_false c34), (eq_true c36)]; done) | (rw [hm45]; simp_all [nLoop, nEnd, qWr]; done))
                      · skip
                        replace c36 : ¬ lN q2.2.2.1 < lN p0 := mt lgc_lt.mpr c36
                        refine Z.aload_n C dX4_readNumber_209 3 rfl rfl ?_
                        refine Z.get C in4 0 rfl rfl 29 (by decide) (by decide +kernel) rfl rfl dX4_readNumber_210 ?_
                        refine Z.lload_n C dX4_readNumber_213 5 rfl rfl ?_
                        refine Z.lcmp C (v := (lg_cmp (lN q2.2.2.1) (lN p1))) dX4_readNumber_214 rfl ?_
                        refine Z.if_le C 224 dX4_readNumber_215 (by decide) (fun c38 => ?_) (fun c38 => ?_)
                        · skip
                          replace c38 : ¬ lN p1 < lN q2.2.2.1 := lgc_le.mp c38
                          refine Z.vret C hr hA dX4_readNumber_224 ?_
                          (refine congrArg (wN a cI cZ o) ?_; first | (rw [hm45]; simp [nLoop, nEnd, qWr, c29, (eq_false c30), (eq_false c31), (eq_false c32), (eq_false c33), (eq_false c34), (eq_false c36), (eq_false c38)]; done) | (rw [hm45]; simp_all [nLoop, nEnd, qWr]; done))
                        · skip
                          replace c38 : lN p1 < lN q2.2.2.1 := Classical.not_not.mp (mt lgc_le.mpr c38)
                          refine Z.aload_n C dX4_readNumber_218 3 rfl rfl ?_
                          refine Z.iload C dX4_readNumber_219 2 rfl ?_
                          refine Z.callVv C (nA := 1) (As := [.int (nI q.2.1)]) (st := []) (c_wrong o q2 q.2.1  (by first | omega | (dsimp only; omega))) gX4_readNumber_X4_wrong rfl (by decide +kernel) (rm_ok (by omega) (by decide)) 0 rfl rfl rfl (Nat.le_of_ble_eq_true rfl) rfl dX4_readNumber_221 ?_
                          have w39 : wrF q2.1 q.2.1 < 1000 := wrF_b (by first | omega | (dsimp only; omega)) (by first | omega | (dsimp only; omega))
                          refine Z.vret C hr hA dX4_readNumber_224 ?_
                          (refine congrArg (wN a cI cZ o) ?_; first | (rw [hm45]; simp [nLoop, nEnd, qWr, c29, (eq_false c30), (eq_false c31), (eq_false c32), (eq_false c33), (eq_false c34), (eq_false c36), (eq_true c38)]; done) | (rw [hm45]; simp_all [nLoop, nEnd, qWr]; done))
                · skip
                  replace c32 : dg = 0 := (nI_eq (by omega) (by omega)).mp c32
                  refine Z.aload_n C dX4_readNumber_172 3 rfl rfl ?_
                  refine Z.aload_n C dX4_readNumber_173 3 rfl rfl ?_
                  refine Z.get C in4 0 rfl rfl 28 (by decide) (by decide +kernel) rfl rfl dX4_readNumber_174 ?_
                  refine Z.callVv C (nA := 1) (As := [.int (nI q2.2.1)]) (st := []) (c_wrong o q2 q2.2.1  (by first | omega | (dsimp only; omega))) gX4_readNumber_X4_wrong rfl (by decide +kernel) (rm_ok (by omega) (by decide)) 0 rfl rfl rfl (Nat.le_of_ble_eq_true rfl) rfl dX4_readNumber_177 ?_
                  have w40 : wrF q2.1 q2.2.1 < 1000 := wrF_b (by first | omega | (dsimp only; omega)) (by first | omega | (dsimp only; omega))
                  refine Z.goto C 224 dX4_readNumber_180 (by decide) ?_
                  refine Z.vret C hr hA dX4_readNumber_224 ?_
                  (refine congrArg (wN a cI cZ o) ?_; first | (rw [hm45]; simp [nLoop, nEnd, qWr, c29, (eq_false c30), (eq_false c31), (eq_true c32)]; done) | (rw [hm45]; simp_all [nLoop, nEnd, qWr]; done))
              · skip
                replace c31 : (97 : Int32) ≤ (hereN o.2.1 o.2.2.1 q2.2.1) := Int32.not_lt.mp c31
                have c31l := geN_lt c31
                exact absurd c31l (by omega)
        | succ n ih45 =>
          intro dg q2 hn hdg hat hm45
          obtain ⟨k1, k2⟩ := hat
          refine Z.aload_n C dX4_readNumber_45 3 rfl rfl ?_
          refine Z.callVi C (nA := 0) (As := []) (st := []) (c_hereN o q2 (by first | omega | (dsimp only; omega)) (by first | omega | (dsimp only; omega))) gX4_readNumber_X4_here rfl (by decide +kernel) (rm_ok (by omega) (by decide)) 0 rfl rfl rfl (Nat.le_of_ble_eq_true rfl) rfl dX4_readNumber_46 ?_
          refine Z.callSi C (nA := 1) (As := [.int (hereN o.2.1 o.2.2.1 q2.2.1)]) (st := []) (c_isDigit (hereN o.2.1 o.2.2.1 q2.2.1)) gX4_readNumber_X4_isDigit rfl (by decide +kernel) (rm_ok (by omega) (by decide)) rfl (Nat.le_of_ble_eq_true rfl) rfl dX4_readNumber_49 ?_
          refine Z.if_ne C 78 dX4_readNumber_52 (by decide) (fun c41 => ?_) (fun c41 => ?_)
          · skip
            replace c41 : isDigF (hereN o.2.1 o.2.2.1 q2.2.1) = true := b2i_n0.mp c41
            have c41l := digN_lt c41
            refine Z.aload_n C dX4_readNumber_78 3 rfl rfl ?_
            refine Z.callVi C (nA := 0) (As := []) (st := []) (c_hereN o q2 (by first | omega | (dsimp only; omega)) (by first | omega | (dsimp only; omega))) gX4_readNumber_X4_here rfl (by decide +kernel) (rm_ok (by omega) (by decide)) 0 rfl rfl rfl (Nat.le_of_ble_eq_true rfl) rfl dX4_readNumber_79 ?_
            refine Z.callSi C (nA := 1) (As := [.int (hereN o.2.1 o.2.2.1 q2.2.1)]) (st := []) (c_isDigit (hereN o.2.1 o.2.2.1 q2.2.1)) gX4_readNumber_X4_isDigit rfl (by decide +kernel) (rm_ok (by omega) (by decide)) rfl (Nat.le_of_ble_eq_true rfl) rfl dX4_readNumber_82 ?_
            refine Z.if_eq C 98 dX4_readNumber_85 (by decide) (fun c42 => ?_) (fun c42 => ?_)
            · skip
              replace c42 : isDigF (hereN o.2.1 o.2.2.1 q2.2.1) = false := b2i_0.mp c42
              exact absurd (c41.symm.trans c42) (by decide)
            · skip
              replace c42 : isDigF (hereN o.2.1 o.2.2.1 q2.2.1) = true := b2i_n0.mp c42
              refine Z.aload_n C dX4_readNumber_88 3 rfl rfl ?_
              refine Z.callVi C (nA := 0) (As := []) (st := []) (c_hereN o q2 (by first | omega | (dsimp only; omega)) (by first | omega | (dsimp only; omega))) gX4_readNumber_X4_here rfl (by decide +kernel) (rm_ok (by omega) (by decide)) 0 rfl rfl rfl (Nat.le_of_ble_eq_true rfl) rfl dX4_readNumber_89 ?_
              refine Z.bipush C (v := (nI 48)) dX4_readNumber_92 (by decide) ?_
              refine Z.isub C (v := ((hereN o.2.1 o.2.2.1 q2.2.1) - (48 : Int32))) dX4_readNumber_94 rfl ?_
              refine Z.goto C 108 dX4_readNumber_95 (by decide) ?_
              refine Z.istore C (lv' := [(8, .int ((hereN o.2.1 o.2.2.1 q2.2.1) - (48 : Int32))), (6, .int (nI dg)), (7, .int (nI 1)), (5, .int (nI q.2.1)), (0, .ref (a 0)), (1, .long (lN p0)), (3, .long (lN p1))]) dX4_readNumber_108 (by decide) rfl ?_
              refine Z.aload_n C dX4_readNumber_110 4 rfl rfl ?_
              refine Z.iload C dX4_readNumber_111 1 rfl ?_
              refine Z.bipush C (v := (nI 10)) dX4_readNumber_113 (by decide) ?_
              refine Z.icmp_ge C 144 dX4_readNumber_115 (by decide) (fun c43 => ?_) (fun c43 => ?_)
              · skip
                replace c43 : ¬ dg < 10 := Nat.not_lt.mpr ((nI_leI (by omega) (by omega)).mp c43)
                refine Z.aload_n C dX4_readNumber_144 4 rfl rfl ?_
                refine Z.get C in4 0 rfl rfl 29 (by decide) (by decide +kernel) rfl rfl dX4_readNumber_145 ?_
                refine Z.put C in4 0 rfl rfl 29 (by decide) tyX4 tyX4_ok nmX4 (by decide +kernel) rfl rfl rfl rfl (Nat.le_of_ble_eq_true rfl) dX4_readNumber_148 (w' := (wN a cI cZ o q2)) rfl ?_
                refine Z.iinc C (v := (nI (dg + 1))) (lv' := [(6, .int (nI (dg + 1))), (8, .int ((hereN o.2.1 o.2.2.1 q2.2.1) - (48 : Int32))), (7, .int (nI 1)), (5, .int (nI q.2.1)), (0, .ref (a 0)), (1, .long (lN p0)), (3, .long (lN p1))]) dX4_readNumber_151 1 rfl (nI_add dg 1) (by decide) rfl ?_
                refine Z.aload_n C dX4_readNumber_154 4 rfl rfl ?_
                refine Z.dup C dX4_readNumber_155 rfl ?_
                refine Z.get C in4 0 rfl rfl 28 (by decide) (by decide +kernel) rfl rfl dX4_readNumber_156 ?_
                refine Z.iconst C (v := (nI 1)) dX4_readNumber_159 (by decide) ?_
                refine Z.iadd C (v := (nI (q2.2.1 + 1))) dX4_readNumber_160 (nI_add q2.2.1 1) ?_
                refine Z.put C in4 0 rfl rfl 28 (by decide) tyX4 tyX4_ok nmX4 (by decide +kernel) rfl rfl rfl rfl (Nat.le_of_ble_eq_true rfl) dX4_readNumber_161 (w' := (wN a cI cZ o (q2.1, q2.2.1 + 1, q2.2.2))) rfl ?_
                refine Z.goto C 45 dX4_readNumber_164 (by decide) ?_
                refine Z.sub [0, 2, 3, 4, 5, 6] rfl ?_
                exact ih45 (dg + 1) (q2.1, q2.2.1 + 1, q2.2.2) (by first | omega | (dsimp only; omega)) (by omega) ⟨by first | omega | (dsimp only; omega), by first | omega | (dsimp only; omega)⟩ (by rw [hm45, nLoop]; simp [qAt1, c41, c42, (eq_false c43)])
              · skip
                replace c43 : dg < 10 := Nat.not_le.mp (mt (nI_leI (by omega) (by omega)).mpr c43)
                refine Z.iload C dX4_readNumber_118 2 rfl ?_
                refine Z.if_eq C 129 dX4_readNumber_120 (by decide) (fun c44 => ?_) (fun c44 => ?_)
                · skip
                  replace c44 : 1 = 0 := (nI_eq (by omega) (by omega)).mp c44
                  exact absurd c44 (by decide)
                · skip
                  replace c44 : ¬ 1 = 0 := mt (nI_eq (by omega) (by omega)).mpr c44
                  refine Z.ldc2 C (v := lN 16) dX4_readNumber_123 (by decide +kernel) ?_
                  refine Z.goto C 132 dX4_readNumber_126 (by decide) ?_
                  refine Z.aload_n C dX4_readNumber_132 4 rfl rfl ?_
                  refine Z.get C in4 0 rfl rfl 29 (by decide) (by decide +kernel) rfl rfl dX4_readNumber_133 ?_
                  refine Z.lmul C (v := (lN (16 * q2.2.2.1))) dX4_readNumber_136 (lN_mul 16 q2.2.2.1) ?_
                  refine Z.iload C dX4_readNumber_137 0 rfl ?_
                  refine Z.i2l C (v := (lN (((hereN o.2.1 o.2.2.1 q2.2.1) - (48 : Int32)).toNatClampNeg))) dX4_readNumber_139 (i64_of (digN_ge (by assumption))) ?_
                  refine Z.ladd C (v := (lN ((16 * q2.2.2.1) + (((hereN o.2.1 o.2.2.1 q2.2.1) - (48 : Int32)).toNatClampNeg)))) dX4_readNumber_140 (lN_add (16 * q2.2.2.1) (((hereN o.2.1 o.2.2.1 q2.2.1) - (48 : Int32)).toNatClampNeg)) ?_
                  refine Z.goto C 148 dX4_readNumber_141 (by decide) ?_
                  refine Z.put C in4 0 rfl rfl 29 (by decide) tyX4 tyX4_ok nmX4 (by decide +kernel) rfl rfl rfl rfl (Nat.le_of_ble_eq_true rfl) dX4_readNumber_148 (w' := (wN a cI cZ o (q2.1, q2.2.1, (16 * q2.2.2.1) + (((hereN o.2.1 o.2.2.1 q2.2.1) - (48 : Int32)).toNatClampNeg), q2.2.2.2))) rfl ?_
                  refine Z.iinc C (v := (nI (dg + 1))) (lv' := [(6, .int (nI (dg + 1))), (8, .int ((hereN o.2.1 o.2.2.1 q2.2.1) - (48 : Int32))), (7, .int (nI 1)), (5, .int (nI q.2.1)), (0, .ref (a 0)), (1, .long (lN p0)), (3, .long (lN p1))]) dX4_readNumber_151 1 rfl (nI_add dg 1) (by decide) rfl ?_
                  refine Z.aload_n C dX4_readNumber_154 4 rfl rfl ?_
                  refine Z.dup C dX4_readNumber_155 rfl ?_
                  refine Z.get C in4 0 rfl rfl 28 (by decide) (by decide +kernel) rfl rfl dX4_readNumber_156 ?_
                  refine Z.iconst C (v := (nI 1)) dX4_readNumber_159 (by decide) ?_
                  refine Z.iadd C (v := (nI (q2.2.1 + 1))) dX4_readNumber_160 (nI_add q2.2.1 1) ?_
                  refine Z.put C in4 0 rfl rfl 28 (by decide) tyX4 tyX4_ok nmX4 (by decide +kernel) rfl rfl rfl rfl (Nat.le_of_ble_eq_true rfl) dX4_readNumber_161 (w' := (wN a cI cZ o (q2.1, q2.2.1 + 1, (16 * q2.2.2.1) + (((hereN o.2.1 o.2.2.1 q2.2.1) - (48 : Int32)).toNatClampNeg), q2.2.2.2))) rfl ?_
                  refine Z.goto C 45 dX4_readNumber_164 (by decide) ?_
                  refine Z.sub [0, 2, 3, 4, 5, 6] rfl ?_
                  exact ih45 (dg + 1) (q2.1, q2.2.1 + 1, (16 * q2.2.2.1) + (((hereN o.2.1 o.2.2.1 q2.2.1) - (48 : Int32)).toNatClampNeg), q2.2.2.2) (by first | omega | (dsimp only; omega)) (by omega) ⟨by first | omega | (dsimp only; omega), by first | omega | (dsimp only; omega)⟩ (by rw [hm45, nLoop]; simp [qAt1, c41, c42, (eq_true c43), (eq_false c44)])
          · skip
            replace c41 : isDigF (hereN o.2.1 o.2.2.1 q2.2.1) = false := b2i_0.mp c41
            refine Z.iload C dX4_readNumber_55 1 rfl ?_
            refine Z.if_eq C 167 dX4_readNumber_57 (by decide) (fun c45 => ?_) (fun c45 => ?_)
            · skip
              replace c45 : 1 = 0 := (nI_eq (by omega) (by omega)).mp c45
              exact absurd c45 (by decide)
            · skip
              replace c45 : ¬ 1 = 0 := mt (nI_eq (by omega) (by omega)).mpr c45
              refine Z.aload_n C dX4_readNumber_60 3 rfl rfl ?_
              refine Z.callVi C (nA := 0) (As := []) (st := []) (c_hereN o q2 (by first | omega | (dsimp only; omega)) (by first | omega | (dsimp only; omega))) gX4_readNumber_X4_here rfl (by decide +kernel) (rm_ok (by omega) (by decide)) 0 rfl rfl rfl (Nat.le_of_ble_eq_true rfl) rfl dX4_readNumber_61 ?_
              refine Z.bipush C (v := (nI 97)) dX4_readNumber_64 (by decide) ?_
              refine Z.icmp_lt C 167 dX4_readNumber_66 (by decide) (fun c46 => ?_) (fun c46 => ?_)
              · skip
                replace c46 : ¬ (97 : Int32) ≤ (hereN o.2.1 o.2.2.1 q2.2.1) := Int32.not_le.mpr c46
                refine Z.iload C dX4_readNumber_167 0 rfl ?_
                refine Z.if_ne C 183 dX4_readNumber_169 (by decide) (fun c47 => ?_) (fun c47 => ?_)
                · skip
                  replace c47 : ¬ dg = 0 := mt (nI_eq (by omega) (by omega)).mpr c47
                  refine Z.iload C dX4_readNumber_183 0 rfl ?_
                  refine Z.iload C dX4_readNumber_185 1 rfl ?_
                  refine Z.if_eq C 195 dX4_readNumber_187 (by decide) (fun c48 => ?_) (fun c48 => ?_)
                  · skip
                    replace c48 : 1 = 0 := (nI_eq (by omega) (by omega)).mp c48
                    exact absurd c48 (by decide)
                  · skip
                    replace c48 : ¬ 1 = 0 := mt (nI_eq (by omega) (by omega)).mpr c48
                    refine Z.bipush C (v := (nI 8)) dX4_readNumber_190 (by decide) ?_
                    refine Z.goto C 197 dX4_readNumber_192 (by decide) ?_
                    refine Z.icmp_gt C 218 dX4_readNumber_197 (by decide) (fun c49 => ?_) (fun c49 => ?_)
                    · skip
                      replace c49 : 8 < dg := (nI_ltI (by omega) (by omega)).mp c49
                      refine Z.aload_n C dX4_readNumber_218 3 rfl rfl ?_
                      refine Z.iload C dX4_readNumber_219 2 rfl ?_
                      refine Z.callVv C (nA := 1) (As := [.int (nI q.2.1)]) (st := []) (c_wrong o q2 q.2.1  (by first | omega | (dsimp only; omega))) gX4_readNumber_X4_wrong rfl (by decide +kernel) (rm_ok (by omega) (by decide)) 0 rfl rfl rfl (Nat.le_of_ble_eq_true rfl) rfl dX4_readNumber_221 ?_
                      have w50 : wrF q2.1 q.2.1 < 1000 := wrF_b (by first | omega | (dsimp only; omega)) (by first | omega | (dsimp only; omega))
                      refine Z.vret C hr hA dX4_readNumber_224 ?_
                      (refine congrArg (wN a cI cZ o) ?_; first | (rw [hm45]; simp [nLoop, nEnd, qWr, c41, (eq_false c45), (eq_false c46), (eq_false c47), (eq_false c48), (eq_true c49)]; done) | (rw [hm45]; simp_all [nLoop, nEnd, qWr]; done))
                    · skip
                      replace c49 : ¬ 8 < dg := mt (nI_ltI (by omega) (by omega)).mpr c49
                      refine Z.aload_n C dX4_readNumber_200 3 rfl rfl ?_
                      refine Z.get C in4 0 rfl rfl 29 (by decide) (by decide +kernel) rfl rfl dX4_readNumber_201 ?_
                      refine Z.lload_n C dX4_readNumber_204 4 rfl rfl ?_
                      refine Z.lcmp C (v := (lg_cmp (lN q2.2.2.1) (lN p0))) dX4_readNumber_205 rfl ?_
                      refine Z.if_lt C 218 dX4_readNumber_206 (by decide) (fun c51 => ?_) (fun c51 => ?_)
                      · skip
                        replace c51 : lN q2.2.2.1 < lN p0 := lgc_lt.mp c51
                        refine Z.aload_n C dX4_readNumber_218 3 rfl rfl ?_
                        refine Z.iload C dX4_readNumber_219 2 rfl ?_
                        refine Z.callVv C (nA := 1) (As := [.int (nI q.2.1)]) (st := []) (c_wrong o q2 q.2.1  (by first | omega | (dsimp only; omega))) gX4_readNumber_X4_wrong rfl (by decide +kernel) (rm_ok (by omega) (by decide)) 0 rfl rfl rfl (Nat.le_of_ble_eq_true rfl) rfl dX4_readNumber_221 ?_
                        have w52 : wrF q2.1 q.2.1 < 1000 := wrF_b (by first | omega | (dsimp only; omega)) (by first | omega | (dsimp only; omega))
                        refine Z.vret C hr hA dX4_readNumber_224 ?_
                        (refine congrArg (wN a cI cZ o) ?_; first | (rw [hm45]; simp [nLoop, nEnd, qWr, c41, (eq_false c45), (eq_false c46), (eq_false c47), (eq_false c48), (eq_false c49), (eq_true c51)]; done) | (rw [hm45]; simp_all [nLoop, nEnd, qWr]; done))
                      · skip
                        replace c51 : ¬ lN q2.2.2.1 < lN p0 := mt lgc_lt.mpr c51
                        refine Z.aload_n C dX4_readNumber_209 3 rfl rfl ?_
                        refine Z.get C in4 0 rfl rfl 29 (by decide) (by decide +kernel) rfl rfl dX4_readNumber_210 ?_
                        refine Z.lload_n C dX4_readNumber_213 5 rfl rfl ?_
                        refine Z.lcmp C (v := (lg_cmp (lN q2.2.2.1) (lN p1))) dX4_readNumber_214 rfl ?_
                        refine Z.if_le C 224 dX4_readNumber_215 (by decide) (fun c53 => ?_) (fun c53 => ?_)
                        · skip
                          replace c53 : ¬ lN p1 < lN q2.2.2.1 := lgc_le.mp c53
                          refine Z.vret C hr hA dX4_readNumber_224 ?_
                          (refine congrArg (wN a cI cZ o) ?_; first | (rw [hm45]; simp [nLoop, nEnd, qWr, c41, (eq_false c45), (eq_false c46), (eq_false c47), (eq_false c48), (eq_false c49), (eq_false c51), (eq_false c53)]; done) | (rw [hm45]; simp_all [nLoop, nEnd, qWr]; done))
                        · skip
                          replace c53 : lN p1 < lN q2.2.2.1 := Classical.not_not.mp (mt lgc_le.mpr c53)
                          refine Z.aload_n C dX4_readNumber_218 3 rfl rfl ?_
                          refine Z.iload C dX4_readNumber_219 2 rfl ?_
                          refine Z.callVv C (nA := 1) (As := [.int (nI q.2.1)]) (st := []) (c_wrong o q2 q.2.1  (by first | omega | (dsimp only; omega))) gX4_readNumber_X4_wrong rfl (by decide +kernel) (rm_ok (by omega) (by decide)) 0 rfl rfl rfl (Nat.le_of_ble_eq_true rfl) rfl dX4_readNumber_221 ?_
                          have w54 : wrF q2.1 q.2.1 < 1000 := wrF_b (by first | omega | (dsimp only; omega)) (by first | omega | (dsimp only; omega))
                          refine Z.vret C hr hA dX4_readNumber_224 ?_
                          (refine congrArg (wN a cI cZ o) ?_; first | (rw [hm45]; simp [nLoop, nEnd, qWr, c41, (eq_false c45), (eq_false c46), (eq_false c47), (eq_false c48), (eq_false c49), (eq_false c51), (eq_true c53)]; done) | (rw [hm45]; simp_all [nLoop, nEnd, qWr]; done))
                · skip
                  replace c47 : dg = 0 := (nI_eq (by omega) (by omega)).mp c47
                  refine Z.aload_n C dX4_readNumber_172 3 rfl rfl ?_
                  refine Z.aload_n C dX4_readNumber_173 3 rfl rfl ?_
                  refine Z.get C in4 0 rfl rfl 28 (by decide) (by decide +kernel) rfl rfl dX4_readNumber_174 ?_
                  refine Z.callVv C (nA := 1) (As := [.int (nI q2.2.1)]) (st := []) (c_wrong o q2 q2.2.1  (by first | omega | (dsimp only; omega))) gX4_readNumber_X4_wrong rfl (by decide +kernel) (rm_ok (by omega) (by decide)) 0 rfl rfl rfl (Nat.le_of_ble_eq_true rfl) rfl dX4_readNumber_177 ?_
                  have w55 : wrF q2.1 q2.2.1 < 1000 := wrF_b (by first | omega | (dsimp only; omega)) (by first | omega | (dsimp only; omega))
                  refine Z.goto C 224 dX4_readNumber_180 (by decide) ?_
                  refine Z.vret C hr hA dX4_readNumber_224 ?_
                  (refine congrArg (wN a cI cZ o) ?_; first | (rw [hm45]; simp [nLoop, nEnd, qWr, c41, (eq_false c45), (eq_false c46), (eq_true c47)]; done) | (rw [hm45]; simp_all [nLoop, nEnd, qWr]; done))
              · skip
                replace c46 : (97 : Int32) ≤ (hereN o.2.1 o.2.2.1 q2.2.1) := Int32.not_lt.mp c46
                have c46l := geN_lt c46
                refine Z.aload_n C dX4_readNumber_69 3 rfl rfl ?_
                refine Z.callVi C (nA := 0) (As := []) (st := []) (c_hereN o q2 (by first | omega | (dsimp only; omega)) (by first | omega | (dsimp only; omega))) gX4_readNumber_X4_here rfl (by decide +kernel) (rm_ok (by omega) (by decide)) 0 rfl rfl rfl (Nat.le_of_ble_eq_true rfl) rfl dX4_readNumber_70 ?_
                refine Z.bipush C (v := (nI 102)) dX4_readNumber_73 (by decide) ?_
                refine Z.icmp_gt C 167 dX4_readNumber_75 (by decide) (fun c56 => ?_) (fun c56 => ?_)
                · skip
                  replace c56 : ¬ (hereN o.2.1 o.2.2.1 q2.2.1) ≤ (102 : Int32) := Int32.not_le.mpr c56
                  refine Z.iload C dX4_readNumber_167 0 rfl ?_
                  refine Z.if_ne C 183 dX4_readNumber_169 (by decide) (fun c57 => ?_) (fun c57 => ?_)
                  · skip
                    replace c57 : ¬ dg = 0 := mt (nI_eq (by omega) (by omega)).mpr c57
                    refine Z.iload C dX4_readNumber_183 0 rfl ?_
                    refine Z.iload C dX4_readNumber_185 1 rfl ?_
                    refine Z.if_eq C 195 dX4_readNumber_187 (by decide) (fun c58 => ?_) (fun c58 => ?_)
                    · skip
                      replace c58 : 1 = 0 := (nI_eq (by omega) (by omega)).mp c58
                      exact absurd c58 (by decide)
                    · skip
                      replace c58 : ¬ 1 = 0 := mt (nI_eq (by omega) (by omega)).mpr c58
                      refine Z.bipush C (v := (nI 8)) dX4_readNumber_190 (by decide) ?_
                      refine Z.goto C 197 dX4_readNumber_192 (by decide) ?_
                      refine Z.icmp_gt C 218 dX4_readNumber_197 (by decide) (fun c59 => ?_) (fun c59 => ?_)
                      · skip
                        replace c59 : 8 < dg := (nI_ltI (by omega) (by omega)).mp c59
                        refine Z.aload_n C dX4_readNumber_218 3 rfl rfl ?_
                        refine Z.iload C dX4_readNumber_219 2 rfl ?_
                        refine Z.callVv C (nA := 1) (As := [.int (nI q.2.1)]) (st := []) (c_wrong o q2 q.2.1  (by first | omega | (dsimp only; omega))) gX4_readNumber_X4_wrong rfl (by decide +kernel) (rm_ok (by omega) (by decide)) 0 rfl rfl rfl (Nat.le_of_ble_eq_true rfl) rfl dX4_readNumber_221 ?_
                        have w60 : wrF q2.1 q.2.1 < 1000 := wrF_b (by first | omega | (dsimp only; omega)) (by first | omega | (dsimp only; omega))
                        refine Z.vret C hr hA dX4_readNumber_224 ?_
                        (refine congrArg (wN a cI cZ o) ?_; first | (rw [hm45]; simp [nLoop, nEnd, qWr, c41, (eq_false c45), (eq_true c46), (eq_false c56), (eq_false c57), (eq_false c58), (eq_true c59)]; done) | (rw [hm45]; simp_all [nLoop, nEnd, qWr]; done))
                      · skip
                        replace c59 : ¬ 8 < dg := mt (nI_ltI (by omega) (by omega)).mpr c59
                        refine Z.aload_n C dX4_readNumber_200 3 rfl rfl ?_
                        refine Z.get C in4 0 rfl rfl 29 (by decide) (by decide +kernel) rfl rfl dX4_readNumber_201 ?_
                        refine Z.lload_n C dX4_readNumber_204 4 rfl rfl ?_
                        refine Z.lcmp C (v := (lg_cmp (lN q2.2.2.1) (lN p0))) dX4_readNumber_205 rfl ?_
                        refine Z.if_lt C 218 dX4_readNumber_206 (by decide) (fun c61 => ?_) (fun c61 => ?_)
                        · skip
                          replace c61 : lN q2.2.2.1 < lN p0 := lgc_lt.mp c61
                          refine Z.aload_n C dX4_readNumber_218 3 rfl rfl ?_
                          refine Z.iload C dX4_readNumber_219 2 rfl ?_
                          refine Z.callVv C (nA := 1) (As := [.int (nI q.2.1)]) (st := []) (c_wrong o q2 q.2.1  (by first | omega | (dsimp only; omega))) gX4_readNumber_X4_wrong rfl (by decide +kernel) (rm_ok (by omega) (by decide)) 0 rfl rfl rfl (Nat.le_of_ble_eq_true rfl) rfl dX4_readNumber_221 ?_
                          have w62 : wrF q2.1 q.2.1 < 1000 := wrF_b (by first | omega | (dsimp only; omega)) (by first | omega | (dsimp only; omega))
                          refine Z.vret C hr hA dX4_readNumber_224 ?_
                          (refine congrArg (wN a cI cZ o) ?_; first | (rw [hm45]; simp [nLoop, nEnd, qWr, c41, (eq_false c45), (eq_true c46), (eq_false c56), (eq_false c57), (eq_false c58), (eq_false c59), (eq_true c61)]; done) | (rw [hm45]; simp_all [nLoop, nEnd, qWr]; done))
                        · skip
                          replace c61 : ¬ lN q2.2.2.1 < lN p0 := mt lgc_lt.mpr c61
                          refine Z.aload_n C dX4_readNumber_209 3 rfl rfl ?_
                          refine Z.get C in4 0 rfl rfl 29 (by decide) (by decide +kernel) rfl rfl dX4_readNumber_210 ?_
                          refine Z.lload_n C dX4_readNumber_213 5 rfl rfl ?_
                          refine Z.lcmp C (v := (lg_cmp (lN q2.2.2.1) (lN p1))) dX4_readNumber_214 rfl ?_
                          refine Z.if_le C 224 dX4_readNumber_215 (by decide) (fun c63 => ?_) (fun c63 => ?_)
                          · skip
                            replace c63 : ¬ lN p1 < lN q2.2.2.1 := lgc_le.mp c63
                            refine Z.vret C hr hA dX4_readNumber_224 ?_
                            (refine congrArg (wN a cI cZ o) ?_; first | (rw [hm45]; simp [nLoop, nEnd, qWr, c41, (eq_false c45), (eq_true c46), (eq_false c56), (eq_false c57), (eq_false c58), (eq_false c59), (eq_false c61), (eq_false c63)]; done) | (rw [hm45]; simp_all [nLoop, nEnd, qWr]; done))
                          · skip
                            replace c63 : lN p1 < lN q2.2.2.1 := Classical.not_not.mp (mt lgc_le.mpr c63)
                            refine Z.aload_n C dX4_readNumber_218 3 rfl rfl ?_
                            refine Z.iload C dX4_readNumber_219 2 rfl ?_
                            refine Z.callVv C (nA := 1) (As := [.int (nI q.2.1)]) (st := []) (c_wrong o q2 q.2.1  (by first | omega | (dsimp only; omega))) gX4_readNumber_X4_wrong rfl (by decide +kernel) (rm_ok (by omega) (by decide)) 0 rfl rfl rfl (Nat.le_of_ble_eq_true rfl) rfl dX4_readNumber_221 ?_
                            have w64 : wrF q2.1 q.2.1 < 1000 := wrF_b (by first | omega | (dsimp only; omega)) (by first | omega | (dsimp only; omega))
                            refine Z.vret C hr hA dX4_readNumber_224 ?_
                            (refine congrArg (wN a cI cZ o) ?_; first | (rw [hm45]; simp [nLoop, nEnd, qWr, c41, (eq_false c45), (eq_true c46), (eq_false c56), (eq_false c57), (eq_false c58), (eq_false c59), (eq_false c61), (eq_true c63)]; done) | (rw [hm45]; simp_all [nLoop, nEnd, qWr]; done))
                  · skip
                    replace c57 : dg = 0 := (nI_eq (by omega) (by omega)).mp c57
                    refine Z.aload_n C dX4_readNumber_172 3 rfl rfl ?_
                    refine Z.aload_n C dX4_readNumber_173 3 rfl rfl ?_
                    refine Z.get C in4 0 rfl rfl 28 (by decide) (by decide +kernel) rfl rfl dX4_readNumber_174 ?_
                    refine Z.callVv C (nA := 1) (As := [.int (nI q2.2.1)]) (st := []) (c_wrong o q2 q2.2.1  (by first | omega | (dsimp only; omega))) gX4_readNumber_X4_wrong rfl (by decide +kernel) (rm_ok (by omega) (by decide)) 0 rfl rfl rfl (Nat.le_of_ble_eq_true rfl) rfl dX4_readNumber_177 ?_
                    have w65 : wrF q2.1 q2.2.1 < 1000 := wrF_b (by first | omega | (dsimp only; omega)) (by first | omega | (dsimp only; omega))
                    refine Z.goto C 224 dX4_readNumber_180 (by decide) ?_
                    refine Z.vret C hr hA dX4_readNumber_224 ?_
                    (refine congrArg (wN a cI cZ o) ?_; first | (rw [hm45]; simp [nLoop, nEnd, qWr, c41, (eq_false c45), (eq_true c46), (eq_false c56), (eq_true c57)]; done) | (rw [hm45]; simp_all [nLoop, nEnd, qWr]; done))
                · skip
                  replace c56 : (hereN o.2.1 o.2.2.1 q2.2.1) ≤ (102 : Int32) := Int32.not_lt.mp c56
                  refine Z.aload_n C dX4_readNumber_78 3 rfl rfl ?_
                  refine Z.callVi C (nA := 0) (As := []) (st := []) (c_hereN o q2 (by first | omega | (dsimp only; omega)) (by first | omega | (dsimp only; omega))) gX4_readNumber_X4_here rfl (by decide +kernel) (rm_ok (by omega) (by decide)) 0 rfl rfl rfl (Nat.le_of_ble_eq_true rfl) rfl dX4_readNumber_79 ?_
                  refine Z.callSi C (nA := 1) (As := [.int (hereN o.2.1 o.2.2.1 q2.2.1)]) (st := []) (c_isDigit (hereN o.2.1 o.2.2.1 q2.2.1)) gX4_readNumber_X4_isDigit rfl (by decide +kernel) (rm_ok (by omega) (by decide)) rfl (Nat.le_of_ble_eq_true rfl) rfl dX4_readNumber_82 ?_
                  refine Z.if_eq C 98 dX4_readNumber_85 (by decide) (fun c66 => ?_) (fun c66 => ?_)
                  · skip
                    replace c66 : isDigF (hereN o.2.1 o.2.2.1 q2.2.1) = false := b2i_0.mp c66
                    refine Z.aload_n C dX4_readNumber_98 3 rfl rfl ?_
                    refine Z.callVi C (nA := 0) (As := []) (st := []) (c_hereN o q2 (by first | omega | (dsimp only; omega)) (by first | omega | (dsimp only; omega))) gX4_readNumber_X4_here rfl (by decide +kernel) (rm_ok (by omega) (by decide)) 0 rfl rfl rfl (Nat.le_of_ble_eq_true rfl) rfl dX4_readNumber_99 ?_
                    refine Z.bipush C (v := (nI 97)) dX4_readNumber_102 (by decide) ?_
                    refine Z.isub C (v := ((hereN o.2.1 o.2.2.1 q2.2.1) - (97 : Int32))) dX4_readNumber_104 rfl ?_
                    refine Z.bipush C (v := (nI 10)) dX4_readNumber_105 (by decide) ?_
                    refine Z.iadd C (v := (((hereN o.2.1 o.2.2.1 q2.2.1) - (97 : Int32)) + (10 : Int32))) dX4_readNumber_107 rfl ?_
                    refine Z.istore C (lv' := [(8, .int (((hereN o.2.1 o.2.2.1 q2.2.1) - (97 : Int32)) + (10 : Int32))), (6, .int (nI dg)), (7, .int (nI 1)), (5, .int (nI q.2.1)), (0, .ref (a 0)), (1, .long (lN p0)), (3, .long (lN p1))]) dX4_readNumber_108 (by decide) rfl ?_
                    refine Z.aload_n C dX4_readNumber_110 4 rfl rfl ?_
                    refine Z.iload C dX4_readNumber_111 1 rfl ?_
                    refine Z.bipush C (v := (nI 10)) dX4_readNumber_113 (by decide) ?_
                    refine Z.icmp_ge C 144 dX4_readNumber_115 (by decide) (fun c67 => ?_) (fun c67 => ?_)
                    · skip
                      replace c67 : ¬ dg < 10 := Nat.not_lt.mpr ((nI_leI (by omega) (by omega)).mp c67)
                      refine Z.aload_n C dX4_readNumber_144 4 rfl rfl ?_
                      refine Z.get C in4 0 rfl rfl 29 (by decide) (by decide +kernel) rfl rfl dX4_readNumber_145 ?_
                      refine Z.put C in4 0 rfl rfl 29 (by decide) tyX4 tyX4_ok nmX4 (by decide +kernel) rfl rfl rfl rfl (Nat.le_of_ble_eq_true rfl) dX4_readNumber_148 (w' := (wN a cI cZ o q2)) rfl ?_
                      refine Z.iinc C (v := (nI (dg + 1))) (lv' := [(6, .int (nI (dg + 1))), (8, .int (((hereN o.2.1 o.2.2.1 q2.2.1) - (97 : Int32)) + (10 : Int32))), (7, .int (nI 1)), (5, .int (nI q.2.1)), (0, .ref (a 0)), (1, .long (lN p0)), (3, .long (lN p1))]) dX4_readNumber_151 1 rfl (nI_add dg 1) (by decide) rfl ?_
                      refine Z.aload_n C dX4_readNumber_154 4 rfl rfl ?_
                      refine Z.dup C dX4_readNumber_155 rfl ?_
                      refine Z.get C in4 0 rfl rfl 28 (by decide) (by decide +kernel) rfl rfl dX4_readNumber_156 ?_
                      refine Z.iconst C (v := (nI 1)) dX4_readNumber_159 (by decide) ?_
                      refine Z.iadd C (v := (nI (q2.2.1 + 1))) dX4_readNumber_160 (nI_add q2.2.1 1) ?_
                      refine Z.put C in4 0 rfl rfl 28 (by decide) tyX4 tyX4_ok nmX4 (by decide +kernel) rfl rfl rfl rfl (Nat.le_of_ble_eq_true rfl) dX4_readNumber_161 (w' := (wN a cI cZ o (q2.1, q2.2.1 + 1, q2.2.2))) rfl ?_
                      refine Z.goto C 45 dX4_readNumber_164 (by decide) ?_
                      refine Z.sub [0, 2, 3, 4, 5, 6] rfl ?_
                      exact ih45 (dg + 1) (q2.1, q2.2.1 + 1, q2.2.2) (by first | omega | (dsimp only; omega)) (by omega) ⟨by first | omega | (dsimp only; omega), by first | omega | (dsimp only; omega)⟩ (by rw [hm45, nLoop]; simp [qAt1, c41, (eq_false c45), (eq_true c46), (eq_true c56), c66, (eq_false c67)])
                    · skip
                      replace c67 : dg < 10 := Nat.not_le.mp (mt (nI_leI (by omega) (by omega)).mpr c67)
                      refine Z.iload C dX4_readNumber_118 2 rfl ?_
                      refine Z.if_eq C 129 dX4_readNumber_120 (by decide) (fun c68 => ?_) (fun c68 => ?_)
                      · skip
                        replace c68 : 1 = 0 := (nI_eq (by omega) (by omega)).mp c68
                        exact absurd c68 (by decide)
                      · skip
                        replace c68 : ¬ 1 = 0 := mt (nI_eq (by omega) (by omega)).mpr c68
                        refine Z.ldc2 C (v := lN 16) dX4_readNumber_123 (by decide +kernel) ?_
                        refine Z.goto C 132 dX4_readNumber_126 (by decide) ?_
                        refine Z.aload_n C dX4_readNumber_132 4 rfl rfl ?_
                        refine Z.get C in4 0 rfl rfl 29 (by decide) (by decide +kernel) rfl rfl dX4_readNumber_133 ?_
                        refine Z.lmul C (v := (lN (16 * q2.2.2.1))) dX4_readNumber_136 (lN_mul 16 q2.2.2.1) ?_
                        refine Z.iload C dX4_readNumber_137 0 rfl ?_
                        refine Z.i2l C (v := (lN ((((hereN o.2.1 o.2.2.1 q2.2.1) - (97 : Int32)) + (10 : Int32)).toNatClampNeg))) dX4_readNumber_139 (i64_of (hexN_ge (by assumption) (by assumption))) ?_
                        refine Z.ladd C (v := (lN ((16 * q2.2.2.1) + ((((hereN o.2.1 o.2.2.1 q2.2.1) - (97 : Int32)) + (10 : Int32)).toNatClampNeg)))) dX4_readNumber_140 (lN_add (16 * q2.2.2.1) ((((hereN o.2.1 o.2.2.1 q2.2.1) - (97 : Int32)) + (10 : Int32)).toNatClampNeg)) ?_
                        refine Z.goto C 148 dX4_readNumber_141 (by decide) ?_
                        refine Z.put C in4 0 rfl rfl 29 (by decide) tyX4 tyX4_ok nmX4 (by decide +kernel) rfl rfl rfl rfl (Nat.le_of_ble_eq_true rfl) dX4_readNumber_148 (w' := (wN a cI cZ o (q2.1, q2.2.1, (16 * q2.2.2.1) + ((((hereN o.2.1 o.2.2.1 q2.2.1) - (97 : Int32)) + (10 : Int32)).toNatClampNeg), q2.2.2.2))) rfl ?_
                        refine Z.iinc C (v := (nI (dg + 1))) (lv' := [(6, .int (nI (dg + 1))), (8, .int (((hereN o.2.1 o.2.2.1 q2.2.1) - (97 : Int32)) + (10 : Int32))), (7, .int (nI 1)), (5, .int (nI q.2.1)), (0, .ref (a 0)), (1, .long (lN p0)), (3, .long (lN p1))]) dX4_readNumber_151 1 rfl (nI_add dg 1) (by decide) rfl ?_
                        refine Z.aload_n C dX4_readNumber_154 4 rfl rfl ?_
                        refine Z.dup C dX4_readNumber_155 rfl ?_
                        refine Z.get C in4 0 rfl rfl 28 (by decide) (by decide +kernel) rfl rfl dX4_readNumber_156 ?_
                        refine Z.iconst C (v := (nI 1)) dX4_readNumber_159 (by decide) ?_
                        refine Z.iadd C (v := (nI (q2.2.1 + 1))) dX4_readNumber_160 (nI_add q2.2.1 1) ?_
                        refine Z.put C in4 0 rfl rfl 28 (by decide) tyX4 tyX4_ok nmX4 (by decide +kernel) rfl rfl rfl rfl (Nat.le_of_ble_eq_true rfl) dX4_readNumber_161 (w' := (wN a cI cZ o (q2.1, q2.2.1 + 1, (16 * q2.2.2.1) + ((((hereN o.2.1 o.2.2.1 q2.2.1) - (97 : Int32)) + (10 : Int32)).toNatClampNeg), q2.2.2.2))) rfl ?_
                        refine Z.goto C 45 dX4_readNumber_164 (by decide) ?_
                        refine Z.sub [0, 2, 3, 4, 5, 6] rfl ?_
                        exact ih45 (dg + 1) (q2.1, q2.2.1 + 1, (16 * q2.2.2.1) + ((((hereN o.2.1 o.2.2.1 q2.2.1) - (97 : Int32)) + (10 : Int32)).toNatClampNeg), q2.2.2.2) (by first | omega | (dsimp only; omega)) (by omega) ⟨by first | omega | (dsimp only; omega), by first | omega | (dsimp only; omega)⟩ (by rw [hm45, nLoop]; simp [qAt1, c41, (eq_false c45), (eq_true c46), (eq_true c56), c66, (eq_true c67), (eq_false c68)])
                  · skip
                    replace c66 : isDigF (hereN o.2.1 o.2.2.1 q2.2.1) = true := b2i_n0.mp c66
                    exact absurd (c41.symm.trans c66) (by decide)
      refine Z.sub [1, 0, 2, 3, 4, 5] rfl ?_
      exact key45 o.2.2.1 0 (q.1, q.2.1 + 1, 0, q.2.2.2) (by first | omega | (dsimp only; omega)) (by omega) ⟨by first | omega | (dsimp only; omega), by first | omega | (dsimp only; omega)⟩ (by simp [qNumber, qAt1, (eq_true c1), (eq_false c28)])
