set_option maxHeartbeats 4000000 in
set_option maxRecDepth 100000 in
theorem c_readNumberN {l : Launch} {D : va_G} {a : Nat → Nat} {cI cZ : ClassId} (o : OS) (q : QS) (p0 : Nat) (p1 : Nat) (hL : o.2.2.1 ≤ 480) (ha : q.2.1 ≤ 489) (hf : q.1 < 2 ^ 31) : Mv l yX4_readNumber wsX4_readNumber 2 D [(cI, .int), (cZ, .boolean)] [.ref (a 0), .long (lN p0), .long (lN p1)] (wN a cI cZ o q) (wN a cI cZ o (qNumber o.2.1 o.2.2.1 p0 p1 q)) := by
  refine Mv.of (cc := cX4_readNumber) (maxL := 9) (by decide) rfl (Nat.le_of_ble_eq_true rfl) ?_
  intro p e s m below meth c A C hr hA
  have in4 : ∀ w ∈ wsX40, w ∈ wsX4_readNumber := by decide +kernel
  show Z p l e (rmN _) s m _ below meth c _ D A _ _ [(0, .ref (a 0)), (1, .long (lN p0)), (3, .long (lN p1))] 0 []
  refine Z.aload_n C dX4_readNumber_0 0 rfl rfl ?_
  refine Z.get C in4 0 rfl rfl 28 (by decide) (by decide +kernel) rfl rfl dX4_readNumber_1 ?_
  refine Z.istore C (lv' := [(5, .int (nI q.2.1)), (0, .ref (a 0)), (1, .long (lN p0)), (3, .long (lN p1))]) dX4_readNumber_4 (by decide) rfl ?_
  refine Z.iconst C (v := (nI 0)) dX4_readNumber_6 (by decide) ?_
  refine Z.istore C (lv' := [(6, .int (nI 0)), (5, .int (nI q.2.1)), (0, .ref (a 0)), (1, .long (lN p0)), (3, .long (lN p1))]) dX4_readNumber_7 (by decide) rfl ?_
  refine Z.aload_n C dX4_readNumber_9 2 rfl rfl ?_
  refine Z.lconst C (v := lN 0) dX4_readNumber_10 (by decide) ?_
  refine Z.put C in4 0 rfl rfl 29 (by decide) tyX4 tyX4_ok nmX4 (by decide +kernel) rfl rfl rfl rfl (Nat.le_of_ble_eq_true rfl) dX4_readNumber_11 (w' := (wN a cI cZ o (q.1, q.2.1, 0, q.2.2.2))) rfl ?_
  refine Z.aload_n C dX4_readNumber_14 2 rfl rfl ?_
  refine Z.callVi C (nA := 0) (As := []) (st := []) (c_hereN o (q.1, q.2.1, 0, q.2.2.2) (by first | omega | (dsimp only; omega)) (by first | omega | (dsimp only; omega))) gX4_readNumber_X4_here rfl (by decide +kernel) (rm_ok (by omega) (by decide)) 0 rfl rfl rfl (Nat.le_of_ble_eq_true rfl) rfl dX4_readNumber_15 ?_
  refine Z.bipush C (v := (nI 36)) dX4_readNumber_18 (by decide) ?_
  refine Z.icmp_ne C 27 dX4_readNumber_20 (by decide) (fun c1 => ?_) (fun c1 => ?_)
  · skip
    replace c1 : ¬ (hereN o.2.1 o.2.2.1 q.2.1) = (36 : Int32) := c1
    refine Z.iconst C (v := (nI 0)) dX4_readNumber_27 (by decide) ?_
    refine Z.istore C (lv' := [(7, .int (nI 0)), (6, .int (nI 0)), (5, .int (nI q.2.1)), (0, .ref (a 0)), (1, .long (lN p0)), (3, .long (lN p1))]) dX4_readNumber_28 (by decide) rfl ?_
    refine Z.iload C dX4_readNumber_30 0 rfl ?_
    refine Z.if_eq C 45 dX4_readNumber_32 (by decide) (fun c2 => ?_) (fun c2 => ?_)
    · skip
      replace c2 : 0 = 0 := (nI_eq (by omega) (by omega)).mp c2
      have key45 : ∀ (n : Nat) (dg : Nat) (q2 : QS), o.2.2.1 ≤ q2.2.1 + n → dg + n ≤ 1000 → q2.2.1 ≤ 490 ∧ q2.1 < 2 ^ 31 → qNumber o.2.1 o.2.2.1 p0 p1 q = nLoop o.2.1 o.2.2.1 p0 p1 q.2.1 10 false n dg q2 → Z p l e (rmN 2) s m ([.ref (a 0), .long (lN p0), .long (lN p1)] : List Value).toArray below meth c 9 D A (QV below D [(cI, .int), (cZ, .boolean)] [.ref (a 0), .long (lN p0), .long (lN p1)] (wN a cI cZ o q) (wN a cI cZ o (qNumber o.2.1 o.2.2.1 p0 p1 q)) s) (wN a cI cZ o q2) [(6, .int (nI dg)), (7, .int (nI 0)), (5, .int (nI q.2.1)), (0, .ref (a 0)), (1, .long (lN p0)), (3, .long (lN p1))] 45 [] := by
        intro n
        induction n with
        | zero =>
          intro dg q2 hn hdg hat hm45
          obtain ⟨k1, k2⟩ := hat
          refine Z.aload_n C dX4_readNumber_45 3 rfl rfl ?_
          refine Z.callVi C (nA := 0) (As := []) (st := []) (c_hereN o q2 (by first | omega | (dsimp only; omega)) (by first | omega | (dsimp only; omega))) gX4_readNumber_X4_here rfl (by decide +kernel) (rm_ok (by omega) (by decide)) 0 rfl rfl rfl (Nat.le_of_ble_eq_true rfl) rfl dX4_readNumber_46 ?_
          refine Z.callSi C (nA := 1) (As := [.int (hereN o.2.1 o.2.2.1 q2.2.1)]) (st := []) (c_isDigit (hereN o.2.1 o.2.2.1 q2.2.1)) gX4_readNumber_X4_isDigit rfl (by decide +kernel) (rm_ok (by omega) (by decide)) rfl (Nat.le_of_ble_eq_true rfl) rfl dX4_readNumber_49 ?_
          refine Z.if_ne C 78 dX4_readNumber_52 (by decide) (fun c3 => ?_) (fun c3 => ?_)
          · skip
            replace c3 : isDigF (hereN o.2.1 o.2.2.1 q2.2.1) = true := b2i_n0.mp c3
            have c3l := digN_lt c3
            exact absurd c3l (by omega)
          · skip
            replace c3 : isDigF (hereN o.2.1 o.2.2.1 q2.2.1) = false := b2i_0.mp c3
            refine Z.iload C dX4_readNumber_55 1 rfl ?_
            refine Z.if_eq C 167 dX4_readNumber_57 (by decide) (fun c4 => ?_) (fun c4 => ?_)
            · skip
              replace c4 : 0 = 0 := (nI_eq (by omega) (by omega)).mp c4
              refine Z.iload C dX4_readNumber_167 0 rfl ?_
              refine Z.if_ne C 183 dX4_readNumber_169 (by decide) (fun c5 => ?_) (fun c5 => ?_)
              · skip
                replace c5 : ¬ dg = 0 := mt (nI_eq (by omega) (by omega)).mpr c5
                refine Z.iload C dX4_readNumber_183 0 rfl ?_
                refine Z.iload C dX4_readNumber_185 1 rfl ?_
                refine Z.if_eq C 195 dX4_readNumber_187 (by decide) (fun c6 => ?_) (fun c6 => ?_)
                · skip
                  replace c6 : 0 = 0 := (nI_eq (by omega) (by omega)).mp c6
                  refine Z.bipush C (v := (nI 10)) dX4_readNumber_195 (by decide) ?_
                  refine Z.icmp_gt C 218 dX4_readNumber_197 (by decide) (fun c7 => ?_) (fun c7 => ?_)
                  · skip
                    replace c7 : 10 < dg := (nI_ltI (by omega) (by omega)).mp c7
                    refine Z.aload_n C dX4_readNumber_218 3 rfl rfl ?_
                    refine Z.iload C dX4_readNumber_219 2 rfl ?_
                    refine Z.callVv C (nA := 1) (As := [.int (nI q.2.1)]) (st := []) (c_wrong o q2 q.2.1  (by first | omega | (dsimp only; omega))) gX4_readNumber_X4_wrong rfl (by decide +kernel) (rm_ok (by omega) (by decide)) 0 rfl rfl rfl (Nat.le_of_ble_eq_true rfl) rfl dX4_readNumber_221 ?_
                    refine Z.vret C hr hA dX4_readNumber_224 ?_
                    (refine congrArg (wN a cI cZ o) ?_; first | (rw [hm45]; simp [nLoop, nEnd, qWr, c3, (eq_true c4), (eq_false c5), (eq_true c6), (eq_true c7)]; done) | (rw [hm45]; simp_all [nLoop, nEnd, qWr]; done))
                  · skip
                    replace c7 : ¬ 10 < dg := mt (nI_ltI (by omega) (by omega)).mpr c7
                    refine Z.aload_n C dX4_readNumber_200 3 rfl rfl ?_
                    refine Z.get C in4 0 rfl rfl 29 (by decide) (by decide +kernel) rfl rfl dX4_readNumber_201 ?_
                    refine Z.lload_n C dX4_readNumber_204 4 rfl rfl ?_
                    refine Z.lcmp C (v := (lg_cmp (lN q2.2.2.1) (lN p0))) dX4_readNumber_205 rfl ?_
                    refine Z.if_lt C 218 dX4_readNumber_206 (by decide) (fun c8 => ?_) (fun c8 => ?_)
                    · skip
                      replace c8 : lN q2.2.2.1 < lN p0 := lgc_lt.mp c8
                      refine Z.aload_n C dX4_readNumber_218 3 rfl rfl ?_
                      refine Z.iload C dX4_readNumber_219 2 rfl ?_
                      refine Z.callVv C (nA := 1) (As := [.int (nI q.2.1)]) (st := []) (c_wrong o q2 q.2.1  (by first | omega | (dsimp only; omega))) gX4_readNumber_X4_wrong rfl (by decide +kernel) (rm_ok (by omega) (by decide)) 0 rfl rfl rfl (Nat.le_of_ble_eq_true rfl) rfl dX4_readNumber_221 ?_
                      refine Z.vret C hr hA dX4_readNumber_224 ?_
                      (refine congrArg (wN a cI cZ o) ?_; first | (rw [hm45]; simp [nLoop, nEnd, qWr, c3, (eq_true c4), (eq_false c5), (eq_true c6), (eq_false c7), (eq_true c8)]; done) | (rw [hm45]; simp_all [nLoop, nEnd, qWr]; done))
                    · skip
                      replace c8 : ¬ lN q2.2.2.1 < lN p0 := mt lgc_lt.mpr c8
                      refine Z.aload_n C dX4_readNumber_209 3 rfl rfl ?_
                      refine Z.get C in4 0 rfl rfl 29 (by decide) (by decide +kernel) rfl rfl dX4_readNumber_210 ?_
                      refine Z.lload_n C dX4_readNumber_213 5 rfl rfl ?_
                      refine Z.lcmp C (v := (lg_cmp (lN q2.2.2.1) (lN p1))) dX4_readNumber_214 rfl ?_
                      refine Z.if_le C 224 dX4_readNumber_215 (by decide) (fun c9 => ?_) (fun c9 => ?_)
                      · skip
                        replace c9 : ¬ lN p1 < lN q2.2.2.1 := lgc_le.mp c9
                        refine Z.vret C hr hA dX4_readNumber_224 ?_
                        (refine congrArg (wN a cI cZ o) ?_; first | (rw [hm45]; simp [nLoop, nEnd, qWr, c3, (eq_true c4), (eq_false c5), (eq_true c6), (eq_false c7), (eq_false c8), (eq_false c9)]; done) | (rw [hm45]; simp_all [nLoop, nEnd, qWr]; done))
                      · skip
                        replace c9 : lN p1 < lN q2.2.2.1 := Classical.not_not.mp (mt lgc_le.mpr c9)
                        refine Z.aload_n C dX4_readNumber_218 3 rfl rfl ?_
                        refine Z.iload C dX4_readNumber_219 2 rfl ?_
                        refine Z.callVv C (nA := 1) (As := [.int (nI q.2.1)]) (st := []) (c_wrong o q2 q.2.1  (by first | omega | (dsimp only; omega))) gX4_readNumber_X4_wrong rfl (by decide +kernel) (rm_ok (by omega) (by decide)) 0 rfl rfl rfl (Nat.le_of_ble_eq_true rfl) rfl dX4_readNumber_221 ?_
                        refine Z.vret C hr hA dX4_readNumber_224 ?_
                        (refine congrArg (wN a cI cZ o) ?_; first | (rw [hm45]; simp [nLoop, nEnd, qWr, c3, (eq_true c4), (eq_false c5), (eq_true c6), (eq_false c7), (eq_false c8), (eq_true c9)]; done) | (rw [hm45]; simp_all [nLoop, nEnd, qWr]; done))
                · skip
                  replace c6 : ¬ 0 = 0 := mt (nI_eq (by omega) (by omega)).mpr c6
                  exact absurd c6 (by decide)
              · skip
                replace c5 : dg = 0 := (nI_eq (by omega) (by omega)).mp c5
                refine Z.aload_n C dX4_readNumber_172 3 rfl rfl ?_
                refine Z.aload_n C dX4_readNumber_173 3 rfl rfl ?_
                refine Z.get C in4 0 rfl rfl 28 (by decide) (by decide +kernel) rfl rfl dX4_readNumber_174 ?_
                refine Z.callVv C (nA := 1) (As := [.int (nI q2.2.1)]) (st := []) (c_wrong o q2 q2.2.1  (by first | omega | (dsimp only; omega))) gX4_readNumber_X4_wrong rfl (by decide +kernel) (rm_ok (by omega) (by decide)) 0 rfl rfl rfl (Nat.le_of_ble_eq_true rfl) rfl dX4_readNumber_177 ?_
                refine Z.goto C 224 dX4_readNumber_180 (by decide) ?_
                refine Z.vret C hr hA dX4_readNumber_224 ?_
                (refine congrArg (wN a cI cZ o) ?_; first | (rw [hm45]; simp [nLoop, nEnd, qWr, c3, (eq_true c4), (eq_true c5)]; done) | (rw [hm45]; simp_all [nLoop, nEnd, qWr]; done))
            · skip
              replace c4 : ¬ 0 = 0 := mt (nI_eq (by omega) (by omega)).mpr c4
              exact absurd c4 (by decide)
        | succ n ih45 =>
          intro dg q2 hn hdg hat hm45
          obtain ⟨k1, k2⟩ := hat
          refine Z.aload_n C dX4_readNumber_45 3 rfl rfl ?_
          refine Z.callVi C (nA := 0) (As := []) (st := []) (c_hereN o q2 (by first | omega | (dsimp only; omega)) (by first | omega | (dsimp only; omega))) gX4_readNumber_X4_here rfl (by decide +kernel) (rm_ok (by omega) (by decide)) 0 rfl rfl rfl (Nat.le_of_ble_eq_true rfl) rfl dX4_readNumber_46 ?_
          refine Z.callSi C (nA := 1) (As := [.int (hereN o.2.1 o.2.2.1 q2.2.1)]) (st := []) (c_isDigit (hereN o.2.1 o.2.2.1 q2.2.1)) gX4_readNumber_X4_isDigit rfl (by decide +kernel) (rm_ok (by omega) (by decide)) rfl (Nat.le_of_ble_eq_true rfl) rfl dX4_readNumber_49 ?_
          refine Z.if_ne C 78 dX4_readNumber_52 (by decide) (fun c10 => ?_) (fun c10 => ?_)
          · skip
            replace c10 : isDigF (hereN o.2.1 o.2.2.1 q2.2.1) = true := b2i_n0.mp c10
            have c10l := digN_lt c10
            refine Z.aload_n C dX4_readNumber_78 3 rfl rfl ?_
            refine Z.callVi C (nA := 0) (As := []) (st := []) (c_hereN o q2 (by first | omega | (dsimp only; omega)) (by first | omega | (dsimp only; omega))) gX4_readNumber_X4_here rfl (by decide +kernel) (rm_ok (by omega) (by decide)) 0 rfl rfl rfl (Nat.le_of_ble_eq_true rfl) rfl dX4_readNumber_79 ?_
            refine Z.callSi C (nA := 1) (As := [.int (hereN o.2.1 o.2.2.1 q2.2.1)]) (st := []) (c_isDigit (hereN o.2.1 o.2.2.1 q2.2.1)) gX4_readNumber_X4_isDigit rfl (by decide +kernel) (rm_ok (by omega) (by decide)) rfl (Nat.le_of_ble_eq_true rfl) rfl dX4_readNumber_82 ?_
            refine Z.if_eq C 98 dX4_readNumber_85 (by decide) (fun c11 => ?_) (fun c11 => ?_)
            · skip
              replace c11 : isDigF (hereN o.2.1 o.2.2.1 q2.2.1) = false := b2i_0.mp c11
              exact absurd (c10.symm.trans c11) (by decide)
            · skip
              replace c11 : isDigF (hereN o.2.1 o.2.2.1 q2.2.1) = true := b2i_n0.mp c11
              refine Z.aload_n C dX4_readNumber_88 3 rfl rfl ?_
              refine Z.callVi C (nA := 0) (As := []) (st := []) (c_hereN o q2 (by first | omega | (dsimp only; omega)) (by first | omega | (dsimp only; omega))) gX4_readNumber_X4_here rfl (by decide +kernel) (rm_ok (by omega) (by decide)) 0 rfl rfl rfl (Nat.le_of_ble_eq_true rfl) rfl dX4_readNumber_89 ?_
              refine Z.bipush C (v := (nI 48)) dX4_readNumber_92 (by decide) ?_
              refine Z.isub C (v := ((hereN o.2.1 o.2.2.1 q2.2.1) - (48 : Int32))) dX4_readNumber_94 rfl ?_
              refine Z.goto C 108 dX4_readNumber_95 (by decide) ?_
              refine Z.istore C (lv' := [(8, .int ((hereN o.2.1 o.2.2.1 q2.2.1) - (48 : Int32))), (6, .int (nI dg)), (7, .int (nI 0)), (5, .int (nI q.2.1)), (0, .ref (a 0)), (1, .long (lN p0)), (3, .long (lN p1))]) dX4_readNumber_108 (by decide) rfl ?_
              refine Z.aload_n C dX4_readNumber_110 4 rfl rfl ?_
              refine Z.iload C dX4_readNumber_111 1 rfl ?_
              refine Z.bipush C (v := (nI 10)) dX4_readNumber_113 (by decide) ?_
              refine Z.icmp_ge C 144 dX4_readNumber_115 (by decide) (fun c12 => ?_) (fun c12 => ?_)
              · skip
                replace c12 : ¬ dg < 10 := Nat.not_lt.mpr ((nI_leI (by omega) (by omega)).mp c12)
                refine Z.aload_n C dX4_readNumber_144 4 rfl rfl ?_
                refine Z.get C in4 0 rfl rfl 29 (by decide) (by decide +kernel) rfl rfl dX4_readNumber_145 ?_
                refine Z.put C in4 0 rfl rfl 29 (by decide) tyX4 tyX4_ok nmX4 (by decide +kernel) rfl rfl rfl rfl (Nat.le_of_ble_eq_true rfl) dX4_readNumber_148 (w' := (wN a cI cZ o q2)) rfl ?_
                refine Z.iinc C (v := (nI (dg + 1))) (lv' := [(6, .int (nI (dg + 1))), (8, .int ((hereN o.2.1 o.2.2.1 q2.2.1) - (48 : Int32))), (7, .int (nI 0)), (5, .int (nI q.2.1)), (0, .ref (a 0)), (1, .long (lN p0)), (3, .long (lN p1))]) dX4_readNumber_151 1 rfl (nI_add dg 1) (by decide) rfl ?_
                refine Z.aload_n C dX4_readNumber_154 4 rfl rfl ?_
                refine Z.dup C dX4_readNumber_155 rfl ?_
                refine Z.get C in4 0 rfl rfl 28 (by decide) (by decide +kernel) rfl rfl dX4_readNumber_156 ?_
                refine Z.iconst C (v := (nI 1)) dX4_readNumber_159 (by decide) ?_
                refine Z.iadd C (v := (nI (q2.2.1 + 1))) dX4_readNumber_160 (nI_add q2.2.1 1) ?_
                refine Z.put C in4 0 rfl rfl 28 (by decide) tyX4 tyX4_ok nmX4 (by decide +kernel) rfl rfl rfl rfl (Nat.le_of_ble_eq_true rfl) dX4_readNumber_161 (w' := (wN a cI cZ o (q2.1, q2.2.1 + 1, q2.2.2))) rfl ?_
                refine Z.goto C 45 dX4_readNumber_164 (by decide) ?_
                refine Z.sub [0, 2, 3, 4, 5, 6] rfl ?_
                exact ih45 (dg + 1) (q2.1, q2.2.1 + 1, q2.2.2) (by first | omega | (dsimp only; omega)) (by omega) ⟨by first | omega | (dsimp only; omega), by first | omega | (dsimp only; omega)⟩ (by rw [hm45, nLoop]; simp [qAt1, c10, c11, (eq_false c12)])
              · skip
                replace c12 : dg < 10 := Nat.not_le.mp (mt (nI_leI (by omega) (by omega)).mpr c12)
                refine Z.iload C dX4_readNumber_118 2 rfl ?_
                refine Z.if_eq C 129 dX4_readNumber_120 (by decide) (fun c13 => ?_) (fun c13 => ?_)
                · skip
                  replace c13 : 0 = 0 := (nI_eq (by omega) (by omega)).mp c13
                  refine Z.ldc2 C (v := lN 10) dX4_readNumber_129 (by decide +kernel) ?_
                  refine Z.aload_n C dX4_readNumber_132 4 rfl rfl ?_
                  refine Z.get C in4 0 rfl rfl 29 (by decide) (by decide +kernel) rfl rfl dX4_readNumber_133 ?_
                  refine Z.lmul C (v := (lN (10 * q2.2.2.1))) dX4_readNumber_136 (lN_mul 10 q2.2.2.1) ?_
                  refine Z.iload C dX4_readNumber_137 0 rfl ?_
                  refine Z.i2l C (v := (lN (((hereN o.2.1 o.2.2.1 q2.2.1) - (48 : Int32)).toNatClampNeg))) dX4_readNumber_139 (i64_of (digN_ge (by assumption))) ?_
                  refine Z.ladd C (v := (lN ((10 * q2.2.2.1) + (((hereN o.2.1 o.2.2.1 q2.2.1) - (48 : Int32)).toNatClampNeg)))) dX4_readNumber_140 (lN_add (10 * q2.2.2.1) (((hereN o.2.1 o.2.2.1 q2.2.1) - (48 : Int32)).toNatClampNeg)) ?_
                  refine Z.goto C 148 dX4_readNumber_141 (by decide) ?_
                  refine Z.put C in4 0 rfl rfl 29 (by decide) tyX4 tyX4_ok nmX4 (by decide +kernel) rfl rfl rfl rfl (Nat.le_of_ble_eq_true rfl) dX4_readNumber_148 (w' := (wN a cI cZ o (q2.1, q2.2.1, (10 * q2.2.2.1) + (((hereN o.2.1 o.2.2.1 q2.2.1) - (48 : Int32)).toNatClampNeg), q2.2.2.2))) rfl ?_
                  refine Z.iinc C (v := (nI (dg + 1))) (lv' := [(6, .int (nI (dg + 1))), (8, .int ((hereN o.2.1 o.2.2.1 q2.2.1) - (48 : Int32))), (7, .int (nI 0)), (5, .int (nI q.2.1)), (0, .ref (a 0)), (1, .long (lN p0)), (3, .long (lN p1))]) dX4_readNumber_151 1 rfl (nI_add dg 1) (by decide) rfl ?_
                  refine Z.aload_n C dX4_readNumber_154 4 rfl rfl ?_
                  refine Z.dup C dX4_readNumber_155 rfl ?_
                  refine Z.get C in4 0 rfl rfl 28 (by decide) (by decide +kernel) rfl rfl dX4_readNumber_156 ?_
                  refine Z.iconst C (v := (nI 1)) dX4_readNumber_159 (by decide) ?_
                  refine Z.iadd C (v := (nI (q2.2.1 + 1))) dX4_readNumber_160 (nI_add q2.2.1 1) ?_
                  refine Z.put C in4 0 rfl rfl 28 (by decide) tyX4 tyX4_ok nmX4 (by decide +kernel) rfl rfl rfl rfl (Nat.le_of_ble_eq_true rfl) dX4_readNumber_161 (w' := (wN a cI cZ o (q2.1, q2.2.1 + 1, (10 * q2.2.2.1) + (((hereN o.2.1 o.2.2.1 q2.2.1) - (48 : Int32)).toNatClampNeg), q2.2.2.2))) rfl ?_
                  refine Z.goto C 45 dX4_readNumber_164 (by decide) ?_
                  refine Z.sub [0, 2, 3, 4, 5, 6] rfl ?_
                  exact ih45 (dg + 1) (q2.1, q2.2.1 + 1, (10 * q2.2.2.1) + (((hereN o.2.1 o.2.2.1 q2.2.1) - (48 : Int32)).toNatClampNeg), q2.2.2.2) (by first | omega | (dsimp only; omega)) (by omega) ⟨by first | omega | (dsimp only; omega), by first | omega | (dsimp only; omega)⟩ (by rw [hm45, nLoop]; simp [qAt1, c10, c11, (eq_true c12), (eq_true c13)])
                · skip
                  replace c13 : ¬ 0 = 0 := mt (nI_eq (by omega) (by omega)).mpr c13
                  exact absurd c13 (by decide)
          · skip
            replace c10 : isDigF (hereN o.2.1 o.2.2.1 q2.2.1) = false := b2i_0.mp c10
            refine Z.iload C dX4_readNumber_55 1 rfl ?_
            refine Z.if_eq C 167 dX4_readNumber_57 (by decide) (fun c14 => ?_) (fun c14 => ?_)
            · skip
              replace c14 : 0 = 0 := (nI_eq (by omega) (by omega)).mp c14
              refine Z.iload C dX4_readNumber_167 0 rfl ?_
              refine Z.if_ne C 183 dX4_readNumber_169 (by decide) (fun c15 => ?_) (fun c15 => ?_)
              · skip
                replace c15 : ¬ dg = 0 := mt (nI_eq (by omega) (by omega)).mpr c15
                refine Z.iload C dX4_readNumber_183 0 rfl ?_
                refine Z.iload C dX4_readNumber_185 1 rfl ?_
                refine Z.if_eq C 195 dX4_readNumber_187 (by decide) (fun c16 => ?_) (fun c16 => ?_)
                · skip
                  replace c16 : 0 = 0 := (nI_eq (by omega) (by omega)).mp c16
                  refine Z.bipush C (v := (nI 10)) dX4_readNumber_195 (by decide) ?_
                  refine Z.icmp_gt C 218 dX4_readNumber_197 (by decide) (fun c17 => ?_) (fun c17 => ?_)
                  · skip
                    replace c17 : 10 < dg := (nI_ltI (by omega) (by omega)).mp c17
                    refine Z.aload_n C dX4_readNumber_218 3 rfl rfl ?_
                    refine Z.iload C dX4_readNumber_219 2 rfl ?_
                    refine Z.callVv C (nA := 1) (As := [.int (nI q.2.1)]) (st := []) (c_wrong o q2 q.2.1  (by first | omega | (dsimp only; omega))) gX4_readNumber_X4_wrong rfl (by decide +kernel) (rm_ok (by omega) (by decide)) 0 rfl rfl rfl (Nat.le_of_ble_eq_true rfl) rfl dX4_readNumber_221 ?_
                    refine Z.vret C hr hA dX4_readNumber_224 ?_
                    (refine congrArg (wN a cI cZ o) ?_; first | (rw [hm45]; simp [nLoop, nEnd, qWr, c10, (eq_true c14), (eq_false c15), (eq_true c16), (eq_true c17)]; done) | (rw [hm45]; simp_all [nLoop, nEnd, qWr]; done))
                  · skip
                    replace c17 : ¬ 10 < dg := mt (nI_ltI (by omega) (by omega)).mpr c17
                    refine Z.aload_n C dX4_readNumber_200 3 rfl rfl ?_
                    refine Z.get C in4 0 rfl rfl 29 (by decide) (by decide +kernel) rfl rfl dX4_readNumber_201 ?_
                    refine Z.lload_n C dX4_readNumber_204 4 rfl rfl ?_
                    refine Z.lcmp C (v := (lg_cmp (lN q2.2.2.1) (lN p0))) dX4_readNumber_205 rfl ?_
                    refine Z.if_lt C 218 dX4_readNumber_206 (by decide) (fun c18 => ?_) (fun c18 => ?_)
                    · skip
                      replace c18 : lN q2.2.2.1 < lN p0 := lgc_lt.mp c18
                      refine Z.aload_n C dX4_readNumber_218 3 rfl rfl ?_
                      refine Z.iload C dX4_readNumber_219 2 rfl ?_
                      refine Z.callVv C (nA := 1) (As := [.int (nI q.2.1)]) (st := []) (c_wrong o q2 q.2.1  (by first | omega | (dsimp only; omega))) gX4_readNumber_X4_wrong rfl (by decide +kernel) (rm_ok (by omega) (by decide)) 0 rfl rfl rfl (Nat.le_of_ble_eq_true rfl) rfl dX4_readNumber_221 ?_
                      refine Z.vret C hr hA dX4_readNumber_224 ?_
                      (refine congrArg (wN a cI cZ o) ?_; first | (rw [hm45]; simp [nLoop, nEnd, qWr, c10, (eq_true c14), (eq_false c15), (eq_true c16), (eq_false c17), (eq_true c18)]; done) | (rw [hm45]; simp_all [nLoop, nEnd, qWr]; done))
                    · skip
                      replace c18 : ¬ lN q2.2.2.1 < lN p0 := mt lgc_lt.mpr c18
                      refine Z.aload_n C dX4_readNumber_209 3 rfl rfl ?_
                      refine Z.get C in4 0 rfl rfl 29 (by decide) (by decide +kernel) rfl rfl dX4_readNumber_210 ?_
                      refine Z.lload_n C dX4_readNumber_213 5 rfl rfl ?_
                      refine Z.lcmp C (v := (lg_cmp (lN q2.2.2.1) (lN p1))) dX4_readNumber_214 rfl ?_
                      refine Z.if_le C 224 dX4_readNumber_215 (by decide) (fun c19 => ?_) (fun c19 => ?_)
                      · skip
                        replace c19 : ¬ lN p1 < lN q2.2.2.1 := lgc_le.mp c19
                        refine Z.vret C hr hA dX4_readNumber_224 ?_
                        (refine congrArg (wN a cI cZ o) ?_; first | (rw [hm45]; simp [nLoop, nEnd, qWr, c10, (eq_true c14), (eq_false c15), (eq_true c16), (eq_false c17), (eq_false c18), (eq_false c19)]; done) | (rw [hm45]; simp_all [nLoop, nEnd, qWr]; done))
                      · skip
                        replace c19 : lN p1 < lN q2.2.2.1 := Classical.not_not.mp (mt lgc_le.mpr c19)
                        refine Z.aload_n C dX4_readNumber_218 3 rfl rfl ?_
                        refine Z.iload C dX4_readNumber_219 2 rfl ?_
                        refine Z.callVv C (nA := 1) (As := [.int (nI q.2.1)]) (st := []) (c_wrong o q2 q.2.1  (by first | omega | (dsimp only; omega))) gX4_readNumber_X4_wrong rfl (by decide +kernel) (rm_ok (by omega) (by decide)) 0 rfl rfl rfl (Nat.le_of_ble_eq_true rfl) rfl dX4_readNumber_221 ?_
                        refine Z.vret C hr hA dX4_readNumber_224 ?_
                        (refine congrArg (wN a cI cZ o) ?_; first | (rw [hm45]; simp [nLoop, nEnd, qWr, c10, (eq_true c14), (eq_false c15), (eq_true c16), (eq_false c17), (eq_false c18), (eq_true c19)]; done) | (rw [hm45]; simp_all [nLoop, nEnd, qWr]; done))
                · skip
                  replace c16 : ¬ 0 = 0 := mt (nI_eq (by omega) (by omega)).mpr c16
                  exact absurd c16 (by decide)
              · skip
                replace c15 : dg = 0 := (nI_eq (by omega) (by omega)).mp c15
                refine Z.aload_n C dX4_readNumber_172 3 rfl rfl ?_
                refine Z.aload_n C dX4_readNumber_173 3 rfl rfl ?_
                refine Z.get C in4 0 rfl rfl 28 (by decide) (by decide +kernel) rfl rfl dX4_readNumber_174 ?_
                refine Z.callVv C (nA := 1) (As := [.int (nI q2.2.1)]) (st := []) (c_wrong o q2 q2.2.1  (by first | omega | (dsimp only; omega))) gX4_readNumber_X4_wrong rfl (by decide +kernel) (rm_ok (by omega) (by decide)) 0 rfl rfl rfl (Nat.le_of_ble_eq_true rfl) rfl dX4_readNumber_177 ?_
                refine Z.goto C 224 dX4_readNumber_180 (by decide) ?_
                refine Z.vret C hr hA dX4_readNumber_224 ?_
                (refine congrArg (wN a cI cZ o) ?_; first | (rw [hm45]; simp [nLoop, nEnd, qWr, c10, (eq_true c14), (eq_true c15)]; done) | (rw [hm45]; simp_all [nLoop, nEnd, qWr]; done))
            · skip
              replace c14 : ¬ 0 = 0 := mt (nI_eq (by omega) (by omega)).mpr c14
              exact absurd c14 (by decide)
      refine Z.sub [1, 0, 2, 3, 4, 5] rfl ?_
      exact key45 o.2.2.1 0 (q.1, q.2.1, 0, q.2.2.2) (by first | omega | (dsimp only; omega)) (by omega) ⟨by first | omega | (dsimp only; omega), by first | omega | (dsimp only; omega)⟩ (by simp [qNumber, qAt1, (eq_false c1), (eq_true c2)])
    · skip
      replace c2 : ¬ 0 = 0 := mt (nI_eq (by omega) (by omega)).mpr c2
      exact absurd c2 (by decide)
  · skip
    replace c1 : (hereN o.2.1 o.2.2.1 q.2.1) = (36 : Int32) := c1
    refine Z.iconst C (v := (nI 1)) dX4_readNumber_23 (by decide) ?_
    refine Z.goto C 28 dX4_readNumber_24 (by decide) ?_
    refine Z.istore C (lv' := [(7, .int (nI 1)), (6, .int (nI 0)), (5, .int (nI q.2.1)), (0, .ref (a 0)), (1, .long (lN p0)), (3, .long (lN p1))]) dX4_readNumber_28 (by decide) rfl ?_
    refine Z.iload C dX4_readNumber_30 0 rfl ?_
    refine Z.if_eq C 45 dX4_readNumber_32 (by decide) (fun c20 => ?_) (fun c20 => ?_)
    · skip
      replace c20 : 1 = 0 := (nI_eq (by omega) (by omega)).mp c20
      exact absurd c20 (by decide)
    · skip
      replace c20 : ¬ 1 = 0 := mt (nI_eq (by omega) (by omega)).mpr c20
      refine Z.aload_n C dX4_readNumber_35 3 rfl rfl ?_
      refine Z.dup C dX4_readNumber_36 rfl ?_
      refine Z.get C in4 0 rfl rfl 28 (by decide) (by decide +kernel) rfl rfl dX4_readNumber_37 ?_
      refine Z.iconst C (v := (nI 1)) dX4_readNumber_40 (by decide) ?_
      refine Z.iadd C (v := (nI (q.2.1 + 1))) dX4_readNumber_41 (nI_add q.2.1 1) ?_
      refine Z.put C in4 0 rfl rfl 28 (by decide) tyX4 tyX4_ok nmX4 (by decide +kernel) rfl rfl rfl rfl (Nat.le_of_ble_eq_true rfl) dX4_readNumber_42 (w' := (wN a cI cZ o (q.1, q.2.1 + 1, 0, q.2.2.2))) rfl ?_
      have key45 : ∀ (n : Nat) (dg : Nat) (q2 : QS), o.2.2.1 ≤ q2.2.1 + n → dg + n ≤ 1000 → q2.2.1 ≤ 490 ∧ q2.1 < 2 ^ 31 → qNumber o.2.1 o.2.2.1 p0 p1 q = nLoop o.2.1 o.2.2.1 p0 p1 q.2.1 8 true n dg q2 → Z p l e (rmN 2) s m ([.ref (a 0), .long (lN p0), .long (lN p1)] : List Value).toArray below meth c 9 D A (QV below D [(cI, .int), (cZ, .boolean)] [.ref (a 0), .long (lN p0), .long (lN p1)] (wN a cI cZ o q) (wN a cI cZ o (qNumber o.2.1 o.2.2.1 p0 p1 q)) s) (wN a cI cZ o q2) [(6, .int (nI dg)), (7, .int (nI 1)), (5, .int (nI q.2.1)), (0, .ref (a 0)), (1, .long (lN p0)), (3, .long (lN p1))] 45 [] := by
        intro n
        induction n with
        | zero =>
          intro dg q2 hn hdg hat hm45
          obtain ⟨k1, k2⟩ := hat
          refine Z.aload_n C dX4_readNumber_45 3 rfl rfl ?_
          refine Z.callVi C (nA := 0) (As := []) (st := []) (c_hereN o q2 (by first | omega | (dsimp only; omega)) (by first | omega | (dsimp only; omega))) gX4_readNumber_X4_here rfl (by decide +kernel) (rm_ok (by omega) (by decide)) 0 rfl rfl rfl (Nat.le_of_ble_eq_true rfl) rfl dX4_readNumber_46 ?_
          refine Z.callSi C (nA := 1) (As := [.int (hereN o.2.1 o.2.2.1 q2.2.1)]) (st := []) (c_isDigit (hereN o.2.1 o.2.2.1 q2.2.1)) gX4_readNumber_X4_isDigit rfl (by decide +kernel) (rm_ok (by omega) (by decide)) rfl (Nat.le_of_ble_eq_true rfl) rfl dX4_readNumber_49 ?_
          refine Z.if_ne C 78 dX4_readNumber_52 (by decide) (fun c21 => ?_) (fun c21 => ?_)
          · skip
            replace c21 : isDigF (hereN o.2.1 o.2.2.1 q2.2.1) = true := b2i_n0.mp c21
            have c21l := digN_lt c21
            exact absurd c21l (by omega)
          · skip
            replace c21 : isDigF (hereN o.2.1 o.2.2.1 q2.2.1) = false := b2i_0.mp c21
            refine Z.iload C dX4_readNumber_55 1 rfl ?_
            refine Z.if_eq C 167 dX4_readNumber_57 (by decide) (fun c22 => ?_) (fun c22 => ?_)
            · skip
              replace c22 : 1 = 0 := (nI_eq (by omega) (by omega)).mp c22
              exact absurd c22 (by decide)
            · skip
              replace c22 : ¬ 1 = 0 := mt (nI_eq (by omega) (by omega)).mpr c22
              refine Z.aload_n C dX4_readNumber_60 3 rfl rfl ?_
              refine Z.callVi C (nA := 0) (As := []) (st := []) (c_hereN o q2 (by first | omega | (dsimp only; omega)) (by first | omega | (dsimp only; omega))) gX4_readNumber_X4_here rfl (by decide +kernel) (rm_ok (by omega) (by decide)) 0 rfl rfl rfl (Nat.le_of_ble_eq_true rfl) rfl dX4_readNumber_61 ?_
              refine Z.bipush C (v := (nI 97)) dX4_readNumber_64 (by decide) ?_
              refine Z.icmp_lt C 167 dX4_readNumber_66 (by decide) (fun c23 => ?_) (fun c23 => ?_)
              · skip
                replace c23 : ¬ (97 : Int32) ≤ (hereN o.2.1 o.2.2.1 q2.2.1) := Int32.not_le.mpr c23
                refine Z.iload C dX4_readNumber_167 0 rfl ?_
                refine Z.if_ne C 183 dX4_readNumber_169 (by decide) (fun c24 => ?_) (fun c24 => ?_)
                · skip
                  replace c24 : ¬ dg = 0 := mt (nI_eq (by omega) (by omega)).mpr c24
                  refine Z.iload C dX4_readNumber_183 0 rfl ?_
                  refine Z.iload C dX4_readNumber_185 1 rfl ?_
                  refine Z.if_eq C 195 dX4_readNumber_187 (by decide) (fun c25 => ?_) (fun c25 => ?_)
                  · skip
                    replace c25 : 1 = 0 := (nI_eq (by omega) (by omega)).mp c25
                    exact absurd c25 (by decide)
                  · skip
                    replace c25 : ¬ 1 = 0 := mt (nI_eq (by omega) (by omega)).mpr c25
                    refine Z.bipush C (v := (nI 8)) dX4_readNumber_190 (by decide) ?_
                    refine Z.goto C 197 dX4_readNumber_192 (by decide) ?_
                    refine Z.icmp_gt C 218 dX4_readNumber_197 (by decide) (fun c26 => ?_) (fun c26 => ?_)
                    · skip
                      replace c26 : 8 < dg := (nI_ltI (by omega) (by omega)).mp c26
                      refine Z.aload_n C dX4_readNumber_218 3 rfl rfl ?_
                      refine Z.iload C dX4_readNumber_219 2 rfl ?_
                      refine Z.callVv C (nA := 1) (As := [.int (nI q.2.1)]) (st := []) (c_wrong o q2 q.2.1  (by first | omega | (dsimp only; omega))) gX4_readNumber_X4_wrong rfl (by decide +kernel) (rm_ok (by omega) (by decide)) 0 rfl rfl rfl (Nat.le_of_ble_eq_true rfl) rfl dX4_readNumber_221 ?_
                      refine Z.vret C hr hA dX4_readNumber_224 ?_
                      (refine congrArg (wN a cI cZ o) ?_; first | (rw [hm45]; simp [nLoop, nEnd, qWr, c21, (eq_false c22), (eq_false c23), (eq_false c24), (eq_false c25), (eq_true c26)]; done) | (rw [hm45]; simp_all [nLoop, nEnd, qWr]; done))
                    · skip
                      replace c26 : ¬ 8 < dg := mt (nI_ltI (by omega) (by omega)).mpr c26
                      refine Z.aload_n C dX4_readNumber_200 3 rfl rfl ?_
                      refine Z.get C in4 0 rfl rfl 29 (by decide) (by decide +kernel) rfl rfl dX4_readNumber_201 ?_
                      refine Z.lload_n C dX4_readNumber_204 4 rfl rfl ?_
                      refine Z.lcmp C (v := (lg_cmp (lN q2.2.2.1) (lN p0))) dX4_readNumber_205 rfl ?_
                      refine Z.if_lt C 218 dX4_readNumber_206 (by decide) (fun c27 => ?_) (fun c27 => ?_)
                      · skip
                        replace c27 : lN q2.2.2.1 < lN p0 := lgc_lt.mp c27
                        refine Z.aload_n C dX4_readNumber_218 3 rfl rfl ?_
                        refine Z.iload C dX4_readNumber_219 2 rfl ?_
                        refine Z.callVv C (nA := 1) (As := [.int (nI q.2.1)]) (st := []) (c_wrong o q2 q.2.1  (by first | omega | (dsimp only; omega))) gX4_readNumber_X4_wrong rfl (by decide +kernel) (rm_ok (by omega) (by decide)) 0 rfl rfl rfl (Nat.le_of_ble_eq_true rfl) rfl dX4_readNumber_221 ?_
                        refine Z.vret C hr hA dX4_readNumber_224 ?_
                        (refine congrArg (wN a cI cZ o) ?_; first | (rw [hm45]; simp [nLoop, nEnd, qWr, c21, (eq_false c22), (eq_false c23), (eq_false c24), (eq_false c25), (eq_false c26), (eq_true c27)]; done) | (rw [hm45]; simp_all [nLoop, nEnd, qWr]; done))
                      · skip
                        replace c27 : ¬ lN q2.2.2.1 < lN p0 := mt lgc_lt.mpr c27
                        refine Z.aload_n C dX4_readNumber_209 3 rfl rfl ?_
                        refine Z.get C in4 0 rfl rfl 29 (by decide) (by decide +kernel) rfl rfl dX4_readNumber_210 ?_
                        refine Z.lload_n C dX4_readNumber_213 5 rfl rfl ?_
                        refine Z.lcmp C (v := (lg_cmp (lN q2.2.2.1) (lN p1))) dX4_readNumber_214 rfl ?_
                        refine Z.if_le C 224 dX4_readNumber_215 (by decide) (fun c28 => ?_) (fun c28 => ?_)
                        · skip
                          replace c28 : ¬ lN p1 < lN q2.2.2.1 := lgc_le.mp c28
                          refine Z.vret C hr hA dX4_readNumber_224 ?_
                          (refine congrArg (wN a cI cZ o) ?_; first | (rw [hm45]; simp [nLoop, nEnd, qWr, c21, (eq_false c22), (eq_false c23), (eq_false c24), (eq_false c25), (eq_false c26), (eq_false c27), (eq_false c28)]; done) | (rw [hm45]; simp_all [nLoop, nEnd, qWr]; done))
                        · skip
                          replace c28 : lN p1 < lN q2.2.2.1 := Classical.not_not.mp (mt lgc_le.mpr c28)
                          refine Z.aload_n C dX4_readNumber_218 3 rfl rfl ?_
                          refine Z.iload C dX4_readNumber_219 2 rfl ?_
                          refine Z.callVv C (nA := 1) (As := [.int (nI q.2.1)]) (st := []) (c_wrong o q2 q.2.1  (by first | omega | (dsimp only; omega))) gX4_readNumber_X4_wrong rfl (by decide +kernel) (rm_ok (by omega) (by decide)) 0 rfl rfl rfl (Nat.le_of_ble_eq_true rfl) rfl dX4_readNumber_221 ?_
                          refine Z.vret C hr hA dX4_readNumber_224 ?_
                          (refine congrArg (wN a cI cZ o) ?_; first | (rw [hm45]; simp [nLoop, nEnd, qWr, c21, (eq_false c22), (eq_false c23), (eq_false c24), (eq_false c25), (eq_false c26), (eq_false c27), (eq_true c28)]; done) | (rw [hm45]; simp_all [nLoop, nEnd, qWr]; done))
                · skip
                  replace c24 : dg = 0 := (nI_eq (by omega) (by omega)).mp c24
                  refine Z.aload_n C dX4_readNumber_172 3 rfl rfl ?_
                  refine Z.aload_n C dX4_readNumber_173 3 rfl rfl ?_
                  refine Z.get C in4 0 rfl rfl 28 (by decide) (by decide +kernel) rfl rfl dX4_readNumber_174 ?_
                  refine Z.callVv C (nA := 1) (As := [.int (nI q2.2.1)]) (st := []) (c_wrong o q2 q2.2.1  (by first | omega | (dsimp only; omega))) gX4_readNumber_X4_wrong rfl (by decide +kernel) (rm_ok (by omega) (by decide)) 0 rfl rfl rfl (Nat.le_of_ble_eq_true rfl) rfl dX4_readNumber_177 ?_
                  refine Z.goto C 224 dX4_readNumber_180 (by decide) ?_
                  refine Z.vret C hr hA dX4_readNumber_224 ?_
                  (refine congrArg (wN a cI cZ o) ?_; first | (rw [hm45]; simp [nLoop, nEnd, qWr, c21, (eq_false c22), (eq_false c23), (eq_true c24)]; done) | (rw [hm45]; simp_all [nLoop, nEnd, qWr]; done))
              · skip
                replace c23 : (97 : Int32) ≤ (hereN o.2.1 o.2.2.1 q2.2.1) := Int32.not_lt.mp c23
                have c23l := geN_lt c23
                exact absurd c23l (by omega)
        | succ n ih45 =>
          intro dg q2 hn hdg hat hm45
          obtain ⟨k1, k2⟩ := hat
          refine Z.aload_n C dX4_readNumber_45 3 rfl rfl ?_
          refine Z.callVi C (nA := 0) (As := []) (st := []) (c_hereN o q2 (by first | omega | (dsimp only; omega)) (by first | omega | (dsimp only; omega))) gX4_readNumber_X4_here rfl (by decide +kernel) (rm_ok (by omega) (by decide)) 0 rfl rfl rfl (Nat.le_of_ble_eq_true rfl) rfl dX4_readNumber_46 ?_
          refine Z.callSi C (nA := 1) (As := [.int (hereN o.2.1 o.2.2.1 q2.2.1)]) (st := []) (c_isDigit (hereN o.2.1 o.2.2.1 q2.2.1)) gX4_readNumber_X4_isDigit rfl (by decide +kernel) (rm_ok (by omega) (by decide)) rfl (Nat.le_of_ble_eq_true rfl) rfl dX4_readNumber_49 ?_
          refine Z.if_ne C 78 dX4_readNumber_52 (by decide) (fun c29 => ?_) (fun c29 => ?_)
          · skip
            replace c29 : isDigF (hereN o.2.1 o.2.2.1 q2.2.1) = true := b2i_n0.mp c29
            have c29l := digN_lt c29
            refine Z.aload_n C dX4_readNumber_78 3 rfl rfl ?_
            refine Z.callVi C (nA := 0) (As := []) (st := []) (c_hereN o q2 (by first | omega | (dsimp only; omega)) (by first | omega | (dsimp only; omega))) gX4_readNumber_X4_here rfl (by decide +kernel) (rm_ok (by omega) (by decide)) 0 rfl rfl rfl (Nat.le_of_ble_eq_true rfl) rfl dX4_readNumber_79 ?_
            refine Z.callSi C (nA := 1) (As := [.int (hereN o.2.1 o.2.2.1 q2.2.1)]) (st := []) (c_isDigit (hereN o.2.1 o.2.2.1 q2.2.1)) gX4_readNumber_X4_isDigit rfl (by decide +kernel) (rm_ok (by omega) (by decide)) rfl (Nat.le_of_ble_eq_true rfl) rfl dX4_readNumber_82 ?_
            refine Z.if_eq C 98 dX4_readNumber_85 (by decide) (fun c30 => ?_) (fun c30 => ?_)
            · skip
              replace c30 : isDigF (hereN o.2.1 o.2.2.1 q2.2.1) = false := b2i_0.mp c30
              exact absurd (c29.symm.trans c30) (by decide)
            · skip
              replace c30 : isDigF (hereN o.2.1 o.2.2.1 q2.2.1) = true := b2i_n0.mp c30
              refine Z.aload_n C dX4_readNumber_88 3 rfl rfl ?_
              refine Z.callVi C (nA := 0) (As := []) (st := []) (c_hereN o q2 (by first | omega | (dsimp only; omega)) (by first | omega | (dsimp only; omega))) gX4_readNumber_X4_here rfl (by decide +kernel) (rm_ok (by omega) (by decide)) 0 rfl rfl rfl (Nat.le_of_ble_eq_true rfl) rfl dX4_readNumber_89 ?_
              refine Z.bipush C (v := (nI 48)) dX4_readNumber_92 (by decide) ?_
              refine Z.isub C (v := ((hereN o.2.1 o.2.2.1 q2.2.1) - (48 : Int32))) dX4_readNumber_94 rfl ?_
              refine Z.goto C 108 dX4_readNumber_95 (by decide) ?_
              refine Z.istore C (lv' := [(8, .int ((hereN o.2.1 o.2.2.1 q2.2.1) - (48 : Int32))), (6, .int (nI dg)), (7, .int (nI 1)), (5, .int (nI q.2.1)), (0, .ref (a 0)), (1, .long (lN p0)), (3, .long (lN p1))]) dX4_readNumber_108 (by decide) rfl ?_
              refine Z.aload_n C dX4_readNumber_110 4 rfl rfl ?_
              refine Z.iload C dX4_readNumber_111 1 rfl ?_
              refine Z.bipush C (v := (nI 10)) dX4_readNumber_113 (by decide) ?_
              refine Z.icmp_ge C 144 dX4_readNumber_115 (by decide) (fun c31 => ?_) (fun c31 => ?_)
              · skip
                replace c31 : ¬ dg < 10 := Nat.not_lt.mpr ((nI_leI (by omega) (by omega)).mp c31)
                refine Z.aload_n C dX4_readNumber_144 4 rfl rfl ?_
                refine Z.get C in4 0 rfl rfl 29 (by decide) (by decide +kernel) rfl rfl dX4_readNumber_145 ?_
                refine Z.put C in4 0 rfl rfl 29 (by decide) tyX4 tyX4_ok nmX4 (by decide +kernel) rfl rfl rfl rfl (Nat.le_of_ble_eq_true rfl) dX4_readNumber_148 (w' := (wN a cI cZ o q2)) rfl ?_
                refine Z.iinc C (v := (nI (dg + 1))) (lv' := [(6, .int (nI (dg + 1))), (8, .int ((hereN o.2.1 o.2.2.1 q2.2.1) - (48 : Int32))), (7, .int (nI 1)), (5, .int (nI q.2.1)), (0, .ref (a 0)), (1, .long (lN p0)), (3, .long (lN p1))]) dX4_readNumber_151 1 rfl (nI_add dg 1) (by decide) rfl ?_
                refine Z.aload_n C dX4_readNumber_154 4 rfl rfl ?_
                refine Z.dup C dX4_readNumber_155 rfl ?_
                refine Z.get C in4 0 rfl rfl 28 (by decide) (by decide +kernel) rfl rfl dX4_readNumber_156 ?_
                refine Z.iconst C (v := (nI 1)) dX4_readNumber_159 (by decide) ?_
                refine Z.iadd C (v := (nI (q2.2.1 + 1))) dX4_readNumber_160 (nI_add q2.2.1 1) ?_
                refine Z.put C in4 0 rfl rfl 28 (by decide) tyX4 tyX4_ok nmX4 (by decide +kernel) rfl rfl rfl rfl (Nat.le_of_ble_eq_true rfl) dX4_readNumber_161 (w' := (wN a cI cZ o (q2.1, q2.2.1 + 1, q2.2.2))) rfl ?_
                refine Z.goto C 45 dX4_readNumber_164 (by decide) ?_
                refine Z.sub [0, 2, 3, 4, 5, 6] rfl ?_
                exact ih45 (dg + 1) (q2.1, q2.2.1 + 1, q2.2.2) (by first | omega | (dsimp only; omega)) (by omega) ⟨by first | omega | (dsimp only; omega), by first | omega | (dsimp only; omega)⟩ (by rw [hm45, nLoop]; simp [qAt1, c29, c30, (eq_false c31)])
              · skip
                replace c31 : dg < 10 := Nat.not_le.mp (mt (nI_leI (by omega) (by omega)).mpr c31)
                refine Z.iload C dX4_readNumber_118 2 rfl ?_
                refine Z.if_eq C 129 dX4_readNumber_120 (by decide) (fun c32 => ?_) (fun c32 => ?_)
                · skip
                  replace c32 : 1 = 0 := (nI_eq (by omega) (by omega)).mp c32
                  exact absurd c32 (by decide)
                · skip
                  replace c32 : ¬ 1 = 0 := mt (nI_eq (by omega) (by omega)).mpr c32
                  refine Z.ldc2 C (v := lN 16) dX4_readNumber_123 (by decide +kernel) ?_
                  refine Z.goto C 132 dX4_readNumber_126 (by decide) ?_
                  refine Z.aload_n C dX4_readNumber_132 4 rfl rfl ?_
                  refine Z.get C in4 0 rfl rfl 29 (by decide) (by decide +kernel) rfl rfl dX4_readNumber_133 ?_
                  refine Z.lmul C (v := (lN (16 * q2.2.2.1))) dX4_readNumber_136 (lN_mul 16 q2.2.2.1) ?_
                  refine Z.iload C dX4_readNumber_137 0 rfl ?_
                  refine Z.i2l C (v := (lN (((hereN o.2.1 o.2.2.1 q2.2.1) - (48 : Int32)).toNatClampNeg))) dX4_readNumber_139 (i64_of (digN_ge (by assumption))) ?_
                  refine Z.ladd C (v := (lN ((16 * q2.2.2.1) + (((hereN o.2.1 o.2.2.1 q2.2.1) - (48 : Int32)).toNatClampNeg)))) dX4_readNumber_140 (lN_add (16 * q2.2.2.1) (((hereN o.2.1 o.2.2.1 q2.2.1) - (48 : Int32)).toNatClampNeg)) ?_
                  refine Z.goto C 148 dX4_readNumber_141 (by decide) ?_
                  refine Z.put C in4 0 rfl rfl 29 (by decide) tyX4 tyX4_ok nmX4 (by decide +kernel) rfl rfl rfl rfl (Nat.le_of_ble_eq_true rfl) dX4_readNumber_148 (w' := (wN a cI cZ o (q2.1, q2.2.1, (16 * q2.2.2.1) + (((hereN o.2.1 o.2.2.1 q2.2.1) - (48 : Int32)).toNatClampNeg), q2.2.2.2))) rfl ?_
                  refine Z.iinc C (v := (nI (dg + 1))) (lv' := [(6, .int (nI (dg + 1))), (8, .int ((hereN o.2.1 o.2.2.1 q2.2.1) - (48 : Int32))), (7, .int (nI 1)), (5, .int (nI q.2.1)), (0, .ref (a 0)), (1, .long (lN p0)), (3, .long (lN p1))]) dX4_readNumber_151 1 rfl (nI_add dg 1) (by decide) rfl ?_
                  refine Z.aload_n C dX4_readNumber_154 4 rfl rfl ?_
                  refine Z.dup C dX4_readNumber_155 rfl ?_
                  refine Z.get C in4 0 rfl rfl 28 (by decide) (by decide +kernel) rfl rfl dX4_readNumber_156 ?_
                  refine Z.iconst C (v := (nI 1)) dX4_readNumber_159 (by decide) ?_
                  refine Z.iadd C (v := (nI (q2.2.1 + 1))) dX4_readNumber_160 (nI_add q2.2.1 1) ?_
                  refine Z.put C in4 0 rfl rfl 28 (by decide) tyX4 tyX4_ok nmX4 (by decide +kernel) rfl rfl rfl rfl (Nat.le_of_ble_eq_true rfl) dX4_readNumber_161 (w' := (wN a cI cZ o (q2.1, q2.2.1 + 1, (16 * q2.2.2.1) + (((hereN o.2.1 o.2.2.1 q2.2.1) - (48 : Int32)).toNatClampNeg), q2.2.2.2))) rfl ?_
                  refine Z.goto C 45 dX4_readNumber_164 (by decide) ?_
                  refine Z.sub [0, 2, 3, 4, 5, 6] rfl ?_
                  exact ih45 (dg + 1) (q2.1, q2.2.1 + 1, (16 * q2.2.2.1) + (((hereN o.2.1 o.2.2.1 q2.2.1) - (48 : Int32)).toNatClampNeg), q2.2.2.2) (by first | omega | (dsimp only; omega)) (by omega) ⟨by first | omega | (dsimp only; omega), by first | omega | (dsimp only; omega)⟩ (by rw [hm45, nLoop]; simp [qAt1, c29, c30, (eq_true c31), (eq_false c32)])
          · skip
            replace c29 : isDigF (hereN o.2.1 o.2.2.1 q2.2.1) = false := b2i_0.mp c29
            refine Z.iload C dX4_readNumber_55 1 rfl ?_
            refine Z.if_eq C 167 dX4_readNumber_57 (by decide) (fun c33 => ?_) (fun c33 => ?_)
            · skip
              replace c33 : 1 = 0 := (nI_eq (by omega) (by omega)).mp c33
              exact absurd c33 (by decide)
            · skip
              replace c33 : ¬ 1 = 0 := mt (nI_eq (by omega) (by omega)).mpr c33
              refine Z.aload_n C dX4_readNumber_60 3 rfl rfl ?_
              refine Z.callVi C (nA := 0) (As := []) (st := []) (c_hereN o q2 (by first | omega | (dsimp only; omega)) (by first | omega | (dsimp only; omega))) gX4_readNumber_X4_here rfl (by decide +kernel) (rm_ok (by omega) (by decide)) 0 rfl rfl rfl (Nat.le_of_ble_eq_true rfl) rfl dX4_readNumber_61 ?_
              refine Z.bipush C (v := (nI 97)) dX4_readNumber_64 (by decide) ?_
              refine Z.icmp_lt C 167 dX4_readNumber_66 (by decide) (fun c34 => ?_) (fun c34 => ?_)
              · skip
                replace c34 : ¬ (97 : Int32) ≤ (hereN o.2.1 o.2.2.1 q2.2.1) := Int32.not_le.mpr c34
                refine Z.iload C dX4_readNumber_167 0 rfl ?_
                refine Z.if_ne C 183 dX4_readNumber_169 (by decide) (fun c35 => ?_) (fun c35 => ?_)
                · skip
                  replace c35 : ¬ dg = 0 := mt (nI_eq (by omega) (by omega)).mpr c35
                  refine Z.iload C dX4_readNumber_183 0 rfl ?_
                  refine Z.iload C dX4_readNumber_185 1 rfl ?_
                  refine Z.if_eq C 195 dX4_readNumber_187 (by decide) (fun c36 => ?_) (fun c36 => ?_)
                  · skip
                    replace c36 : 1 = 0 := (nI_eq (by omega) (by omega)).mp c36
                    exact absurd c36 (by decide)
                  · skip
                    replace c36 : ¬ 1 = 0 := mt (nI_eq (by omega) (by omega)).mpr c36
                    refine Z.bipush C (v := (nI 8)) dX4_readNumber_190 (by decide) ?_
                    refine Z.goto C 197 dX4_readNumber_192 (by decide) ?_
                    refine Z.icmp_gt C 218 dX4_readNumber_197 (by decide) (fun c37 => ?_) (fun c37 => ?_)
                    · skip
                      replace c37 : 8 < dg := (nI_ltI (by omega) (by omega)).mp c37
                      refine Z.aload_n C dX4_readNumber_218 3 rfl rfl ?_
                      refine Z.iload C dX4_readNumber_219 2 rfl ?_
                      refine Z.callVv C (nA := 1) (As := [.int (nI q.2.1)]) (st := []) (c_wrong o q2 q.2.1  (by first | omega | (dsimp only; omega))) gX4_readNumber_X4_wrong rfl (by decide +kernel) (rm_ok (by omega) (by decide)) 0 rfl rfl rfl (Nat.le_of_ble_eq_true rfl) rfl dX4_readNumber_221 ?_
                      refine Z.vret C hr hA dX4_readNumber_224 ?_
                      (refine congrArg (wN a cI cZ o) ?_; first | (rw [hm45]; simp [nLoop, nEnd, qWr, c29, (eq_false c33), (eq_false c34), (eq_false c35), (eq_false c36), (eq_true c37)]; done) | (rw [hm45]; simp_all [nLoop, nEnd, qWr]; done))
                    · skip
                      replace c37 : ¬ 8 < dg := mt (nI_ltI (by omega) (by omega)).mpr c37
                      refine Z.aload_n C dX4_readNumber_200 3 rfl rfl ?_
                      refine Z.get C in4 0 rfl rfl 29 (by decide) (by decide +kernel) rfl rfl dX4_readNumber_201 ?_
                      refine Z.lload_n C dX4_readNumber_204 4 rfl rfl ?_
                      refine Z.lcmp C (v := (lg_cmp (lN q2.2.2.1) (lN p0))) dX4_readNumber_205 rfl ?_
                      refine Z.if_lt C 218 dX4_readNumber_206 (by decide) (fun c38 => ?_) (fun c38 => ?_)
                      · skip
                        replace c38 : lN q2.2.2.1 < lN p0 := lgc_lt.mp c38
                        refine Z.aload_n C dX4_readNumber_218 3 rfl rfl ?_
                        refine Z.iload C dX4_readNumber_219 2 rfl ?_
                        refine Z.callVv C (nA := 1) (As := [.int (nI q.2.1)]) (st := []) (c_wrong o q2 q.2.1  (by first | omega | (dsimp only; omega))) gX4_readNumber_X4_wrong rfl (by decide +kernel) (rm_ok (by omega) (by decide)) 0 rfl rfl rfl (Nat.le_of_ble_eq_true rfl) rfl dX4_readNumber_221 ?_
                        refine Z.vret C hr hA dX4_readNumber_224 ?_
                        (refine congrArg (wN a cI cZ o) ?_; first | (rw [hm45]; simp [nLoop, nEnd, qWr, c29, (eq_false c33), (eq_false c34), (eq_false c35), (eq_false c36), (eq_false c37), (eq_true c38)]; done) | (rw [hm45]; simp_all [nLoop, nEnd, qWr]; done))
                      · skip
                        replace c38 : ¬ lN q2.2.2.1 < lN p0 := mt lgc_lt.mpr c38
                        refine Z.aload_n C dX4_readNumber_209 3 rfl rfl ?_
                        refine Z.get C in4 0 rfl rfl 29 (by decide) (by decide +kernel) rfl rfl dX4_readNumber_210 ?_
                        refine Z.lload_n C dX4_readNumber_213 5 rfl rfl ?_
                        refine Z.lcmp C (v := (lg_cmp (lN q2.2.2.1) (lN p1))) dX4_readNumber_214 rfl ?_
                        refine Z.if_le C 224 dX4_readNumber_215 (by decide) (fun c39 => ?_) (fun c39 => ?_)
                        · skip
                          replace c39 : ¬ lN p1 < lN q2.2.2.1 := lgc_le.mp c39
                          refine Z.vret C hr hA dX4_readNumber_224 ?_
                          (refine congrArg (wN a cI cZ o) ?_; first | (rw [hm45]; simp [nLoop, nEnd, qWr, c29, (eq_false c33), (eq_false c34), (eq_false c35), (eq_false c36), (eq_false c37), (eq_false c38), (eq_false c39)]; done) | (rw [hm45]; simp_all [nLoop, nEnd, qWr]; done))
                        · skip
                          replace c39 : lN p1 < lN q2.2.2.1 := Classical.not_not.mp (mt lgc_le.mpr c39)
                          refine Z.aload_n C dX4_readNumber_218 3 rfl rfl ?_
                          refine Z.iload C dX4_readNumber_219 2 rfl ?_
                          refine Z.callVv C (nA := 1) (As := [.int (nI q.2.1)]) (st := []) (c_wrong o q2 q.2.1  (by first | omega | (dsimp only; omega))) gX4_readNumber_X4_wrong rfl (by decide +kernel) (rm_ok (by omega) (by decide)) 0 rfl rfl rfl (Nat.le_of_ble_eq_true rfl) rfl dX4_readNumber_221 ?_
                          refine Z.vret C hr hA dX4_readNumber_224 ?_
                          (refine congrArg (wN a cI cZ o) ?_; first | (rw [hm45]; simp [nLoop, nEnd, qWr, c29, (eq_false c33), (eq_false c34), (eq_false c35), (eq_false c36), (eq_false c37), (eq_false c38), (eq_true c39)]; done) | (rw [hm45]; simp_all [nLoop, nEnd, qWr]; done))
                · skip
                  replace c35 : dg = 0 := (nI_eq (by omega) (by omega)).mp c35
                  refine Z.aload_n C dX4_readNumber_172 3 rfl rfl ?_
                  refine Z.aload_n C dX4_readNumber_173 3 rfl rfl ?_
                  refine Z.get C in4 0 rfl rfl 28 (by decide) (by decide +kernel) rfl rfl dX4_readNumber_174 ?_
                  refine Z.callVv C (nA := 1) (As := [.int (nI q2.2.1)]) (st := []) (c_wrong o q2 q2.2.1  (by first | omega | (dsimp only; omega))) gX4_readNumber_X4_wrong rfl (by decide +kernel) (rm_ok (by omega) (by decide)) 0 rfl rfl rfl (Nat.le_of_ble_eq_true rfl) rfl dX4_readNumber_177 ?_
                  refine Z.goto C 224 dX4_readNumber_180 (by decide) ?_
                  refine Z.vret C hr hA dX4_readNumber_224 ?_
                  (refine congrArg (wN a cI cZ o) ?_; first | (rw [hm45]; simp [nLoop, nEnd, qWr, c29, (eq_false c33), (eq_false c34), (eq_true c35)]; done) | (rw [hm45]; simp_all [nLoop, nEnd, qWr]; done))
              · skip
                replace c34 : (97 : Int32) ≤ (hereN o.2.1 o.2.2.1 q2.2.1) := Int32.not_lt.mp c34
                have c34l := geN_lt c34
                refine Z.aload_n C dX4_readNumber_69 3 rfl rfl ?_
                refine Z.callVi C (nA := 0) (As := []) (st := []) (c_hereN o q2 (by first | omega | (dsimp only; omega)) (by first | omega | (dsimp only; omega))) gX4_readNumber_X4_here rfl (by decide +kernel) (rm_ok (by omega) (by decide)) 0 rfl rfl rfl (Nat.le_of_ble_eq_true rfl) rfl dX4_readNumber_70 ?_
                refine Z.bipush C (v := (nI 102)) dX4_readNumber_73 (by decide) ?_
                refine Z.icmp_gt C 167 dX4_readNumber_75 (by decide) (fun c40 => ?_) (fun c40 => ?_)
                · skip
                  replace c40 : ¬ (hereN o.2.1 o.2.2.1 q2.2.1) ≤ (102 : Int32) := Int32.not_le.mpr c40
                  refine Z.iload C dX4_readNumber_167 0 rfl ?_
                  refine Z.if_ne C 183 dX4_readNumber_169 (by decide) (fun c41 => ?_) (fun c41 => ?_)
                  · skip
                    replace c41 : ¬ dg = 0 := mt (nI_eq (by omega) (by omega)).mpr c41
                    refine Z.iload C dX4_readNumber_183 0 rfl ?_
                    refine Z.iload C dX4_readNumber_185 1 rfl ?_
                    refine Z.if_eq C 195 dX4_readNumber_187 (by decide) (fun c42 => ?_) (fun c42 => ?_)
                    · skip
                      replace c42 : 1 = 0 := (nI_eq (by omega) (by omega)).mp c42
                      exact absurd c42 (by decide)
                    · skip
                      replace c42 : ¬ 1 = 0 := mt (nI_eq (by omega) (by omega)).mpr c42
                      refine Z.bipush C (v := (nI 8)) dX4_readNumber_190 (by decide) ?_
                      refine Z.goto C 197 dX4_readNumber_192 (by decide) ?_
                      refine Z.icmp_gt C 218 dX4_readNumber_197 (by decide) (fun c43 => ?_) (fun c43 => ?_)
                      · skip
                        replace c43 : 8 < dg := (nI_ltI (by omega) (by omega)).mp c43
                        refine Z.aload_n C dX4_readNumber_218 3 rfl rfl ?_
                        refine Z.iload C dX4_readNumber_219 2 rfl ?_
                        refine Z.callVv C (nA := 1) (As := [.int (nI q.2.1)]) (st := []) (c_wrong o q2 q.2.1  (by first | omega | (dsimp only; omega))) gX4_readNumber_X4_wrong rfl (by decide +kernel) (rm_ok (by omega) (by decide)) 0 rfl rfl rfl (Nat.le_of_ble_eq_true rfl) rfl dX4_readNumber_221 ?_
                        refine Z.vret C hr hA dX4_readNumber_224 ?_
                        (refine congrArg (wN a cI cZ o) ?_; first | (rw [hm45]; simp [nLoop, nEnd, qWr, c29, (eq_false c33), (eq_true c34), (eq_false c40), (eq_false c41), (eq_false c42), (eq_true c43)]; done) | (rw [hm45]; simp_all [nLoop, nEnd, qWr]; done))
                      · skip
                        replace c43 : ¬ 8 < dg := mt (nI_ltI (by omega) (by omega)).mpr c43
                        refine Z.aload_n C dX4_readNumber_200 3 rfl rfl ?_
                        refine Z.get C in4 0 rfl rfl 29 (by decide) (by decide +kernel) rfl rfl dX4_readNumber_201 ?_
                        refine Z.lload_n C dX4_readNumber_204 4 rfl rfl ?_
                        refine Z.lcmp C (v := (lg_cmp (lN q2.2.2.1) (lN p0))) dX4_readNumber_205 rfl ?_
                        refine Z.if_lt C 218 dX4_readNumber_206 (by decide) (fun c44 => ?_) (fun c44 => ?_)
                        · skip
                          replace c44 : lN q2.2.2.1 < lN p0 := lgc_lt.mp c44
                          refine Z.aload_n C dX4_readNumber_218 3 rfl rfl ?_
                          refine Z.iload C dX4_readNumber_219 2 rfl ?_
                          refine Z.callVv C (nA := 1) (As := [.int (nI q.2.1)]) (st := []) (c_wrong o q2 q.2.1  (by first | omega | (dsimp only; omega))) gX4_readNumber_X4_wrong rfl (by decide +kernel) (rm_ok (by omega) (by decide)) 0 rfl rfl rfl (Nat.le_of_ble_eq_true rfl) rfl dX4_readNumber_221 ?_
                          refine Z.vret C hr hA dX4_readNumber_224 ?_
                          (refine congrArg (wN a cI cZ o) ?_; first | (rw [hm45]; simp [nLoop, nEnd, qWr, c29, (eq_false c33), (eq_true c34), (eq_false c40), (eq_false c41), (eq_false c42), (eq_false c43), (eq_true c44)]; done) | (rw [hm45]; simp_all [nLoop, nEnd, qWr]; done))
                        · skip
                          replace c44 : ¬ lN q2.2.2.1 < lN p0 := mt lgc_lt.mpr c44
                          refine Z.aload_n C dX4_readNumber_209 3 rfl rfl ?_
                          refine Z.get C in4 0 rfl rfl 29 (by decide) (by decide +kernel) rfl rfl dX4_readNumber_210 ?_
                          refine Z.lload_n C dX4_readNumber_213 5 rfl rfl ?_
                          refine Z.lcmp C (v := (lg_cmp (lN q2.2.2.1) (lN p1))) dX4_readNumber_214 rfl ?_
                          refine Z.if_le C 224 dX4_readNumber_215 (by decide) (fun c45 => ?_) (fun c45 => ?_)
                          · skip
                            replace c45 : ¬ lN p1 < lN q2.2.2.1 := lgc_le.mp c45
                            refine Z.vret C hr hA dX4_readNumber_224 ?_
                            (refine congrArg (wN a cI cZ o) ?_; first | (rw [hm45]; simp [nLoop, nEnd, qWr, c29, (eq_false c33), (eq_true c34), (eq_false c40), (eq_false c41), (eq_false c42), (eq_false c43), (eq_false c44), (eq_false c45)]; done) | (rw [hm45]; simp_all [nLoop, nEnd, qWr]; done))
                          · skip
                            replace c45 : lN p1 < lN q2.2.2.1 := Classical.not_not.mp (mt lgc_le.mpr c45)
                            refine Z.aload_n C dX4_readNumber_218 3 rfl rfl ?_
                            refine Z.iload C dX4_readNumber_219 2 rfl ?_
                            refine Z.callVv C (nA := 1) (As := [.int (nI q.2.1)]) (st := []) (c_wrong o q2 q.2.1  (by first | omega | (dsimp only; omega))) gX4_readNumber_X4_wrong rfl (by decide +kernel) (rm_ok (by omega) (by decide)) 0 rfl rfl rfl (Nat.le_of_ble_eq_true rfl) rfl dX4_readNumber_221 ?_
                            refine Z.vret C hr hA dX4_readNumber_224 ?_
                            (refine congrArg (wN a cI cZ o) ?_; first | (rw [hm45]; simp [nLoop, nEnd, qWr, c29, (eq_false c33), (eq_true c34), (eq_false c40), (eq_false c41), (eq_false c42), (eq_false c43), (eq_false c44), (eq_true c45)]; done) | (rw [hm45]; simp_all [nLoop, nEnd, qWr]; done))
                  · skip
                    replace c41 : dg = 0 := (nI_eq (by omega) (by omega)).mp c41
                    refine Z.aload_n C dX4_readNumber_172 3 rfl rfl ?_
                    refine Z.aload_n C dX4_readNumber_173 3 rfl rfl ?_
                    refine Z.get C in4 0 rfl rfl 28 (by decide) (by decide +kernel) rfl rfl dX4_readNumber_174 ?_
                    refine Z.callVv C (nA := 1) (As := [.int (nI q2.2.1)]) (st := []) (c_wrong o q2 q2.2.1  (by first | omega | (dsimp only; omega))) gX4_readNumber_X4_wrong rfl (by decide +kernel) (rm_ok (by omega) (by decide)) 0 rfl rfl rfl (Nat.le_of_ble_eq_true rfl) rfl dX4_readNumber_177 ?_
                    refine Z.goto C 224 dX4_readNumber_180 (by decide) ?_
                    refine Z.vret C hr hA dX4_readNumber_224 ?_
                    (refine congrArg (wN a cI cZ o) ?_; first | (rw [hm45]; simp [nLoop, nEnd, qWr, c29, (eq_false c33), (eq_true c34), (eq_false c40), (eq_true c41)]; done) | (rw [hm45]; simp_all [nLoop, nEnd, qWr]; done))
                · skip
                  replace c40 : (hereN o.2.1 o.2.2.1 q2.2.1) ≤ (102 : Int32) := Int32.not_lt.mp c40
                  refine Z.aload_n C dX4_readNumber_78 3 rfl rfl ?_
                  refine Z.callVi C (nA := 0) (As := []) (st := []) (c_hereN o q2 (by first | omega | (dsimp only; omega)) (by first | omega | (dsimp only; omega))) gX4_readNumber_X4_here rfl (by decide +kernel) (rm_ok (by omega) (by decide)) 0 rfl rfl rfl (Nat.le_of_ble_eq_true rfl) rfl dX4_readNumber_79 ?_
                  refine Z.callSi C (nA := 1) (As := [.int (hereN o.2.1 o.2.2.1 q2.2.1)]) (st := []) (c_isDigit (hereN o.2.1 o.2.2.1 q2.2.1)) gX4_readNumber_X4_isDigit rfl (by decide +kernel) (rm_ok (by omega) (by decide)) rfl (Nat.le_of_ble_eq_true rfl) rfl dX4_readNumber_82 ?_
                  refine Z.if_eq C 98 dX4_readNumber_85 (by decide) (fun c46 => ?_) (fun c46 => ?_)
                  · skip
                    replace c46 : isDigF (hereN o.2.1 o.2.2.1 q2.2.1) = false := b2i_0.mp c46
                    refine Z.aload_n C dX4_readNumber_98 3 rfl rfl ?_
                    refine Z.callVi C (nA := 0) (As := []) (st := []) (c_hereN o q2 (by first | omega | (dsimp only; omega)) (by first | omega | (dsimp only; omega))) gX4_readNumber_X4_here rfl (by decide +kernel) (rm_ok (by omega) (by decide)) 0 rfl rfl rfl (Nat.le_of_ble_eq_true rfl) rfl dX4_readNumber_99 ?_
                    refine Z.bipush C (v := (nI 97)) dX4_readNumber_102 (by decide) ?_
                    refine Z.isub C (v := ((hereN o.2.1 o.2.2.1 q2.2.1) - (97 : Int32))) dX4_readNumber_104 rfl ?_
                    refine Z.bipush C (v := (nI 10)) dX4_readNumber_105 (by decide) ?_
                    refine Z.iadd C (v := (((hereN o.2.1 o.2.2.1 q2.2.1) - (97 : Int32)) + (10 : Int32))) dX4_readNumber_107 rfl ?_
                    refine Z.istore C (lv' := [(8, .int (((hereN o.2.1 o.2.2.1 q2.2.1) - (97 : Int32)) + (10 : Int32))), (6, .int (nI dg)), (7, .int (nI 1)), (5, .int (nI q.2.1)), (0, .ref (a 0)), (1, .long (lN p0)), (3, .long (lN p1))]) dX4_readNumber_108 (by decide) rfl ?_
                    refine Z.aload_n C dX4_readNumber_110 4 rfl rfl ?_
                    refine Z.iload C dX4_readNumber_111 1 rfl ?_
                    refine Z.bipush C (v := (nI 10)) dX4_readNumber_113 (by decide) ?_
                    refine Z.icmp_ge C 144 dX4_readNumber_115 (by decide) (fun c47 => ?_) (fun c47 => ?_)
                    · skip
                      replace c47 : ¬ dg < 10 := Nat.not_lt.mpr ((nI_leI (by omega) (by omega)).mp c47)
                      refine Z.aload_n C dX4_readNumber_144 4 rfl rfl ?_
                      refine Z.get C in4 0 rfl rfl 29 (by decide) (by decide +kernel) rfl rfl dX4_readNumber_145 ?_
                      refine Z.put C in4 0 rfl rfl 29 (by decide) tyX4 tyX4_ok nmX4 (by decide +kernel) rfl rfl rfl rfl (Nat.le_of_ble_eq_true rfl) dX4_readNumber_148 (w' := (wN a cI cZ o q2)) rfl ?_
                      refine Z.iinc C (v := (nI (dg + 1))) (lv' := [(6, .int (nI (dg + 1))), (8, .int (((hereN o.2.1 o.2.2.1 q2.2.1) - (97 : Int32)) + (10 : Int32))), (7, .int (nI 1)), (5, .int (nI q.2.1)), (0, .ref (a 0)), (1, .long (lN p0)), (3, .long (lN p1))]) dX4_readNumber_151 1 rfl (nI_add dg 1) (by decide) rfl ?_
                      refine Z.aload_n C dX4_readNumber_154 4 rfl rfl ?_
                      refine Z.dup C dX4_readNumber_155 rfl ?_
                      refine Z.get C in4 0 rfl rfl 28 (by decide) (by decide +kernel) rfl rfl dX4_readNumber_156 ?_
                      refine Z.iconst C (v := (nI 1)) dX4_readNumber_159 (by decide) ?_
                      refine Z.iadd C (v := (nI (q2.2.1 + 1))) dX4_readNumber_160 (nI_add q2.2.1 1) ?_
                      refine Z.put C in4 0 rfl rfl 28 (by decide) tyX4 tyX4_ok nmX4 (by decide +kernel) rfl rfl rfl rfl (Nat.le_of_ble_eq_true rfl) dX4_readNumber_161 (w' := (wN a cI cZ o (q2.1, q2.2.1 + 1, q2.2.2))) rfl ?_
                      refine Z.goto C 45 dX4_readNumber_164 (by decide) ?_
                      refine Z.sub [0, 2, 3, 4, 5, 6] rfl ?_
                      exact ih45 (dg + 1) (q2.1, q2.2.1 + 1, q2.2.2) (by first | omega | (dsimp only; omega)) (by omega) ⟨by first | omega | (dsimp only; omega), by first | omega | (dsimp only; omega)⟩ (by rw [hm45, nLoop]; simp [qAt1, c29, (eq_false c33), (eq_true c34), (eq_true c40), c46, (eq_false c47)])
                    · skip
                      replace c47 : dg < 10 := Nat.not_le.mp (mt (nI_leI (by omega) (by omega)).mpr c47)
                      refine Z.iload C dX4_readNumber_118 2 rfl ?_
                      refine Z.if_eq C 129 dX4_readNumber_120 (by decide) (fun c48 => ?_) (fun c48 => ?_)
                      · skip
                        replace c48 : 1 = 0 := (nI_eq (by omega) (by omega)).mp c48
                        exact absurd c48 (by decide)
                      · skip
                        replace c48 : ¬ 1 = 0 := mt (nI_eq (by omega) (by omega)).mpr c48
                        refine Z.ldc2 C (v := lN 16) dX4_readNumber_123 (by decide +kernel) ?_
                        refine Z.goto C 132 dX4_readNumber_126 (by decide) ?_
                        refine Z.aload_n C dX4_readNumber_132 4 rfl rfl ?_
                        refine Z.get C in4 0 rfl rfl 29 (by decide) (by decide +kernel) rfl rfl dX4_readNumber_133 ?_
                        refine Z.lmul C (v := (lN (16 * q2.2.2.1))) dX4_readNumber_136 (lN_mul 16 q2.2.2.1) ?_
                        refine Z.iload C dX4_readNumber_137 0 rfl ?_
                        refine Z.i2l C (v := (lN ((((hereN o.2.1 o.2.2.1 q2.2.1) - (97 : Int32)) + (10 : Int32)).toNatClampNeg))) dX4_readNumber_139 (i64_of (hexN_ge (by assumption) (by assumption))) ?_
                        refine Z.ladd C (v := (lN ((16 * q2.2.2.1) + ((((hereN o.2.1 o.2.2.1 q2.2.1) - (97 : Int32)) + (10 : Int32)).toNatClampNeg)))) dX4_readNumber_140 (lN_add (16 * q2.2.2.1) ((((hereN o.2.1 o.2.2.1 q2.2.1) - (97 : Int32)) + (10 : Int32)).toNatClampNeg)) ?_
                        refine Z.goto C 148 dX4_readNumber_141 (by decide) ?_
                        refine Z.put C in4 0 rfl rfl 29 (by decide) tyX4 tyX4_ok nmX4 (by decide +kernel) rfl rfl rfl rfl (Nat.le_of_ble_eq_true rfl) dX4_readNumber_148 (w' := (wN a cI cZ o (q2.1, q2.2.1, (16 * q2.2.2.1) + ((((hereN o.2.1 o.2.2.1 q2.2.1) - (97 : Int32)) + (10 : Int32)).toNatClampNeg), q2.2.2.2))) rfl ?_
                        refine Z.iinc C (v := (nI (dg + 1))) (lv' := [(6, .int (nI (dg + 1))), (8, .int (((hereN o.2.1 o.2.2.1 q2.2.1) - (97 : Int32)) + (10 : Int32))), (7, .int (nI 1)), (5, .int (nI q.2.1)), (0, .ref (a 0)), (1, .long (lN p0)), (3, .long (lN p1))]) dX4_readNumber_151 1 rfl (nI_add dg 1) (by decide) rfl ?_
                        refine Z.aload_n C dX4_readNumber_154 4 rfl rfl ?_
                        refine Z.dup C dX4_readNumber_155 rfl ?_
                        refine Z.get C in4 0 rfl rfl 28 (by decide) (by decide +kernel) rfl rfl dX4_readNumber_156 ?_
                        refine Z.iconst C (v := (nI 1)) dX4_readNumber_159 (by decide) ?_
                        refine Z.iadd C (v := (nI (q2.2.1 + 1))) dX4_readNumber_160 (nI_add q2.2.1 1) ?_
                        refine Z.put C in4 0 rfl rfl 28 (by decide) tyX4 tyX4_ok nmX4 (by decide +kernel) rfl rfl rfl rfl (Nat.le_of_ble_eq_true rfl) dX4_readNumber_161 (w' := (wN a cI cZ o (q2.1, q2.2.1 + 1, (16 * q2.2.2.1) + ((((hereN o.2.1 o.2.2.1 q2.2.1) - (97 : Int32)) + (10 : Int32)).toNatClampNeg), q2.2.2.2))) rfl ?_
                        refine Z.goto C 45 dX4_readNumber_164 (by decide) ?_
                        refine Z.sub [0, 2, 3, 4, 5, 6] rfl ?_
                        exact ih45 (dg + 1) (q2.1, q2.2.1 + 1, (16 * q2.2.2.1) + ((((hereN o.2.1 o.2.2.1 q2.2.1) - (97 : Int32)) + (10 : Int32)).toNatClampNeg), q2.2.2.2) (by first | omega | (dsimp only; omega)) (by omega) ⟨by first | omega | (dsimp only; omega), by first | omega | (dsimp only; omega)⟩ (by rw [hm45, nLoop]; simp [qAt1, c29, (eq_false c33), (eq_true c34), (eq_true c40), c46, (eq_true c47), (eq_false c48)])
                  · skip
                    replace c46 : isDigF (hereN o.2.1 o.2.2.1 q2.2.1) = true := b2i_n0.mp c46
                    exact absurd (c29.symm.trans c46) (by decide)
      refine Z.sub [1, 0, 2, 3, 4, 5] rfl ?_
      exact key45 o.2.2.1 0 (q.1, q.2.1 + 1, 0, q.2.2.2) (by first | omega | (dsimp only; omega)) (by omega) ⟨by first | omega | (dsimp only; omega), by first | omega | (dsimp only; omega)⟩ (by simp [qNumber, qAt1, (eq_true c1), (eq_false c20)])
