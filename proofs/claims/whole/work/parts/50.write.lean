set_option maxHeartbeats 4000000 in
set_option maxRecDepth 100000 in
theorem c_writeN {l : Launch} {D : va_G} {a : Nat → Nat} {cI cZ : ClassId} (o : OS) (q : QS) (p0 : Int64) (hL : o.2.2.1 ≤ 480) : Mi l yX4_write wsX4_write 1 D [(cI, .int), (cZ, .boolean)] [.ref (a 0), .long p0] (wN a cI cZ o q) (b2i ((rWrite p0 o).1)) (wN a cI cZ ((rWrite p0 o).2) q) := by
  refine Mi.of (cc := cX4_write) (maxL := 7) (by decide) rfl (Nat.le_of_ble_eq_true rfl) ?_
  intro p e s m below meth c A C hr hA
  have in4 : ∀ w ∈ wsX40, w ∈ wsX4_write := by decide +kernel
  show Z p l e (rmN _) s m _ below meth c _ D A _ _ [(0, .ref (a 0)), (1, .long p0)] 0 []
  refine Z.aload_n C dX4_write_0 0 rfl rfl ?_
  refine Z.iconst C (v := (nI 0)) dX4_write_1 (by decide) ?_
  refine Z.put C in4 0 rfl rfl 0 (by decide) tyX4 tyX4_ok nmX4 (by decide +kernel) rfl rfl rfl rfl (Nat.le_of_ble_eq_true rfl) dX4_write_2 (w' := (wN a cI cZ (0, o.2) q)) rfl ?_
  refine Z.iconst C (v := (nI 0)) dX4_write_5 (by decide) ?_
  refine Z.istore_n C (lv' := [(3, .int (nI 0)), (0, .ref (a 0)), (1, .long p0)]) dX4_write_6 rfl (by decide) rfl ?_
  refine Z.iconst C (v := (nI 1)) dX4_write_7 (by decide) ?_
  refine Z.istore C (lv' := [(4, .int (nI 1)), (3, .int (nI 0)), (0, .ref (a 0)), (1, .long p0)]) dX4_write_8 (by decide) rfl ?_
  refine Z.iconst C (v := (nI 0)) dX4_write_10 (by decide) ?_
  refine Z.istore C (lv' := [(5, .int (nI 0)), (4, .int (nI 1)), (3, .int (nI 0)), (0, .ref (a 0)), (1, .long p0)]) dX4_write_11 (by decide) rfl ?_
  have key13 : ∀ (n : Nat) (k more : Nat) (fine : Bool), k + 8 * n = 64 → more ≤ k → more + cntN p0 n k = cntN p0 8 0 → wr1 p0 8 0 0 true = wr1 p0 n k more fine → Z p l e (rmN 1) s m ([.ref (a 0), .long p0] : List Value).toArray below meth c 7 D A (QI below D [(cI, .int), (cZ, .boolean)] [.ref (a 0), .long p0] (wN a cI cZ o q) (b2i ((rWrite p0 o).1)) (wN a cI cZ ((rWrite p0 o).2) q) s) (wN a cI cZ (0, o.2) q) [(5, .int (nI k)), (3, .int (nI more)), (4, .int (b2i fine)), (0, .ref (a 0)), (1, .long p0)] 13 [] := by
    intro n
    induction n with
    | zero =>
      intro k more fine hn hmk hc hm13
      refine Z.iload C dX4_write_13 0 rfl ?_
      refine Z.bipush C (v := (nI 64)) dX4_write_15 (by decide) ?_
      refine Z.icmp_ge C 85 dX4_write_17 (by decide) (fun c1 => ?_) (fun c1 => ?_)
      · skip
        replace c1 : ¬ k < 64 := Nat.not_lt.mpr ((nI_leI (by omega) (by omega)).mp c1)
        refine Z.iload C dX4_write_85 2 rfl ?_
        refine Z.if_eq C 102 dX4_write_87 (by decide) (fun c2 => ?_) (fun c2 => ?_)
        · skip
          replace c2 : fine = false := b2i_0.mp c2
          refine Z.iconst C (v := (nI 0)) dX4_write_102 (by decide) ?_
          refine Z.zret C hr hA dX4_write_103 (b := false) rfl ?_ ?_
          · (rw [rWrite, hm13]; simp [wr1, c2])
          · (refine congrArg (fun z => wN a cI cZ z q) ?_; (rw [rWrite, hm13]; simp [wr1, c2]))
        · skip
          replace c2 : fine = true := b2i_n0.mp c2
          refine Z.aload_n C dX4_write_90 3 rfl rfl ?_
          refine Z.get C in4 0 rfl rfl 2 (by decide) (by decide +kernel) rfl rfl dX4_write_91 ?_
          refine Z.iload_n C dX4_write_94 1 rfl rfl ?_
          refine Z.iadd C (v := (nI (o.2.2.1 + more))) dX4_write_95 (nI_add o.2.2.1 more) ?_
          refine Z.sipush C (v := (nI 480)) dX4_write_96 (by decide) ?_
          refine Z.icmp_le C 104 dX4_write_99 (by decide) (fun c3 => ?_) (fun c3 => ?_)
          · skip
            replace c3 : ¬ 480 < (o.2.2.1 + more) := Nat.not_lt.mpr ((nI_leI (by omega) (by omega)).mp c3)
            refine Z.iconst C (v := (nI 0)) dX4_write_104 (by decide) ?_
            refine Z.istore C (lv' := [(5, .int (nI 0)), (3, .int (nI more)), (4, .int (b2i fine)), (0, .ref (a 0)), (1, .long p0)]) dX4_write_105 (by decide) rfl ?_
            have key107 : ∀ (n : Nat) (k : Nat) (o2 : OS), k + 8 * n = 64 → o2.2.2.1 + cntN p0 n k ≤ 480 → rWrite p0 o = (true, wr2 p0 n k o2) → Z p l e (rmN 1) s m ([.ref (a 0), .long p0] : List Value).toArray below meth c 7 D A (QI below D [(cI, .int), (cZ, .boolean)] [.ref (a 0), .long p0] (wN a cI cZ o q) (b2i ((rWrite p0 o).1)) (wN a cI cZ ((rWrite p0 o).2) q) s) (wN a cI cZ o2 q) [(5, .int (nI k)), (0, .ref (a 0)), (1, .long p0)] 107 [] := by
              intro n
              induction n with
              | zero =>
                intro k o2 hn hc2 hm107
                refine Z.iload C dX4_write_107 0 rfl ?_
                refine Z.bipush C (v := (nI 64)) dX4_write_109 (by decide) ?_
                refine Z.icmp_ge C 161 dX4_write_111 (by decide) (fun c4 => ?_) (fun c4 => ?_)
                · skip
                  replace c4 : ¬ k < 64 := Nat.not_lt.mpr ((nI_leI (by omega) (by omega)).mp c4)
                  refine Z.iconst C (v := (nI 1)) dX4_write_161 (by decide) ?_
                  refine Z.zret C hr hA dX4_write_162 (b := true) rfl ?_ ?_
                  · (rw [hm107]; try rfl)
                  · (refine congrArg (fun z => wN a cI cZ z q) ?_; (rw [hm107]; try rfl))
                · skip
                  replace c4 : k < 64 := Nat.not_le.mp (mt (nI_leI (by omega) (by omega)).mpr c4)
                  exact absurd c4 (by omega)
              | succ n ih107 =>
                intro k o2 hn hc2 hm107
                refine Z.iload C dX4_write_107 0 rfl ?_
                refine Z.bipush C (v := (nI 64)) dX4_write_109 (by decide) ?_
                refine Z.icmp_ge C 161 dX4_write_111 (by decide) (fun c5 => ?_) (fun c5 => ?_)
                · skip
                  replace c5 : ¬ k < 64 := Nat.not_lt.mpr ((nI_leI (by omega) (by omega)).mp c5)
                  exact absurd c5 (by omega)
                · skip
                  replace c5 : k < 64 := Nat.not_le.mp (mt (nI_leI (by omega) (by omega)).mpr c5)
                  refine Z.lload_n C dX4_write_114 2 rfl rfl ?_
                  refine Z.iload C dX4_write_115 0 rfl ?_
                  refine Z.lushr C (v := ((p0.toUInt64 >>> ((nI k).toInt64.toUInt64 &&& Int64.toUInt64 63)).toInt64)) dX4_write_117 rfl ?_
                  refine Z.ldc2 C (v := lN 255) dX4_write_118 (by decide +kernel) ?_
                  refine Z.land C (v := (((p0.toUInt64 >>> ((nI k).toInt64.toUInt64 &&& Int64.toUInt64 63)).toInt64) &&& (lN 255))) dX4_write_121 rfl ?_
                  refine Z.l2i C (v := (byN p0 k)) dX4_write_122 rfl ?_
                  refine Z.istore C (lv' := [(6, .int (byN p0 k)), (5, .int (nI k)), (0, .ref (a 0)), (1, .long p0)]) dX4_write_123 (by decide) rfl ?_
                  refine Z.iload C dX4_write_125 0 rfl ?_
                  refine Z.if_eq C 151 dX4_write_127 (by decide) (fun c6 => ?_) (fun c6 => ?_)
                  · skip
                    replace c6 : (byN p0 k) = (0 : Int32) := c6
                    refine Z.iload C dX4_write_151 1 rfl ?_
                    refine Z.bipush C (v := (nI 8)) dX4_write_153 (by decide) ?_
                    refine Z.iadd C (v := (nI (k + 8))) dX4_write_155 (nI_add k 8) ?_
                    refine Z.istore C (lv' := [(5, .int (nI (k + 8))), (6, .int (byN p0 k)), (0, .ref (a 0)), (1, .long p0)]) dX4_write_156 (by decide) rfl ?_
                    refine Z.goto C 107 dX4_write_158 (by decide) ?_
                    refine Z.sub [0, 2, 3] rfl ?_
                    exact ih107 (k + 8) o2 (by omega) (by have hc3 : o2.2.2.1 + ((if byN p0 k = 0 then 0 else 1) + cntN p0 n (k + 8)) ≤ 480 := hc2; simp only [(eq_true c6), if_true, if_false] at hc3; first | omega | (dsimp only; omega)) (by rw [hm107, wr2]; simp [(eq_true c5), (eq_true c6)])
                  · skip
                    replace c6 : ¬ (byN p0 k) = (0 : Int32) := c6
                    have hc4 : o2.2.2.1 + ((if byN p0 k = 0 then 0 else 1) + cntN p0 n (k + 8)) ≤ 480 := hc2
                    simp only [eq_false c6, if_false] at hc4
                    refine Z.aload_n C dX4_write_130 2 rfl rfl ?_
                    refine Z.get C in4 0 rfl rfl 1 (by decide) (by decide +kernel) rfl rfl dX4_write_131 ?_
                    refine Z.aload_n C dX4_write_134 2 rfl rfl ?_
                    refine Z.get C in4 0 rfl rfl 2 (by decide) (by decide +kernel) rfl rfl dX4_write_135 ?_
                    refine Z.iload C dX4_write_138 0 rfl ?_
                    refine Z.iast C 1 0 rfl rfl o2.2.2.1 rfl (by omega) (by decide) dX4_write_140 (v := (byN p0 k)) rfl (w' := (wN a cI cZ (o2.1, (upd o2.2.1 o2.2.2.1 (byN p0 k)), o2.2.2) q)) rfl ?_
                    refine Z.aload_n C dX4_write_141 2 rfl rfl ?_
                    refine Z.dup C dX4_write_142 rfl ?_
                    refine Z.get C in4 0 rfl rfl 2 (by decide) (by decide +kernel) rfl rfl dX4_write_143 ?_
                    refine Z.iconst C (v := (nI 1)) dX4_write_146 (by decide) ?_
                    refine Z.iadd C (v := (nI (o2.2.2.1 + 1))) dX4_write_147 (nI_add o2.2.2.1 1) ?_
                    refine Z.put C in4 0 rfl rfl 2 (by decide) tyX4 tyX4_ok nmX4 (by decide +kernel) rfl rfl rfl rfl (Nat.le_of_ble_eq_true rfl) dX4_write_148 (w' := (wN a cI cZ (o2.1, (upd o2.2.1 o2.2.2.1 (byN p0 k)), o2.2.2.1 + 1, o2.2.2.2) q)) rfl ?_
                    refine Z.iload C dX4_write_151 1 rfl ?_
                    refine Z.bipush C (v := (nI 8)) dX4_write_153 (by decide) ?_
                    refine Z.iadd C (v := (nI (k + 8))) dX4_write_155 (nI_add k 8) ?_
                    refine Z.istore C (lv' := [(5, .int (nI (k + 8))), (6, .int (byN p0 k)), (0, .ref (a 0)), (1, .long p0)]) dX4_write_156 (by decide) rfl ?_
                    refine Z.goto C 107 dX4_write_158 (by decide) ?_
                    refine Z.sub [0, 2, 3] rfl ?_
                    exact ih107 (k + 8) (o2.1, (upd o2.2.1 o2.2.2.1 (byN p0 k)), o2.2.2.1 + 1, o2.2.2.2) (by omega) (by have hc3 : o2.2.2.1 + ((if byN p0 k = 0 then 0 else 1) + cntN p0 n (k + 8)) ≤ 480 := hc2; simp only [(eq_false c6), if_true, if_false] at hc3; first | omega | (dsimp only; omega)) (by rw [hm107, wr2]; simp [(eq_true c5), (eq_false c6)])
            refine Z.sub [0, 3, 4] rfl ?_
            exact key107 8 0 (0, o.2) (by omega) (by have hc3 : more + 0 = cntN p0 8 0 := hc; first | omega | (dsimp only; omega)) (by rw [rWrite, hm13]; simp [wr1, c2, (eq_false c3)])
          · skip
            replace c3 : 480 < (o.2.2.1 + more) := Nat.not_le.mp (mt (nI_leI (by omega) (by omega)).mpr c3)
            refine Z.iconst C (v := (nI 0)) dX4_write_102 (by decide) ?_
            refine Z.zret C hr hA dX4_write_103 (b := false) rfl ?_ ?_
            · (rw [rWrite, hm13]; simp [wr1, c2, (eq_true c3)])
            · (refine congrArg (fun z => wN a cI cZ z q) ?_; (rw [rWrite, hm13]; simp [wr1, c2, (eq_true c3)]))
      · skip
        replace c1 : k < 64 := Nat.not_le.mp (mt (nI_leI (by omega) (by omega)).mpr c1)
        exact absurd c1 (by omega)
    | succ n ih13 =>
      intro k more fine hn hmk hc hm13
      refine Z.iload C dX4_write_13 0 rfl ?_
      refine Z.bipush C (v := (nI 64)) dX4_write_15 (by decide) ?_
      refine Z.icmp_ge C 85 dX4_write_17 (by decide) (fun c7 => ?_) (fun c7 => ?_)
      · skip
        replace c7 : ¬ k < 64 := Nat.not_lt.mpr ((nI_leI (by omega) (by omega)).mp c7)
        exact absurd c7 (by omega)
      · skip
        replace c7 : k < 64 := Nat.not_le.mp (mt (nI_leI (by omega) (by omega)).mpr c7)
        refine Z.lload_n C dX4_write_20 4 rfl rfl ?_
        refine Z.iload C dX4_write_21 0 rfl ?_
        refine Z.lushr C (v := ((p0.toUInt64 >>> ((nI k).toInt64.toUInt64 &&& Int64.toUInt64 63)).toInt64)) dX4_write_23 rfl ?_
        refine Z.ldc2 C (v := lN 255) dX4_write_24 (by decide +kernel) ?_
        refine Z.land C (v := (((p0.toUInt64 >>> ((nI k).toInt64.toUInt64 &&& Int64.toUInt64 63)).toInt64) &&& (lN 255))) dX4_write_27 rfl ?_
        refine Z.l2i C (v := (byN p0 k)) dX4_write_28 rfl ?_
        refine Z.istore C (lv' := [(6, .int (byN p0 k)), (5, .int (nI k)), (3, .int (nI more)), (4, .int (b2i fine)), (0, .ref (a 0)), (1, .long p0)]) dX4_write_29 (by decide) rfl ?_
        refine Z.iload C dX4_write_31 3 rfl ?_
        refine Z.if_eq C 59 dX4_write_33 (by decide) (fun c8 => ?_) (fun c8 => ?_)
        · skip
          replace c8 : fine = false := b2i_0.mp c8
          refine Z.iconst C (v := (nI 0)) dX4_write_59 (by decide) ?_
          refine Z.istore C (lv' := [(4, .int (nI 0)), (6, .int (byN p0 k)), (5, .int (nI k)), (3, .int (nI more)), (0, .ref (a 0)), (1, .long p0)]) dX4_write_60 (by decide) rfl ?_
          refine Z.iload C dX4_write_62 1 rfl ?_
          refine Z.if_eq C 73 dX4_write_64 (by decide) (fun c9 => ?_) (fun c9 => ?_)
          · skip
            replace c9 : (byN p0 k) = (0 : Int32) := c9
            refine Z.iload_n C dX4_write_73 3 rfl rfl ?_
            refine Z.istore_n C (lv' := [(3, .int (nI more)), (4, .int (nI 0)), (6, .int (byN p0 k)), (5, .int (nI k)), (0, .ref (a 0)), (1, .long p0)]) dX4_write_74 rfl (by decide) rfl ?_
            refine Z.iload C dX4_write_75 3 rfl ?_
            refine Z.bipush C (v := (nI 8)) dX4_write_77 (by decide) ?_
            refine Z.iadd C (v := (nI (k + 8))) dX4_write_79 (nI_add k 8) ?_
            refine Z.istore C (lv' := [(5, .int (nI (k + 8))), (3, .int (nI more)), (4, .int (nI 0)), (6, .int (byN p0 k)), (0, .ref (a 0)), (1, .long p0)]) dX4_write_80 (by decide) rfl ?_
            refine Z.goto C 13 dX4_write_82 (by decide) ?_
            refine Z.sub [0, 1, 2, 4, 5] rfl ?_
            exact ih13 (k + 8) more false (by omega) (by omega) (by have hc2 : more + ((if byN p0 k = 0 then 0 else 1) + cntN p0 n (k + 8)) = cntN p0 8 0 := hc; simp only [(eq_true c9), if_true, if_false] at hc2; omega) (by rw [hm13, wr1]; simp [c8, (eq_true c9)])
          · skip
            replace c9 : ¬ (byN p0 k) = (0 : Int32) := c9
            refine Z.iload_n C dX4_write_67 3 rfl rfl ?_
            refine Z.iconst C (v := (nI 1)) dX4_write_68 (by decide) ?_
            refine Z.iadd C (v := (nI (more + 1))) dX4_write_69 (nI_add more 1) ?_
            refine Z.goto C 74 dX4_write_70 (by decide) ?_
            refine Z.istore_n C (lv' := [(3, .int (nI (more + 1))), (4, .int (nI 0)), (6, .int (byN p0 k)), (5, .int (nI k)), (0, .ref (a 0)), (1, .long p0)]) dX4_write_74 rfl (by decide) rfl ?_
            refine Z.iload C dX4_write_75 3 rfl ?_
            refine Z.bipush C (v := (nI 8)) dX4_write_77 (by decide) ?_
            refine Z.iadd C (v := (nI (k + 8))) dX4_write_79 (nI_add k 8) ?_
            refine Z.istore C (lv' := [(5, .int (nI (k + 8))), (3, .int (nI (more + 1))), (4, .int (nI 0)), (6, .int (byN p0 k)), (0, .ref (a 0)), (1, .long p0)]) dX4_write_80 (by decide) rfl ?_
            refine Z.goto C 13 dX4_write_82 (by decide) ?_
            refine Z.sub [0, 1, 2, 4, 5] rfl ?_
            exact ih13 (k + 8) (more + 1) false (by omega) (by omega) (by have hc2 : more + ((if byN p0 k = 0 then 0 else 1) + cntN p0 n (k + 8)) = cntN p0 8 0 := hc; simp only [(eq_false c9), if_true, if_false] at hc2; omega) (by rw [hm13, wr1]; simp [c8, (eq_false c9)])
        · skip
          replace c8 : fine = true := b2i_n0.mp c8
          refine Z.iload C dX4_write_36 0 rfl ?_
          refine Z.if_eq C 55 dX4_write_38 (by decide) (fun c10 => ?_) (fun c10 => ?_)
          · skip
            replace c10 : (byN p0 k) = (0 : Int32) := c10
            refine Z.iconst C (v := (nI 1)) dX4_write_55 (by decide) ?_
            refine Z.goto C 60 dX4_write_56 (by decide) ?_
            refine Z.istore C (lv' := [(4, .int (nI 1)), (6, .int (byN p0 k)), (5, .int (nI k)), (3, .int (nI more)), (0, .ref (a 0)), (1, .long p0)]) dX4_write_60 (by decide) rfl ?_
            refine Z.iload C dX4_write_62 1 rfl ?_
            refine Z.if_eq C 73 dX4_write_64 (by decide) (fun c11 => ?_) (fun c11 => ?_)
            · skip
              replace c11 : (byN p0 k) = (0 : Int32) := c11
              refine Z.iload_n C dX4_write_73 3 rfl rfl ?_
              refine Z.istore_n C (lv' := [(3, .int (nI more)), (4, .int (nI 1)), (6, .int (byN p0 k)), (5, .int (nI k)), (0, .ref (a 0)), (1, .long p0)]) dX4_write_74 rfl (by decide) rfl ?_
              refine Z.iload C dX4_write_75 3 rfl ?_
              refine Z.bipush C (v := (nI 8)) dX4_write_77 (by decide) ?_
              refine Z.iadd C (v := (nI (k + 8))) dX4_write_79 (nI_add k 8) ?_
              refine Z.istore C (lv' := [(5, .int (nI (k + 8))), (3, .int (nI more)), (4, .int (nI 1)), (6, .int (byN p0 k)), (0, .ref (a 0)), (1, .long p0)]) dX4_write_80 (by decide) rfl ?_
              refine Z.goto C 13 dX4_write_82 (by decide) ?_
              refine Z.sub [0, 1, 2, 4, 5] rfl ?_
              exact ih13 (k + 8) more true (by omega) (by omega) (by have hc2 : more + ((if byN p0 k = 0 then 0 else 1) + cntN p0 n (k + 8)) = cntN p0 8 0 := hc; simp only [(eq_true c11), if_true, if_false] at hc2; omega) (by rw [hm13, wr1]; simp [c8, (eq_true c10), (eq_true c11)])
            · skip
              replace c11 : ¬ (byN p0 k) = (0 : Int32) := c11
              exact absurd c10 c11
          · skip
            replace c10 : ¬ (byN p0 k) = (0 : Int32) := c10
            refine Z.iload C dX4_write_41 0 rfl ?_
            refine Z.bipush C (v := (nI 32)) dX4_write_43 (by decide) ?_
            refine Z.icmp_le C 59 dX4_write_45 (by decide) (fun c12 => ?_) (fun c12 => ?_)
            · skip
              replace c12 : (byN p0 k) ≤ (32 : Int32) := c12
              refine Z.iconst C (v := (nI 0)) dX4_write_59 (by decide) ?_
              refine Z.istore C (lv' := [(4, .int (nI 0)), (6, .int (byN p0 k)), (5, .int (nI k)), (3, .int (nI more)), (0, .ref (a 0)), (1, .long p0)]) dX4_write_60 (by decide) rfl ?_
              refine Z.iload C dX4_write_62 1 rfl ?_
              refine Z.if_eq C 73 dX4_write_64 (by decide) (fun c13 => ?_) (fun c13 => ?_)
              · skip
                replace c13 : (byN p0 k) = (0 : Int32) := c13
                exact absurd c13 c10
              · skip
                replace c13 : ¬ (byN p0 k) = (0 : Int32) := c13
                refine Z.iload_n C dX4_write_67 3 rfl rfl ?_
                refine Z.iconst C (v := (nI 1)) dX4_write_68 (by decide) ?_
                refine Z.iadd C (v := (nI (more + 1))) dX4_write_69 (nI_add more 1) ?_
                refine Z.goto C 74 dX4_write_70 (by decide) ?_
                refine Z.istore_n C (lv' := [(3, .int (nI (more + 1))), (4, .int (nI 0)), (6, .int (byN p0 k)), (5, .int (nI k)), (0, .ref (a 0)), (1, .long p0)]) dX4_write_74 rfl (by decide) rfl ?_
                refine Z.iload C dX4_write_75 3 rfl ?_
                refine Z.bipush C (v := (nI 8)) dX4_write_77 (by decide) ?_
                refine Z.iadd C (v := (nI (k + 8))) dX4_write_79 (nI_add k 8) ?_
                refine Z.istore C (lv' := [(5, .int (nI (k + 8))), (3, .int (nI (more + 1))), (4, .int (nI 0)), (6, .int (byN p0 k)), (0, .ref (a 0)), (1, .long p0)]) dX4_write_80 (by decide) rfl ?_
                refine Z.goto C 13 dX4_write_82 (by decide) ?_
                refine Z.sub [0, 1, 2, 4, 5] rfl ?_
                exact ih13 (k + 8) (more + 1) false (by omega) (by omega) (by have hc2 : more + ((if byN p0 k = 0 then 0 else 1) + cntN p0 n (k + 8)) = cntN p0 8 0 := hc; simp only [(eq_false c13), if_true, if_false] at hc2; omega) (by rw [hm13, wr1]; simp [c8, (eq_false c10), (eq_true c12), (eq_false c13)])
            · skip
              replace c12 : ¬ (byN p0 k) ≤ (32 : Int32) := c12
              refine Z.iload C dX4_write_48 0 rfl ?_
              refine Z.bipush C (v := (nI 127)) dX4_write_50 (by decide) ?_
              refine Z.icmp_ge C 59 dX4_write_52 (by decide) (fun c14 => ?_) (fun c14 => ?_)
              · skip
                replace c14 : (127 : Int32) ≤ (byN p0 k) := c14
                refine Z.iconst C (v := (nI 0)) dX4_write_59 (by decide) ?_
                refine Z.istore C (lv' := [(4, .int (nI 0)), (6, .int (byN p0 k)), (5, .int (nI k)), (3, .int (nI more)), (0, .ref (a 0)), (1, .long p0)]) dX4_write_60 (by decide) rfl ?_
                refine Z.iload C dX4_write_62 1 rfl ?_
                refine Z.if_eq C 73 dX4_write_64 (by decide) (fun c15 => ?_) (fun c15 => ?_)
                · skip
                  replace c15 : (byN p0 k) = (0 : Int32) := c15
                  exact absurd c15 c10
                · skip
                  replace c15 : ¬ (byN p0 k) = (0 : Int32) := c15
                  refine Z.iload_n C dX4_write_67 3 rfl rfl ?_
                  refine Z.iconst C (v := (nI 1)) dX4_write_68 (by decide) ?_
                  refine Z.iadd C (v := (nI (more + 1))) dX4_write_69 (nI_add more 1) ?_
                  refine Z.goto C 74 dX4_write_70 (by decide) ?_
                  refine Z.istore_n C (lv' := [(3, .int (nI (more + 1))), (4, .int (nI 0)), (6, .int (byN p0 k)), (5, .int (nI k)), (0, .ref (a 0)), (1, .long p0)]) dX4_write_74 rfl (by decide) rfl ?_
                  refine Z.iload C dX4_write_75 3 rfl ?_
                  refine Z.bipush C (v := (nI 8)) dX4_write_77 (by decide) ?_
                  refine Z.iadd C (v := (nI (k + 8))) dX4_write_79 (nI_add k 8) ?_
                  refine Z.istore C (lv' := [(5, .int (nI (k + 8))), (3, .int (nI (more + 1))), (4, .int (nI 0)), (6, .int (byN p0 k)), (0, .ref (a 0)), (1, .long p0)]) dX4_write_80 (by decide) rfl ?_
                  refine Z.goto C 13 dX4_write_82 (by decide) ?_
                  refine Z.sub [0, 1, 2, 4, 5] rfl ?_
                  exact ih13 (k + 8) (more + 1) false (by omega) (by omega) (by have hc2 : more + ((if byN p0 k = 0 then 0 else 1) + cntN p0 n (k + 8)) = cntN p0 8 0 := hc; simp only [(eq_false c15), if_true, if_false] at hc2; omega) (by rw [hm13, wr1]; simp [c8, (eq_false c10), (eq_false c12), (eq_true c14), (eq_false c15)])
              · skip
                replace c14 : ¬ (127 : Int32) ≤ (byN p0 k) := c14
                refine Z.iconst C (v := (nI 1)) dX4_write_55 (by decide) ?_
                refine Z.goto C 60 dX4_write_56 (by decide) ?_
                refine Z.istore C (lv' := [(4, .int (nI 1)), (6, .int (byN p0 k)), (5, .int (nI k)), (3, .int (nI more)), (0, .ref (a 0)), (1, .long p0)]) dX4_write_60 (by decide) rfl ?_
                refine Z.iload C dX4_write_62 1 rfl ?_
                refine Z.if_eq C 73 dX4_write_64 (by decide) (fun c16 => ?_) (fun c16 => ?_)
                · skip
                  replace c16 : (byN p0 k) = (0 : Int32) := c16
                  exact absurd c16 c10
                · skip
                  replace c16 : ¬ (byN p0 k) = (0 : Int32) := c16
                  refine Z.iload_n C dX4_write_67 3 rfl rfl ?_
                  refine Z.iconst C (v := (nI 1)) dX4_write_68 (by decide) ?_
                  refine Z.iadd C (v := (nI (more + 1))) dX4_write_69 (nI_add more 1) ?_
                  refine Z.goto C 74 dX4_write_70 (by decide) ?_
                  refine Z.istore_n C (lv' := [(3, .int (nI (more + 1))), (4, .int (nI 1)), (6, .int (byN p0 k)), (5, .int (nI k)), (0, .ref (a 0)), (1, .long p0)]) dX4_write_74 rfl (by decide) rfl ?_
                  refine Z.iload C dX4_write_75 3 rfl ?_
                  refine Z.bipush C (v := (nI 8)) dX4_write_77 (by decide) ?_
                  refine Z.iadd C (v := (nI (k + 8))) dX4_write_79 (nI_add k 8) ?_
                  refine Z.istore C (lv' := [(5, .int (nI (k + 8))), (3, .int (nI (more + 1))), (4, .int (nI 1)), (6, .int (byN p0 k)), (0, .ref (a 0)), (1, .long p0)]) dX4_write_80 (by decide) rfl ?_
                  refine Z.goto C 13 dX4_write_82 (by decide) ?_
                  refine Z.sub [0, 1, 2, 4, 5] rfl ?_
                  exact ih13 (k + 8) (more + 1) true (by omega) (by omega) (by have hc2 : more + ((if byN p0 k = 0 then 0 else 1) + cntN p0 n (k + 8)) = cntN p0 8 0 := hc; simp only [(eq_false c16), if_true, if_false] at hc2; omega) (by rw [hm13, wr1]; simp [c8, (eq_false c10), (eq_false c12), (eq_false c14), (eq_false c16)])
  refine Z.sub [0, 2, 1, 3, 4] rfl ?_
  exact key13 8 0 0 true (by omega) (by omega) (by omega) rfl
