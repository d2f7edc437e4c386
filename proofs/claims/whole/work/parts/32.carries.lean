/-- Arrays.fill(names, 0) -/
def fLoop : Nat → Nat → MS → MS
  | 0, _, g => g
  | n + 1, i, g => fLoop n (i + 1) (g.1, g.2.1, g.2.2.1, upd g.2.2.2.1 i 0, g.2.2.2.2)
def mFill (g : MS) : MS := fLoop 26 0 g
theorem fLoop_inv {sz : Nat} : ∀ (n i : Nat) (g : MS), InvM sz g → InvM sz (fLoop n i g)
  | 0, _, _, h => h
  | n + 1, i, _, h => fLoop_inv n (i + 1) _ h
/-- the machine's own loop, n instructions at most -/
def cGo (K F S : Nat → Int32) (sz : Nat) : Nat → Int32 → MS → MS
  | 0, _, g => g
  | n + 1, x, g => if nI sz ≤ x then g else if g.2.2.2.2.2.2.2 = true then g else cGo K F S sz n (mBehind K F S sz x g).1 (mBehind K F S sz x g).2
def cEnd (g : MS) : Bool × MS := if g.2.2.2.2.2.2.2 = true then (false, (va_cpy g.2.1 g.1 0 0 192, g.2)) else (true, (g.1, g.2.1, va_cpy g.2.2.2.1 g.2.2.1 0 0 26, g.2.2.2))
def mStart (g : MS) : MS := ((mFill (g.1, va_cpy g.1 g.2.1 0 0 192, g.2.2)).1, (mFill (g.1, va_cpy g.1 g.2.1 0 0 192, g.2.2)).2.1, (mFill (g.1, va_cpy g.1 g.2.1 0 0 192, g.2.2)).2.2.1, (mFill (g.1, va_cpy g.1 g.2.1 0 0 192, g.2.2)).2.2.2.1, (mFill (g.1, va_cpy g.1 g.2.1 0 0 192, g.2.2)).2.2.2.2.1, 0, 0, false)
def mRunC (K F S : Nat → Int32) (sz : Nat) (g : MS) : Bool × MS := cEnd (cGo K F S sz 307200 (nI 0) (mStart g))
set_option maxHeartbeats 4000000 in
set_option maxRecDepth 100000 in
theorem c_fillN {l : Launch} {D : va_G} {aM aA aB aV aN aX aC aK aF aS : Nat} {cC cI : ClassId} {K F S : Nat → Int32} {sz stm ops : Nat} (g : MS)   : Mv l yJ7_fill_53178 wsJ7_fill_53178 1 D [(cC, .char), (cI, .int)] [.ref aN, .int (nI 0)] (wM aM aA aB aV aN aX aC aK aF aS cI K F S sz stm ops g) (wM aM aA aB aV aN aX aC aK aF aS cI K F S sz stm ops (mFill g)) := by
  refine Mv.of (cc := cJ7_fill_53178) (maxL := 4) (by decide) rfl (Nat.le_of_ble_eq_true rfl) ?_
  intro p e s m below meth c A C hr hA
  show Z p l e (rmN _) s m _ below meth c _ D A _ _ [(0, .ref aN), (1, .int (nI 0))] 0 []
  refine Z.iconst C (v := (nI 0)) dJ7_fill_53178_0 (by decide) ?_
  refine Z.istore_n C (lv' := [(2, .int (nI 0)), (0, .ref aN), (1, .int (nI 0))]) dJ7_fill_53178_1 rfl (by decide) rfl ?_
  refine Z.aload_n C dJ7_fill_53178_2 1 rfl rfl ?_
  refine Z.alen C 4 1 rfl rfl (v := nI 26) rfl dJ7_fill_53178_3 ?_
  refine Z.istore_n C (lv' := [(3, .int (nI 26)), (2, .int (nI 0)), (0, .ref aN), (1, .int (nI 0))]) dJ7_fill_53178_4 rfl (by decide) rfl ?_
  have key5 : ∀ (n : Nat) (i : Nat) (g2 : MS), i + n = 26 → mFill g = fLoop n i g2 → Z p l e (rmN 1) s m ([.ref aN, .int (nI 0)] : List Value).toArray below meth c 4 D A (QV below D [(cC, .char), (cI, .int)] [.ref aN, .int (nI 0)] (wM aM aA aB aV aN aX aC aK aF aS cI K F S sz stm ops g) (wM aM aA aB aV aN aX aC aK aF aS cI K F S sz stm ops (mFill g)) s) (wM aM aA aB aV aN aX aC aK aF aS cI K F S sz stm ops g2) [(2, .int (nI i)), (3, .int (nI 26)), (0, .ref aN), (1, .int (nI 0))] 5 [] := by
    intro n
    induction n with
    | zero =>
      intro i g2 hn hm5
      refine Z.iload_n C dJ7_fill_53178_5 0 rfl rfl ?_
      refine Z.iload_n C dJ7_fill_53178_6 1 rfl rfl ?_
      refine Z.icmp_ge C 20 dJ7_fill_53178_7 (by decide) (fun c1 => ?_) (fun c1 => ?_)
      · skip
        replace c1 : ¬ i < 26 := Nat.not_lt.mpr ((nI_leI (by omega) (by omega)).mp c1)
        refine Z.vret C hr hA dJ7_fill_53178_20 ?_
        (refine congrArg (wM aM aA aB aV aN aX aC aK aF aS cI K F S sz stm ops) ?_; rw [hm5]; rfl)
      · skip
        replace c1 : i < 26 := Nat.not_le.mp (mt (nI_leI (by omega) (by omega)).mpr c1)
        exact absurd c1 (by omega)
    | succ n ih5 =>
      intro i g2 hn hm5
      refine Z.iload_n C dJ7_fill_53178_5 0 rfl rfl ?_
      refine Z.iload_n C dJ7_fill_53178_6 1 rfl rfl ?_
      refine Z.icmp_ge C 20 dJ7_fill_53178_7 (by decide) (fun c2 => ?_) (fun c2 => ?_)
      · skip
        replace c2 : ¬ i < 26 := Nat.not_lt.mpr ((nI_leI (by omega) (by omega)).mp c2)
        exact absurd c2 (by omega)
      · skip
        replace c2 : i < 26 := Nat.not_le.mp (mt (nI_leI (by omega) (by omega)).mpr c2)
        refine Z.aload_n C dJ7_fill_53178_10 2 rfl rfl ?_
        refine Z.iload_n C dJ7_fill_53178_11 0 rfl rfl ?_
        refine Z.iload_n C dJ7_fill_53178_12 3 rfl rfl ?_
        refine Z.iast C 4 1 rfl rfl i rfl (by omega) (by decide) dJ7_fill_53178_13 (v := (0 : Int32)) rfl (w' := (wM aM aA aB aV aN aX aC aK aF aS cI K F S sz stm ops (g2.1, g2.2.1, g2.2.2.1, (upd g2.2.2.2.1 i (0 : Int32)), g2.2.2.2.2))) rfl ?_
        refine Z.iinc C (v := (nI (i + 1))) (lv' := [(2, .int (nI (i + 1))), (3, .int (nI 26)), (0, .ref aN), (1, .int (nI 0))]) dJ7_fill_53178_14 0 rfl (nI_add i 1) (by decide) rfl ?_
        refine Z.goto C 5 dJ7_fill_53178_17 (by decide) ?_
        refine Z.sub [0, 1, 2, 3] rfl ?_
        exact ih5 (i + 1) (g2.1, g2.2.1, g2.2.2.1, (upd g2.2.2.2.1 i (0 : Int32)), g2.2.2.2.2) (by omega) (by rw [hm5]; rfl)
  refine Z.sub [1, 0, 2, 3] rfl ?_
  exact key5 26 0 g (by omega) rfl
set_option maxHeartbeats 4000000 in
set_option maxRecDepth 100000 in
theorem c_carries {l : Launch} {D : va_G} {aM aA aB aV aN aX aC aK aF aS : Nat} {cC cI : ClassId} {K F S : Nat → Int32} {sz stm ops : Nat} (g : MS)  (hI : InvM sz g) : Mi l yX1_carriesOut wsX1_carriesOut 4 D [(cC, .char), (cI, .int)] [.ref aM, .ref aC] (wM aM aA aB aV aN aX aC aK aF aS cI K F S sz stm ops g) (b2i ((mRunC K F S sz g).1)) (wM aM aA aB aV aN aX aC aK aF aS cI K F S sz stm ops ((mRunC K F S sz g).2)) := by
  refine Mi.of (cc := cX1_carriesOut) (maxL := 4) (by decide) rfl (Nat.le_of_ble_eq_true rfl) ?_
  intro p e s m below meth c A C hr hA
  have in0 : ∀ w ∈ wsX00, w ∈ wsX1_carriesOut := by decide +kernel
  have in1 : ∀ w ∈ wsX10, w ∈ wsX1_carriesOut := by decide +kernel
  show Z p l e (rmN _) s m _ below meth c _ D A _ _ [(0, .ref aM), (1, .ref aC)] 0 []
  obtain ⟨hI1, hI2⟩ := hI
  refine Z.aload_n C dX1_carriesOut_0 0 rfl rfl ?_
  refine Z.get C in1 0 rfl rfl 0 (by decide) (by decide +kernel) rfl rfl dX1_carriesOut_1 ?_
  refine Z.iconst C (v := (nI 0)) dX1_carriesOut_4 (by decide) ?_
  refine Z.aload_n C dX1_carriesOut_5 0 rfl rfl ?_
  refine Z.get C in1 0 rfl rfl 1 (by decide) (by decide +kernel) rfl rfl dX1_carriesOut_6 ?_
  refine Z.iconst C (v := (nI 0)) dX1_carriesOut_9 (by decide) ?_
  refine Z.sipush C (v := (nI 192)) dX1_carriesOut_10 (by decide) ?_
  refine Z.copy C (by decide +kernel) (by decide +kernel) (by decide +kernel) (by decide +kernel) 1 2 1 rfl rfl rfl (by decide) ⟨by decide, by decide⟩ dX1_carriesOut_13 (w' := (wM aM aA aB aV aN aX aC aK aF aS cI K F S sz stm ops (g.1, (va_cpy g.1 g.2.1 0 0 192), g.2.2))) rfl ?_
  refine Z.aload_n C dX1_carriesOut_16 0 rfl rfl ?_
  refine Z.get C in1 0 rfl rfl 3 (by decide) (by decide +kernel) rfl rfl dX1_carriesOut_17 ?_
  refine Z.iconst C (v := (nI 0)) dX1_carriesOut_20 (by decide) ?_
  refine Z.callXv C (nA := 2) (As := [.ref aN, .int (nI 0)]) (st := []) (c_fillN (g.1, (va_cpy g.1 g.2.1 0 0 192), g.2.2)) gX1_carriesOut_J7_fill_53178 rfl (by decide +kernel) (rm_ok (by omega) (by decide)) rfl (Nat.le_of_ble_eq_true rfl) rfl dX1_carriesOut_21 ?_
  generalize e1 : mFill (g.1, (va_cpy g.1 g.2.1 0 0 192), g.2.2) = x1
  refine Z.aload_n C dX1_carriesOut_24 0 rfl rfl ?_
  refine Z.iconst C (v := (nI 0)) dX1_carriesOut_25 (by decide) ?_
  refine Z.put C in1 0 rfl rfl 5 (by decide) tyX1 tyX1_ok nmX1 (by decide +kernel) rfl rfl rfl rfl (Nat.le_of_ble_eq_true rfl) dX1_carriesOut_26 (w' := (wM aM aA aB aV aN aX aC aK aF aS cI K F S sz stm ops (x1.1, x1.2.1, x1.2.2.1, x1.2.2.2.1, x1.2.2.2.2.1, 0, x1.2.2.2.2.2.2))) rfl ?_
  refine Z.aload_n C dX1_carriesOut_29 0 rfl rfl ?_
  refine Z.iconst C (v := (nI 0)) dX1_carriesOut_30 (by decide) ?_
  refine Z.put C in1 0 rfl rfl 6 (by decide) tyX1 tyX1_ok nmX1 (by decide +kernel) rfl rfl rfl rfl (Nat.le_of_ble_eq_true rfl) dX1_carriesOut_31 (w' := (wM aM aA aB aV aN aX aC aK aF aS cI K F S sz stm ops (x1.1, x1.2.1, x1.2.2.1, x1.2.2.2.1, x1.2.2.2.2.1, 0, 0, x1.2.2.2.2.2.2.2))) rfl ?_
  refine Z.aload_n C dX1_carriesOut_34 0 rfl rfl ?_
  refine Z.iconst C (v := (nI 0)) dX1_carriesOut_35 (by decide) ?_
  refine Z.put C in1 0 rfl rfl 7 (by decide) tyX1 tyX1_ok nmX1 (by decide +kernel) rfl rfl (by decide) (by decide) (Nat.le_of_ble_eq_true rfl) dX1_carriesOut_36 (w' := (wM aM aA aB aV aN aX aC aK aF aS cI K F S sz stm ops (x1.1, x1.2.1, x1.2.2.1, x1.2.2.2.1, x1.2.2.2.2.1, 0, 0, false))) rfl ?_
  refine Z.iconst C (v := (nI 0)) dX1_carriesOut_39 (by decide) ?_
  refine Z.istore_n C (lv' := [(2, .int (nI 0)), (0, .ref aM), (1, .ref aC)]) dX1_carriesOut_40 rfl (by decide) rfl ?_
  refine Z.iconst C (v := (nI 0)) dX1_carriesOut_41 (by decide) ?_
  refine Z.istore_n C (lv' := [(3, .int (nI 0)), (2, .int (nI 0)), (0, .ref aM), (1, .ref aC)]) dX1_carriesOut_42 rfl (by decide) rfl ?_
  have key43 : ∀ (n : Nat) (i : Nat) (x : Int32) (g2 : MS), i + n = 307200 → InvM sz g2 → mRunC K F S sz g = cEnd (cGo K F S sz n x g2) → Z p l e (rmN 4) s m ([.ref aM, .ref aC] : List Value).toArray below meth c 4 D A (QI below D [(cC, .char), (cI, .int)] [.ref aM, .ref aC] (wM aM aA aB aV aN aX aC aK aF aS cI K F S sz stm ops g) (b2i ((mRunC K F S sz g).1)) (wM aM aA aB aV aN aX aC aK aF aS cI K F S sz stm ops ((mRunC K F S sz g).2)) s) (wM aM aA aB aV aN aX aC aK aF aS cI K F S sz stm ops g2) [(3, .int (nI i)), (2, .int x), (0, .ref aM), (1, .ref aC)] 43 [] := by
    intro n
    induction n with
    | zero =>
      intro i x g2 hn hi hm43
      obtain ⟨k1, k2⟩ := hi
      refine Z.iload_n C dX1_carriesOut_43 0 rfl rfl ?_
      refine Z.ldc C (v := nI 307200) dX1_carriesOut_44 (by decide +kernel) ?_
      refine Z.icmp_ge C 77 dX1_carriesOut_46 (by decide) (fun c2 => ?_) (fun c2 => ?_)
      · skip
        replace c2 : ¬ i < 307200 := Nat.not_lt.mpr ((nI_leI (by omega) (by omega)).mp c2)
        refine Z.aload_n C dX1_carriesOut_77 2 rfl rfl ?_
        refine Z.get C in1 0 rfl rfl 7 (by decide) (by decide +kernel) rfl rfl dX1_carriesOut_78 ?_
        refine Z.if_eq C 103 dX1_carriesOut_81 (by decide) (fun c3 => ?_) (fun c3 => ?_)
        · skip
          replace c3 : g2.2.2.2.2.2.2.2 = false := b2i_0.mp c3
          refine Z.aload_n C dX1_carriesOut_103 2 rfl rfl ?_
          refine Z.get C in1 0 rfl rfl 3 (by decide) (by decide +kernel) rfl rfl dX1_carriesOut_104 ?_
          refine Z.iconst C (v := (nI 0)) dX1_carriesOut_107 (by decide) ?_
          refine Z.aload_n C dX1_carriesOut_108 2 rfl rfl ?_
          refine Z.get C in1 0 rfl rfl 2 (by decide) (by decide +kernel) rfl rfl dX1_carriesOut_109 ?_
          refine Z.iconst C (v := (nI 0)) dX1_carriesOut_112 (by decide) ?_
          refine Z.bipush C (v := (nI 26)) dX1_carriesOut_113 (by decide) ?_
          refine Z.copy C (by decide +kernel) (by decide +kernel) (by decide +kernel) (by decide +kernel) 4 3 1 rfl rfl rfl (by decide) ⟨by decide, by decide⟩ dX1_carriesOut_115 (w' := (wM aM aA aB aV aN aX aC aK aF aS cI K F S sz stm ops (g2.1, g2.2.1, (va_cpy g2.2.2.2.1 g2.2.2.1 0 0 26), g2.2.2.2))) rfl ?_
          refine Z.aload_n C dX1_carriesOut_118 2 rfl rfl ?_
          refine Z.get C in1 0 rfl rfl 7 (by decide) (by decide +kernel) rfl rfl dX1_carriesOut_119 ?_
          refine Z.if_ne C 129 dX1_carriesOut_122 (by decide) (fun c4 => ?_) (fun c4 => ?_)
          · skip
            replace c4 : g2.2.2.2.2.2.2.2 = true := b2i_n0.mp c4
            refine Z.iconst C (v := (nI 0)) dX1_carriesOut_129 (by decide) ?_
            refine Z.zret C hr hA dX1_carriesOut_130 (b := false) rfl ?_ ?_
            · first | (rw [hm43]; simp [cGo, cEnd, (eq_false c2), c3, c4]; done) | (rw [hm43]; simp_all [cGo, cEnd]; done)
            · (refine congrArg (wM aM aA aB aV aN aX aC aK aF aS cI K F S sz stm ops) ?_; first | (rw [hm43]; simp [cGo, cEnd, (eq_false c2), c3, c4]; done) | (rw [hm43]; simp_all [cGo, cEnd]; done))
          · skip
            replace c4 : g2.2.2.2.2.2.2.2 = false := b2i_0.mp c4
            refine Z.iconst C (v := (nI 1)) dX1_carriesOut_125 (by decide) ?_
            refine Z.goto C 130 dX1_carriesOut_126 (by decide) ?_
            refine Z.zret C hr hA dX1_carriesOut_130 (b := true) rfl ?_ ?_
            · first | (rw [hm43]; simp [cGo, cEnd, (eq_false c2), c3, c4]; done) | (rw [hm43]; simp_all [cGo, cEnd]; done)
            · (refine congrArg (wM aM aA aB aV aN aX aC aK aF aS cI K F S sz stm ops) ?_; first | (rw [hm43]; simp [cGo, cEnd, (eq_false c2), c3, c4]; done) | (rw [hm43]; simp_all [cGo, cEnd]; done))
        · skip
          replace c3 : g2.2.2.2.2.2.2.2 = true := b2i_n0.mp c3
          refine Z.aload_n C dX1_carriesOut_84 2 rfl rfl ?_
          refine Z.get C in1 0 rfl rfl 1 (by decide) (by decide +kernel) rfl rfl dX1_carriesOut_85 ?_
          refine Z.iconst C (v := (nI 0)) dX1_carriesOut_88 (by decide) ?_
          refine Z.aload_n C dX1_carriesOut_89 2 rfl rfl ?_
          refine Z.get C in1 0 rfl rfl 0 (by decide) (by decide +kernel) rfl rfl dX1_carriesOut_90 ?_
          refine Z.iconst C (v := (nI 0)) dX1_carriesOut_93 (by decide) ?_
          refine Z.sipush C (v := (nI 192)) dX1_carriesOut_94 (by decide) ?_
          refine Z.copy C (by decide +kernel) (by decide +kernel) (by decide +kernel) (by decide +kernel) 2 1 1 rfl rfl rfl (by decide) ⟨by decide, by decide⟩ dX1_carriesOut_97 (w' := (wM aM aA aB aV aN aX aC aK aF aS cI K F S sz stm ops ((va_cpy g2.2.1 g2.1 0 0 192), g2.2))) rfl ?_
          refine Z.goto C 118 dX1_carriesOut_100 (by decide) ?_
          refine Z.aload_n C dX1_carriesOut_118 2 rfl rfl ?_
          refine Z.get C in1 0 rfl rfl 7 (by decide) (by decide +kernel) rfl rfl dX1_carriesOut_119 ?_
          refine Z.if_ne C 129 dX1_carriesOut_122 (by decide) (fun c5 => ?_) (fun c5 => ?_)
          · skip
            replace c5 : g2.2.2.2.2.2.2.2 = true := b2i_n0.mp c5
            refine Z.iconst C (v := (nI 0)) dX1_carriesOut_129 (by decide) ?_
            refine Z.zret C hr hA dX1_carriesOut_130 (b := false) rfl ?_ ?_
            · first | (rw [hm43]; simp [cGo, cEnd, (eq_false c2), c3, c5]; done) | (rw [hm43]; simp_all [cGo, cEnd]; done)
            · (refine congrArg (wM aM aA aB aV aN aX aC aK aF aS cI K F S sz stm ops) ?_; first | (rw [hm43]; simp [cGo, cEnd, (eq_false c2), c3, c5]; done) | (rw [hm43]; simp_all [cGo, cEnd]; done))
          · skip
            replace c5 : g2.2.2.2.2.2.2.2 = false := b2i_0.mp c5
            refine Z.iconst C (v := (nI 1)) dX1_carriesOut_125 (by decide) ?_
            refine Z.goto C 130 dX1_carriesOut_126 (by decide) ?_
            refine Z.zret C hr hA dX1_carriesOut_130 (b := true) rfl ?_ ?_
            · first | (rw [hm43]; simp [cGo, cEnd, (eq_false c2), c3, c5]; done) | (rw [hm43]; simp_all [cGo, cEnd]; done)
            · (refine congrArg (wM aM aA aB aV aN aX aC aK aF aS cI K F S sz stm ops) ?_; first | (rw [hm43]; simp [cGo, cEnd, (eq_false c2), c3, c5]; done) | (rw [hm43]; simp_all [cGo, cEnd]; done))
      · skip
        replace c2 : i < 307200 := Nat.not_le.mp (mt (nI_leI (by omega) (by omega)).mpr c2)
        exact absurd c2 (by omega)
    | succ n ih43 =>
      intro i x g2 hn hi hm43
      obtain ⟨k1, k2⟩ := hi
      refine Z.iload_n C dX1_carriesOut_43 0 rfl rfl ?_
      refine Z.ldc C (v := nI 307200) dX1_carriesOut_44 (by decide +kernel) ?_
      refine Z.icmp_ge C 77 dX1_carriesOut_46 (by decide) (fun c6 => ?_) (fun c6 => ?_)
      · skip
        replace c6 : ¬ i < 307200 := Nat.not_lt.mpr ((nI_leI (by omega) (by omega)).mp c6)
        exact absurd c6 (by omega)
      · skip
        replace c6 : i < 307200 := Nat.not_le.mp (mt (nI_leI (by omega) (by omega)).mpr c6)
        refine Z.iload_n C dX1_carriesOut_49 1 rfl rfl ?_
        refine Z.aload_n C dX1_carriesOut_50 3 rfl rfl ?_
        refine Z.getN C (host := "RoundCompiler") in0 6 rfl rfl 3 (by decide) (by decide +kernel) rfl rfl dX1_carriesOut_51 ?_
        refine Z.icmp_ge C 77 dX1_carriesOut_54 (by decide) (fun c7 => ?_) (fun c7 => ?_)
        · skip
          replace c7 : nI sz ≤ x := c7
          refine Z.aload_n C dX1_carriesOut_77 2 rfl rfl ?_
          refine Z.get C in1 0 rfl rfl 7 (by decide) (by decide +kernel) rfl rfl dX1_carriesOut_78 ?_
          refine Z.if_eq C 103 dX1_carriesOut_81 (by decide) (fun c8 => ?_) (fun c8 => ?_)
          · skip
            replace c8 : g2.2.2.2.2.2.2.2 = false := b2i_0.mp c8
            refine Z.aload_n C dX1_carriesOut_103 2 rfl rfl ?_
            refine Z.get C in1 0 rfl rfl 3 (by decide) (by decide +kernel) rfl rfl dX1_carriesOut_104 ?_
            refine Z.iconst C (v := (nI 0)) dX1_carriesOut_107 (by decide) ?_
            refine Z.aload_n C dX1_carriesOut_108 2 rfl rfl ?_
            refine Z.get C in1 0 rfl rfl 2 (by decide) (by decide +kernel) rfl rfl dX1_carriesOut_109 ?_
            refine Z.iconst C (v := (nI 0)) dX1_carriesOut_112 (by decide) ?_
            refine Z.bipush C (v := (nI 26)) dX1_carriesOut_113 (by decide) ?_
            refine Z.copy C (by decide +kernel) (by decide +kernel) (by decide +kernel) (by decide +kernel) 4 3 1 rfl rfl rfl (by decide) ⟨by decide, by decide⟩ dX1_carriesOut_115 (w' := (wM aM aA aB aV aN aX aC aK aF aS cI K F S sz stm ops (g2.1, g2.2.1, (va_cpy g2.2.2.2.1 g2.2.2.1 0 0 26), g2.2.2.2))) rfl ?_
            refine Z.aload_n C dX1_carriesOut_118 2 rfl rfl ?_
            refine Z.get C in1 0 rfl rfl 7 (by decide) (by decide +kernel) rfl rfl dX1_carriesOut_119 ?_
            refine Z.if_ne C 129 dX1_carriesOut_122 (by decide) (fun c9 => ?_) (fun c9 => ?_)
            · skip
              replace c9 : g2.2.2.2.2.2.2.2 = true := b2i_n0.mp c9
              refine Z.iconst C (v := (nI 0)) dX1_carriesOut_129 (by decide) ?_
              refine Z.zret C hr hA dX1_carriesOut_130 (b := false) rfl ?_ ?_
              · first | (rw [hm43]; simp [cGo, cEnd, (eq_true c6), (eq_true c7), c8, c9]; done) | (rw [hm43]; simp_all [cGo, cEnd]; done)
              · (refine congrArg (wM aM aA aB aV aN aX aC aK aF aS cI K F S sz stm ops) ?_; first | (rw [hm43]; simp [cGo, cEnd, (eq_true c6), (eq_true c7), c8, c9]; done) | (rw [hm43]; simp_all [cGo, cEnd]; done))
            · skip
              replace c9 : g2.2.2.2.2.2.2.2 = false := b2i_0.mp c9
              refine Z.iconst C (v := (nI 1)) dX1_carriesOut_125 (by decide) ?_
              refine Z.goto C 130 dX1_carriesOut_126 (by decide) ?_
              refine Z.zret C hr hA dX1_carriesOut_130 (b := true) rfl ?_ ?_
              · first | (rw [hm43]; simp [cGo, cEnd, (eq_true c6), (eq_true c7), c8, c9]; done) | (rw [hm43]; simp_all [cGo, cEnd]; done)
              · (refine congrArg (wM aM aA aB aV aN aX aC aK aF aS cI K F S sz stm ops) ?_; first | (rw [hm43]; simp [cGo, cEnd, (eq_true c6), (eq_true c7), c8, c9]; done) | (rw [hm43]; simp_all [cGo, cEnd]; done))
          · skip
            replace c8 : g2.2.2.2.2.2.2.2 = true := b2i_n0.mp c8
            refine Z.aload_n C dX1_carriesOut_84 2 rfl rfl ?_
            refine Z.get C in1 0 rfl rfl 1 (by decide) (by decide +kernel) rfl rfl dX1_carriesOut_85 ?_
            refine Z.iconst C (v := (nI 0)) dX1_carriesOut_88 (by decide) ?_
            refine Z.aload_n C dX1_carriesOut_89 2 rfl rfl ?_
            refine Z.get C in1 0 rfl rfl 0 (by decide) (by decide +kernel) rfl rfl dX1_carriesOut_90 ?_
            refine Z.iconst C (v := (nI 0)) dX1_carriesOut_93 (by decide) ?_
            refine Z.sipush C (v := (nI 192)) dX1_carriesOut_94 (by decide) ?_
            refine Z.copy C (by decide +kernel) (by decide +kernel) (by decide +kernel) (by decide +kernel) 2 1 1 rfl rfl rfl (by decide) ⟨by decide, by decide⟩ dX1_carriesOut_97 (w' := (wM aM aA aB aV aN aX aC aK aF aS cI K F S sz stm ops ((va_cpy g2.2.1 g2.1 0 0 192), g2.2))) rfl ?_
            refine Z.goto C 118 dX1_carriesOut_100 (by decide) ?_
            refine Z.aload_n C dX1_carriesOut_118 2 rfl rfl ?_
            refine Z.get C in1 0 rfl rfl 7 (by decide) (by decide +kernel) rfl rfl dX1_carriesOut_119 ?_
            refine Z.if_ne C 129 dX1_carriesOut_122 (by decide) (fun c10 => ?_) (fun c10 => ?_)
            · skip
              replace c10 : g2.2.2.2.2.2.2.2 = true := b2i_n0.mp c10
              refine Z.iconst C (v := (nI 0)) dX1_carriesOut_129 (by decide) ?_
              refine Z.zret C hr hA dX1_carriesOut_130 (b := false) rfl ?_ ?_
              · first | (rw [hm43]; simp [cGo, cEnd, (eq_true c6), (eq_true c7), c8, c10]; done) | (rw [hm43]; simp_all [cGo, cEnd]; done)
              · (refine congrArg (wM aM aA aB aV aN aX aC aK aF aS cI K F S sz stm ops) ?_; first | (rw [hm43]; simp [cGo, cEnd, (eq_true c6), (eq_true c7), c8, c10]; done) | (rw [hm43]; simp_all [cGo, cEnd]; done))
            · skip
              replace c10 : g2.2.2.2.2.2.2.2 = false := b2i_0.mp c10
              refine Z.iconst C (v := (nI 1)) dX1_carriesOut_125 (by decide) ?_
              refine Z.goto C 130 dX1_carriesOut_126 (by decide) ?_
              refine Z.zret C hr hA dX1_carriesOut_130 (b := true) rfl ?_ ?_
              · first | (rw [hm43]; simp [cGo, cEnd, (eq_true c6), (eq_true c7), c8, c10]; done) | (rw [hm43]; simp_all [cGo, cEnd]; done)
              · (refine congrArg (wM aM aA aB aV aN aX aC aK aF aS cI K F S sz stm ops) ?_; first | (rw [hm43]; simp [cGo, cEnd, (eq_true c6), (eq_true c7), c8, c10]; done) | (rw [hm43]; simp_all [cGo, cEnd]; done))
        · skip
          replace c7 : ¬ nI sz ≤ x := c7
          refine Z.aload_n C dX1_carriesOut_57 2 rfl rfl ?_
          refine Z.get C in1 0 rfl rfl 7 (by decide) (by decide +kernel) rfl rfl dX1_carriesOut_58 ?_
          refine Z.if_ne C 77 dX1_carriesOut_61 (by decide) (fun c11 => ?_) (fun c11 => ?_)
          · skip
            replace c11 : g2.2.2.2.2.2.2.2 = true := b2i_n0.mp c11
            refine Z.aload_n C dX1_carriesOut_77 2 rfl rfl ?_
            refine Z.get C in1 0 rfl rfl 7 (by decide) (by decide +kernel) rfl rfl dX1_carriesOut_78 ?_
            refine Z.if_eq C 103 dX1_carriesOut_81 (by decide) (fun c12 => ?_) (fun c12 => ?_)
            · skip
              replace c12 : g2.2.2.2.2.2.2.2 = false := b2i_0.mp c12
              refine Z.aload_n C dX1_carriesOut_103 2 rfl rfl ?_
              refine Z.get C in1 0 rfl rfl 3 (by decide) (by decide +kernel) rfl rfl dX1_carriesOut_104 ?_
              refine Z.iconst C (v := (nI 0)) dX1_carriesOut_107 (by decide) ?_
              refine Z.aload_n C dX1_carriesOut_108 2 rfl rfl ?_
              refine Z.get C in1 0 rfl rfl 2 (by decide) (by decide +kernel) rfl rfl dX1_carriesOut_109 ?_
              refine Z.iconst C (v := (nI 0)) dX1_carriesOut_112 (by decide) ?_
              refine Z.bipush C (v := (nI 26)) dX1_carriesOut_113 (by decide) ?_
              refine Z.copy C (by decide +kernel) (by decide +kernel) (by decide +kernel) (by decide +kernel) 4 3 1 rfl rfl rfl (by decide) ⟨by decide, by decide⟩ dX1_carriesOut_115 (w' := (wM aM aA aB aV aN aX aC aK aF aS cI K F S sz stm ops (g2.1, g2.2.1, (va_cpy g2.2.2.2.1 g2.2.2.1 0 0 26), g2.2.2.2))) rfl ?_
              refine Z.aload_n C dX1_carriesOut_118 2 rfl rfl ?_
              refine Z.get C in1 0 rfl rfl 7 (by decide) (by decide +kernel) rfl rfl dX1_carriesOut_119 ?_
              refine Z.if_ne C 129 dX1_carriesOut_122 (by decide) (fun c13 => ?_) (fun c13 => ?_)
              · skip
                replace c13 : g2.2.2.2.2.2.2.2 = true := b2i_n0.mp c13
                refine Z.iconst C (v := (nI 0)) dX1_carriesOut_129 (by decide) ?_
                refine Z.zret C hr hA dX1_carriesOut_130 (b := false) rfl ?_ ?_
                · first | (rw [hm43]; simp [cGo, cEnd, (eq_true c6), (eq_false c7), c11, c12, c13]; done) | (rw [hm43]; simp_all [cGo, cEnd]; done)
                · (refine congrArg (wM aM aA aB aV aN aX aC aK aF aS cI K F S sz stm ops) ?_; first | (rw [hm43]; simp [cGo, cEnd, (eq_true c6), (eq_false c7), c11, c12, c13]; done) | (rw [hm43]; simp_all [cGo, cEnd]; done))
              · skip
                replace c13 : g2.2.2.2.2.2.2.2 = false := b2i_0.mp c13
                refine Z.iconst C (v := (nI 1)) dX1_carriesOut_125 (by decide) ?_
                refine Z.goto C 130 dX1_carriesOut_126 (by decide) ?_
                refine Z.zret C hr hA dX1_carriesOut_130 (b := true) rfl ?_ ?_
                · first | (rw [hm43]; simp [cGo, cEnd, (eq_true c6), (eq_false c7), c11, c12, c13]; done) | (rw [hm43]; simp_all [cGo, cEnd]; done)
                · (refine congrArg (wM aM aA aB aV aN aX aC aK aF aS cI K F S sz stm ops) ?_; first | (rw [hm43]; simp [cGo, cEnd, (eq_true c6), (eq_false c7), c11, c12, c13]; done) | (rw [hm43]; simp_all [cGo, cEnd]; done))
            · skip
              replace c12 : g2.2.2.2.2.2.2.2 = true := b2i_n0.mp c12
              refine Z.aload_n C dX1_carriesOut_84 2 rfl rfl ?_
              refine Z.get C in1 0 rfl rfl 1 (by decide) (by decide +kernel) rfl rfl dX1_carriesOut_85 ?_
              refine Z.iconst C (v := (nI 0)) dX1_carriesOut_88 (by decide) ?_
              refine Z.aload_n C dX1_carriesOut_89 2 rfl rfl ?_
              refine Z.get C in1 0 rfl rfl 0 (by decide) (by decide +kernel) rfl rfl dX1_carriesOut_90 ?_
              refine Z.iconst C (v := (nI 0)) dX1_carriesOut_93 (by decide) ?_
              refine Z.sipush C (v := (nI 192)) dX1_carriesOut_94 (by decide) ?_
              refine Z.copy C (by decide +kernel) (by decide +kernel) (by decide +kernel) (by decide +kernel) 2 1 1 rfl rfl rfl (by decide) ⟨by decide, by decide⟩ dX1_carriesOut_97 (w' := (wM aM aA aB aV aN aX aC aK aF aS cI K F S sz stm ops ((va_cpy g2.2.1 g2.1 0 0 192), g2.2))) rfl ?_
              refine Z.goto C 118 dX1_carriesOut_100 (by decide) ?_
              refine Z.aload_n C dX1_carriesOut_118 2 rfl rfl ?_
              refine Z.get C in1 0 rfl rfl 7 (by decide) (by decide +kernel) rfl rfl dX1_carriesOut_119 ?_
              refine Z.if_ne C 129 dX1_carriesOut_122 (by decide) (fun c14 => ?_) (fun c14 => ?_)
              · skip
                replace c14 : g2.2.2.2.2.2.2.2 = true := b2i_n0.mp c14
                refine Z.iconst C (v := (nI 0)) dX1_carriesOut_129 (by decide) ?_
                refine Z.zret C hr hA dX1_carriesOut_130 (b := false) rfl ?_ ?_
                · first | (rw [hm43]; simp [cGo, cEnd, (eq_true c6), (eq_false c7), c11, c12, c14]; done) | (rw [hm43]; simp_all [cGo, cEnd]; done)
                · (refine congrArg (wM aM aA aB aV aN aX aC aK aF aS cI K F S sz stm ops) ?_; first | (rw [hm43]; simp [cGo, cEnd, (eq_true c6), (eq_false c7), c11, c12, c14]; done) | (rw [hm43]; simp_all [cGo, cEnd]; done))
              · skip
                replace c14 : g2.2.2.2.2.2.2.2 = false := b2i_0.mp c14
                refine Z.iconst C (v := (nI 1)) dX1_carriesOut_125 (by decide) ?_
                refine Z.goto C 130 dX1_carriesOut_126 (by decide) ?_
                refine Z.zret C hr hA dX1_carriesOut_130 (b := true) rfl ?_ ?_
                · first | (rw [hm43]; simp [cGo, cEnd, (eq_true c6), (eq_false c7), c11, c12, c14]; done) | (rw [hm43]; simp_all [cGo, cEnd]; done)
                · (refine congrArg (wM aM aA aB aV aN aX aC aK aF aS cI K F S sz stm ops) ?_; first | (rw [hm43]; simp [cGo, cEnd, (eq_true c6), (eq_false c7), c11, c12, c14]; done) | (rw [hm43]; simp_all [cGo, cEnd]; done))
          · skip
            replace c11 : g2.2.2.2.2.2.2.2 = false := b2i_0.mp c11
            refine Z.aload_n C dX1_carriesOut_64 2 rfl rfl ?_
            refine Z.aload_n C dX1_carriesOut_65 3 rfl rfl ?_
            refine Z.iload_n C dX1_carriesOut_66 1 rfl rfl ?_
            refine Z.callVi C (nA := 2) (As := [.ref aC, .int x]) (st := []) (c_behind g2 x ⟨by first | omega | (dsimp only; omega), by omega⟩) gX1_carriesOut_X1_behind rfl (by decide +kernel) (rm_ok (by omega) (by decide)) 0 rfl rfl rfl (Nat.le_of_ble_eq_true rfl) rfl dX1_carriesOut_67 ?_
            generalize e15 : mBehind K F S sz x g2 = x15
            have i15 : InvM sz x15.2 := by rw [← e15]; exact mBehind_inv ⟨by first | omega | (dsimp only; omega), by omega⟩
            obtain ⟨h115, h215⟩ := i15
            refine Z.istore_n C (lv' := [(2, .int x15.1), (3, .int (nI i)), (0, .ref aM), (1, .ref aC)]) dX1_carriesOut_70 rfl (by decide) rfl ?_
            refine Z.iinc C (v := (nI (i + 1))) (lv' := [(3, .int (nI (i + 1))), (2, .int x15.1), (0, .ref aM), (1, .ref aC)]) dX1_carriesOut_71 1 rfl (nI_add i 1) (by decide) rfl ?_
            refine Z.goto C 43 dX1_carriesOut_74 (by decide) ?_
            refine Z.sub [0, 1, 2, 3] rfl ?_
            exact ih43 (i + 1) x15.1 x15.2 (by omega) ⟨by first | omega | (dsimp only; omega), by omega⟩ (by rw [hm43, cGo]; simp [(eq_true c6), (eq_false c7), c11, e15])
  refine Z.sub [0, 1, 2, 3] rfl ?_
  exact key43 307200 0 (nI 0) (x1.1, x1.2.1, x1.2.2.1, x1.2.2.2.1, x1.2.2.2.2.1, 0, 0, false) (by omega) ⟨Nat.zero_le _, hI2⟩ (by rw [mRunC, mStart, e1])
