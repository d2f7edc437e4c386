set_option maxHeartbeats 4000000 in
set_option maxRecDepth 100000 in
theorem c_runN {l : Launch} {D : va_G} {a : Nat → Nat} {cI cZ : ClassId} (o : OS) (q : QS)  (N : Nat) (hgo : o.2.2.2.2.2.2.2.2.2.2.2.1 = true → rRuns N (nI 0, 0, rStart o)) : Mi l yX4_run wsX4_run 3 D [(cI, .int), (cZ, .boolean)] [.ref (a 0)] (wN a cI cZ o q) ((rRun N o).1) (wN a cI cZ ((rRun N o).2) q) := by
  refine Mi.of (cc := cX4_run) (maxL := 6) (by decide) rfl (Nat.le_of_ble_eq_true rfl) ?_
  intro p e s m below meth c A C hr hA
  have in4 : ∀ w ∈ wsX40, w ∈ wsX4_run := by decide +kernel
  show Z p l e (rmN _) s m _ below meth c _ D A _ _ [(0, .ref (a 0))] 0 []
  refine Z.aload_n C dX4_run_0 0 rfl rfl ?_
  refine Z.aload_n C dX4_run_1 0 rfl rfl ?_
  refine Z.get C in4 0 rfl rfl 16 (by decide) (by decide +kernel) rfl rfl dX4_run_2 ?_
  refine Z.if_eq C 12 dX4_run_5 (by decide) (fun c1 => ?_) (fun c1 => ?_)
  · skip
    replace c1 : o.2.2.2.2.2.2.2.2.2.2.2.1 = false := b2i_0.mp c1
    refine Z.iconst C (v := (nI 1)) dX4_run_12 (by decide) ?_
    refine Z.put C in4 0 rfl rfl 0 (by decide) tyX4 tyX4_ok nmX4 (by decide +kernel) rfl rfl rfl rfl (Nat.le_of_ble_eq_true rfl) dX4_run_13 (w' := (wN a cI cZ (1, o.2) q)) rfl ?_
    refine Z.aload_n C dX4_run_16 0 rfl rfl ?_
    refine Z.get C in4 0 rfl rfl 0 (by decide) (by decide +kernel) rfl rfl dX4_run_17 ?_
    refine Z.if_le C 25 dX4_run_20 (by decide) (fun c2 => ?_) (fun c2 => ?_)
    · skip
      replace c2 : ¬ 0 < 1 := Nat.not_lt.mpr ((nI_leI (by omega) (by omega)).mp c2)
      exact absurd c2 (by decide)
    · skip
      replace c2 : 0 < 1 := Nat.not_le.mp (mt (nI_leI (by omega) (by omega)).mpr c2)
      refine Z.iconst C (v := (nI 0)) dX4_run_23 (by decide) ?_
      refine Z.iret C hr hA dX4_run_24 ?_ ?_
      · (simp [rRun, nI_0, c1, (eq_true c2)])
      · (refine congrArg (fun z => wN a cI cZ z q) ?_; (simp [rRun, nI_0, c1, (eq_true c2)]))
  · skip
    replace c1 : o.2.2.2.2.2.2.2.2.2.2.2.1 = true := b2i_n0.mp c1
    have hrd : o.2.2.2.2.2.2.2.2.2.2.2.1 = true := c1
    refine Z.iconst C (v := (nI 0)) dX4_run_8 (by decide) ?_
    refine Z.goto C 13 dX4_run_9 (by decide) ?_
    refine Z.put C in4 0 rfl rfl 0 (by decide) tyX4 tyX4_ok nmX4 (by decide +kernel) rfl rfl rfl rfl (Nat.le_of_ble_eq_true rfl) dX4_run_13 (w' := (wN a cI cZ (0, o.2) q)) rfl ?_
    refine Z.aload_n C dX4_run_16 0 rfl rfl ?_
    refine Z.get C in4 0 rfl rfl 0 (by decide) (by decide +kernel) rfl rfl dX4_run_17 ?_
    refine Z.if_le C 25 dX4_run_20 (by decide) (fun c3 => ?_) (fun c3 => ?_)
    · skip
      replace c3 : ¬ 0 < 0 := Nat.not_lt.mpr ((nI_leI (by omega) (by omega)).mp c3)
      refine Z.iconst C (v := (nI 0)) dX4_run_25 (by decide) ?_
      refine Z.istore_n C (lv' := [(1, .int (nI 0)), (0, .ref (a 0))]) dX4_run_26 rfl (by decide) rfl ?_
      have key27 : ∀ (n : Nat) (i : Nat) (o2 : OS), i + n = 192 → rStart o = rS2 (zL 26 0 (bcL n i o2)) → Z p l e (rmN 3) s m ([.ref (a 0)] : List Value).toArray below meth c 6 D A (QI below D [(cI, .int), (cZ, .boolean)] [.ref (a 0)] (wN a cI cZ o q) ((rRun N o).1) (wN a cI cZ ((rRun N o).2) q) s) (wN a cI cZ o2 q) [(1, .int (nI i)), (0, .ref (a 0))] 27 [] := by
        intro n
        induction n with
        | zero =>
          intro i o2 hn hm27
          refine Z.iload_n C dX4_run_27 0 rfl rfl ?_
          refine Z.sipush C (v := (nI 192)) dX4_run_28 (by decide) ?_
          refine Z.icmp_ge C 52 dX4_run_31 (by decide) (fun c4 => ?_) (fun c4 => ?_)
          · skip
            replace c4 : ¬ i < 192 := Nat.not_lt.mpr ((nI_leI (by omega) (by omega)).mp c4)
            refine Z.iconst C (v := (nI 0)) dX4_run_52 (by decide) ?_
            refine Z.istore_n C (lv' := [(1, .int (nI 0)), (0, .ref (a 0))]) dX4_run_53 rfl (by decide) rfl ?_
            have key54 : ∀ (n : Nat) (i : Nat) (o2 : OS), i + n = 26 → rStart o = rS2 (zL n i o2) → Z p l e (rmN 3) s m ([.ref (a 0)] : List Value).toArray below meth c 6 D A (QI below D [(cI, .int), (cZ, .boolean)] [.ref (a 0)] (wN a cI cZ o q) ((rRun N o).1) (wN a cI cZ ((rRun N o).2) q) s) (wN a cI cZ o2 q) [(1, .int (nI i)), (0, .ref (a 0))] 54 [] := by
              intro n
              induction n with
              | zero =>
                intro i o2 hn hm54
                refine Z.iload_n C dX4_run_54 0 rfl rfl ?_
                refine Z.bipush C (v := (nI 26)) dX4_run_55 (by decide) ?_
                refine Z.icmp_ge C 73 dX4_run_57 (by decide) (fun c5 => ?_) (fun c5 => ?_)
                · skip
                  replace c5 : ¬ i < 26 := Nat.not_lt.mpr ((nI_leI (by omega) (by omega)).mp c5)
                  refine Z.aload_n C dX4_run_73 1 rfl rfl ?_
                  refine Z.iconst C (v := (nI 0)) dX4_run_74 (by decide) ?_
                  refine Z.put C in4 0 rfl rfl 31 (by decide) tyX4 tyX4_ok nmX4 (by decide +kernel) rfl rfl rfl rfl (Nat.le_of_ble_eq_true rfl) dX4_run_75 (w' := (wN a cI cZ (o2.1, o2.2.1, o2.2.2.1, o2.2.2.2.1, o2.2.2.2.2.1, o2.2.2.2.2.2.1, o2.2.2.2.2.2.2.1, o2.2.2.2.2.2.2.2.1, o2.2.2.2.2.2.2.2.2.1, o2.2.2.2.2.2.2.2.2.2.1, o2.2.2.2.2.2.2.2.2.2.2.1, o2.2.2.2.2.2.2.2.2.2.2.2.1, o2.2.2.2.2.2.2.2.2.2.2.2.2.1, 0) q)) rfl ?_
                  refine Z.iconst C (v := (nI 0)) dX4_run_78 (by decide) ?_
                  refine Z.istore_n C (lv' := [(1, .int (nI 0)), (0, .ref (a 0))]) dX4_run_79 rfl (by decide) rfl ?_
                  refine Z.iconst C (v := (nI 0)) dX4_run_80 (by decide) ?_
                  refine Z.istore_n C (lv' := [(2, .int (nI 0)), (1, .int (nI 0)), (0, .ref (a 0))]) dX4_run_81 rfl (by decide) rfl ?_
                  have key82 : ∀ (n : Nat) (st : Nat) (x : Int32) (o2 : OS), rRuns n (x, st, o2) → rIter N (nI 0, 0, rStart o) = rIter n (x, st, o2) → Z p l e (rmN 3) s m ([.ref (a 0)] : List Value).toArray below meth c 6 D A (QI below D [(cI, .int), (cZ, .boolean)] [.ref (a 0)] (wN a cI cZ o q) ((rRun N o).1) (wN a cI cZ ((rRun N o).2) q) s) (wN a cI cZ o2 q) [(2, .int x), (1, .int (nI st)), (0, .ref (a 0))] 82 [] := by
                    intro n
                    induction n with
                    | zero =>
                      intro st x o2 hR hm82
                      have hz2 : o2.1 ≤ 2 := by first | exact hR.2 | exact hR.2.1.1
                      refine Z.iload_n C dX4_run_82 0 rfl rfl ?_
                      refine Z.aload_n C dX4_run_83 2 rfl rfl ?_
                      refine Z.get C in4 0 rfl rfl 14 (by decide) (by decide +kernel) rfl rfl dX4_run_84 ?_
                      refine Z.icmp_ge C 263 dX4_run_87 (by decide) (fun c6 => ?_) (fun c6 => ?_)
                      · skip
                        replace c6 : nI o2.2.2.2.2.2.2.2.2.2.1 ≤ x := c6
                        refine Z.aload_n C dX4_run_263 2 rfl rfl ?_
                        refine Z.get C in4 0 rfl rfl 0 (by decide) (by decide +kernel) rfl rfl dX4_run_264 ?_
                        refine Z.if_le C 299 dX4_run_267 (by decide) (fun c7 => ?_) (fun c7 => ?_)
                        · skip
                          replace c7 : ¬ 0 < o2.1 := Nat.not_lt.mpr ((nI_leI (by omega) (by omega)).mp c7)
                          refine Z.iconst C (v := (nI 0)) dX4_run_299 (by decide) ?_
                          refine Z.istore_n C (lv' := [(3, .int (nI 0)), (2, .int x), (1, .int (nI st)), (0, .ref (a 0))]) dX4_run_300 rfl (by decide) rfl ?_
                          have key301 : ∀ (n : Nat) (i : Nat) (o3 : OS), i + n = 26 → rRun N o = (nI st, enL n i o3) → Z p l e (rmN 3) s m ([.ref (a 0)] : List Value).toArray below meth c 6 D A (QI below D [(cI, .int), (cZ, .boolean)] [.ref (a 0)] (wN a cI cZ o q) ((rRun N o).1) (wN a cI cZ ((rRun N o).2) q) s) (wN a cI cZ o3 q) [(3, .int (nI i)), (1, .int (nI st)), (0, .ref (a 0))] 301 [] := by
                            intro n
                            induction n with
                            | zero =>
                              intro i o3 hn3 hm301
                              refine Z.iload_n C dX4_run_301 0 rfl rfl ?_
                              refine Z.bipush C (v := (nI 26)) dX4_run_302 (by decide) ?_
                              refine Z.icmp_ge C 325 dX4_run_304 (by decide) (fun c8 => ?_) (fun c8 => ?_)
                              · skip
                                replace c8 : ¬ i < 26 := Nat.not_lt.mpr ((nI_leI (by omega) (by omega)).mp c8)
                                refine Z.iload_n C dX4_run_325 1 rfl rfl ?_
                                refine Z.iret C hr hA dX4_run_326 ?_ ?_
                                · (rw [hm301]; try rfl)
                                · (refine congrArg (fun z => wN a cI cZ z q) ?_; (rw [hm301]; try rfl))
                              · skip
                                replace c8 : i < 26 := Nat.not_le.mp (mt (nI_leI (by omega) (by omega)).mpr c8)
                                exact absurd c8 (by omega)
                            | succ n ih301 =>
                              intro i o3 hn3 hm301
                              refine Z.iload_n C dX4_run_301 0 rfl rfl ?_
                              refine Z.bipush C (v := (nI 26)) dX4_run_302 (by decide) ?_
                              refine Z.icmp_ge C 325 dX4_run_304 (by decide) (fun c9 => ?_) (fun c9 => ?_)
                              · skip
                                replace c9 : ¬ i < 26 := Nat.not_lt.mpr ((nI_leI (by omega) (by omega)).mp c9)
                                exact absurd c9 (by omega)
                              · skip
                                replace c9 : i < 26 := Nat.not_le.mp (mt (nI_leI (by omega) (by omega)).mpr c9)
                                refine Z.aload_n C dX4_run_307 2 rfl rfl ?_
                                refine Z.get C in4 0 rfl rfl 7 (by decide) (by decide +kernel) rfl rfl dX4_run_308 ?_
                                refine Z.iload_n C dX4_run_311 0 rfl rfl ?_
                                refine Z.aload_n C dX4_run_312 2 rfl rfl ?_
                                refine Z.get C in4 0 rfl rfl 6 (by decide) (by decide +kernel) rfl rfl dX4_run_313 ?_
                                refine Z.iload_n C dX4_run_316 0 rfl rfl ?_
                                refine Z.iald C 4 0 rfl rfl i rfl (by omega) (by decide) dX4_run_317 (v := (o3.2.2.2.2.2.1 i)) rfl ?_
                                refine Z.iast C 5 0 rfl rfl i rfl (by omega) (by decide) dX4_run_318 (v := (o3.2.2.2.2.2.1 i)) rfl (w' := (wN a cI cZ (o3.1, o3.2.1, o3.2.2.1, o3.2.2.2.1, o3.2.2.2.2.1, o3.2.2.2.2.2.1, (upd o3.2.2.2.2.2.2.1 i (o3.2.2.2.2.2.1 i)), o3.2.2.2.2.2.2.2) q)) rfl ?_
                                refine Z.iinc C (v := (nI (i + 1))) (lv' := [(3, .int (nI (i + 1))), (1, .int (nI st)), (0, .ref (a 0))]) dX4_run_319 0 rfl (nI_add i 1) (by decide) rfl ?_
                                refine Z.goto C 301 dX4_run_322 (by decide) ?_
                                refine Z.sub [0, 1, 2] rfl ?_
                                exact ih301 (i + 1) (o3.1, o3.2.1, o3.2.2.1, o3.2.2.2.1, o3.2.2.2.2.1, o3.2.2.2.2.2.1, (upd o3.2.2.2.2.2.2.1 i (o3.2.2.2.2.2.1 i)), o3.2.2.2.2.2.2.2) (by omega) (by rw [hm301]; rfl)
                          refine Z.sub [0, 2, 3] rfl ?_
                          exact key301 26 0 o2 (by omega) (by rw [rRun, if_pos hrd, hm82]; simp [rIter, rFin, (eq_true c6), (eq_false c7)])
                        · skip
                          replace c7 : 0 < o2.1 := Nat.not_le.mp (mt (nI_leI (by omega) (by omega)).mpr c7)
                          refine Z.iconst C (v := (nI 0)) dX4_run_270 (by decide) ?_
                          refine Z.istore_n C (lv' := [(3, .int (nI 0)), (2, .int x), (1, .int (nI st)), (0, .ref (a 0))]) dX4_run_271 rfl (by decide) rfl ?_
                          have key272 : ∀ (n : Nat) (i : Nat) (o3 : OS), i + n = 192 → rRun N o = (0, rsL n i o3) → Z p l e (rmN 3) s m ([.ref (a 0)] : List Value).toArray below meth c 6 D A (QI below D [(cI, .int), (cZ, .boolean)] [.ref (a 0)] (wN a cI cZ o q) ((rRun N o).1) (wN a cI cZ ((rRun N o).2) q) s) (wN a cI cZ o3 q) [(3, .int (nI i)), (0, .ref (a 0))] 272 [] := by
                            intro n
                            induction n with
                            | zero =>
                              intro i o3 hn3 hm272
                              refine Z.iload_n C dX4_run_272 0 rfl rfl ?_
                              refine Z.sipush C (v := (nI 192)) dX4_run_273 (by decide) ?_
                              refine Z.icmp_ge C 297 dX4_run_276 (by decide) (fun c10 => ?_) (fun c10 => ?_)
                              · skip
                                replace c10 : ¬ i < 192 := Nat.not_lt.mpr ((nI_leI (by omega) (by omega)).mp c10)
                                refine Z.iconst C (v := (nI 0)) dX4_run_297 (by decide) ?_
                                refine Z.iret C hr hA dX4_run_298 ?_ ?_
                                · (rw [hm272]; try rfl)
                                · (refine congrArg (fun z => wN a cI cZ z q) ?_; (rw [hm272]; try rfl))
                              · skip
                                replace c10 : i < 192 := Nat.not_le.mp (mt (nI_leI (by omega) (by omega)).mpr c10)
                                exact absurd c10 (by omega)
                            | succ n ih272 =>
                              intro i o3 hn3 hm272
                              refine Z.iload_n C dX4_run_272 0 rfl rfl ?_
                              refine Z.sipush C (v := (nI 192)) dX4_run_273 (by decide) ?_
                              refine Z.icmp_ge C 297 dX4_run_276 (by decide) (fun c11 => ?_) (fun c11 => ?_)
                              · skip
                                replace c11 : ¬ i < 192 := Nat.not_lt.mpr ((nI_leI (by omega) (by omega)).mp c11)
                                exact absurd c11 (by omega)
                              · skip
                                replace c11 : i < 192 := Nat.not_le.mp (mt (nI_leI (by omega) (by omega)).mpr c11)
                                refine Z.aload_n C dX4_run_279 1 rfl rfl ?_
                                refine Z.get C in4 0 rfl rfl 4 (by decide) (by decide +kernel) rfl rfl dX4_run_280 ?_
                                refine Z.iload_n C dX4_run_283 0 rfl rfl ?_
                                refine Z.aload_n C dX4_run_284 1 rfl rfl ?_
                                refine Z.get C in4 0 rfl rfl 5 (by decide) (by decide +kernel) rfl rfl dX4_run_285 ?_
                                refine Z.iload_n C dX4_run_288 0 rfl rfl ?_
                                refine Z.iald C 3 0 rfl rfl i rfl (by omega) (by decide) dX4_run_289 (v := (o3.2.2.2.2.1 i)) rfl ?_
                                refine Z.iast C 2 0 rfl rfl i rfl (by omega) (by decide) dX4_run_290 (v := (o3.2.2.2.2.1 i)) rfl (w' := (wN a cI cZ (o3.1, o3.2.1, o3.2.2.1, (upd o3.2.2.2.1 i (o3.2.2.2.2.1 i)), o3.2.2.2.2) q)) rfl ?_
                                refine Z.iinc C (v := (nI (i + 1))) (lv' := [(3, .int (nI (i + 1))), (0, .ref (a 0))]) dX4_run_291 0 rfl (nI_add i 1) (by decide) rfl ?_
                                refine Z.goto C 272 dX4_run_294 (by decide) ?_
                                refine Z.sub [0, 1] rfl ?_
                                exact ih272 (i + 1) (o3.1, o3.2.1, o3.2.2.1, (upd o3.2.2.2.1 i (o3.2.2.2.2.1 i)), o3.2.2.2.2) (by omega) (by rw [hm272]; rfl)
                          refine Z.sub [0, 3] rfl ?_
                          exact key272 192 0 o2 (by omega) (by rw [rRun, if_pos hrd, hm82]; simp [rIter, rFin, (eq_true c6), (eq_true c7)])
                      · skip
                        replace c6 : ¬ nI o2.2.2.2.2.2.2.2.2.2.1 ≤ x := c6
                        refine Z.aload_n C dX4_run_90 2 rfl rfl ?_
                        refine Z.get C in4 0 rfl rfl 0 (by decide) (by decide +kernel) rfl rfl dX4_run_91 ?_
                        refine Z.if_ne C 263 dX4_run_94 (by decide) (fun c12 => ?_) (fun c12 => ?_)
                        · skip
                          replace c12 : ¬ o2.1 = 0 := mt (nI_eq (by omega) (by omega)).mpr c12
                          refine Z.aload_n C dX4_run_263 2 rfl rfl ?_
                          refine Z.get C in4 0 rfl rfl 0 (by decide) (by decide +kernel) rfl rfl dX4_run_264 ?_
                          refine Z.if_le C 299 dX4_run_267 (by decide) (fun c13 => ?_) (fun c13 => ?_)
                          · skip
                            replace c13 : ¬ 0 < o2.1 := Nat.not_lt.mpr ((nI_leI (by omega) (by omega)).mp c13)
                            refine Z.iconst C (v := (nI 0)) dX4_run_299 (by decide) ?_
                            refine Z.istore_n C (lv' := [(3, .int (nI 0)), (2, .int x), (1, .int (nI st)), (0, .ref (a 0))]) dX4_run_300 rfl (by decide) rfl ?_
                            have key301 : ∀ (n : Nat) (i : Nat) (o3 : OS), i + n = 26 → rRun N o = (nI st, enL n i o3) → Z p l e (rmN 3) s m ([.ref (a 0)] : List Value).toArray below meth c 6 D A (QI below D [(cI, .int), (cZ, .boolean)] [.ref (a 0)] (wN a cI cZ o q) ((rRun N o).1) (wN a cI cZ ((rRun N o).2) q) s) (wN a cI cZ o3 q) [(3, .int (nI i)), (1, .int (nI st)), (0, .ref (a 0))] 301 [] := by
                              intro n
                              induction n with
                              | zero =>
                                intro i o3 hn3 hm301
                                refine Z.iload_n C dX4_run_301 0 rfl rfl ?_
                                refine Z.bipush C (v := (nI 26)) dX4_run_302 (by decide) ?_
                                refine Z.icmp_ge C 325 dX4_run_304 (by decide) (fun c14 => ?_) (fun c14 => ?_)
                                · skip
                                  replace c14 : ¬ i < 26 := Nat.not_lt.mpr ((nI_leI (by omega) (by omega)).mp c14)
                                  refine Z.iload_n C dX4_run_325 1 rfl rfl ?_
                                  refine Z.iret C hr hA dX4_run_326 ?_ ?_
                                  · (rw [hm301]; try rfl)
                                  · (refine congrArg (fun z => wN a cI cZ z q) ?_; (rw [hm301]; try rfl))
                                · skip
                                  replace c14 : i < 26 := Nat.not_le.mp (mt (nI_leI (by omega) (by omega)).mpr c14)
                                  exact absurd c14 (by omega)
                              | succ n ih301 =>
                                intro i o3 hn3 hm301
                                refine Z.iload_n C dX4_run_301 0 rfl rfl ?_
                                refine Z.bipush C (v := (nI 26)) dX4_run_302 (by decide) ?_
                                refine Z.icmp_ge C 325 dX4_run_304 (by decide) (fun c15 => ?_) (fun c15 => ?_)
                                · skip
                                  replace c15 : ¬ i < 26 := Nat.not_lt.mpr ((nI_leI (by omega) (by omega)).mp c15)
                                  exact absurd c15 (by omega)
                                · skip
                                  replace c15 : i < 26 := Nat.not_le.mp (mt (nI_leI (by omega) (by omega)).mpr c15)
                                  refine Z.aload_n C dX4_run_307 2 rfl rfl ?_
                                  refine Z.get C in4 0 rfl rfl 7 (by decide) (by decide +kernel) rfl rfl dX4_run_308 ?_
                                  refine Z.iload_n C dX4_run_311 0 rfl rfl ?_
                                  refine Z.aload_n C dX4_run_312 2 rfl rfl ?_
                                  refine Z.get C in4 0 rfl rfl 6 (by decide) (by decide +kernel) rfl rfl dX4_run_313 ?_
                                  refine Z.iload_n C dX4_run_316 0 rfl rfl ?_
                                  refine Z.iald C 4 0 rfl rfl i rfl (by omega) (by decide) dX4_run_317 (v := (o3.2.2.2.2.2.1 i)) rfl ?_
                                  refine Z.iast C 5 0 rfl rfl i rfl (by omega) (by decide) dX4_run_318 (v := (o3.2.2.2.2.2.1 i)) rfl (w' := (wN a cI cZ (o3.1, o3.2.1, o3.2.2.1, o3.2.2.2.1, o3.2.2.2.2.1, o3.2.2.2.2.2.1, (upd o3.2.2.2.2.2.2.1 i (o3.2.2.2.2.2.1 i)), o3.2.2.2.2.2.2.2) q)) rfl ?_
                                  refine Z.iinc C (v := (nI (i + 1))) (lv' := [(3, .int (nI (i + 1))), (1, .int (nI st)), (0, .ref (a 0))]) dX4_run_319 0 rfl (nI_add i 1) (by decide) rfl ?_
                                  refine Z.goto C 301 dX4_run_322 (by decide) ?_
                                  refine Z.sub [0, 1, 2] rfl ?_
                                  exact ih301 (i + 1) (o3.1, o3.2.1, o3.2.2.1, o3.2.2.2.1, o3.2.2.2.2.1, o3.2.2.2.2.2.1, (upd o3.2.2.2.2.2.2.1 i (o3.2.2.2.2.2.1 i)), o3.2.2.2.2.2.2.2) (by omega) (by rw [hm301]; rfl)
                            refine Z.sub [0, 2, 3] rfl ?_
                            exact key301 26 0 o2 (by omega) (by rw [rRun, if_pos hrd, hm82]; simp [rIter, rFin, (eq_false c6), (eq_false c12), (eq_false c13)])
                          · skip
                            replace c13 : 0 < o2.1 := Nat.not_le.mp (mt (nI_leI (by omega) (by omega)).mpr c13)
                            refine Z.iconst C (v := (nI 0)) dX4_run_270 (by decide) ?_
                            refine Z.istore_n C (lv' := [(3, .int (nI 0)), (2, .int x), (1, .int (nI st)), (0, .ref (a 0))]) dX4_run_271 rfl (by decide) rfl ?_
                            have key272 : ∀ (n : Nat) (i : Nat) (o3 : OS), i + n = 192 → rRun N o = (0, rsL n i o3) → Z p l e (rmN 3) s m ([.ref (a 0)] : List Value).toArray below meth c 6 D A (QI below D [(cI, .int), (cZ, .boolean)] [.ref (a 0)] (wN a cI cZ o q) ((rRun N o).1) (wN a cI cZ ((rRun N o).2) q) s) (wN a cI cZ o3 q) [(3, .int (nI i)), (0, .ref (a 0))] 272 [] := by
                              intro n
                              induction n with
                              | zero =>
                                intro i o3 hn3 hm272
                                refine Z.iload_n C dX4_run_272 0 rfl rfl ?_
                                refine Z.sipush C (v := (nI 192)) dX4_run_273 (by decide) ?_
                                refine Z.icmp_ge C 297 dX4_run_276 (by decide) (fun c16 => ?_) (fun c16 => ?_)
                                · skip
                                  replace c16 : ¬ i < 192 := Nat.not_lt.mpr ((nI_leI (by omega) (by omega)).mp c16)
                                  refine Z.iconst C (v := (nI 0)) dX4_run_297 (by decide) ?_
                                  refine Z.iret C hr hA dX4_run_298 ?_ ?_
                                  · (rw [hm272]; try rfl)
                                  · (refine congrArg (fun z => wN a cI cZ z q) ?_; (rw [hm272]; try rfl))
                                · skip
                                  replace c16 : i < 192 := Nat.not_le.mp (mt (nI_leI (by omega) (by omega)).mpr c16)
                                  exact absurd c16 (by omega)
                              | succ n ih272 =>
                                intro i o3 hn3 hm272
                                refine Z.iload_n C dX4_run_272 0 rfl rfl ?_
                                refine Z.sipush C (v := (nI 192)) dX4_run_273 (by decide) ?_
                                refine Z.icmp_ge C 297 dX4_run_276 (by decide) (fun c17 => ?_) (fun c17 => ?_)
                                · skip
                                  replace c17 : ¬ i < 192 := Nat.not_lt.mpr ((nI_leI (by omega) (by omega)).mp c17)
                                  exact absurd c17 (by omega)
                                · skip
                                  replace c17 : i < 192 := Nat.not_le.mp (mt (nI_leI (by omega) (by omega)).mpr c17)
                                  refine Z.aload_n C dX4_run_279 1 rfl rfl ?_
                                  refine Z.get C in4 0 rfl rfl 4 (by decide) (by decide +kernel) rfl rfl dX4_run_280 ?_
                                  refine Z.iload_n C dX4_run_283 0 rfl rfl ?_
                                  refine Z.aload_n C dX4_run_284 1 rfl rfl ?_
                                  refine Z.get C in4 0 rfl rfl 5 (by decide) (by decide +kernel) rfl rfl dX4_run_285 ?_
                                  refine Z.iload_n C dX4_run_288 0 rfl rfl ?_
                                  refine Z.iald C 3 0 rfl rfl i rfl (by omega) (by decide) dX4_run_289 (v := (o3.2.2.2.2.1 i)) rfl ?_
                                  refine Z.iast C 2 0 rfl rfl i rfl (by omega) (by decide) dX4_run_290 (v := (o3.2.2.2.2.1 i)) rfl (w' := (wN a cI cZ (o3.1, o3.2.1, o3.2.2.1, (upd o3.2.2.2.1 i (o3.2.2.2.2.1 i)), o3.2.2.2.2) q)) rfl ?_
                                  refine Z.iinc C (v := (nI (i + 1))) (lv' := [(3, .int (nI (i + 1))), (0, .ref (a 0))]) dX4_run_291 0 rfl (nI_add i 1) (by decide) rfl ?_
                                  refine Z.goto C 272 dX4_run_294 (by decide) ?_
                                  refine Z.sub [0, 1] rfl ?_
                                  exact ih272 (i + 1) (o3.1, o3.2.1, o3.2.2.1, (upd o3.2.2.2.1 i (o3.2.2.2.2.1 i)), o3.2.2.2.2) (by omega) (by rw [hm272]; rfl)
                            refine Z.sub [0, 3] rfl ?_
                            exact key272 192 0 o2 (by omega) (by rw [rRun, if_pos hrd, hm82]; simp [rIter, rFin, (eq_false c6), (eq_false c12), (eq_true c13)])
                        · skip
                          replace c12 : o2.1 = 0 := (nI_eq (by omega) (by omega)).mp c12
                          exact absurd (hR.1.resolve_left c6) (fun h => h c12)
                    | succ n ih82 =>
                      intro st x o2 hR hm82
                      have hz2 : o2.1 ≤ 2 := by first | exact hR.2 | exact hR.2.1.1
                      refine Z.iload_n C dX4_run_82 0 rfl rfl ?_
                      refine Z.aload_n C dX4_run_83 2 rfl rfl ?_
                      refine Z.get C in4 0 rfl rfl 14 (by decide) (by decide +kernel) rfl rfl dX4_run_84 ?_
                      refine Z.icmp_ge C 263 dX4_run_87 (by decide) (fun c18 => ?_) (fun c18 => ?_)
                      · skip
                        replace c18 : nI o2.2.2.2.2.2.2.2.2.2.1 ≤ x := c18
                        exact absurd (Or.inl c18) hR.1
                      · skip
                        replace c18 : ¬ nI o2.2.2.2.2.2.2.2.2.2.1 ≤ x := c18
                        refine Z.aload_n C dX4_run_90 2 rfl rfl ?_
                        refine Z.get C in4 0 rfl rfl 0 (by decide) (by decide +kernel) rfl rfl dX4_run_91 ?_
                        refine Z.if_ne C 263 dX4_run_94 (by decide) (fun c19 => ?_) (fun c19 => ?_)
                        · skip
                          replace c19 : ¬ o2.1 = 0 := mt (nI_eq (by omega) (by omega)).mpr c19
                          exact absurd (Or.inr c19) hR.1
                        · skip
                          replace c19 : o2.1 = 0 := (nI_eq (by omega) (by omega)).mp c19
                          obtain ⟨hR1, hR2, hR3⟩ := hR
                          obtain ⟨hP1, ⟨hP2, hP3⟩, hP4, hP10, hP11, hP9, hP7, hP8, hPn1, hP6, hPge⟩ := hR2
                          dsimp only at hP1 hP2 hP3 hP4
                          refine Z.aload_n C dX4_run_97 2 rfl rfl ?_
                          refine Z.get C in4 0 rfl rfl 12 (by decide) (by decide +kernel) rfl rfl dX4_run_98 ?_
                          refine Z.iload_n C dX4_run_101 0 rfl rfl ?_
                          refine Z.iald C 8 0 rfl rfl x.toNatClampNeg (nI_cl (by assumption)) (nI_clb (by assumption) (by omega) (by assumption)) (by decide) dX4_run_102 (v := (o2.2.2.2.2.2.2.2.1 x.toNatClampNeg)) rfl ?_
                          refine Z.istore_n C (lv' := [(3, .int (o2.2.2.2.2.2.2.2.1 x.toNatClampNeg)), (2, .int x), (1, .int (nI st)), (0, .ref (a 0))]) dX4_run_103 rfl (by decide) rfl ?_
                          refine Z.aload_n C dX4_run_104 3 rfl rfl ?_
                          refine Z.get C in4 0 rfl rfl 13 (by decide) (by decide +kernel) rfl rfl dX4_run_105 ?_
                          refine Z.iload_n C dX4_run_108 1 rfl rfl ?_
                          refine Z.iald C 9 0 rfl rfl x.toNatClampNeg (nI_cl (by assumption)) (nI_clb (by assumption) (by omega) (by assumption)) (by decide) dX4_run_109 (v := (o2.2.2.2.2.2.2.2.2.1 x.toNatClampNeg)) rfl ?_
                          refine Z.istore C (lv' := [(4, .int (o2.2.2.2.2.2.2.2.2.1 x.toNatClampNeg)), (3, .int (o2.2.2.2.2.2.2.2.1 x.toNatClampNeg)), (2, .int x), (1, .int (nI st)), (0, .ref (a 0))]) dX4_run_110 (by decide) rfl ?_
                          refine Z.iinc C (v := (x + 1)) (lv' := [(2, .int (x + 1)), (4, .int (o2.2.2.2.2.2.2.2.2.1 x.toNatClampNeg)), (3, .int (o2.2.2.2.2.2.2.2.1 x.toNatClampNeg)), (1, .int (nI st)), (0, .ref (a 0))]) dX4_run_112 2 rfl rfl (by decide) rfl ?_
                          refine Z.iload_n C dX4_run_115 2 rfl rfl ?_
                          refine Z.bipush C (v := (nI 10)) dX4_run_116 (by decide) ?_
                          refine Z.icmp_ne C 135 dX4_run_118 (by decide) (fun c20 => ?_) (fun c20 => ?_)
                          · skip
                            replace c20 : ¬ (o2.2.2.2.2.2.2.2.1 x.toNatClampNeg) = (10 : Int32) := c20
                            refine Z.iload_n C dX4_run_135 2 rfl rfl ?_
                            refine Z.bipush C (v := (nI 11)) dX4_run_136 (by decide) ?_
                            refine Z.icmp_ne C 190 dX4_run_138 (by decide) (fun c21 => ?_) (fun c21 => ?_)
                            · skip
                              replace c21 : ¬ (o2.2.2.2.2.2.2.2.1 x.toNatClampNeg) = (11 : Int32) := c21
                              refine Z.iload_n C dX4_run_190 2 rfl rfl ?_
                              refine Z.bipush C (v := (nI 9)) dX4_run_191 (by decide) ?_
                              refine Z.icmp_ne C 228 dX4_run_193 (by decide) (fun c22 => ?_) (fun c22 => ?_)
                              · skip
                                replace c22 : ¬ (o2.2.2.2.2.2.2.2.1 x.toNatClampNeg) = (9 : Int32) := c22
                                refine Z.iload_n C dX4_run_228 2 rfl rfl ?_
                                refine Z.bipush C (v := (nI 7)) dX4_run_229 (by decide) ?_
                                refine Z.icmp_eq C 240 dX4_run_231 (by decide) (fun c23 => ?_) (fun c23 => ?_)
                                · skip
                                  replace c23 : (o2.2.2.2.2.2.2.2.1 x.toNatClampNeg) = (7 : Int32) := c23
                                  have hv1 : 1 ≤ o2.2.2.2.2.2.2.2.2.2.2.2.2.2 := (hP7 c23).1
                                  refine Z.iinc C (v := (nI (st + 1))) (lv' := [(1, .int (nI (st + 1))), (2, .int (x + 1)), (4, .int (o2.2.2.2.2.2.2.2.2.1 x.toNatClampNeg)), (3, .int (o2.2.2.2.2.2.2.2.1 x.toNatClampNeg)), (0, .ref (a 0))]) dX4_run_240 3 rfl (nI_add st 1) (by decide) rfl ?_
                                  refine Z.aload_n C dX4_run_243 4 rfl rfl ?_
                                  refine Z.iload_n C dX4_run_244 3 rfl rfl ?_
                                  refine Z.iload C dX4_run_245 2 rfl ?_
                                  refine Z.callVv C (nA := 2) (As := [.int (o2.2.2.2.2.2.2.2.1 x.toNatClampNeg), .int (o2.2.2.2.2.2.2.2.2.1 x.toNatClampNeg)]) (st := []) (c_endN o2 q (o2.2.2.2.2.2.2.2.1 x.toNatClampNeg) (o2.2.2.2.2.2.2.2.2.1 x.toNatClampNeg) ⟨by omega, by omega⟩ (fun h => (hP7 h).2) (fun h => by first | exact absurd (by assumption) h | exact hP8 (by assumption))) gX4_run_X4_end rfl (by decide +kernel) (rm_ok (by omega) (by decide)) 0 rfl rfl rfl (Nat.le_of_ble_eq_true rfl) rfl dX4_run_247 ?_
                                  generalize e24 : rEnd (o2.2.2.2.2.2.2.2.1 x.toNatClampNeg) (o2.2.2.2.2.2.2.2.2.1 x.toNatClampNeg) o2 = x24
                                  refine Z.goto C 260 dX4_run_250 (by decide) ?_
                                  refine Z.goto C 82 dX4_run_260 (by decide) ?_
                                  refine Z.sub [1, 0, 4] rfl ?_
                                  exact ih82 (st + 1) (x + 1) x24 (by rw [show (x + 1, st + 1, x24) = rStep (x, st, o2) from by simp [rStep, rOp, rVal, rNm, (eq_false c18), (eq_true c19), (eq_false c20), (eq_false c21), (eq_false c22), (eq_true c23), e24]]; exact hR3) (by rw [hm82, rIter, show rStep (x, st, o2) = (x + 1, st + 1, x24) from by simp [rStep, rOp, rVal, rNm, (eq_false c18), (eq_true c19), (eq_false c20), (eq_false c21), (eq_false c22), (eq_true c23), e24]])
                                · skip
                                  replace c23 : ¬ (o2.2.2.2.2.2.2.2.1 x.toNatClampNeg) = (7 : Int32) := c23
                                  refine Z.iload_n C dX4_run_234 2 rfl rfl ?_
                                  refine Z.bipush C (v := (nI 8)) dX4_run_235 (by decide) ?_
                                  refine Z.icmp_ne C 253 dX4_run_237 (by decide) (fun c25 => ?_) (fun c25 => ?_)
                                  · skip
                                    replace c25 : ¬ (o2.2.2.2.2.2.2.2.1 x.toNatClampNeg) = (8 : Int32) := c25
                                    refine Z.aload_n C dX4_run_253 4 rfl rfl ?_
                                    refine Z.iload_n C dX4_run_254 2 rfl rfl ?_
                                    refine Z.iload C dX4_run_255 1 rfl ?_
                                    refine Z.callVv C (nA := 2) (As := [.int (o2.2.2.2.2.2.2.2.1 x.toNatClampNeg), .int (o2.2.2.2.2.2.2.2.2.1 x.toNatClampNeg)]) (st := []) (c_reckon o2 q (o2.2.2.2.2.2.2.2.1 x.toNatClampNeg) (o2.2.2.2.2.2.2.2.2.1 x.toNatClampNeg) (by omega) (fun h => hPn1 h) (fun h => hP6 h) (fun h1 h2 => hPge h1 h2 (by assumption) (by assumption))) gX4_run_X4_reckon rfl (by decide +kernel) (rm_ok (by omega) (by decide)) 0 rfl rfl rfl (Nat.le_of_ble_eq_true rfl) rfl dX4_run_257 ?_
                                    generalize e26 : rReck (o2.2.2.2.2.2.2.2.1 x.toNatClampNeg) (o2.2.2.2.2.2.2.2.2.1 x.toNatClampNeg) o2 = x26
                                    refine Z.goto C 82 dX4_run_260 (by decide) ?_
                                    refine Z.sub [0, 3, 4] rfl ?_
                                    exact ih82 st (x + 1) x26 (by rw [show (x + 1, st, x26) = rStep (x, st, o2) from by simp [rStep, rOp, rVal, rNm, (eq_false c18), (eq_true c19), (eq_false c20), (eq_false c21), (eq_false c22), (eq_false c23), (eq_false c25), e26]]; exact hR3) (by rw [hm82, rIter, show rStep (x, st, o2) = (x + 1, st, x26) from by simp [rStep, rOp, rVal, rNm, (eq_false c18), (eq_true c19), (eq_false c20), (eq_false c21), (eq_false c22), (eq_false c23), (eq_false c25), e26]])
                                  · skip
                                    replace c25 : (o2.2.2.2.2.2.2.2.1 x.toNatClampNeg) = (8 : Int32) := c25
                                    have hv1 : 1 ≤ o2.2.2.2.2.2.2.2.2.2.2.2.2.2 := Nat.le_of_succ_le (hP8 c25)
                                    refine Z.iinc C (v := (nI (st + 1))) (lv' := [(1, .int (nI (st + 1))), (2, .int (x + 1)), (4, .int (o2.2.2.2.2.2.2.2.2.1 x.toNatClampNeg)), (3, .int (o2.2.2.2.2.2.2.2.1 x.toNatClampNeg)), (0, .ref (a 0))]) dX4_run_240 3 rfl (nI_add st 1) (by decide) rfl ?_
                                    refine Z.aload_n C dX4_run_243 4 rfl rfl ?_
                                    refine Z.iload_n C dX4_run_244 3 rfl rfl ?_
                                    refine Z.iload C dX4_run_245 2 rfl ?_
                                    refine Z.callVv C (nA := 2) (As := [.int (o2.2.2.2.2.2.2.2.1 x.toNatClampNeg), .int (o2.2.2.2.2.2.2.2.2.1 x.toNatClampNeg)]) (st := []) (c_endN o2 q (o2.2.2.2.2.2.2.2.1 x.toNatClampNeg) (o2.2.2.2.2.2.2.2.2.1 x.toNatClampNeg) ⟨by omega, by omega⟩ (fun h => (hP7 h).2) (fun h => by first | exact absurd (by assumption) h | exact hP8 (by assumption))) gX4_run_X4_end rfl (by decide +kernel) (rm_ok (by omega) (by decide)) 0 rfl rfl rfl (Nat.le_of_ble_eq_true rfl) rfl dX4_run_247 ?_
                                    generalize e27 : rEnd (o2.2.2.2.2.2.2.2.1 x.toNatClampNeg) (o2.2.2.2.2.2.2.2.2.1 x.toNatClampNeg) o2 = x27
                                    refine Z.goto C 260 dX4_run_250 (by decide) ?_
                                    refine Z.goto C 82 dX4_run_260 (by decide) ?_
                                    refine Z.sub [1, 0, 4] rfl ?_
                                    exact ih82 (st + 1) (x + 1) x27 (by rw [show (x + 1, st + 1, x27) = rStep (x, st, o2) from by simp [rStep, rOp, rVal, rNm, (eq_false c18), (eq_true c19), (eq_false c20), (eq_false c21), (eq_false c22), (eq_false c23), (eq_true c25), e27]]; exact hR3) (by rw [hm82, rIter, show rStep (x, st, o2) = (x + 1, st + 1, x27) from by simp [rStep, rOp, rVal, rNm, (eq_false c18), (eq_true c19), (eq_false c20), (eq_false c21), (eq_false c22), (eq_false c23), (eq_true c25), e27]])
                              · skip
                                replace c22 : (o2.2.2.2.2.2.2.2.1 x.toNatClampNeg) = (9 : Int32) := c22
                                have hv1 := hP9 c22
                                dsimp only at hv1
                                refine Z.aload_n C dX4_run_196 4 rfl rfl ?_
                                refine Z.dup C dX4_run_197 rfl ?_
                                refine Z.get C in4 0 rfl rfl 31 (by decide) (by decide +kernel) rfl rfl dX4_run_198 ?_
                                refine Z.iconst C (v := (nI 1)) dX4_run_201 (by decide) ?_
                                refine Z.isub C (v := (nI (o2.2.2.2.2.2.2.2.2.2.2.2.2.2 - 1))) dX4_run_202 (pk_sub (a := o2.2.2.2.2.2.2.2.2.2.2.2.2.2) (b := 1) (by omega)) ?_
                                refine Z.put C in4 0 rfl rfl 31 (by decide) tyX4 tyX4_ok nmX4 (by decide +kernel) rfl rfl rfl rfl (Nat.le_of_ble_eq_true rfl) dX4_run_203 (w' := (wN a cI cZ (o2.1, o2.2.1, o2.2.2.1, o2.2.2.2.1, o2.2.2.2.2.1, o2.2.2.2.2.2.1, o2.2.2.2.2.2.2.1, o2.2.2.2.2.2.2.2.1, o2.2.2.2.2.2.2.2.2.1, o2.2.2.2.2.2.2.2.2.2.1, o2.2.2.2.2.2.2.2.2.2.2.1, o2.2.2.2.2.2.2.2.2.2.2.2.1, o2.2.2.2.2.2.2.2.2.2.2.2.2.1, o2.2.2.2.2.2.2.2.2.2.2.2.2.2 - 1) q)) rfl ?_
                                refine Z.aload_n C dX4_run_206 4 rfl rfl ?_
                                refine Z.get C in4 0 rfl rfl 30 (by decide) (by decide +kernel) rfl rfl dX4_run_207 ?_
                                refine Z.aload_n C dX4_run_210 4 rfl rfl ?_
                                refine Z.get C in4 0 rfl rfl 31 (by decide) (by decide +kernel) rfl rfl dX4_run_211 ?_
                                refine Z.iald C 16 0 rfl rfl (o2.2.2.2.2.2.2.2.2.2.2.2.2.2 - 1) rfl (by omega) (by decide) dX4_run_214 (v := (o2.2.2.2.2.2.2.2.2.2.2.2.2.1 (o2.2.2.2.2.2.2.2.2.2.2.2.2.2 - 1))) rfl ?_
                                refine Z.if_ne C 223 dX4_run_215 (by decide) (fun c28 => ?_) (fun c28 => ?_)
                                · skip
                                  replace c28 : ¬ (o2.2.2.2.2.2.2.2.2.2.2.2.2.1 (o2.2.2.2.2.2.2.2.2.2.2.2.2.2 - 1)) = (0 : Int32) := c28
                                  refine Z.iload_n C dX4_run_223 0 rfl rfl ?_
                                  refine Z.istore_n C (lv' := [(2, .int (x + 1)), (4, .int (o2.2.2.2.2.2.2.2.2.1 x.toNatClampNeg)), (3, .int (o2.2.2.2.2.2.2.2.1 x.toNatClampNeg)), (1, .int (nI st)), (0, .ref (a 0))]) dX4_run_224 rfl (by decide) rfl ?_
                                  refine Z.goto C 260 dX4_run_225 (by decide) ?_
                                  refine Z.goto C 82 dX4_run_260 (by decide) ?_
                                  refine Z.sub [0, 3, 4] rfl ?_
                                  exact ih82 st (x + 1) (o2.1, o2.2.1, o2.2.2.1, o2.2.2.2.1, o2.2.2.2.2.1, o2.2.2.2.2.2.1, o2.2.2.2.2.2.2.1, o2.2.2.2.2.2.2.2.1, o2.2.2.2.2.2.2.2.2.1, o2.2.2.2.2.2.2.2.2.2.1, o2.2.2.2.2.2.2.2.2.2.2.1, o2.2.2.2.2.2.2.2.2.2.2.2.1, o2.2.2.2.2.2.2.2.2.2.2.2.2.1, o2.2.2.2.2.2.2.2.2.2.2.2.2.2 - 1) (by rw [show (x + 1, st, (o2.1, o2.2.1, o2.2.2.1, o2.2.2.2.1, o2.2.2.2.2.1, o2.2.2.2.2.2.1, o2.2.2.2.2.2.2.1, o2.2.2.2.2.2.2.2.1, o2.2.2.2.2.2.2.2.2.1, o2.2.2.2.2.2.2.2.2.2.1, o2.2.2.2.2.2.2.2.2.2.2.1, o2.2.2.2.2.2.2.2.2.2.2.2.1, o2.2.2.2.2.2.2.2.2.2.2.2.2.1, o2.2.2.2.2.2.2.2.2.2.2.2.2.2 - 1)) = rStep (x, st, o2) from by simp [rStep, rOp, rVal, rNm, (eq_false c18), (eq_true c19), (eq_false c20), (eq_false c21), (eq_true c22), (eq_false c28)]]; exact hR3) (by rw [hm82, rIter, show rStep (x, st, o2) = (x + 1, st, (o2.1, o2.2.1, o2.2.2.1, o2.2.2.2.1, o2.2.2.2.2.1, o2.2.2.2.2.2.1, o2.2.2.2.2.2.2.1, o2.2.2.2.2.2.2.2.1, o2.2.2.2.2.2.2.2.2.1, o2.2.2.2.2.2.2.2.2.2.1, o2.2.2.2.2.2.2.2.2.2.2.1, o2.2.2.2.2.2.2.2.2.2.2.2.1, o2.2.2.2.2.2.2.2.2.2.2.2.2.1, o2.2.2.2.2.2.2.2.2.2.2.2.2.2 - 1)) from by simp [rStep, rOp, rVal, rNm, (eq_false c18), (eq_true c19), (eq_false c20), (eq_false c21), (eq_true c22), (eq_false c28)]])
                                · skip
                                  replace c28 : (o2.2.2.2.2.2.2.2.2.2.2.2.2.1 (o2.2.2.2.2.2.2.2.2.2.2.2.2.2 - 1)) = (0 : Int32) := c28
                                  refine Z.iload C dX4_run_218 1 rfl ?_
                                  refine Z.goto C 224 dX4_run_220 (by decide) ?_
                                  refine Z.istore_n C (lv' := [(2, .int (o2.2.2.2.2.2.2.2.2.1 x.toNatClampNeg)), (4, .int (o2.2.2.2.2.2.2.2.2.1 x.toNatClampNeg)), (3, .int (o2.2.2.2.2.2.2.2.1 x.toNatClampNeg)), (1, .int (nI st)), (0, .ref (a 0))]) dX4_run_224 rfl (by decide) rfl ?_
                                  refine Z.goto C 260 dX4_run_225 (by decide) ?_
                                  refine Z.goto C 82 dX4_run_260 (by decide) ?_
                                  refine Z.sub [0, 3, 4] rfl ?_
                                  exact ih82 st (o2.2.2.2.2.2.2.2.2.1 x.toNatClampNeg) (o2.1, o2.2.1, o2.2.2.1, o2.2.2.2.1, o2.2.2.2.2.1, o2.2.2.2.2.2.1, o2.2.2.2.2.2.2.1, o2.2.2.2.2.2.2.2.1, o2.2.2.2.2.2.2.2.2.1, o2.2.2.2.2.2.2.2.2.2.1, o2.2.2.2.2.2.2.2.2.2.2.1, o2.2.2.2.2.2.2.2.2.2.2.2.1, o2.2.2.2.2.2.2.2.2.2.2.2.2.1, o2.2.2.2.2.2.2.2.2.2.2.2.2.2 - 1) (by rw [show (o2.2.2.2.2.2.2.2.2.1 x.toNatClampNeg, st, (o2.1, o2.2.1, o2.2.2.1, o2.2.2.2.1, o2.2.2.2.2.1, o2.2.2.2.2.2.1, o2.2.2.2.2.2.2.1, o2.2.2.2.2.2.2.2.1, o2.2.2.2.2.2.2.2.2.1, o2.2.2.2.2.2.2.2.2.2.1, o2.2.2.2.2.2.2.2.2.2.2.1, o2.2.2.2.2.2.2.2.2.2.2.2.1, o2.2.2.2.2.2.2.2.2.2.2.2.2.1, o2.2.2.2.2.2.2.2.2.2.2.2.2.2 - 1)) = rStep (x, st, o2) from by simp [rStep, rOp, rVal, rNm, (eq_false c18), (eq_true c19), (eq_false c20), (eq_false c21), (eq_true c22), (eq_true c28)]]; exact hR3) (by rw [hm82, rIter, show rStep (x, st, o2) = (o2.2.2.2.2.2.2.2.2.1 x.toNatClampNeg, st, (o2.1, o2.2.1, o2.2.2.1, o2.2.2.2.1, o2.2.2.2.2.1, o2.2.2.2.2.2.1, o2.2.2.2.2.2.2.1, o2.2.2.2.2.2.2.2.1, o2.2.2.2.2.2.2.2.2.1, o2.2.2.2.2.2.2.2.2.2.1, o2.2.2.2.2.2.2.2.2.2.2.1, o2.2.2.2.2.2.2.2.2.2.2.2.1, o2.2.2.2.2.2.2.2.2.2.2.2.2.1, o2.2.2.2.2.2.2.2.2.2.2.2.2.2 - 1)) from by simp [rStep, rOp, rVal, rNm, (eq_false c18), (eq_true c19), (eq_false c20), (eq_false c21), (eq_true c22), (eq_true c28)]])
                            · skip
                              replace c21 : (o2.2.2.2.2.2.2.2.1 x.toNatClampNeg) = (11 : Int32) := c21
                              have ⟨⟨hv1, hv2⟩, ⟨hv3, hv4⟩, hv5, hv6⟩ := hP11 c21
                              dsimp only [rVal, rNm] at hv1 hv2 hv3 hv4 hv5 hv6
                              refine Z.aload_n C dX4_run_141 4 rfl rfl ?_
                              refine Z.get C in4 0 rfl rfl 13 (by decide) (by decide +kernel) rfl rfl dX4_run_142 ?_
                              refine Z.iload C dX4_run_145 1 rfl ?_
                              refine Z.iconst C (v := (nI 2)) dX4_run_147 (by decide) ?_
                              refine Z.isub C (v := ((o2.2.2.2.2.2.2.2.2.1 x.toNatClampNeg) - (2 : Int32))) dX4_run_148 rfl ?_
                              refine Z.iald C 9 0 rfl rfl (((o2.2.2.2.2.2.2.2.2.1 x.toNatClampNeg) - (2 : Int32)).toNatClampNeg) (nI_cl (by assumption)) (nI_clb (by assumption) (by omega) (by first | assumption | omega)) (by decide) dX4_run_149 (v := (o2.2.2.2.2.2.2.2.2.1 (((o2.2.2.2.2.2.2.2.2.1 x.toNatClampNeg) - (2 : Int32)).toNatClampNeg))) rfl ?_
                              refine Z.istore C (lv' := [(5, .int (o2.2.2.2.2.2.2.2.2.1 (((o2.2.2.2.2.2.2.2.2.1 x.toNatClampNeg) - (2 : Int32)).toNatClampNeg))), (2, .int (x + 1)), (4, .int (o2.2.2.2.2.2.2.2.2.1 x.toNatClampNeg)), (3, .int (o2.2.2.2.2.2.2.2.1 x.toNatClampNeg)), (1, .int (nI st)), (0, .ref (a 0))]) dX4_run_150 (by decide) rfl ?_
                              refine Z.aload_n C dX4_run_152 5 rfl rfl ?_
                              refine Z.get C in4 0 rfl rfl 6 (by decide) (by decide +kernel) rfl rfl dX4_run_153 ?_
                              refine Z.iload C dX4_run_156 0 rfl ?_
                              refine Z.iald C 4 0 rfl rfl ((o2.2.2.2.2.2.2.2.2.1 (((o2.2.2.2.2.2.2.2.2.1 x.toNatClampNeg) - (2 : Int32)).toNatClampNeg)).toNatClampNeg) (nI_cl (by assumption)) (nI_clb (by assumption) (by omega) (by first | assumption | omega)) (by decide) dX4_run_158 (v := (o2.2.2.2.2.2.1 ((o2.2.2.2.2.2.2.2.2.1 (((o2.2.2.2.2.2.2.2.2.1 x.toNatClampNeg) - (2 : Int32)).toNatClampNeg)).toNatClampNeg))) rfl ?_
                              refine Z.iconst C (v := (nI 1)) dX4_run_159 (by decide) ?_
                              refine Z.iadd C (v := ((o2.2.2.2.2.2.1 ((o2.2.2.2.2.2.2.2.2.1 (((o2.2.2.2.2.2.2.2.2.1 x.toNatClampNeg) - (2 : Int32)).toNatClampNeg)).toNatClampNeg)) + (1 : Int32))) dX4_run_160 rfl ?_
                              refine Z.aload_n C dX4_run_161 5 rfl rfl ?_
                              refine Z.get C in4 0 rfl rfl 12 (by decide) (by decide +kernel) rfl rfl dX4_run_162 ?_
                              refine Z.iload C dX4_run_165 2 rfl ?_
                              refine Z.iconst C (v := (nI 1)) dX4_run_167 (by decide) ?_
                              refine Z.isub C (v := ((o2.2.2.2.2.2.2.2.2.1 x.toNatClampNeg) - (1 : Int32))) dX4_run_168 rfl ?_
                              refine Z.iald C 8 0 rfl rfl (((o2.2.2.2.2.2.2.2.2.1 x.toNatClampNeg) - (1 : Int32)).toNatClampNeg) (nI_cl (by assumption)) (nI_clb (by assumption) (by omega) (by first | assumption | omega)) (by decide) dX4_run_169 (v := (o2.2.2.2.2.2.2.2.1 (((o2.2.2.2.2.2.2.2.2.1 x.toNatClampNeg) - (1 : Int32)).toNatClampNeg))) rfl ?_
                              refine Z.icmp_ge C 187 dX4_run_170 (by decide) (fun c29 => ?_) (fun c29 => ?_)
                              · skip
                                replace c29 : o2.2.2.2.2.2.2.2.1 (((o2.2.2.2.2.2.2.2.2.1 x.toNatClampNeg) - (1 : Int32)).toNatClampNeg) ≤ ((o2.2.2.2.2.2.1 ((o2.2.2.2.2.2.2.2.2.1 (((o2.2.2.2.2.2.2.2.2.1 x.toNatClampNeg) - (2 : Int32)).toNatClampNeg)).toNatClampNeg)) + (1 : Int32)) := c29
                                refine Z.goto C 260 dX4_run_187 (by decide) ?_
                                refine Z.goto C 82 dX4_run_260 (by decide) ?_
                                refine Z.sub [1, 4, 5] rfl ?_
                                exact ih82 st (x + 1) o2 (by rw [show (x + 1, st, o2) = rStep (x, st, o2) from by simp [rStep, rOp, rVal, rNm, (eq_false c18), (eq_true c19), (eq_false c20), (eq_true c21), (eq_true c29)]]; exact hR3) (by rw [hm82, rIter, show rStep (x, st, o2) = (x + 1, st, o2) from by simp [rStep, rOp, rVal, rNm, (eq_false c18), (eq_true c19), (eq_false c20), (eq_true c21), (eq_true c29)]])
                              · skip
                                replace c29 : ¬ o2.2.2.2.2.2.2.2.1 (((o2.2.2.2.2.2.2.2.2.1 x.toNatClampNeg) - (1 : Int32)).toNatClampNeg) ≤ ((o2.2.2.2.2.2.1 ((o2.2.2.2.2.2.2.2.2.1 (((o2.2.2.2.2.2.2.2.2.1 x.toNatClampNeg) - (2 : Int32)).toNatClampNeg)).toNatClampNeg)) + (1 : Int32)) := c29
                                refine Z.aload_n C dX4_run_173 5 rfl rfl ?_
                                refine Z.get C in4 0 rfl rfl 6 (by decide) (by decide +kernel) rfl rfl dX4_run_174 ?_
                                refine Z.iload C dX4_run_177 0 rfl ?_
                                refine Z.dup2 C dX4_run_179 rfl rfl ?_
                                refine Z.iald C 4 0 rfl rfl ((o2.2.2.2.2.2.2.2.2.1 (((o2.2.2.2.2.2.2.2.2.1 x.toNatClampNeg) - (2 : Int32)).toNatClampNeg)).toNatClampNeg) (nI_cl (by assumption)) (nI_clb (by assumption) (by omega) (by first | assumption | omega)) (by decide) dX4_run_180 (v := (o2.2.2.2.2.2.1 ((o2.2.2.2.2.2.2.2.2.1 (((o2.2.2.2.2.2.2.2.2.1 x.toNatClampNeg) - (2 : Int32)).toNatClampNeg)).toNatClampNeg))) rfl ?_
                                refine Z.iconst C (v := (nI 1)) dX4_run_181 (by decide) ?_
                                refine Z.iadd C (v := ((o2.2.2.2.2.2.1 ((o2.2.2.2.2.2.2.2.2.1 (((o2.2.2.2.2.2.2.2.2.1 x.toNatClampNeg) - (2 : Int32)).toNatClampNeg)).toNatClampNeg)) + (1 : Int32))) dX4_run_182 rfl ?_
                                refine Z.iast C 4 0 rfl rfl ((o2.2.2.2.2.2.2.2.2.1 (((o2.2.2.2.2.2.2.2.2.1 x.toNatClampNeg) - (2 : Int32)).toNatClampNeg)).toNatClampNeg) (nI_cl (by assumption)) (nI_clb (by assumption) (by omega) (by first | assumption | omega)) (by decide) dX4_run_183 (v := ((o2.2.2.2.2.2.1 ((o2.2.2.2.2.2.2.2.2.1 (((o2.2.2.2.2.2.2.2.2.1 x.toNatClampNeg) - (2 : Int32)).toNatClampNeg)).toNatClampNeg)) + (1 : Int32))) rfl (w' := (wN a cI cZ (o2.1, o2.2.1, o2.2.2.1, o2.2.2.2.1, o2.2.2.2.2.1, (upd o2.2.2.2.2.2.1 ((o2.2.2.2.2.2.2.2.2.1 (((o2.2.2.2.2.2.2.2.2.1 x.toNatClampNeg) - (2 : Int32)).toNatClampNeg)).toNatClampNeg) ((o2.2.2.2.2.2.1 ((o2.2.2.2.2.2.2.2.2.1 (((o2.2.2.2.2.2.2.2.2.1 x.toNatClampNeg) - (2 : Int32)).toNatClampNeg)).toNatClampNeg)) + (1 : Int32))), o2.2.2.2.2.2.2) q)) rfl ?_
                                refine Z.iload C dX4_run_184 2 rfl ?_
                                refine Z.istore_n C (lv' := [(2, .int (o2.2.2.2.2.2.2.2.2.1 x.toNatClampNeg)), (5, .int (o2.2.2.2.2.2.2.2.2.1 (((o2.2.2.2.2.2.2.2.2.1 x.toNatClampNeg) - (2 : Int32)).toNatClampNeg))), (4, .int (o2.2.2.2.2.2.2.2.2.1 x.toNatClampNeg)), (3, .int (o2.2.2.2.2.2.2.2.1 x.toNatClampNeg)), (1, .int (nI st)), (0, .ref (a 0))]) dX4_run_186 rfl (by decide) rfl ?_
                                refine Z.goto C 260 dX4_run_187 (by decide) ?_
                                refine Z.goto C 82 dX4_run_260 (by decide) ?_
                                refine Z.sub [0, 4, 5] rfl ?_
                                exact ih82 st (o2.2.2.2.2.2.2.2.2.1 x.toNatClampNeg) (o2.1, o2.2.1, o2.2.2.1, o2.2.2.2.1, o2.2.2.2.2.1, (upd o2.2.2.2.2.2.1 ((o2.2.2.2.2.2.2.2.2.1 (((o2.2.2.2.2.2.2.2.2.1 x.toNatClampNeg) - (2 : Int32)).toNatClampNeg)).toNatClampNeg) ((o2.2.2.2.2.2.1 ((o2.2.2.2.2.2.2.2.2.1 (((o2.2.2.2.2.2.2.2.2.1 x.toNatClampNeg) - (2 : Int32)).toNatClampNeg)).toNatClampNeg)) + (1 : Int32))), o2.2.2.2.2.2.2) (by rw [show (o2.2.2.2.2.2.2.2.2.1 x.toNatClampNeg, st, (o2.1, o2.2.1, o2.2.2.1, o2.2.2.2.1, o2.2.2.2.2.1, (upd o2.2.2.2.2.2.1 ((o2.2.2.2.2.2.2.2.2.1 (((o2.2.2.2.2.2.2.2.2.1 x.toNatClampNeg) - (2 : Int32)).toNatClampNeg)).toNatClampNeg) ((o2.2.2.2.2.2.1 ((o2.2.2.2.2.2.2.2.2.1 (((o2.2.2.2.2.2.2.2.2.1 x.toNatClampNeg) - (2 : Int32)).toNatClampNeg)).toNatClampNeg)) + (1 : Int32))), o2.2.2.2.2.2.2)) = rStep (x, st, o2) from by simp [rStep, rOp, rVal, rNm, (eq_false c18), (eq_true c19), (eq_false c20), (eq_true c21), (eq_false c29)]]; exact hR3) (by rw [hm82, rIter, show rStep (x, st, o2) = (o2.2.2.2.2.2.2.2.2.1 x.toNatClampNeg, st, (o2.1, o2.2.1, o2.2.2.1, o2.2.2.2.1, o2.2.2.2.2.1, (upd o2.2.2.2.2.2.1 ((o2.2.2.2.2.2.2.2.2.1 (((o2.2.2.2.2.2.2.2.2.1 x.toNatClampNeg) - (2 : Int32)).toNatClampNeg)).toNatClampNeg) ((o2.2.2.2.2.2.1 ((o2.2.2.2.2.2.2.2.2.1 (((o2.2.2.2.2.2.2.2.2.1 x.toNatClampNeg) - (2 : Int32)).toNatClampNeg)).toNatClampNeg)) + (1 : Int32))), o2.2.2.2.2.2.2)) from by simp [rStep, rOp, rVal, rNm, (eq_false c18), (eq_true c19), (eq_false c20), (eq_true c21), (eq_false c29)]])
                          · skip
                            replace c20 : (o2.2.2.2.2.2.2.2.1 x.toNatClampNeg) = (10 : Int32) := c20
                            have ⟨hv1, hv2⟩ := hP10 c20
                            dsimp only [rVal] at hv1 hv2
                            refine Z.aload_n C dX4_run_121 4 rfl rfl ?_
                            refine Z.get C in4 0 rfl rfl 6 (by decide) (by decide +kernel) rfl rfl dX4_run_122 ?_
                            refine Z.iload C dX4_run_125 1 rfl ?_
                            refine Z.iconst C (v := (nI 0)) dX4_run_127 (by decide) ?_
                            refine Z.iast C 4 0 rfl rfl ((o2.2.2.2.2.2.2.2.2.1 x.toNatClampNeg).toNatClampNeg) (nI_cl (by assumption)) (nI_clb (by assumption) (by omega) (by first | assumption | omega)) (by decide) dX4_run_128 (v := (0 : Int32)) rfl (w' := (wN a cI cZ (o2.1, o2.2.1, o2.2.2.1, o2.2.2.2.1, o2.2.2.2.2.1, (upd o2.2.2.2.2.2.1 ((o2.2.2.2.2.2.2.2.2.1 x.toNatClampNeg).toNatClampNeg) (0 : Int32)), o2.2.2.2.2.2.2) q)) rfl ?_
                            refine Z.iinc C (v := ((x + 1) + 1)) (lv' := [(2, .int ((x + 1) + 1)), (4, .int (o2.2.2.2.2.2.2.2.2.1 x.toNatClampNeg)), (3, .int (o2.2.2.2.2.2.2.2.1 x.toNatClampNeg)), (1, .int (nI st)), (0, .ref (a 0))]) dX4_run_129 0 rfl rfl (by decide) rfl ?_
                            refine Z.goto C 260 dX4_run_132 (by decide) ?_
                            refine Z.goto C 82 dX4_run_260 (by decide) ?_
                            refine Z.sub [0, 3, 4] rfl ?_
                            exact ih82 st ((x + 1) + 1) (o2.1, o2.2.1, o2.2.2.1, o2.2.2.2.1, o2.2.2.2.2.1, (upd o2.2.2.2.2.2.1 ((o2.2.2.2.2.2.2.2.2.1 x.toNatClampNeg).toNatClampNeg) (0 : Int32)), o2.2.2.2.2.2.2) (by rw [show ((x + 1) + 1, st, (o2.1, o2.2.1, o2.2.2.1, o2.2.2.2.1, o2.2.2.2.2.1, (upd o2.2.2.2.2.2.1 ((o2.2.2.2.2.2.2.2.2.1 x.toNatClampNeg).toNatClampNeg) (0 : Int32)), o2.2.2.2.2.2.2)) = rStep (x, st, o2) from by simp [rStep, rOp, rVal, rNm, (eq_false c18), (eq_true c19), (eq_true c20)]]; exact hR3) (by rw [hm82, rIter, show rStep (x, st, o2) = ((x + 1) + 1, st, (o2.1, o2.2.1, o2.2.2.1, o2.2.2.2.1, o2.2.2.2.2.1, (upd o2.2.2.2.2.2.1 ((o2.2.2.2.2.2.2.2.2.1 x.toNatClampNeg).toNatClampNeg) (0 : Int32)), o2.2.2.2.2.2.2)) from by simp [rStep, rOp, rVal, rNm, (eq_false c18), (eq_true c19), (eq_true c20)]])
                  refine Z.sub [0, 1, 2] rfl ?_
                  exact key82 N 0 (nI 0) (o2.1, o2.2.1, o2.2.2.1, o2.2.2.2.1, o2.2.2.2.2.1, o2.2.2.2.2.2.1, o2.2.2.2.2.2.2.1, o2.2.2.2.2.2.2.2.1, o2.2.2.2.2.2.2.2.2.1, o2.2.2.2.2.2.2.2.2.2.1, o2.2.2.2.2.2.2.2.2.2.2.1, o2.2.2.2.2.2.2.2.2.2.2.2.1, o2.2.2.2.2.2.2.2.2.2.2.2.2.1, 0) (by rw [← show rStart o = (o2.1, o2.2.1, o2.2.2.1, o2.2.2.2.1, o2.2.2.2.2.1, o2.2.2.2.2.2.1, o2.2.2.2.2.2.2.1, o2.2.2.2.2.2.2.2.1, o2.2.2.2.2.2.2.2.2.1, o2.2.2.2.2.2.2.2.2.2.1, o2.2.2.2.2.2.2.2.2.2.2.1, o2.2.2.2.2.2.2.2.2.2.2.2.1, o2.2.2.2.2.2.2.2.2.2.2.2.2.1, 0) from by rw [hm54]; rfl]; exact hgo hrd) (by rw [show rStart o = (o2.1, o2.2.1, o2.2.2.1, o2.2.2.2.1, o2.2.2.2.2.1, o2.2.2.2.2.2.1, o2.2.2.2.2.2.2.1, o2.2.2.2.2.2.2.2.1, o2.2.2.2.2.2.2.2.2.1, o2.2.2.2.2.2.2.2.2.2.1, o2.2.2.2.2.2.2.2.2.2.2.1, o2.2.2.2.2.2.2.2.2.2.2.2.1, o2.2.2.2.2.2.2.2.2.2.2.2.2.1, 0) from by rw [hm54]; rfl])
                · skip
                  replace c5 : i < 26 := Nat.not_le.mp (mt (nI_leI (by omega) (by omega)).mpr c5)
                  exact absurd c5 (by omega)
              | succ n ih54 =>
                intro i o2 hn hm54
                refine Z.iload_n C dX4_run_54 0 rfl rfl ?_
                refine Z.bipush C (v := (nI 26)) dX4_run_55 (by decide) ?_
                refine Z.icmp_ge C 73 dX4_run_57 (by decide) (fun c30 => ?_) (fun c30 => ?_)
                · skip
                  replace c30 : ¬ i < 26 := Nat.not_lt.mpr ((nI_leI (by omega) (by omega)).mp c30)
                  exact absurd c30 (by omega)
                · skip
                  replace c30 : i < 26 := Nat.not_le.mp (mt (nI_leI (by omega) (by omega)).mpr c30)
                  refine Z.aload_n C dX4_run_60 1 rfl rfl ?_
                  refine Z.get C in4 0 rfl rfl 6 (by decide) (by decide +kernel) rfl rfl dX4_run_61 ?_
                  refine Z.iload_n C dX4_run_64 0 rfl rfl ?_
                  refine Z.iconst C (v := (nI 0)) dX4_run_65 (by decide) ?_
                  refine Z.iast C 4 0 rfl rfl i rfl (by omega) (by decide) dX4_run_66 (v := (0 : Int32)) rfl (w' := (wN a cI cZ (o2.1, o2.2.1, o2.2.2.1, o2.2.2.2.1, o2.2.2.2.2.1, (upd o2.2.2.2.2.2.1 i (0 : Int32)), o2.2.2.2.2.2.2) q)) rfl ?_
                  refine Z.iinc C (v := (nI (i + 1))) (lv' := [(1, .int (nI (i + 1))), (0, .ref (a 0))]) dX4_run_67 0 rfl (nI_add i 1) (by decide) rfl ?_
                  refine Z.goto C 54 dX4_run_70 (by decide) ?_
                  refine Z.sub [0, 1] rfl ?_
                  exact ih54 (i + 1) (o2.1, o2.2.1, o2.2.2.1, o2.2.2.2.1, o2.2.2.2.2.1, (upd o2.2.2.2.2.2.1 i (0 : Int32)), o2.2.2.2.2.2.2) (by omega) (by rw [hm54]; rfl)
            refine Z.sub [0, 1] rfl ?_
            exact key54 26 0 o2 (by omega) (by rw [hm27]; rfl)
          · skip
            replace c4 : i < 192 := Nat.not_le.mp (mt (nI_leI (by omega) (by omega)).mpr c4)
            exact absurd c4 (by omega)
        | succ n ih27 =>
          intro i o2 hn hm27
          refine Z.iload_n C dX4_run_27 0 rfl rfl ?_
          refine Z.sipush C (v := (nI 192)) dX4_run_28 (by decide) ?_
          refine Z.icmp_ge C 52 dX4_run_31 (by decide) (fun c31 => ?_) (fun c31 => ?_)
          · skip
            replace c31 : ¬ i < 192 := Nat.not_lt.mpr ((nI_leI (by omega) (by omega)).mp c31)
            exact absurd c31 (by omega)
          · skip
            replace c31 : i < 192 := Nat.not_le.mp (mt (nI_leI (by omega) (by omega)).mpr c31)
            refine Z.aload_n C dX4_run_34 1 rfl rfl ?_
            refine Z.get C in4 0 rfl rfl 5 (by decide) (by decide +kernel) rfl rfl dX4_run_35 ?_
            refine Z.iload_n C dX4_run_38 0 rfl rfl ?_
            refine Z.aload_n C dX4_run_39 1 rfl rfl ?_
            refine Z.get C in4 0 rfl rfl 4 (by decide) (by decide +kernel) rfl rfl dX4_run_40 ?_
            refine Z.iload_n C dX4_run_43 0 rfl rfl ?_
            refine Z.iald C 2 0 rfl rfl i rfl (by omega) (by decide) dX4_run_44 (v := (o2.2.2.2.1 i)) rfl ?_
            refine Z.iast C 3 0 rfl rfl i rfl (by omega) (by decide) dX4_run_45 (v := (o2.2.2.2.1 i)) rfl (w' := (wN a cI cZ (o2.1, o2.2.1, o2.2.2.1, o2.2.2.2.1, (upd o2.2.2.2.2.1 i (o2.2.2.2.1 i)), o2.2.2.2.2.2) q)) rfl ?_
            refine Z.iinc C (v := (nI (i + 1))) (lv' := [(1, .int (nI (i + 1))), (0, .ref (a 0))]) dX4_run_46 0 rfl (nI_add i 1) (by decide) rfl ?_
            refine Z.goto C 27 dX4_run_49 (by decide) ?_
            refine Z.sub [0, 1] rfl ?_
            exact ih27 (i + 1) (o2.1, o2.2.1, o2.2.2.1, o2.2.2.2.1, (upd o2.2.2.2.2.1 i (o2.2.2.2.1 i)), o2.2.2.2.2.2) (by omega) (by rw [hm27]; rfl)
      refine Z.sub [0, 1] rfl ?_
      exact key27 192 0 (0, o.2) (by omega) rfl
    · skip
      replace c3 : 0 < 0 := Nat.not_le.mp (mt (nI_leI (by omega) (by omega)).mpr c3)
      exact absurd c3 (by decide)
