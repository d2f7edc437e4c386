def qInit (q : QS) : QS := (0, 0, q.2.2.1, q.2.2.2.1, q.2.2.2.2.1, 0, 0, q.2.2.2.2.2.2.2.1, q.2.2.2.2.2.2.2.2.1, 0, 0, q.2.2.2.2.2.2.2.2.2.2.2.1, 0, q.2.2.2.2.2.2.2.2.2.2.2.2.2.1, q.2.2.2.2.2.2.2.2.2.2.2.2.2.2.1, q.2.2.2.2.2.2.2.2.2.2.2.2.2.2.2.1, upd q.2.2.2.2.2.2.2.2.2.2.2.2.2.2.2.2.1 0 1, 0, 0)
def qStepAll (tx : Nat → Int32) (len : Nat) (x : Nat × QS) : Nat × QS := if x.1 = 0 then qStmt tx len x.2 else if x.1 = 1 then qFactor tx len x.2 else qBehind tx len x.2
def qStop (len : Nat) (x : Nat × QS) : Prop := ¬ x.2.1 = 0 ∨ (x.1 = 0 ∧ x.2.2.2.2.2.2.2.2.2.2.2.2.2.2.2.2.2.2.1 = 0 ∧ len ≤ x.2.2.1)
def qPre (x : Nat × QS) : Prop := x.1 ≤ 2 ∧ x.2.1 < 1000 ∧ x.2.2.1 ≤ 480 ∧ x.2.2.2.2.2.2.2.2.2.2.1 + 2 ≤ 520 ∧ x.2.2.2.2.2.2.2.2.2.2.2.2.2.1 + 2 ≤ 520 ∧ x.2.2.2.2.2.2.1 + x.2.2.2.2.2.2.2.2.2.2.1 + 4 ≤ 1000 ∧ x.2.2.2.2.2.2.2.2.2.2.2.2.2.2.2.2.2.2.1 ≤ 8 ∧ (∀ b, b < x.2.2.2.2.2.2.2.2.2.2.2.2.2.2.2.2.2.2.1 → 0 ≤ x.2.2.2.2.2.2.2.2.2.2.2.2.2.2.2.2.1 b ∧ ¬ (1000 : Int32) ≤ x.2.2.2.2.2.2.2.2.2.2.2.2.2.2.2.2.1 b) ∧ (x.1 = 2 → 1 ≤ x.2.2.2.2.2.2.2.2.2.2.1 ∧ 1 ≤ x.2.2.2.2.2.2.2.2.2.2.2.2.2.1 ∧ (¬ x.2.2.2.2.2.2.2.2.2.1 (x.2.2.2.2.2.2.2.2.2.2.1 - 1) = 0 → 2 ≤ x.2.2.2.2.2.2.2.2.2.2.2.2.2.1) ∧ (x.2.2.2.2.2.2.2.2.1 (x.2.2.2.2.2.2.2.2.2.2.1 - 1) = 3 → x.2.2.2.2.2.2.2.2.2.2.2.2.2.2.2.2.2.2.1 < 8))
def qRuns (tx : Nat → Int32) (len : Nat) : Nat → Nat × QS → Prop
  | 0, x => qStop len x ∧ x.1 ≤ 2 ∧ x.2.1 < 1000 ∧ x.2.2.1 ≤ 490 ∧ x.2.2.2.2.2.2.2.2.2.2.2.2.2.2.2.2.2.2.1 ≤ 8 ∧ x.2.2.2.2.2.2.1 ≤ 1000
  | n + 1, x => ¬ qStop len x ∧ qPre x ∧ qRuns tx len n (qStepAll tx len x)
def qIter (tx : Nat → Int32) (len : Nat) : Nat → Nat × QS → Nat × QS
  | 0, x => x
  | n + 1, x => qIter tx len n (qStepAll tx len x)
def cpL (q : QS) : Nat → Nat → OS → OS
  | 0, _, o => o
  | n + 1, i, o => cpL q n (i + 1) (o.1, o.2.1, o.2.2.1, o.2.2.2.1, o.2.2.2.2.1, o.2.2.2.2.2.1, o.2.2.2.2.2.2.1, upd o.2.2.2.2.2.2.2.1 i (q.2.2.2.1 i), upd o.2.2.2.2.2.2.2.2.1 i (q.2.2.2.2.1 i), o.2.2.2.2.2.2.2.2.2)
def qDone (q : QS) (o : OS) : OS := (o.1, o.2.1, o.2.2.1, o.2.2.2.1, o.2.2.2.2.1, o.2.2.2.2.2.1, o.2.2.2.2.2.2.1, o.2.2.2.2.2.2.2.1, o.2.2.2.2.2.2.2.2.1, q.2.2.2.2.2.1, q.2.2.2.2.2.2.1, true, o.2.2.2.2.2.2.2.2.2.2.2.2)
def qComp (N : Nat) (o : OS) (q : QS) : Int32 × OS × QS :=
  if 0 < (qIter o.2.1 o.2.2.1 N (0, qInit q)).2.1 then (0, (1, o.2), (qIter o.2.1 o.2.2.1 N (0, qInit q)).2)
  else (nI (qIter o.2.1 o.2.2.1 N (0, qInit q)).2.2.2.2.2.2.2.2.2.2.2.2.2.2.2.2.2.2.2, qDone (qIter o.2.1 o.2.2.1 N (0, qInit q)).2 (cpL (qIter o.2.1 o.2.2.1 N (0, qInit q)).2 (qIter o.2.1 o.2.2.1 N (0, qInit q)).2.2.2.2.2.2.1 0 (0, o.2)), (qIter o.2.1 o.2.2.1 N (0, qInit q)).2)

set_option maxHeartbeats 4000000 in
set_option maxRecDepth 100000 in
theorem c_compileN {l : Launch} {D : va_G} {a : Nat → Nat} {cI cZ : ClassId} (o : OS) (q : QS)  (hL : o.2.2.1 ≤ 480) (N : Nat) (hgo : qRuns o.2.1 o.2.2.1 N (0, qInit q)) : Mi l yX4_compile wsX4_compile 4 D [(cI, .int), (cZ, .boolean)] [.ref (a 0)] (wN a cI cZ o q) ((qComp N o q).1) (wN a cI cZ ((qComp N o q).2.1) ((qComp N o q).2.2)) := by
  refine Mi.of (cc := cX4_compile) (maxL := 3) (by decide) rfl (Nat.le_of_ble_eq_true rfl) ?_
  intro p e s m below meth c A C hr hA
  have in4 : ∀ w ∈ wsX40, w ∈ wsX4_compile := by decide +kernel
  show Z p l e (rmN _) s m _ below meth c _ D A _ _ [(0, .ref (a 0))] 0 []
  refine Z.aload_n C dX4_compile_0 0 rfl rfl ?_
  refine Z.iconst C (v := (nI 0)) dX4_compile_1 (by decide) ?_
  refine Z.put C in4 0 rfl rfl 3 (by decide) tyX4 tyX4_ok nmX4 (by decide +kernel) rfl rfl rfl rfl (Nat.le_of_ble_eq_true rfl) dX4_compile_2 (w' := (wN a cI cZ o (0, q.2))) rfl ?_
  refine Z.aload_n C dX4_compile_5 0 rfl rfl ?_
  refine Z.iconst C (v := (nI 0)) dX4_compile_6 (by decide) ?_
  refine Z.put C in4 0 rfl rfl 28 (by decide) tyX4 tyX4_ok nmX4 (by decide +kernel) rfl rfl rfl rfl (Nat.le_of_ble_eq_true rfl) dX4_compile_7 (w' := (wN a cI cZ o (0, 0, q.2.2))) rfl ?_
  refine Z.aload_n C dX4_compile_10 0 rfl rfl ?_
  refine Z.iconst C (v := (nI 0)) dX4_compile_11 (by decide) ?_
  refine Z.put C in4 0 rfl rfl 32 (by decide) tyX4 tyX4_ok nmX4 (by decide +kernel) rfl rfl rfl rfl (Nat.le_of_ble_eq_true rfl) dX4_compile_12 (w' := (wN a cI cZ o (0, 0, q.2.2.1, q.2.2.2.1, q.2.2.2.2.1, q.2.2.2.2.2.1, q.2.2.2.2.2.2.1, q.2.2.2.2.2.2.2.1, q.2.2.2.2.2.2.2.2.1, q.2.2.2.2.2.2.2.2.2.1, q.2.2.2.2.2.2.2.2.2.2.1, q.2.2.2.2.2.2.2.2.2.2.2.1, q.2.2.2.2.2.2.2.2.2.2.2.2.1, q.2.2.2.2.2.2.2.2.2.2.2.2.2.1, q.2.2.2.2.2.2.2.2.2.2.2.2.2.2.1, q.2.2.2.2.2.2.2.2.2.2.2.2.2.2.2.1, q.2.2.2.2.2.2.2.2.2.2.2.2.2.2.2.2.1, q.2.2.2.2.2.2.2.2.2.2.2.2.2.2.2.2.2.1, 0))) rfl ?_
  refine Z.aload_n C dX4_compile_15 0 rfl rfl ?_
  refine Z.iconst C (v := (nI 0)) dX4_compile_16 (by decide) ?_
  refine Z.put C in4 0 rfl rfl 10 (by decide) tyX4 tyX4_ok nmX4 (by decide +kernel) rfl rfl rfl rfl (Nat.le_of_ble_eq_true rfl) dX4_compile_17 (w' := (wN a cI cZ o (0, 0, q.2.2.1, q.2.2.2.1, q.2.2.2.2.1, 0, q.2.2.2.2.2.2.1, q.2.2.2.2.2.2.2.1, q.2.2.2.2.2.2.2.2.1, q.2.2.2.2.2.2.2.2.2.1, q.2.2.2.2.2.2.2.2.2.2.1, q.2.2.2.2.2.2.2.2.2.2.2.1, q.2.2.2.2.2.2.2.2.2.2.2.2.1, q.2.2.2.2.2.2.2.2.2.2.2.2.2.1, q.2.2.2.2.2.2.2.2.2.2.2.2.2.2.1, q.2.2.2.2.2.2.2.2.2.2.2.2.2.2.2.1, q.2.2.2.2.2.2.2.2.2.2.2.2.2.2.2.2.1, q.2.2.2.2.2.2.2.2.2.2.2.2.2.2.2.2.2.1, 0))) rfl ?_
  refine Z.aload_n C dX4_compile_20 0 rfl rfl ?_
  refine Z.iconst C (v := (nI 0)) dX4_compile_21 (by decide) ?_
  refine Z.put C in4 0 rfl rfl 11 (by decide) tyX4 tyX4_ok nmX4 (by decide +kernel) rfl rfl rfl rfl (Nat.le_of_ble_eq_true rfl) dX4_compile_22 (w' := (wN a cI cZ o (0, 0, q.2.2.1, q.2.2.2.1, q.2.2.2.2.1, 0, 0, q.2.2.2.2.2.2.2.1, q.2.2.2.2.2.2.2.2.1, q.2.2.2.2.2.2.2.2.2.1, q.2.2.2.2.2.2.2.2.2.2.1, q.2.2.2.2.2.2.2.2.2.2.2.1, q.2.2.2.2.2.2.2.2.2.2.2.2.1, q.2.2.2.2.2.2.2.2.2.2.2.2.2.1, q.2.2.2.2.2.2.2.2.2.2.2.2.2.2.1, q.2.2.2.2.2.2.2.2.2.2.2.2.2.2.2.1, q.2.2.2.2.2.2.2.2.2.2.2.2.2.2.2.2.1, q.2.2.2.2.2.2.2.2.2.2.2.2.2.2.2.2.2.1, 0))) rfl ?_
  refine Z.aload_n C dX4_compile_25 0 rfl rfl ?_
  refine Z.iconst C (v := (nI 0)) dX4_compile_26 (by decide) ?_
  refine Z.put C in4 0 rfl rfl 19 (by decide) tyX4 tyX4_ok nmX4 (by decide +kernel) rfl rfl rfl rfl (Nat.le_of_ble_eq_true rfl) dX4_compile_27 (w' := (wN a cI cZ o (0, 0, q.2.2.1, q.2.2.2.1, q.2.2.2.2.1, 0, 0, q.2.2.2.2.2.2.2.1, q.2.2.2.2.2.2.2.2.1, 0, q.2.2.2.2.2.2.2.2.2.2.1, q.2.2.2.2.2.2.2.2.2.2.2.1, q.2.2.2.2.2.2.2.2.2.2.2.2.1, q.2.2.2.2.2.2.2.2.2.2.2.2.2.1, q.2.2.2.2.2.2.2.2.2.2.2.2.2.2.1, q.2.2.2.2.2.2.2.2.2.2.2.2.2.2.2.1, q.2.2.2.2.2.2.2.2.2.2.2.2.2.2.2.2.1, q.2.2.2.2.2.2.2.2.2.2.2.2.2.2.2.2.2.1, 0))) rfl ?_
  refine Z.aload_n C dX4_compile_30 0 rfl rfl ?_
  refine Z.iconst C (v := (nI 0)) dX4_compile_31 (by decide) ?_
  refine Z.put C in4 0 rfl rfl 20 (by decide) tyX4 tyX4_ok nmX4 (by decide +kernel) rfl rfl rfl rfl (Nat.le_of_ble_eq_true rfl) dX4_compile_32 (w' := (wN a cI cZ o (0, 0, q.2.2.1, q.2.2.2.1, q.2.2.2.2.1, 0, 0, q.2.2.2.2.2.2.2.1, q.2.2.2.2.2.2.2.2.1, 0, (0 : Int32), q.2.2.2.2.2.2.2.2.2.2.2.1, q.2.2.2.2.2.2.2.2.2.2.2.2.1, q.2.2.2.2.2.2.2.2.2.2.2.2.2.1, q.2.2.2.2.2.2.2.2.2.2.2.2.2.2.1, q.2.2.2.2.2.2.2.2.2.2.2.2.2.2.2.1, q.2.2.2.2.2.2.2.2.2.2.2.2.2.2.2.2.1, q.2.2.2.2.2.2.2.2.2.2.2.2.2.2.2.2.2.1, 0))) rfl ?_
  refine Z.aload_n C dX4_compile_35 0 rfl rfl ?_
  refine Z.iconst C (v := (nI 0)) dX4_compile_36 (by decide) ?_
  refine Z.put C in4 0 rfl rfl 22 (by decide) tyX4 tyX4_ok nmX4 (by decide +kernel) rfl rfl rfl rfl (Nat.le_of_ble_eq_true rfl) dX4_compile_37 (w' := (wN a cI cZ o (0, 0, q.2.2.1, q.2.2.2.1, q.2.2.2.2.1, 0, 0, q.2.2.2.2.2.2.2.1, q.2.2.2.2.2.2.2.2.1, 0, (0 : Int32), q.2.2.2.2.2.2.2.2.2.2.2.1, 0, q.2.2.2.2.2.2.2.2.2.2.2.2.2.1, q.2.2.2.2.2.2.2.2.2.2.2.2.2.2.1, q.2.2.2.2.2.2.2.2.2.2.2.2.2.2.2.1, q.2.2.2.2.2.2.2.2.2.2.2.2.2.2.2.2.1, q.2.2.2.2.2.2.2.2.2.2.2.2.2.2.2.2.2.1, 0))) rfl ?_
  refine Z.aload_n C dX4_compile_40 0 rfl rfl ?_
  refine Z.iconst C (v := (nI 0)) dX4_compile_41 (by decide) ?_
  refine Z.put C in4 0 rfl rfl 27 (by decide) tyX4 tyX4_ok nmX4 (by decide +kernel) rfl rfl rfl rfl (Nat.le_of_ble_eq_true rfl) dX4_compile_42 (w' := (wN a cI cZ o (0, 0, q.2.2.1, q.2.2.2.1, q.2.2.2.2.1, 0, 0, q.2.2.2.2.2.2.2.1, q.2.2.2.2.2.2.2.2.1, 0, (0 : Int32), q.2.2.2.2.2.2.2.2.2.2.2.1, 0, q.2.2.2.2.2.2.2.2.2.2.2.2.2.1, q.2.2.2.2.2.2.2.2.2.2.2.2.2.2.1, q.2.2.2.2.2.2.2.2.2.2.2.2.2.2.2.1, q.2.2.2.2.2.2.2.2.2.2.2.2.2.2.2.2.1, 0, 0))) rfl ?_
  refine Z.aload_n C dX4_compile_45 0 rfl rfl ?_
  refine Z.get C in4 0 rfl rfl 26 (by decide) (by decide +kernel) rfl rfl dX4_compile_46 ?_
  refine Z.iconst C (v := (nI 0)) dX4_compile_49 (by decide) ?_
  refine Z.iconst C (v := (nI 1)) dX4_compile_50 (by decide) ?_
  refine Z.iast C 15 0 rfl rfl 0 rfl (by omega) (by decide) dX4_compile_51 (v := (1 : Int32)) rfl (w' := (wN a cI cZ o (0, 0, q.2.2.1, q.2.2.2.1, q.2.2.2.2.1, 0, 0, q.2.2.2.2.2.2.2.1, q.2.2.2.2.2.2.2.2.1, 0, (0 : Int32), q.2.2.2.2.2.2.2.2.2.2.2.1, 0, q.2.2.2.2.2.2.2.2.2.2.2.2.2.1, q.2.2.2.2.2.2.2.2.2.2.2.2.2.2.1, q.2.2.2.2.2.2.2.2.2.2.2.2.2.2.2.1, (upd q.2.2.2.2.2.2.2.2.2.2.2.2.2.2.2.2.1 0 (1 : Int32)), 0, 0))) rfl ?_
  refine Z.iconst C (v := (nI 0)) dX4_compile_52 (by decide) ?_
  refine Z.istore_n C (lv' := [(1, .int (nI 0)), (0, .ref (a 0))]) dX4_compile_53 rfl (by decide) rfl ?_
  have key54 : ∀ (n : Nat) (sq : Nat) (q2 : QS), qRuns o.2.1 o.2.2.1 n (sq, q2) → qIter o.2.1 o.2.2.1 N (0, qInit q) = qIter o.2.1 o.2.2.1 n (sq, q2) → Z p l e (rmN 4) s m ([.ref (a 0)] : List Value).toArray below meth c 3 D A (QI below D [(cI, .int), (cZ, .boolean)] [.ref (a 0)] (wN a cI cZ o q) ((qComp N o q).1) (wN a cI cZ ((qComp N o q).2.1) ((qComp N o q).2.2)) s) (wN a cI cZ o q2) [(1, .int (nI sq)), (0, .ref (a 0))] 54 [] := by
    intro n
    induction n with
    | zero =>
      intro sq q2 hR hm54
      have hz := (show (sq ≤ 2 ∧ q2.1 < 1000 ∧ q2.2.1 ≤ 490 ∧ q2.2.2.2.2.2.2.2.2.2.2.2.2.2.2.2.2.2.1 ≤ 8) from by first | exact ⟨hR.2.1, hR.2.2.1, hR.2.2.2.1, hR.2.2.2.2.1⟩ | exact ⟨hR.2.1.1, hR.2.1.2.1, Nat.le_trans hR.2.1.2.2.1 (by decide), hR.2.1.2.2.2.2.2.2.1⟩)
      obtain ⟨hz1, hz2, hz3, hz4⟩ := hz
      refine Z.aload_n C dX4_compile_54 1 rfl rfl ?_
      refine Z.get C in4 0 rfl rfl 3 (by decide) (by decide +kernel) rfl rfl dX4_compile_55 ?_
      refine Z.if_ne C 114 dX4_compile_58 (by decide) (fun c1 => ?_) (fun c1 => ?_)
      · skip
        replace c1 : ¬ q2.1 = 0 := mt (nI_eq (by omega) (by omega)).mpr c1
        have hds : q2.2.2.2.2.2.1 ≤ 1000 := hR.2.2.2.2.2
        refine Z.aload_n C dX4_compile_114 1 rfl rfl ?_
        refine Z.aload_n C dX4_compile_115 1 rfl rfl ?_
        refine Z.get C in4 0 rfl rfl 3 (by decide) (by decide +kernel) rfl rfl dX4_compile_116 ?_
        refine Z.if_le C 126 dX4_compile_119 (by decide) (fun c2 => ?_) (fun c2 => ?_)
        · skip
          replace c2 : ¬ 0 < q2.1 := Nat.not_lt.mpr ((nI_leI (by omega) (by omega)).mp c2)
          refine Z.iconst C (v := (nI 0)) dX4_compile_126 (by decide) ?_
          refine Z.put C in4 0 rfl rfl 0 (by decide) tyX4 tyX4_ok nmX4 (by decide +kernel) rfl rfl rfl rfl (Nat.le_of_ble_eq_true rfl) dX4_compile_127 (w' := (wN a cI cZ (0, o.2) q2)) rfl ?_
          refine Z.aload_n C dX4_compile_130 1 rfl rfl ?_
          refine Z.get C in4 0 rfl rfl 0 (by decide) (by decide +kernel) rfl rfl dX4_compile_131 ?_
          refine Z.if_le C 139 dX4_compile_134 (by decide) (fun c3 => ?_) (fun c3 => ?_)
          · skip
            replace c3 : ¬ 0 < 0 := Nat.not_lt.mpr ((nI_leI (by omega) (by omega)).mp c3)
            refine Z.iconst C (v := (nI 0)) dX4_compile_139 (by decide) ?_
            refine Z.istore_n C (lv' := [(2, .int (nI 0)), (1, .int (nI sq)), (0, .ref (a 0))]) dX4_compile_140 rfl (by decide) rfl ?_
            have key141 : ∀ (n : Nat) (i : Nat) (o3 : OS), i + n = q2.2.2.2.2.2.1 → qComp N o q = (nI q2.2.2.2.2.2.2.2.2.2.2.2.2.2.2.2.2.2.2, qDone q2 (cpL q2 n i o3), q2) → Z p l e (rmN 4) s m ([.ref (a 0)] : List Value).toArray below meth c 3 D A (QI below D [(cI, .int), (cZ, .boolean)] [.ref (a 0)] (wN a cI cZ o q) ((qComp N o q).1) (wN a cI cZ ((qComp N o q).2.1) ((qComp N o q).2.2)) s) (wN a cI cZ o3 q2) [(2, .int (nI i)), (0, .ref (a 0))] 141 [] := by
              intro n
              induction n with
              | zero =>
                intro i o3 hn3 hm141
                refine Z.iload_n C dX4_compile_141 0 rfl rfl ?_
                refine Z.aload_n C dX4_compile_142 1 rfl rfl ?_
                refine Z.get C in4 0 rfl rfl 10 (by decide) (by decide +kernel) rfl rfl dX4_compile_143 ?_
                refine Z.icmp_ge C 179 dX4_compile_146 (by decide) (fun c4 => ?_) (fun c4 => ?_)
                · skip
                  replace c4 : ¬ i < q2.2.2.2.2.2.1 := Nat.not_lt.mpr ((nI_leI (by omega) (by omega)).mp c4)
                  refine Z.aload_n C dX4_compile_179 1 rfl rfl ?_
                  refine Z.aload_n C dX4_compile_180 1 rfl rfl ?_
                  refine Z.get C in4 0 rfl rfl 10 (by decide) (by decide +kernel) rfl rfl dX4_compile_181 ?_
                  refine Z.put C in4 0 rfl rfl 14 (by decide) tyX4 tyX4_ok nmX4 (by decide +kernel) rfl rfl rfl rfl (Nat.le_of_ble_eq_true rfl) dX4_compile_184 (w' := (wN a cI cZ (o3.1, o3.2.1, o3.2.2.1, o3.2.2.2.1, o3.2.2.2.2.1, o3.2.2.2.2.2.1, o3.2.2.2.2.2.2.1, o3.2.2.2.2.2.2.2.1, o3.2.2.2.2.2.2.2.2.1, q2.2.2.2.2.2.1, o3.2.2.2.2.2.2.2.2.2.2) q2)) rfl ?_
                  refine Z.aload_n C dX4_compile_187 1 rfl rfl ?_
                  refine Z.aload_n C dX4_compile_188 1 rfl rfl ?_
                  refine Z.get C in4 0 rfl rfl 11 (by decide) (by decide +kernel) rfl rfl dX4_compile_189 ?_
                  refine Z.put C in4 0 rfl rfl 15 (by decide) tyX4 tyX4_ok nmX4 (by decide +kernel) rfl rfl rfl rfl (Nat.le_of_ble_eq_true rfl) dX4_compile_192 (w' := (wN a cI cZ (o3.1, o3.2.1, o3.2.2.1, o3.2.2.2.1, o3.2.2.2.2.1, o3.2.2.2.2.2.1, o3.2.2.2.2.2.2.1, o3.2.2.2.2.2.2.2.1, o3.2.2.2.2.2.2.2.2.1, q2.2.2.2.2.2.1, q2.2.2.2.2.2.2.1, o3.2.2.2.2.2.2.2.2.2.2.2) q2)) rfl ?_
                  refine Z.aload_n C dX4_compile_195 1 rfl rfl ?_
                  refine Z.iconst C (v := (nI 1)) dX4_compile_196 (by decide) ?_
                  refine Z.put C in4 0 rfl rfl 16 (by decide) tyX4 tyX4_ok nmX4 (by decide +kernel) rfl rfl (by decide) (by decide) (Nat.le_of_ble_eq_true rfl) dX4_compile_197 (w' := (wN a cI cZ (o3.1, o3.2.1, o3.2.2.1, o3.2.2.2.1, o3.2.2.2.2.1, o3.2.2.2.2.2.1, o3.2.2.2.2.2.2.1, o3.2.2.2.2.2.2.2.1, o3.2.2.2.2.2.2.2.2.1, q2.2.2.2.2.2.1, q2.2.2.2.2.2.2.1, true, o3.2.2.2.2.2.2.2.2.2.2.2.2) q2)) rfl ?_
                  refine Z.aload_n C dX4_compile_200 1 rfl rfl ?_
                  refine Z.get C in4 0 rfl rfl 32 (by decide) (by decide +kernel) rfl rfl dX4_compile_201 ?_
                  refine Z.iret C hr hA dX4_compile_204 ?_ ?_
                  · (rw [hm141]; try rfl)
                  · (refine congr (congrArg (wN a cI cZ) ?_) ?_ <;> (rw [hm141]; try rfl))
                · skip
                  replace c4 : i < q2.2.2.2.2.2.1 := Nat.not_le.mp (mt (nI_leI (by omega) (by omega)).mpr c4)
                  exact absurd c4 (by omega)
              | succ n ih141 =>
                intro i o3 hn3 hm141
                refine Z.iload_n C dX4_compile_141 0 rfl rfl ?_
                refine Z.aload_n C dX4_compile_142 1 rfl rfl ?_
                refine Z.get C in4 0 rfl rfl 10 (by decide) (by decide +kernel) rfl rfl dX4_compile_143 ?_
                refine Z.icmp_ge C 179 dX4_compile_146 (by decide) (fun c5 => ?_) (fun c5 => ?_)
                · skip
                  replace c5 : ¬ i < q2.2.2.2.2.2.1 := Nat.not_lt.mpr ((nI_leI (by omega) (by omega)).mp c5)
                  exact absurd c5 (by omega)
                · skip
                  replace c5 : i < q2.2.2.2.2.2.1 := Nat.not_le.mp (mt (nI_leI (by omega) (by omega)).mpr c5)
                  refine Z.aload_n C dX4_compile_149 1 rfl rfl ?_
                  refine Z.get C in4 0 rfl rfl 12 (by decide) (by decide +kernel) rfl rfl dX4_compile_150 ?_
                  refine Z.iload_n C dX4_compile_153 0 rfl rfl ?_
                  refine Z.aload_n C dX4_compile_154 1 rfl rfl ?_
                  refine Z.get C in4 0 rfl rfl 8 (by decide) (by decide +kernel) rfl rfl dX4_compile_155 ?_
                  refine Z.iload_n C dX4_compile_158 0 rfl rfl ?_
                  refine Z.iald C 6 0 rfl rfl i rfl (by omega) (by decide) dX4_compile_159 (v := (q2.2.2.2.1 i)) rfl ?_
                  refine Z.iast C 8 0 rfl rfl i rfl (by omega) (by decide) dX4_compile_160 (v := (q2.2.2.2.1 i)) rfl (w' := (wN a cI cZ (o3.1, o3.2.1, o3.2.2.1, o3.2.2.2.1, o3.2.2.2.2.1, o3.2.2.2.2.2.1, o3.2.2.2.2.2.2.1, (upd o3.2.2.2.2.2.2.2.1 i (q2.2.2.2.1 i)), o3.2.2.2.2.2.2.2.2) q2)) rfl ?_
                  refine Z.aload_n C dX4_compile_161 1 rfl rfl ?_
                  refine Z.get C in4 0 rfl rfl 13 (by decide) (by decide +kernel) rfl rfl dX4_compile_162 ?_
                  refine Z.iload_n C dX4_compile_165 0 rfl rfl ?_
                  refine Z.aload_n C dX4_compile_166 1 rfl rfl ?_
                  refine Z.get C in4 0 rfl rfl 9 (by decide) (by decide +kernel) rfl rfl dX4_compile_167 ?_
                  refine Z.iload_n C dX4_compile_170 0 rfl rfl ?_
                  refine Z.iald C 7 0 rfl rfl i rfl (by omega) (by decide) dX4_compile_171 (v := (q2.2.2.2.2.1 i)) rfl ?_
                  refine Z.iast C 9 0 rfl rfl i rfl (by omega) (by decide) dX4_compile_172 (v := (q2.2.2.2.2.1 i)) rfl (w' := (wN a cI cZ (o3.1, o3.2.1, o3.2.2.1, o3.2.2.2.1, o3.2.2.2.2.1, o3.2.2.2.2.2.1, o3.2.2.2.2.2.2.1, (upd o3.2.2.2.2.2.2.2.1 i (q2.2.2.2.1 i)), (upd o3.2.2.2.2.2.2.2.2.1 i (q2.2.2.2.2.1 i)), o3.2.2.2.2.2.2.2.2.2) q2)) rfl ?_
                  refine Z.iinc C (v := (nI (i + 1))) (lv' := [(2, .int (nI (i + 1))), (0, .ref (a 0))]) dX4_compile_173 0 rfl (nI_add i 1) (by decide) rfl ?_
                  refine Z.goto C 141 dX4_compile_176 (by decide) ?_
                  refine Z.sub [0, 1] rfl ?_
                  exact ih141 (i + 1) (o3.1, o3.2.1, o3.2.2.1, o3.2.2.2.1, o3.2.2.2.2.1, o3.2.2.2.2.2.1, o3.2.2.2.2.2.2.1, (upd o3.2.2.2.2.2.2.2.1 i (q2.2.2.2.1 i)), (upd o3.2.2.2.2.2.2.2.2.1 i (q2.2.2.2.2.1 i)), o3.2.2.2.2.2.2.2.2.2) (by omega) (by rw [hm141]; rfl)
            refine Z.sub [0, 2] rfl ?_
            exact key141 q2.2.2.2.2.2.1 0 (0, o.2) (by omega) (by rw [qComp, hm54]; simp [qIter, (eq_false c1), (eq_false c2), (eq_false c3)])
          · skip
            replace c3 : 0 < 0 := Nat.not_le.mp (mt (nI_leI (by omega) (by omega)).mpr c3)
            exact absurd c3 (by decide)
        · skip
          replace c2 : 0 < q2.1 := Nat.not_le.mp (mt (nI_leI (by omega) (by omega)).mpr c2)
          refine Z.iconst C (v := (nI 1)) dX4_compile_122 (by decide) ?_
          refine Z.goto C 127 dX4_compile_123 (by decide) ?_
          refine Z.put C in4 0 rfl rfl 0 (by decide) tyX4 tyX4_ok nmX4 (by decide +kernel) rfl rfl rfl rfl (Nat.le_of_ble_eq_true rfl) dX4_compile_127 (w' := (wN a cI cZ (1, o.2) q2)) rfl ?_
          refine Z.aload_n C dX4_compile_130 1 rfl rfl ?_
          refine Z.get C in4 0 rfl rfl 0 (by decide) (by decide +kernel) rfl rfl dX4_compile_131 ?_
          refine Z.if_le C 139 dX4_compile_134 (by decide) (fun c6 => ?_) (fun c6 => ?_)
          · skip
            replace c6 : ¬ 0 < 1 := Nat.not_lt.mpr ((nI_leI (by omega) (by omega)).mp c6)
            exact absurd c6 (by decide)
          · skip
            replace c6 : 0 < 1 := Nat.not_le.mp (mt (nI_leI (by omega) (by omega)).mpr c6)
            refine Z.iconst C (v := (nI 0)) dX4_compile_137 (by decide) ?_
            refine Z.iret C hr hA dX4_compile_138 ?_ ?_
            · (rw [qComp, hm54]; simp [qIter, nI_0, (eq_false c1), (eq_true c2), (eq_true c6)])
            · (refine congr (congrArg (wN a cI cZ) ?_) ?_ <;> (rw [qComp, hm54]; simp [qIter, nI_0, (eq_false c1), (eq_true c2), (eq_true c6)]))
      · skip
        replace c1 : q2.1 = 0 := (nI_eq (by omega) (by omega)).mp c1
        refine Z.iload_n C dX4_compile_61 0 rfl rfl ?_
        refine Z.if_ne C 83 dX4_compile_62 (by decide) (fun c7 => ?_) (fun c7 => ?_)
        · skip
          replace c7 : ¬ sq = 0 := mt (nI_eq (by omega) (by omega)).mpr c7
          exact absurd (hR.1.resolve_left (fun h => h c1)) (fun h => c7 h.1)
        · skip
          replace c7 : sq = 0 := (nI_eq (by omega) (by omega)).mp c7
          refine Z.aload_n C dX4_compile_65 1 rfl rfl ?_
          refine Z.get C in4 0 rfl rfl 27 (by decide) (by decide +kernel) rfl rfl dX4_compile_66 ?_
          refine Z.if_ne C 83 dX4_compile_69 (by decide) (fun c8 => ?_) (fun c8 => ?_)
          · skip
            replace c8 : ¬ q2.2.2.2.2.2.2.2.2.2.2.2.2.2.2.2.2.2.1 = 0 := mt (nI_eq (by omega) (by omega)).mpr c8
            exact absurd (hR.1.resolve_left (fun h => h c1)) (fun h => c8 h.2.1)
          · skip
            replace c8 : q2.2.2.2.2.2.2.2.2.2.2.2.2.2.2.2.2.2.1 = 0 := (nI_eq (by omega) (by omega)).mp c8
            refine Z.aload_n C dX4_compile_72 1 rfl rfl ?_
            refine Z.get C in4 0 rfl rfl 28 (by decide) (by decide +kernel) rfl rfl dX4_compile_73 ?_
            refine Z.aload_n C dX4_compile_76 1 rfl rfl ?_
            refine Z.get C in4 0 rfl rfl 2 (by decide) (by decide +kernel) rfl rfl dX4_compile_77 ?_
            refine Z.icmp_ge C 114 dX4_compile_80 (by decide) (fun c9 => ?_) (fun c9 => ?_)
            · skip
              replace c9 : ¬ q2.2.1 < o.2.2.1 := Nat.not_lt.mpr ((nI_leI (by omega) (by omega)).mp c9)
              have hds : q2.2.2.2.2.2.1 ≤ 1000 := hR.2.2.2.2.2
              refine Z.aload_n C dX4_compile_114 1 rfl rfl ?_
              refine Z.aload_n C dX4_compile_115 1 rfl rfl ?_
              refine Z.get C in4 0 rfl rfl 3 (by decide) (by decide +kernel) rfl rfl dX4_compile_116 ?_
              refine Z.if_le C 126 dX4_compile_119 (by decide) (fun c10 => ?_) (fun c10 => ?_)
              · skip
                replace c10 : ¬ 0 < q2.1 := Nat.not_lt.mpr ((nI_leI (by omega) (by omega)).mp c10)
                refine Z.iconst C (v := (nI 0)) dX4_compile_126 (by decide) ?_
                refine Z.put C in4 0 rfl rfl 0 (by decide) tyX4 tyX4_ok nmX4 (by decide +kernel) rfl rfl rfl rfl (Nat.le_of_ble_eq_true rfl) dX4_compile_127 (w' := (wN a cI cZ (0, o.2) q2)) rfl ?_
                refine Z.aload_n C dX4_compile_130 1 rfl rfl ?_
                refine Z.get C in4 0 rfl rfl 0 (by decide) (by decide +kernel) rfl rfl dX4_compile_131 ?_
                refine Z.if_le C 139 dX4_compile_134 (by decide) (fun c11 => ?_) (fun c11 => ?_)
                · skip
                  replace c11 : ¬ 0 < 0 := Nat.not_lt.mpr ((nI_leI (by omega) (by omega)).mp c11)
                  refine Z.iconst C (v := (nI 0)) dX4_compile_139 (by decide) ?_
                  refine Z.istore_n C (lv' := [(2, .int (nI 0)), (1, .int (nI sq)), (0, .ref (a 0))]) dX4_compile_140 rfl (by decide) rfl ?_
                  have key141 : ∀ (n : Nat) (i : Nat) (o3 : OS), i + n = q2.2.2.2.2.2.1 → qComp N o q = (nI q2.2.2.2.2.2.2.2.2.2.2.2.2.2.2.2.2.2.2, qDone q2 (cpL q2 n i o3), q2) → Z p l e (rmN 4) s m ([.ref (a 0)] : List Value).toArray below meth c 3 D A (QI below D [(cI, .int), (cZ, .boolean)] [.ref (a 0)] (wN a cI cZ o q) ((qComp N o q).1) (wN a cI cZ ((qComp N o q).2.1) ((qComp N o q).2.2)) s) (wN a cI cZ o3 q2) [(2, .int (nI i)), (0, .ref (a 0))] 141 [] := by
                    intro n
                    induction n with
                    | zero =>
                      intro i o3 hn3 hm141
                      refine Z.iload_n C dX4_compile_141 0 rfl rfl ?_
                      refine Z.aload_n C dX4_compile_142 1 rfl rfl ?_
                      refine Z.get C in4 0 rfl rfl 10 (by decide) (by decide +kernel) rfl rfl dX4_compile_143 ?_
                      refine Z.icmp_ge C 179 dX4_compile_146 (by decide) (fun c12 => ?_) (fun c12 => ?_)
                      · skip
                        replace c12 : ¬ i < q2.2.2.2.2.2.1 := Nat.not_lt.mpr ((nI_leI (by omega) (by omega)).mp c12)
                        refine Z.aload_n C dX4_compile_179 1 rfl rfl ?_
                        refine Z.aload_n C dX4_compile_180 1 rfl rfl ?_
                        refine Z.get C in4 0 rfl rfl 10 (by decide) (by decide +kernel) rfl rfl dX4_compile_181 ?_
                        refine Z.put C in4 0 rfl rfl 14 (by decide) tyX4 tyX4_ok nmX4 (by decide +kernel) rfl rfl rfl rfl (Nat.le_of_ble_eq_true rfl) dX4_compile_184 (w' := (wN a cI cZ (o3.1, o3.2.1, o3.2.2.1, o3.2.2.2.1, o3.2.2.2.2.1, o3.2.2.2.2.2.1, o3.2.2.2.2.2.2.1, o3.2.2.2.2.2.2.2.1, o3.2.2.2.2.2.2.2.2.1, q2.2.2.2.2.2.1, o3.2.2.2.2.2.2.2.2.2.2) q2)) rfl ?_
                        refine Z.aload_n C dX4_compile_187 1 rfl rfl ?_
                        refine Z.aload_n C dX4_compile_188 1 rfl rfl ?_
                        refine Z.get C in4 0 rfl rfl 11 (by decide) (by decide +kernel) rfl rfl dX4_compile_189 ?_
                        refine Z.put C in4 0 rfl rfl 15 (by decide) tyX4 tyX4_ok nmX4 (by decide +kernel) rfl rfl rfl rfl (Nat.le_of_ble_eq_true rfl) dX4_compile_192 (w' := (wN a cI cZ (o3.1, o3.2.1, o3.2.2.1, o3.2.2.2.1, o3.2.2.2.2.1, o3.2.2.2.2.2.1, o3.2.2.2.2.2.2.1, o3.2.2.2.2.2.2.2.1, o3.2.2.2.2.2.2.2.2.1, q2.2.2.2.2.2.1, q2.2.2.2.2.2.2.1, o3.2.2.2.2.2.2.2.2.2.2.2) q2)) rfl ?_
                        refine Z.aload_n C dX4_compile_195 1 rfl rfl ?_
                        refine Z.iconst C (v := (nI 1)) dX4_compile_196 (by decide) ?_
                        refine Z.put C in4 0 rfl rfl 16 (by decide) tyX4 tyX4_ok nmX4 (by decide +kernel) rfl rfl (by decide) (by decide) (Nat.le_of_ble_eq_true rfl) dX4_compile_197 (w' := (wN a cI cZ (o3.1, o3.2.1, o3.2.2.1, o3.2.2.2.1, o3.2.2.2.2.1, o3.2.2.2.2.2.1, o3.2.2.2.2.2.2.1, o3.2.2.2.2.2.2.2.1, o3.2.2.2.2.2.2.2.2.1, q2.2.2.2.2.2.1, q2.2.2.2.2.2.2.1, true, o3.2.2.2.2.2.2.2.2.2.2.2.2) q2)) rfl ?_
                        refine Z.aload_n C dX4_compile_200 1 rfl rfl ?_
                        refine Z.get C in4 0 rfl rfl 32 (by decide) (by decide +kernel) rfl rfl dX4_compile_201 ?_
                        refine Z.iret C hr hA dX4_compile_204 ?_ ?_
                        · (rw [hm141]; try rfl)
                        · (refine congr (congrArg (wN a cI cZ) ?_) ?_ <;> (rw [hm141]; try rfl))
                      · skip
                        replace c12 : i < q2.2.2.2.2.2.1 := Nat.not_le.mp (mt (nI_leI (by omega) (by omega)).mpr c12)
                        exact absurd c12 (by omega)
                    | succ n ih141 =>
                      intro i o3 hn3 hm141
                      refine Z.iload_n C dX4_compile_141 0 rfl rfl ?_
                      refine Z.aload_n C dX4_compile_142 1 rfl rfl ?_
                      refine Z.get C in4 0 rfl rfl 10 (by decide) (by decide +kernel) rfl rfl dX4_compile_143 ?_
                      refine Z.icmp_ge C 179 dX4_compile_146 (by decide) (fun c13 => ?_) (fun c13 => ?_)
                      · skip
                        replace c13 : ¬ i < q2.2.2.2.2.2.1 := Nat.not_lt.mpr ((nI_leI (by omega) (by omega)).mp c13)
                        exact absurd c13 (by omega)
                      · skip
                        replace c13 : i < q2.2.2.2.2.2.1 := Nat.not_le.mp (mt (nI_leI (by omega) (by omega)).mpr c13)
                        refine Z.aload_n C dX4_compile_149 1 rfl rfl ?_
                        refine Z.get C in4 0 rfl rfl 12 (by decide) (by decide +kernel) rfl rfl dX4_compile_150 ?_
                        refine Z.iload_n C dX4_compile_153 0 rfl rfl ?_
                        refine Z.aload_n C dX4_compile_154 1 rfl rfl ?_
                        refine Z.get C in4 0 rfl rfl 8 (by decide) (by decide +kernel) rfl rfl dX4_compile_155 ?_
                        refine Z.iload_n C dX4_compile_158 0 rfl rfl ?_
                        refine Z.iald C 6 0 rfl rfl i rfl (by omega) (by decide) dX4_compile_159 (v := (q2.2.2.2.1 i)) rfl ?_
                        refine Z.iast C 8 0 rfl rfl i rfl (by omega) (by decide) dX4_compile_160 (v := (q2.2.2.2.1 i)) rfl (w' := (wN a cI cZ (o3.1, o3.2.1, o3.2.2.1, o3.2.2.2.1, o3.2.2.2.2.1, o3.2.2.2.2.2.1, o3.2.2.2.2.2.2.1, (upd o3.2.2.2.2.2.2.2.1 i (q2.2.2.2.1 i)), o3.2.2.2.2.2.2.2.2) q2)) rfl ?_
                        refine Z.aload_n C dX4_compile_161 1 rfl rfl ?_
                        refine Z.get C in4 0 rfl rfl 13 (by decide) (by decide +kernel) rfl rfl dX4_compile_162 ?_
                        refine Z.iload_n C dX4_compile_165 0 rfl rfl ?_
                        refine Z.aload_n C dX4_compile_166 1 rfl rfl ?_
                        refine Z.get C in4 0 rfl rfl 9 (by decide) (by decide +kernel) rfl rfl dX4_compile_167 ?_
                        refine Z.iload_n C dX4_compile_170 0 rfl rfl ?_
                        refine Z.iald C 7 0 rfl rfl i rfl (by omega) (by decide) dX4_compile_171 (v := (q2.2.2.2.2.1 i)) rfl ?_
                        refine Z.iast C 9 0 rfl rfl i rfl (by omega) (by decide) dX4_compile_172 (v := (q2.2.2.2.2.1 i)) rfl (w' := (wN a cI cZ (o3.1, o3.2.1, o3.2.2.1, o3.2.2.2.1, o3.2.2.2.2.1, o3.2.2.2.2.2.1, o3.2.2.2.2.2.2.1, (upd o3.2.2.2.2.2.2.2.1 i (q2.2.2.2.1 i)), (upd o3.2.2.2.2.2.2.2.2.1 i (q2.2.2.2.2.1 i)), o3.2.2.2.2.2.2.2.2.2) q2)) rfl ?_
                        refine Z.iinc C (v := (nI (i + 1))) (lv' := [(2, .int (nI (i + 1))), (0, .ref (a 0))]) dX4_compile_173 0 rfl (nI_add i 1) (by decide) rfl ?_
                        refine Z.goto C 141 dX4_compile_176 (by decide) ?_
                        refine Z.sub [0, 1] rfl ?_
                        exact ih141 (i + 1) (o3.1, o3.2.1, o3.2.2.1, o3.2.2.2.1, o3.2.2.2.2.1, o3.2.2.2.2.2.1, o3.2.2.2.2.2.2.1, (upd o3.2.2.2.2.2.2.2.1 i (q2.2.2.2.1 i)), (upd o3.2.2.2.2.2.2.2.2.1 i (q2.2.2.2.2.1 i)), o3.2.2.2.2.2.2.2.2.2) (by omega) (by rw [hm141]; rfl)
                  refine Z.sub [0, 2] rfl ?_
                  exact key141 q2.2.2.2.2.2.1 0 (0, o.2) (by omega) (by rw [qComp, hm54]; simp [qIter, (eq_true c1), (eq_true c7), (eq_true c8), (eq_false c9), (eq_false c10), (eq_false c11)])
                · skip
                  replace c11 : 0 < 0 := Nat.not_le.mp (mt (nI_leI (by omega) (by omega)).mpr c11)
                  exact absurd c11 (by decide)
              · skip
                replace c10 : 0 < q2.1 := Nat.not_le.mp (mt (nI_leI (by omega) (by omega)).mpr c10)
                refine Z.iconst C (v := (nI 1)) dX4_compile_122 (by decide) ?_
                refine Z.goto C 127 dX4_compile_123 (by decide) ?_
                refine Z.put C in4 0 rfl rfl 0 (by decide) tyX4 tyX4_ok nmX4 (by decide +kernel) rfl rfl rfl rfl (Nat.le_of_ble_eq_true rfl) dX4_compile_127 (w' := (wN a cI cZ (1, o.2) q2)) rfl ?_
                refine Z.aload_n C dX4_compile_130 1 rfl rfl ?_
                refine Z.get C in4 0 rfl rfl 0 (by decide) (by decide +kernel) rfl rfl dX4_compile_131 ?_
                refine Z.if_le C 139 dX4_compile_134 (by decide) (fun c14 => ?_) (fun c14 => ?_)
                · skip
                  replace c14 : ¬ 0 < 1 := Nat.not_lt.mpr ((nI_leI (by omega) (by omega)).mp c14)
                  exact absurd c14 (by decide)
                · skip
                  replace c14 : 0 < 1 := Nat.not_le.mp (mt (nI_leI (by omega) (by omega)).mpr c14)
                  refine Z.iconst C (v := (nI 0)) dX4_compile_137 (by decide) ?_
                  refine Z.iret C hr hA dX4_compile_138 ?_ ?_
                  · (rw [qComp, hm54]; simp [qIter, nI_0, (eq_true c1), (eq_true c7), (eq_true c8), (eq_false c9), (eq_true c10), (eq_true c14)])
                  · (refine congr (congrArg (wN a cI cZ) ?_) ?_ <;> (rw [qComp, hm54]; simp [qIter, nI_0, (eq_true c1), (eq_true c7), (eq_true c8), (eq_false c9), (eq_true c10), (eq_true c14)]))
            · skip
              replace c9 : q2.2.1 < o.2.2.1 := Nat.not_le.mp (mt (nI_leI (by omega) (by omega)).mpr c9)
              exact absurd (hR.1.resolve_left (fun h => h c1)) (fun h => absurd h.2.2 (Nat.not_le.mpr c9))
    | succ n ih54 =>
      intro sq q2 hR hm54
      have hz := (show (sq ≤ 2 ∧ q2.1 < 1000 ∧ q2.2.1 ≤ 490 ∧ q2.2.2.2.2.2.2.2.2.2.2.2.2.2.2.2.2.2.1 ≤ 8) from by first | exact ⟨hR.2.1, hR.2.2.1, hR.2.2.2.1, hR.2.2.2.2.1⟩ | exact ⟨hR.2.1.1, hR.2.1.2.1, Nat.le_trans hR.2.1.2.2.1 (by decide), hR.2.1.2.2.2.2.2.2.1⟩)
      obtain ⟨hz1, hz2, hz3, hz4⟩ := hz
      refine Z.aload_n C dX4_compile_54 1 rfl rfl ?_
      refine Z.get C in4 0 rfl rfl 3 (by decide) (by decide +kernel) rfl rfl dX4_compile_55 ?_
      refine Z.if_ne C 114 dX4_compile_58 (by decide) (fun c15 => ?_) (fun c15 => ?_)
      · skip
        replace c15 : ¬ q2.1 = 0 := mt (nI_eq (by omega) (by omega)).mpr c15
        exact absurd (Or.inl c15) hR.1
      · skip
        replace c15 : q2.1 = 0 := (nI_eq (by omega) (by omega)).mp c15
        refine Z.iload_n C dX4_compile_61 0 rfl rfl ?_
        refine Z.if_ne C 83 dX4_compile_62 (by decide) (fun c16 => ?_) (fun c16 => ?_)
        · skip
          replace c16 : ¬ sq = 0 := mt (nI_eq (by omega) (by omega)).mpr c16
          obtain ⟨hR1, ⟨g1, g2, g3, g4, g5, g6, g7, g8, g9⟩, hR3⟩ := hR
          dsimp only at g1 g2 g3 g4 g5 g6 g7
          refine Z.iload_n C dX4_compile_83 0 rfl rfl ?_
          refine Z.if_ne C 94 dX4_compile_84 (by decide) (fun c17 => ?_) (fun c17 => ?_)
          · skip
            replace c17 : ¬ sq = 0 := mt (nI_eq (by omega) (by omega)).mpr c17
            refine Z.iload_n C dX4_compile_94 0 rfl rfl ?_
            refine Z.iconst C (v := (nI 1)) dX4_compile_95 (by decide) ?_
            refine Z.icmp_ne C 106 dX4_compile_96 (by decide) (fun c18 => ?_) (fun c18 => ?_)
            · skip
              replace c18 : ¬ sq = 1 := mt (nI_eq (by omega) (by omega)).mpr c18
              have h9 := g9 (by show sq = 2; omega)
              refine Z.aload_n C dX4_compile_106 1 rfl rfl ?_
              refine Z.callVi C (nA := 0) (As := []) (st := []) (c_behindN o q2 (by omega) (by omega) (by omega) ⟨h9.1, by omega⟩ ⟨h9.2.1, by omega⟩ h9.2.2.1 (by omega) (by omega) h9.2.2.2) gX4_compile_X4_behind rfl (by decide +kernel) (rm_ok (by omega) (by decide)) 0 rfl rfl rfl (Nat.le_of_ble_eq_true rfl) rfl dX4_compile_107 ?_
              generalize e19 : qBehind o.2.1 o.2.2.1 q2 = x19
              refine Z.istore_n C (lv' := [(1, .int (nI x19.1)), (0, .ref (a 0))]) dX4_compile_110 rfl (by decide) rfl ?_
              refine Z.goto C 54 dX4_compile_111 (by decide) ?_
              refine Z.sub [0, 1] rfl ?_
              exact ih54 x19.1 x19.2 (by rw [show (x19.1, x19.2) = qStepAll o.2.1 o.2.2.1 (sq, q2) from by simp [qStepAll, (eq_false c17), (eq_false c18), e19]]; exact hR3) (by rw [hm54, qIter, show qStepAll o.2.1 o.2.2.1 (sq, q2) = (x19.1, x19.2) from by simp [qStepAll, (eq_false c17), (eq_false c18), e19]])
            · skip
              replace c18 : sq = 1 := (nI_eq (by omega) (by omega)).mp c18
              refine Z.aload_n C dX4_compile_99 1 rfl rfl ?_
              refine Z.callVi C (nA := 0) (As := []) (st := []) (c_factorN o q2 (by omega) (by omega) (by omega) (by omega) (by omega) (by omega)) gX4_compile_X4_factor rfl (by decide +kernel) (rm_ok (by omega) (by decide)) 0 rfl rfl rfl (Nat.le_of_ble_eq_true rfl) rfl dX4_compile_100 ?_
              generalize e20 : qFactor o.2.1 o.2.2.1 q2 = x20
              refine Z.goto C 110 dX4_compile_103 (by decide) ?_
              refine Z.istore_n C (lv' := [(1, .int (nI x20.1)), (0, .ref (a 0))]) dX4_compile_110 rfl (by decide) rfl ?_
              refine Z.goto C 54 dX4_compile_111 (by decide) ?_
              refine Z.sub [0, 1] rfl ?_
              exact ih54 x20.1 x20.2 (by rw [show (x20.1, x20.2) = qStepAll o.2.1 o.2.2.1 (sq, q2) from by simp [qStepAll, (eq_false c17), (eq_true c18), e20]]; exact hR3) (by rw [hm54, qIter, show qStepAll o.2.1 o.2.2.1 (sq, q2) = (x20.1, x20.2) from by simp [qStepAll, (eq_false c17), (eq_true c18), e20]])
          · skip
            replace c17 : sq = 0 := (nI_eq (by omega) (by omega)).mp c17
            refine Z.aload_n C dX4_compile_87 1 rfl rfl ?_
            refine Z.callVi C (nA := 0) (As := []) (st := []) (c_statementN o q2 (by omega) (by omega) (by omega) (by omega) (by omega) (by omega) (by omega) g8) gX4_compile_X4_statement rfl (by decide +kernel) (rm_ok (by omega) (by decide)) 0 rfl rfl rfl (Nat.le_of_ble_eq_true rfl) rfl dX4_compile_88 ?_
            generalize e21 : qStmt o.2.1 o.2.2.1 q2 = x21
            refine Z.goto C 110 dX4_compile_91 (by decide) ?_
            refine Z.istore_n C (lv' := [(1, .int (nI x21.1)), (0, .ref (a 0))]) dX4_compile_110 rfl (by decide) rfl ?_
            refine Z.goto C 54 dX4_compile_111 (by decide) ?_
            refine Z.sub [0, 1] rfl ?_
            exact ih54 x21.1 x21.2 (by rw [show (x21.1, x21.2) = qStepAll o.2.1 o.2.2.1 (sq, q2) from by simp [qStepAll, (eq_true c17), e21]]; exact hR3) (by rw [hm54, qIter, show qStepAll o.2.1 o.2.2.1 (sq, q2) = (x21.1, x21.2) from by simp [qStepAll, (eq_true c17), e21]])
        · skip
          replace c16 : sq = 0 := (nI_eq (by omega) (by omega)).mp c16
          refine Z.aload_n C dX4_compile_65 1 rfl rfl ?_
          refine Z.get C in4 0 rfl rfl 27 (by decide) (by decide +kernel) rfl rfl dX4_compile_66 ?_
          refine Z.if_ne C 83 dX4_compile_69 (by decide) (fun c22 => ?_) (fun c22 => ?_)
          · skip
            replace c22 : ¬ q2.2.2.2.2.2.2.2.2.2.2.2.2.2.2.2.2.2.1 = 0 := mt (nI_eq (by omega) (by omega)).mpr c22
            obtain ⟨hR1, ⟨g1, g2, g3, g4, g5, g6, g7, g8, g9⟩, hR3⟩ := hR
            dsimp only at g1 g2 g3 g4 g5 g6 g7
            refine Z.iload_n C dX4_compile_83 0 rfl rfl ?_
            refine Z.if_ne C 94 dX4_compile_84 (by decide) (fun c23 => ?_) (fun c23 => ?_)
            · skip
              replace c23 : ¬ sq = 0 := mt (nI_eq (by omega) (by omega)).mpr c23
              refine Z.iload_n C dX4_compile_94 0 rfl rfl ?_
              refine Z.iconst C (v := (nI 1)) dX4_compile_95 (by decide) ?_
              refine Z.icmp_ne C 106 dX4_compile_96 (by decide) (fun c24 => ?_) (fun c24 => ?_)
              · skip
                replace c24 : ¬ sq = 1 := mt (nI_eq (by omega) (by omega)).mpr c24
                have h9 := g9 (by show sq = 2; omega)
                refine Z.aload_n C dX4_compile_106 1 rfl rfl ?_
                refine Z.callVi C (nA := 0) (As := []) (st := []) (c_behindN o q2 (by omega) (by omega) (by omega) ⟨h9.1, by omega⟩ ⟨h9.2.1, by omega⟩ h9.2.2.1 (by omega) (by omega) h9.2.2.2) gX4_compile_X4_behind rfl (by decide +kernel) (rm_ok (by omega) (by decide)) 0 rfl rfl rfl (Nat.le_of_ble_eq_true rfl) rfl dX4_compile_107 ?_
                generalize e25 : qBehind o.2.1 o.2.2.1 q2 = x25
                refine Z.istore_n C (lv' := [(1, .int (nI x25.1)), (0, .ref (a 0))]) dX4_compile_110 rfl (by decide) rfl ?_
                refine Z.goto C 54 dX4_compile_111 (by decide) ?_
                refine Z.sub [0, 1] rfl ?_
                exact ih54 x25.1 x25.2 (by rw [show (x25.1, x25.2) = qStepAll o.2.1 o.2.2.1 (sq, q2) from by simp [qStepAll, (eq_false c23), (eq_false c24), e25]]; exact hR3) (by rw [hm54, qIter, show qStepAll o.2.1 o.2.2.1 (sq, q2) = (x25.1, x25.2) from by simp [qStepAll, (eq_false c23), (eq_false c24), e25]])
              · skip
                replace c24 : sq = 1 := (nI_eq (by omega) (by omega)).mp c24
                refine Z.aload_n C dX4_compile_99 1 rfl rfl ?_
                refine Z.callVi C (nA := 0) (As := []) (st := []) (c_factorN o q2 (by omega) (by omega) (by omega) (by omega) (by omega) (by omega)) gX4_compile_X4_factor rfl (by decide +kernel) (rm_ok (by omega) (by decide)) 0 rfl rfl rfl (Nat.le_of_ble_eq_true rfl) rfl dX4_compile_100 ?_
                generalize e26 : qFactor o.2.1 o.2.2.1 q2 = x26
                refine Z.goto C 110 dX4_compile_103 (by decide) ?_
                refine Z.istore_n C (lv' := [(1, .int (nI x26.1)), (0, .ref (a 0))]) dX4_compile_110 rfl (by decide) rfl ?_
                refine Z.goto C 54 dX4_compile_111 (by decide) ?_
                refine Z.sub [0, 1] rfl ?_
                exact ih54 x26.1 x26.2 (by rw [show (x26.1, x26.2) = qStepAll o.2.1 o.2.2.1 (sq, q2) from by simp [qStepAll, (eq_false c23), (eq_true c24), e26]]; exact hR3) (by rw [hm54, qIter, show qStepAll o.2.1 o.2.2.1 (sq, q2) = (x26.1, x26.2) from by simp [qStepAll, (eq_false c23), (eq_true c24), e26]])
            · skip
              replace c23 : sq = 0 := (nI_eq (by omega) (by omega)).mp c23
              refine Z.aload_n C dX4_compile_87 1 rfl rfl ?_
              refine Z.callVi C (nA := 0) (As := []) (st := []) (c_statementN o q2 (by omega) (by omega) (by omega) (by omega) (by omega) (by omega) (by omega) g8) gX4_compile_X4_statement rfl (by decide +kernel) (rm_ok (by omega) (by decide)) 0 rfl rfl rfl (Nat.le_of_ble_eq_true rfl) rfl dX4_compile_88 ?_
              generalize e27 : qStmt o.2.1 o.2.2.1 q2 = x27
              refine Z.goto C 110 dX4_compile_91 (by decide) ?_
              refine Z.istore_n C (lv' := [(1, .int (nI x27.1)), (0, .ref (a 0))]) dX4_compile_110 rfl (by decide) rfl ?_
              refine Z.goto C 54 dX4_compile_111 (by decide) ?_
              refine Z.sub [0, 1] rfl ?_
              exact ih54 x27.1 x27.2 (by rw [show (x27.1, x27.2) = qStepAll o.2.1 o.2.2.1 (sq, q2) from by simp [qStepAll, (eq_true c23), e27]]; exact hR3) (by rw [hm54, qIter, show qStepAll o.2.1 o.2.2.1 (sq, q2) = (x27.1, x27.2) from by simp [qStepAll, (eq_true c23), e27]])
          · skip
            replace c22 : q2.2.2.2.2.2.2.2.2.2.2.2.2.2.2.2.2.2.1 = 0 := (nI_eq (by omega) (by omega)).mp c22
            refine Z.aload_n C dX4_compile_72 1 rfl rfl ?_
            refine Z.get C in4 0 rfl rfl 28 (by decide) (by decide +kernel) rfl rfl dX4_compile_73 ?_
            refine Z.aload_n C dX4_compile_76 1 rfl rfl ?_
            refine Z.get C in4 0 rfl rfl 2 (by decide) (by decide +kernel) rfl rfl dX4_compile_77 ?_
            refine Z.icmp_ge C 114 dX4_compile_80 (by decide) (fun c28 => ?_) (fun c28 => ?_)
            · skip
              replace c28 : ¬ q2.2.1 < o.2.2.1 := Nat.not_lt.mpr ((nI_leI (by omega) (by omega)).mp c28)
              exact absurd (Or.inr ⟨c16, c22, Nat.not_lt.mp c28⟩) hR.1
            · skip
              replace c28 : q2.2.1 < o.2.2.1 := Nat.not_le.mp (mt (nI_leI (by omega) (by omega)).mpr c28)
              obtain ⟨hR1, ⟨g1, g2, g3, g4, g5, g6, g7, g8, g9⟩, hR3⟩ := hR
              dsimp only at g1 g2 g3 g4 g5 g6 g7
              refine Z.iload_n C dX4_compile_83 0 rfl rfl ?_
              refine Z.if_ne C 94 dX4_compile_84 (by decide) (fun c29 => ?_) (fun c29 => ?_)
              · skip
                replace c29 : ¬ sq = 0 := mt (nI_eq (by omega) (by omega)).mpr c29
                refine Z.iload_n C dX4_compile_94 0 rfl rfl ?_
                refine Z.iconst C (v := (nI 1)) dX4_compile_95 (by decide) ?_
                refine Z.icmp_ne C 106 dX4_compile_96 (by decide) (fun c30 => ?_) (fun c30 => ?_)
                · skip
                  replace c30 : ¬ sq = 1 := mt (nI_eq (by omega) (by omega)).mpr c30
                  have h9 := g9 (by show sq = 2; omega)
                  refine Z.aload_n C dX4_compile_106 1 rfl rfl ?_
                  refine Z.callVi C (nA := 0) (As := []) (st := []) (c_behindN o q2 (by omega) (by omega) (by omega) ⟨h9.1, by omega⟩ ⟨h9.2.1, by omega⟩ h9.2.2.1 (by omega) (by omega) h9.2.2.2) gX4_compile_X4_behind rfl (by decide +kernel) (rm_ok (by omega) (by decide)) 0 rfl rfl rfl (Nat.le_of_ble_eq_true rfl) rfl dX4_compile_107 ?_
                  generalize e31 : qBehind o.2.1 o.2.2.1 q2 = x31
                  refine Z.istore_n C (lv' := [(1, .int (nI x31.1)), (0, .ref (a 0))]) dX4_compile_110 rfl (by decide) rfl ?_
                  refine Z.goto C 54 dX4_compile_111 (by decide) ?_
                  refine Z.sub [0, 1] rfl ?_
                  exact ih54 x31.1 x31.2 (by rw [show (x31.1, x31.2) = qStepAll o.2.1 o.2.2.1 (sq, q2) from by simp [qStepAll, (eq_false c29), (eq_false c30), e31]]; exact hR3) (by rw [hm54, qIter, show qStepAll o.2.1 o.2.2.1 (sq, q2) = (x31.1, x31.2) from by simp [qStepAll, (eq_false c29), (eq_false c30), e31]])
                · skip
                  replace c30 : sq = 1 := (nI_eq (by omega) (by omega)).mp c30
                  refine Z.aload_n C dX4_compile_99 1 rfl rfl ?_
                  refine Z.callVi C (nA := 0) (As := []) (st := []) (c_factorN o q2 (by omega) (by omega) (by omega) (by omega) (by omega) (by omega)) gX4_compile_X4_factor rfl (by decide +kernel) (rm_ok (by omega) (by decide)) 0 rfl rfl rfl (Nat.le_of_ble_eq_true rfl) rfl dX4_compile_100 ?_
                  generalize e32 : qFactor o.2.1 o.2.2.1 q2 = x32
                  refine Z.goto C 110 dX4_compile_103 (by decide) ?_
                  refine Z.istore_n C (lv' := [(1, .int (nI x32.1)), (0, .ref (a 0))]) dX4_compile_110 rfl (by decide) rfl ?_
                  refine Z.goto C 54 dX4_compile_111 (by decide) ?_
                  refine Z.sub [0, 1] rfl ?_
                  exact ih54 x32.1 x32.2 (by rw [show (x32.1, x32.2) = qStepAll o.2.1 o.2.2.1 (sq, q2) from by simp [qStepAll, (eq_false c29), (eq_true c30), e32]]; exact hR3) (by rw [hm54, qIter, show qStepAll o.2.1 o.2.2.1 (sq, q2) = (x32.1, x32.2) from by simp [qStepAll, (eq_false c29), (eq_true c30), e32]])
              · skip
                replace c29 : sq = 0 := (nI_eq (by omega) (by omega)).mp c29
                refine Z.aload_n C dX4_compile_87 1 rfl rfl ?_
                refine Z.callVi C (nA := 0) (As := []) (st := []) (c_statementN o q2 (by omega) (by omega) (by omega) (by omega) (by omega) (by omega) (by omega) g8) gX4_compile_X4_statement rfl (by decide +kernel) (rm_ok (by omega) (by decide)) 0 rfl rfl rfl (Nat.le_of_ble_eq_true rfl) rfl dX4_compile_88 ?_
                generalize e33 : qStmt o.2.1 o.2.2.1 q2 = x33
                refine Z.goto C 110 dX4_compile_91 (by decide) ?_
                refine Z.istore_n C (lv' := [(1, .int (nI x33.1)), (0, .ref (a 0))]) dX4_compile_110 rfl (by decide) rfl ?_
                refine Z.goto C 54 dX4_compile_111 (by decide) ?_
                refine Z.sub [0, 1] rfl ?_
                exact ih54 x33.1 x33.2 (by rw [show (x33.1, x33.2) = qStepAll o.2.1 o.2.2.1 (sq, q2) from by simp [qStepAll, (eq_true c29), e33]]; exact hR3) (by rw [hm54, qIter, show qStepAll o.2.1 o.2.2.1 (sq, q2) = (x33.1, x33.2) from by simp [qStepAll, (eq_true c29), e33]])
  refine Z.sub [0, 1] rfl ?_
  exact key54 N 0 (0, 0, q.2.2.1, q.2.2.2.1, q.2.2.2.2.1, 0, 0, q.2.2.2.2.2.2.2.1, q.2.2.2.2.2.2.2.2.1, 0, (0 : Int32), q.2.2.2.2.2.2.2.2.2.2.2.1, 0, q.2.2.2.2.2.2.2.2.2.2.2.2.2.1, q.2.2.2.2.2.2.2.2.2.2.2.2.2.2.1, q.2.2.2.2.2.2.2.2.2.2.2.2.2.2.2.1, (upd q.2.2.2.2.2.2.2.2.2.2.2.2.2.2.2.2.1 0 (1 : Int32)), 0, 0) hgo rfl
