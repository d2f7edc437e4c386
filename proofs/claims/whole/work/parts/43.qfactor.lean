def qNest (q : QS) : QS := (q.1, q.2.1 + 1, q.2.2.1, q.2.2.2.1, q.2.2.2.2.1, q.2.2.2.2.2.1, q.2.2.2.2.2.2.1, q.2.2.2.2.2.2.2.1, q.2.2.2.2.2.2.2.2.1, q.2.2.2.2.2.2.2.2.2.1, q.2.2.2.2.2.2.2.2.2.2.1 + 1, q.2.2.2.2.2.2.2.2.2.2.2)
def qWork (q : QS) : QS := (q.1, q.2.1, q.2.2.1, q.2.2.2.1, q.2.2.2.2.1, q.2.2.2.2.2.1, (if q.2.2.2.2.2.2.2.2.2.2.2.1 (q.2.2.2.2.2.2.2.2.2.2.2.2.1 - 1) = 0 then q.2.2.2.2.2.2.1 + 1 else q.2.2.2.2.2.2.1), q.2.2.2.2.2.2.2)
def wLoop : Nat → QS → QS
  | 0, q => q
  | n + 1, q => if q.2.2.2.2.2.2.2.1 (q.2.2.2.2.2.2.2.2.2.1 - 1) = 6 then wLoop n (qWork (qStep 3 0 (q.1, q.2.1, q.2.2.1, q.2.2.2.1, q.2.2.2.2.1, q.2.2.2.2.2.1, q.2.2.2.2.2.2.1, q.2.2.2.2.2.2.2.1, q.2.2.2.2.2.2.2.2.1, q.2.2.2.2.2.2.2.2.2.1 - 1, q.2.2.2.2.2.2.2.2.2.2.1 - 1, q.2.2.2.2.2.2.2.2.2.2.2))) else q
def qWhole (q : QS) : QS := wLoop q.2.2.2.2.2.2.2.2.2.1 q
def qFactor (tx : Nat → Int32) (len : Nat) (q : QS) : Nat × QS :=
  if hereN tx len q.2.1 = 40 ∨ hereN tx len q.2.1 = 126 ∨ hereN tx len q.2.1 = 64 then
    (1, if hereN tx len q.2.1 = 64 then qWant tx len 91 (qPush 5 (qNest (if q.2.2.2.2.2.2.2.2.2.2.1 = 12 then qWr q.2.1 q else q))) else if hereN tx len q.2.1 = 40 then qPush 4 (qNest (if q.2.2.2.2.2.2.2.2.2.2.1 = 12 then qWr q.2.1 q else q)) else qPush 6 (qNest (if q.2.2.2.2.2.2.2.2.2.2.1 = 12 then qWr q.2.1 q else q)))
  else if isLetF (hereN tx len q.2.1) = true then (2, qWhole (qSettle false (qStep 1 (hereN tx len q.2.1 - 97) (qAt1 q))))
  else if isDigF (hereN tx len q.2.1) = true ∨ hereN tx len q.2.1 = 36 then (2, qWhole (qSettle true (qStep 0 (nI (qNumber tx len 0 4294967295 q).2.2.1) (qNumber tx len 0 4294967295 q))))
  else (2, qWr q.2.1 q)

set_option maxHeartbeats 4000000 in
set_option maxRecDepth 100000 in
theorem c_wholeN {l : Launch} {D : va_G} {a : Nat → Nat} {cI cZ : ClassId} (o : OS) (q : QS)  (ho : q.2.2.2.2.2.2.2.2.2.1 ≤ 520) (hs : 1 ≤ q.2.2.2.2.2.2.2.2.2.2.2.2.1 ∧ q.2.2.2.2.2.2.2.2.2.2.2.2.1 ≤ 520) (hd : q.2.2.2.2.2.1 + q.2.2.2.2.2.2.2.2.2.1 ≤ 1000) : Mv l yX4_whole wsX4_whole 2 D [(cI, .int), (cZ, .boolean)] [.ref (a 0)] (wN a cI cZ o q) (wN a cI cZ o (qWhole q)) := by
  refine Mv.of (cc := cX4_whole) (maxL := 1) (by decide) rfl (Nat.le_of_ble_eq_true rfl) ?_
  intro p e s m below meth c A C hr hA
  have in4 : ∀ w ∈ wsX40, w ∈ wsX4_whole := by decide +kernel
  show Z p l e (rmN _) s m _ below meth c _ D A _ _ [(0, .ref (a 0))] 0 []
  have key0 : ∀ (n : Nat) (q2 : QS), q2.2.2.2.2.2.2.2.2.2.1 = n ∧ n ≤ 520 → 1 ≤ q2.2.2.2.2.2.2.2.2.2.2.2.2.1 ∧ q2.2.2.2.2.2.2.2.2.2.2.2.2.1 ≤ 520 → q2.2.2.2.2.2.1 + n ≤ 1000 → qWhole q = wLoop n q2 → Z p l e (rmN 2) s m ([.ref (a 0)] : List Value).toArray below meth c 1 D A (QV below D [(cI, .int), (cZ, .boolean)] [.ref (a 0)] (wN a cI cZ o q) (wN a cI cZ o (qWhole q)) s) (wN a cI cZ o q2) [(0, .ref (a 0))] 0 [] := by
    intro n
    induction n with
    | zero =>
      intro q2 ho hs hd hm0
      obtain ⟨ho, ho2⟩ := ho
      obtain ⟨hs1, hs2⟩ := hs
      refine Z.aload_n C dX4_whole_0 0 rfl rfl ?_
      refine Z.get C in4 0 rfl rfl 19 (by decide) (by decide +kernel) rfl rfl dX4_whole_1 ?_
      refine Z.if_le C 83 dX4_whole_4 (by decide) (fun c1 => ?_) (fun c1 => ?_)
      · skip
        replace c1 : ¬ 0 < q2.2.2.2.2.2.2.2.2.2.1 := Nat.not_lt.mpr ((nI_leI (by omega) (by omega)).mp c1)
        refine Z.vret C hr hA dX4_whole_83 ?_
        (refine congrArg (wN a cI cZ o) ?_; first | (rw [hm0]; simp [wLoop, (eq_false c1)]; done) | (rw [hm0]; rfl))
      · skip
        replace c1 : 0 < q2.2.2.2.2.2.2.2.2.2.1 := Nat.not_le.mp (mt (nI_leI (by omega) (by omega)).mpr c1)
        exact absurd c1 (by omega)
    | succ n ih0 =>
      intro q2 ho hs hd hm0
      obtain ⟨ho, ho2⟩ := ho
      obtain ⟨hs1, hs2⟩ := hs
      refine Z.aload_n C dX4_whole_0 0 rfl rfl ?_
      refine Z.get C in4 0 rfl rfl 19 (by decide) (by decide +kernel) rfl rfl dX4_whole_1 ?_
      refine Z.if_le C 83 dX4_whole_4 (by decide) (fun c2 => ?_) (fun c2 => ?_)
      · skip
        replace c2 : ¬ 0 < q2.2.2.2.2.2.2.2.2.2.1 := Nat.not_lt.mpr ((nI_leI (by omega) (by omega)).mp c2)
        exact absurd c2 (by omega)
      · skip
        replace c2 : 0 < q2.2.2.2.2.2.2.2.2.2.1 := Nat.not_le.mp (mt (nI_leI (by omega) (by omega)).mpr c2)
        refine Z.aload_n C dX4_whole_7 0 rfl rfl ?_
        refine Z.get C in4 0 rfl rfl 17 (by decide) (by decide +kernel) rfl rfl dX4_whole_8 ?_
        refine Z.aload_n C dX4_whole_11 0 rfl rfl ?_
        refine Z.get C in4 0 rfl rfl 19 (by decide) (by decide +kernel) rfl rfl dX4_whole_12 ?_
        refine Z.iconst C (v := (nI 1)) dX4_whole_15 (by decide) ?_
        refine Z.isub C (v := (nI (q2.2.2.2.2.2.2.2.2.2.1 - 1))) dX4_whole_16 (pk_sub (a := q2.2.2.2.2.2.2.2.2.2.1) (b := 1) (by omega)) ?_
        refine Z.iald C 10 0 rfl rfl (q2.2.2.2.2.2.2.2.2.2.1 - 1) rfl (by omega) (by decide) dX4_whole_17 (v := (q2.2.2.2.2.2.2.2.1 (q2.2.2.2.2.2.2.2.2.2.1 - 1))) rfl ?_
        refine Z.bipush C (v := (nI 6)) dX4_whole_18 (by decide) ?_
        refine Z.icmp_ne C 83 dX4_whole_20 (by decide) (fun c3 => ?_) (fun c3 => ?_)
        · skip
          replace c3 : ¬ (q2.2.2.2.2.2.2.2.1 (q2.2.2.2.2.2.2.2.2.2.1 - 1)) = (6 : Int32) := c3
          refine Z.vret C hr hA dX4_whole_83 ?_
          (refine congrArg (wN a cI cZ o) ?_; first | (rw [hm0]; simp [wLoop, (eq_true c2), (eq_false c3)]; done) | (rw [hm0]; rfl))
        · skip
          replace c3 : (q2.2.2.2.2.2.2.2.1 (q2.2.2.2.2.2.2.2.2.2.1 - 1)) = (6 : Int32) := c3
          refine Z.aload_n C dX4_whole_23 0 rfl rfl ?_
          refine Z.dup C dX4_whole_24 rfl ?_
          refine Z.get C in4 0 rfl rfl 19 (by decide) (by decide +kernel) rfl rfl dX4_whole_25 ?_
          refine Z.iconst C (v := (nI 1)) dX4_whole_28 (by decide) ?_
          refine Z.isub C (v := (nI (q2.2.2.2.2.2.2.2.2.2.1 - 1))) dX4_whole_29 (pk_sub (a := q2.2.2.2.2.2.2.2.2.2.1) (b := 1) (by omega)) ?_
          refine Z.put C in4 0 rfl rfl 19 (by decide) tyX4 tyX4_ok nmX4 (by decide +kernel) rfl rfl rfl rfl (Nat.le_of_ble_eq_true rfl) dX4_whole_30 (w' := (wN a cI cZ o (q2.1, q2.2.1, q2.2.2.1, q2.2.2.2.1, q2.2.2.2.2.1, q2.2.2.2.2.2.1, q2.2.2.2.2.2.2.1, q2.2.2.2.2.2.2.2.1, q2.2.2.2.2.2.2.2.2.1, q2.2.2.2.2.2.2.2.2.2.1 - 1, q2.2.2.2.2.2.2.2.2.2.2))) rfl ?_
          refine Z.aload_n C dX4_whole_33 0 rfl rfl ?_
          refine Z.dup C dX4_whole_34 rfl ?_
          refine Z.get C in4 0 rfl rfl 20 (by decide) (by decide +kernel) rfl rfl dX4_whole_35 ?_
          refine Z.iconst C (v := (nI 1)) dX4_whole_38 (by decide) ?_
          refine Z.isub C (v := (q2.2.2.2.2.2.2.2.2.2.2.1 - (1 : Int32))) dX4_whole_39 rfl ?_
          refine Z.put C in4 0 rfl rfl 20 (by decide) tyX4 tyX4_ok nmX4 (by decide +kernel) rfl rfl rfl rfl (Nat.le_of_ble_eq_true rfl) dX4_whole_40 (w' := (wN a cI cZ o (q2.1, q2.2.1, q2.2.2.1, q2.2.2.2.1, q2.2.2.2.2.1, q2.2.2.2.2.2.1, q2.2.2.2.2.2.2.1, q2.2.2.2.2.2.2.2.1, q2.2.2.2.2.2.2.2.2.1, q2.2.2.2.2.2.2.2.2.2.1 - 1, q2.2.2.2.2.2.2.2.2.2.2.1 - (1 : Int32), q2.2.2.2.2.2.2.2.2.2.2.2))) rfl ?_
          refine Z.aload_n C dX4_whole_43 0 rfl rfl ?_
          refine Z.iconst C (v := (nI 3)) dX4_whole_44 (by decide) ?_
          refine Z.iconst C (v := (nI 0)) dX4_whole_45 (by decide) ?_
          refine Z.callVv C (nA := 2) (As := [.int (3 : Int32), .int (0 : Int32)]) (st := []) (c_step o (q2.1, q2.2.1, q2.2.2.1, q2.2.2.2.1, q2.2.2.2.2.1, q2.2.2.2.2.2.1, q2.2.2.2.2.2.2.1, q2.2.2.2.2.2.2.2.1, q2.2.2.2.2.2.2.2.2.1, q2.2.2.2.2.2.2.2.2.2.1 - 1, q2.2.2.2.2.2.2.2.2.2.2.1 - (1 : Int32), q2.2.2.2.2.2.2.2.2.2.2.2) (3 : Int32) (0 : Int32)  (by first | omega | (dsimp only; omega))) gX4_whole_X4_step rfl (by decide +kernel) (rm_ok (by omega) (by decide)) 0 rfl rfl rfl (Nat.le_of_ble_eq_true rfl) rfl dX4_whole_46 ?_
          refine Z.aload_n C dX4_whole_49 0 rfl rfl ?_
          refine Z.aload_n C dX4_whole_50 0 rfl rfl ?_
          refine Z.get C in4 0 rfl rfl 21 (by decide) (by decide +kernel) rfl rfl dX4_whole_51 ?_
          refine Z.aload_n C dX4_whole_54 0 rfl rfl ?_
          refine Z.get C in4 0 rfl rfl 22 (by decide) (by decide +kernel) rfl rfl dX4_whole_55 ?_
          refine Z.iconst C (v := (nI 1)) dX4_whole_58 (by decide) ?_
          refine Z.isub C (v := (nI (q2.2.2.2.2.2.2.2.2.2.2.2.2.1 - 1))) dX4_whole_59 (pk_sub (a := q2.2.2.2.2.2.2.2.2.2.2.2.2.1) (b := 1) (by omega)) ?_
          refine Z.zald C 12 1 rfl rfl (q2.2.2.2.2.2.2.2.2.2.2.2.2.1 - 1) rfl (by omega) (by decide) dX4_whole_60 (v := (q2.2.2.2.2.2.2.2.2.2.2.2.1 (q2.2.2.2.2.2.2.2.2.2.2.2.2.1 - 1))) rfl ?_
          refine Z.if_eq C 71 dX4_whole_61 (by decide) (fun c4 => ?_) (fun c4 => ?_)
          · skip
            replace c4 : (q2.2.2.2.2.2.2.2.2.2.2.2.1 (q2.2.2.2.2.2.2.2.2.2.2.2.2.1 - 1)) = (0 : Int32) := c4
            refine Z.aload_n C dX4_whole_71 0 rfl rfl ?_
            refine Z.get C in4 0 rfl rfl 11 (by decide) (by decide +kernel) rfl rfl dX4_whole_72 ?_
            refine Z.iconst C (v := (nI 1)) dX4_whole_75 (by decide) ?_
            refine Z.iadd C (v := (nI (q2.2.2.2.2.2.2.1 + 1))) dX4_whole_76 (nI_add q2.2.2.2.2.2.2.1 1) ?_
            refine Z.put C in4 0 rfl rfl 11 (by decide) tyX4 tyX4_ok nmX4 (by decide +kernel) rfl rfl rfl rfl (Nat.le_of_ble_eq_true rfl) dX4_whole_77 (w' := (wN a cI cZ o (q2.1, q2.2.1, q2.2.2.1, (upd q2.2.2.2.1 q2.2.2.2.2.2.1 (3 : Int32)), (upd q2.2.2.2.2.1 q2.2.2.2.2.2.1 (0 : Int32)), q2.2.2.2.2.2.1 + 1, q2.2.2.2.2.2.2.1 + 1, q2.2.2.2.2.2.2.2.1, q2.2.2.2.2.2.2.2.2.1, q2.2.2.2.2.2.2.2.2.2.1 - 1, q2.2.2.2.2.2.2.2.2.2.2.1 - (1 : Int32), q2.2.2.2.2.2.2.2.2.2.2.2))) rfl ?_
            refine Z.goto C 0 dX4_whole_80 (by decide) ?_
            refine Z.sub [0] rfl ?_
            exact ih0 (q2.1, q2.2.1, q2.2.2.1, (upd q2.2.2.2.1 q2.2.2.2.2.2.1 (3 : Int32)), (upd q2.2.2.2.2.1 q2.2.2.2.2.2.1 (0 : Int32)), q2.2.2.2.2.2.1 + 1, q2.2.2.2.2.2.2.1 + 1, q2.2.2.2.2.2.2.2.1, q2.2.2.2.2.2.2.2.2.1, q2.2.2.2.2.2.2.2.2.2.1 - 1, q2.2.2.2.2.2.2.2.2.2.2.1 - (1 : Int32), q2.2.2.2.2.2.2.2.2.2.2.2) ⟨by first | omega | (dsimp only; omega), by omega⟩ ⟨by first | omega | (dsimp only; omega), by first | omega | (dsimp only; omega)⟩ (by first | omega | (dsimp only; omega)) (by rw [hm0, wLoop]; simp [qStep, qAt1, qWr, qWant, qPush, qSettle, qBlock, qWork, qNest, (eq_true c2), (eq_true c3), (eq_true c4)])
          · skip
            replace c4 : ¬ (q2.2.2.2.2.2.2.2.2.2.2.2.1 (q2.2.2.2.2.2.2.2.2.2.2.2.2.1 - 1)) = (0 : Int32) := c4
            refine Z.aload_n C dX4_whole_64 0 rfl rfl ?_
            refine Z.get C in4 0 rfl rfl 11 (by decide) (by decide +kernel) rfl rfl dX4_whole_65 ?_
            refine Z.goto C 77 dX4_whole_68 (by decide) ?_
            refine Z.put C in4 0 rfl rfl 11 (by decide) tyX4 tyX4_ok nmX4 (by decide +kernel) rfl rfl rfl rfl (Nat.le_of_ble_eq_true rfl) dX4_whole_77 (w' := (wN a cI cZ o (q2.1, q2.2.1, q2.2.2.1, (upd q2.2.2.2.1 q2.2.2.2.2.2.1 (3 : Int32)), (upd q2.2.2.2.2.1 q2.2.2.2.2.2.1 (0 : Int32)), q2.2.2.2.2.2.1 + 1, q2.2.2.2.2.2.2.1, q2.2.2.2.2.2.2.2.1, q2.2.2.2.2.2.2.2.2.1, q2.2.2.2.2.2.2.2.2.2.1 - 1, q2.2.2.2.2.2.2.2.2.2.2.1 - (1 : Int32), q2.2.2.2.2.2.2.2.2.2.2.2))) rfl ?_
            refine Z.goto C 0 dX4_whole_80 (by decide) ?_
            refine Z.sub [0] rfl ?_
            exact ih0 (q2.1, q2.2.1, q2.2.2.1, (upd q2.2.2.2.1 q2.2.2.2.2.2.1 (3 : Int32)), (upd q2.2.2.2.2.1 q2.2.2.2.2.2.1 (0 : Int32)), q2.2.2.2.2.2.1 + 1, q2.2.2.2.2.2.2.1, q2.2.2.2.2.2.2.2.1, q2.2.2.2.2.2.2.2.2.1, q2.2.2.2.2.2.2.2.2.2.1 - 1, q2.2.2.2.2.2.2.2.2.2.2.1 - (1 : Int32), q2.2.2.2.2.2.2.2.2.2.2.2) ⟨by first | omega | (dsimp only; omega), by omega⟩ ⟨by first | omega | (dsimp only; omega), by first | omega | (dsimp only; omega)⟩ (by first | omega | (dsimp only; omega)) (by rw [hm0, wLoop]; simp [qStep, qAt1, qWr, qWant, qPush, qSettle, qBlock, qWork, qNest, (eq_true c2), (eq_true c3), (eq_false c4)])
  refine Z.sub [0] rfl ?_
  exact key0 q.2.2.2.2.2.2.2.2.2.1 q ⟨rfl, ho⟩ hs hd rfl
set_option maxHeartbeats 4000000 in
set_option maxRecDepth 100000 in
theorem c_factorN {l : Launch} {D : va_G} {a : Nat → Nat} {cI cZ : ClassId} (o : OS) (q : QS)  (hL : o.2.2.1 ≤ 480) (ha : q.2.1 ≤ 480) (hf : q.1 < 1000) (ho : q.2.2.2.2.2.2.2.2.2.1 + 2 ≤ 520) (hs : q.2.2.2.2.2.2.2.2.2.2.2.2.1 + 2 ≤ 520) (hd : q.2.2.2.2.2.1 + q.2.2.2.2.2.2.2.2.2.1 + 4 ≤ 1000) : Mi l yX4_factor wsX4_factor 3 D [(cI, .int), (cZ, .boolean)] [.ref (a 0)] (wN a cI cZ o q) (nI ((qFactor o.2.1 o.2.2.1 q).1)) (wN a cI cZ o ((qFactor o.2.1 o.2.2.1 q).2)) := by
  refine Mi.of (cc := cX4_factor) (maxL := 2) (by decide) rfl (Nat.le_of_ble_eq_true rfl) ?_
  intro p e s m below meth c A C hr hA
  have in4 : ∀ w ∈ wsX40, w ∈ wsX4_factor := by decide +kernel
  show Z p l e (rmN _) s m _ below meth c _ D A _ _ [(0, .ref (a 0))] 0 []
  have wr9 : ∀ f i : Nat, f < 1000 → i ≤ 490 → wrF f i < 1000 := fun f i h1 h2 => by unfold wrF; split <;> omega
  refine Z.aload_n C dX4_factor_0 0 rfl rfl ?_
  refine Z.callVi C (nA := 0) (As := []) (st := []) (c_hereN o q (by first | omega | (dsimp only; omega)) (by first | omega | (dsimp only; omega))) gX4_factor_X4_here rfl (by decide +kernel) (rm_ok (by omega) (by decide)) 0 rfl rfl rfl (Nat.le_of_ble_eq_true rfl) rfl dX4_factor_1 ?_
  refine Z.istore_n C (lv' := [(1, .int (hereN o.2.1 o.2.2.1 q.2.1)), (0, .ref (a 0))]) dX4_factor_4 rfl (by decide) rfl ?_
  refine Z.iload_n C dX4_factor_5 0 rfl rfl ?_
  refine Z.bipush C (v := (nI 40)) dX4_factor_6 (by decide) ?_
  refine Z.icmp_eq C 23 dX4_factor_8 (by decide) (fun c1 => ?_) (fun c1 => ?_)
  · skip
    replace c1 : (hereN o.2.1 o.2.2.1 q.2.1) = (40 : Int32) := c1
    refine Z.aload_n C dX4_factor_23 1 rfl rfl ?_
    refine Z.get C in4 0 rfl rfl 20 (by decide) (by decide +kernel) rfl rfl dX4_factor_24 ?_
    refine Z.bipush C (v := (nI 12)) dX4_factor_27 (by decide) ?_
    refine Z.icmp_ne C 40 dX4_factor_29 (by decide) (fun c2 => ?_) (fun c2 => ?_)
    · skip
      replace c2 : ¬ q.2.2.2.2.2.2.2.2.2.2.1 = (12 : Int32) := c2
      refine Z.aload_n C dX4_factor_40 1 rfl rfl ?_
      refine Z.dup C dX4_factor_41 rfl ?_
      refine Z.get C in4 0 rfl rfl 20 (by decide) (by decide +kernel) rfl rfl dX4_factor_42 ?_
      refine Z.iconst C (v := (nI 1)) dX4_factor_45 (by decide) ?_
      refine Z.iadd C (v := (q.2.2.2.2.2.2.2.2.2.2.1 + (1 : Int32))) dX4_factor_46 rfl ?_
      refine Z.put C in4 0 rfl rfl 20 (by decide) tyX4 tyX4_ok nmX4 (by decide +kernel) rfl rfl rfl rfl (Nat.le_of_ble_eq_true rfl) dX4_factor_47 (w' := (wN a cI cZ o (q.1, q.2.1, q.2.2.1, q.2.2.2.1, q.2.2.2.2.1, q.2.2.2.2.2.1, q.2.2.2.2.2.2.1, q.2.2.2.2.2.2.2.1, q.2.2.2.2.2.2.2.2.1, q.2.2.2.2.2.2.2.2.2.1, q.2.2.2.2.2.2.2.2.2.2.1 + (1 : Int32), q.2.2.2.2.2.2.2.2.2.2.2))) rfl ?_
      refine Z.aload_n C dX4_factor_50 1 rfl rfl ?_
      refine Z.dup C dX4_factor_51 rfl ?_
      refine Z.get C in4 0 rfl rfl 28 (by decide) (by decide +kernel) rfl rfl dX4_factor_52 ?_
      refine Z.iconst C (v := (nI 1)) dX4_factor_55 (by decide) ?_
      refine Z.iadd C (v := (nI (q.2.1 + 1))) dX4_factor_56 (nI_add q.2.1 1) ?_
      refine Z.put C in4 0 rfl rfl 28 (by decide) tyX4 tyX4_ok nmX4 (by decide +kernel) rfl rfl rfl rfl (Nat.le_of_ble_eq_true rfl) dX4_factor_57 (w' := (wN a cI cZ o (q.1, q.2.1 + 1, q.2.2.1, q.2.2.2.1, q.2.2.2.2.1, q.2.2.2.2.2.1, q.2.2.2.2.2.2.1, q.2.2.2.2.2.2.2.1, q.2.2.2.2.2.2.2.2.1, q.2.2.2.2.2.2.2.2.2.1, q.2.2.2.2.2.2.2.2.2.2.1 + (1 : Int32), q.2.2.2.2.2.2.2.2.2.2.2))) rfl ?_
      refine Z.aload_n C dX4_factor_60 1 rfl rfl ?_
      refine Z.iload_n C dX4_factor_61 0 rfl rfl ?_
      refine Z.bipush C (v := (nI 40)) dX4_factor_62 (by decide) ?_
      refine Z.icmp_ne C 71 dX4_factor_64 (by decide) (fun c3 => ?_) (fun c3 => ?_)
      · skip
        replace c3 : ¬ (hereN o.2.1 o.2.2.1 q.2.1) = (40 : Int32) := c3
        exact absurd c1 c3
      · skip
        replace c3 : (hereN o.2.1 o.2.2.1 q.2.1) = (40 : Int32) := c3
        refine Z.iconst C (v := (nI 4)) dX4_factor_67 (by decide) ?_
        refine Z.goto C 83 dX4_factor_68 (by decide) ?_
        refine Z.callVv C (nA := 1) (As := [.int (4 : Int32)]) (st := []) (c_pushN o (q.1, q.2.1 + 1, q.2.2.1, q.2.2.2.1, q.2.2.2.2.1, q.2.2.2.2.2.1, q.2.2.2.2.2.2.1, q.2.2.2.2.2.2.2.1, q.2.2.2.2.2.2.2.2.1, q.2.2.2.2.2.2.2.2.2.1, q.2.2.2.2.2.2.2.2.2.2.1 + (1 : Int32), q.2.2.2.2.2.2.2.2.2.2.2) (4 : Int32)  (by first | omega | (dsimp only; omega))) gX4_factor_X4_push rfl (by decide +kernel) (rm_ok (by omega) (by decide)) 0 rfl rfl rfl (Nat.le_of_ble_eq_true rfl) rfl dX4_factor_83 ?_
        refine Z.iload_n C dX4_factor_86 0 rfl rfl ?_
        refine Z.bipush C (v := (nI 64)) dX4_factor_87 (by decide) ?_
        refine Z.icmp_ne C 98 dX4_factor_89 (by decide) (fun c4 => ?_) (fun c4 => ?_)
        · skip
          replace c4 : ¬ (hereN o.2.1 o.2.2.1 q.2.1) = (64 : Int32) := c4
          refine Z.iconst C (v := (nI 1)) dX4_factor_98 (by decide) ?_
          refine Z.iret C hr hA dX4_factor_99 ?_ ?_
          · first | (simp [qFactor, qStep, qAt1, qWr, qWant, qPush, qSettle, qBlock, qWork, qNest, (eq_true c1), (eq_false c2), (eq_true c3), (eq_false c4)]; done) | (simp_all [qFactor, qStep, qAt1, qWr, qWant, qPush, qSettle, qBlock, qWork, qNest]; done)
          · (refine congrArg (wN a cI cZ o) ?_; first | (simp [qFactor, qStep, qAt1, qWr, qWant, qPush, qSettle, qBlock, qWork, qNest, (eq_true c1), (eq_false c2), (eq_true c3), (eq_false c4)]; done) | (simp_all [qFactor, qStep, qAt1, qWr, qWant, qPush, qSettle, qBlock, qWork, qNest]; done))
        · skip
          replace c4 : (hereN o.2.1 o.2.2.1 q.2.1) = (64 : Int32) := c4
          exact absurd (c1.symm.trans c4) (by decide)
    · skip
      replace c2 : q.2.2.2.2.2.2.2.2.2.2.1 = (12 : Int32) := c2
      refine Z.aload_n C dX4_factor_32 1 rfl rfl ?_
      refine Z.aload_n C dX4_factor_33 1 rfl rfl ?_
      refine Z.get C in4 0 rfl rfl 28 (by decide) (by decide +kernel) rfl rfl dX4_factor_34 ?_
      refine Z.callVv C (nA := 1) (As := [.int (nI q.2.1)]) (st := []) (c_wrong o q q.2.1  (by first | omega | (dsimp only; omega))) gX4_factor_X4_wrong rfl (by decide +kernel) (rm_ok (by omega) (by decide)) 0 rfl rfl rfl (Nat.le_of_ble_eq_true rfl) rfl dX4_factor_37 ?_
      have w5 : wrF q.1 q.2.1 < 1000 := wrF_b (by first | omega | (dsimp only; omega)) (by first | omega | (dsimp only; omega))
      refine Z.aload_n C dX4_factor_40 1 rfl rfl ?_
      refine Z.dup C dX4_factor_41 rfl ?_
      refine Z.get C in4 0 rfl rfl 20 (by decide) (by decide +kernel) rfl rfl dX4_factor_42 ?_
      refine Z.iconst C (v := (nI 1)) dX4_factor_45 (by decide) ?_
      refine Z.iadd C (v := (q.2.2.2.2.2.2.2.2.2.2.1 + (1 : Int32))) dX4_factor_46 rfl ?_
      refine Z.put C in4 0 rfl rfl 20 (by decide) tyX4 tyX4_ok nmX4 (by decide +kernel) rfl rfl rfl rfl (Nat.le_of_ble_eq_true rfl) dX4_factor_47 (w' := (wN a cI cZ o (wrF q.1 q.2.1, q.2.1, q.2.2.1, q.2.2.2.1, q.2.2.2.2.1, q.2.2.2.2.2.1, q.2.2.2.2.2.2.1, q.2.2.2.2.2.2.2.1, q.2.2.2.2.2.2.2.2.1, q.2.2.2.2.2.2.2.2.2.1, q.2.2.2.2.2.2.2.2.2.2.1 + (1 : Int32), q.2.2.2.2.2.2.2.2.2.2.2))) rfl ?_
      refine Z.aload_n C dX4_factor_50 1 rfl rfl ?_
      refine Z.dup C dX4_factor_51 rfl ?_
      refine Z.get C in4 0 rfl rfl 28 (by decide) (by decide +kernel) rfl rfl dX4_factor_52 ?_
      refine Z.iconst C (v := (nI 1)) dX4_factor_55 (by decide) ?_
      refine Z.iadd C (v := (nI (q.2.1 + 1))) dX4_factor_56 (nI_add q.2.1 1) ?_
      refine Z.put C in4 0 rfl rfl 28 (by decide) tyX4 tyX4_ok nmX4 (by decide +kernel) rfl rfl rfl rfl (Nat.le_of_ble_eq_true rfl) dX4_factor_57 (w' := (wN a cI cZ o (wrF q.1 q.2.1, q.2.1 + 1, q.2.2.1, q.2.2.2.1, q.2.2.2.2.1, q.2.2.2.2.2.1, q.2.2.2.2.2.2.1, q.2.2.2.2.2.2.2.1, q.2.2.2.2.2.2.2.2.1, q.2.2.2.2.2.2.2.2.2.1, q.2.2.2.2.2.2.2.2.2.2.1 + (1 : Int32), q.2.2.2.2.2.2.2.2.2.2.2))) rfl ?_
      refine Z.aload_n C dX4_factor_60 1 rfl rfl ?_
      refine Z.iload_n C dX4_factor_61 0 rfl rfl ?_
      refine Z.bipush C (v := (nI 40)) dX4_factor_62 (by decide) ?_
      refine Z.icmp_ne C 71 dX4_factor_64 (by decide) (fun c6 => ?_) (fun c6 => ?_)
      · skip
        replace c6 : ¬ (hereN o.2.1 o.2.2.1 q.2.1) = (40 : Int32) := c6
        exact absurd c1 c6
      · skip
        replace c6 : (hereN o.2.1 o.2.2.1 q.2.1) = (40 : Int32) := c6
        refine Z.iconst C (v := (nI 4)) dX4_factor_67 (by decide) ?_
        refine Z.goto C 83 dX4_factor_68 (by decide) ?_
        refine Z.callVv C (nA := 1) (As := [.int (4 : Int32)]) (st := []) (c_pushN o (wrF q.1 q.2.1, q.2.1 + 1, q.2.2.1, q.2.2.2.1, q.2.2.2.2.1, q.2.2.2.2.2.1, q.2.2.2.2.2.2.1, q.2.2.2.2.2.2.2.1, q.2.2.2.2.2.2.2.2.1, q.2.2.2.2.2.2.2.2.2.1, q.2.2.2.2.2.2.2.2.2.2.1 + (1 : Int32), q.2.2.2.2.2.2.2.2.2.2.2) (4 : Int32)  (by first | omega | (dsimp only; omega))) gX4_factor_X4_push rfl (by decide +kernel) (rm_ok (by omega) (by decide)) 0 rfl rfl rfl (Nat.le_of_ble_eq_true rfl) rfl dX4_factor_83 ?_
        refine Z.iload_n C dX4_factor_86 0 rfl rfl ?_
        refine Z.bipush C (v := (nI 64)) dX4_factor_87 (by decide) ?_
        refine Z.icmp_ne C 98 dX4_factor_89 (by decide) (fun c7 => ?_) (fun c7 => ?_)
        · skip
          replace c7 : ¬ (hereN o.2.1 o.2.2.1 q.2.1) = (64 : Int32) := c7
          refine Z.iconst C (v := (nI 1)) dX4_factor_98 (by decide) ?_
          refine Z.iret C hr hA dX4_factor_99 ?_ ?_
          · first | (simp [qFactor, qStep, qAt1, qWr, qWant, qPush, qSettle, qBlock, qWork, qNest, (eq_true c1), (eq_true c2), (eq_true c6), (eq_false c7)]; done) | (simp_all [qFactor, qStep, qAt1, qWr, qWant, qPush, qSettle, qBlock, qWork, qNest]; done)
          · (refine congrArg (wN a cI cZ o) ?_; first | (simp [qFactor, qStep, qAt1, qWr, qWant, qPush, qSettle, qBlock, qWork, qNest, (eq_true c1), (eq_true c2), (eq_true c6), (eq_false c7)]; done) | (simp_all [qFactor, qStep, qAt1, qWr, qWant, qPush, qSettle, qBlock, qWork, qNest]; done))
        · skip
          replace c7 : (hereN o.2.1 o.2.2.1 q.2.1) = (64 : Int32) := c7
          exact absurd (c1.symm.trans c7) (by decide)
  · skip
    replace c1 : ¬ (hereN o.2.1 o.2.2.1 q.2.1) = (40 : Int32) := c1
    refine Z.iload_n C dX4_factor_11 0 rfl rfl ?_
    refine Z.bipush C (v := (nI 126)) dX4_factor_12 (by decide) ?_
    refine Z.icmp_eq C 23 dX4_factor_14 (by decide) (fun c8 => ?_) (fun c8 => ?_)
    · skip
      replace c8 : (hereN o.2.1 o.2.2.1 q.2.1) = (126 : Int32) := c8
      refine Z.aload_n C dX4_factor_23 1 rfl rfl ?_
      refine Z.get C in4 0 rfl rfl 20 (by decide) (by decide +kernel) rfl rfl dX4_factor_24 ?_
      refine Z.bipush C (v := (nI 12)) dX4_factor_27 (by decide) ?_
      refine Z.icmp_ne C 40 dX4_factor_29 (by decide) (fun c9 => ?_) (fun c9 => ?_)
      · skip
        replace c9 : ¬ q.2.2.2.2.2.2.2.2.2.2.1 = (12 : Int32) := c9
        refine Z.aload_n C dX4_factor_40 1 rfl rfl ?_
        refine Z.dup C dX4_factor_41 rfl ?_
        refine Z.get C in4 0 rfl rfl 20 (by decide) (by decide +kernel) rfl rfl dX4_factor_42 ?_
        refine Z.iconst C (v := (nI 1)) dX4_factor_45 (by decide) ?_
        refine Z.iadd C (v := (q.2.2.2.2.2.2.2.2.2.2.1 + (1 : Int32))) dX4_factor_46 rfl ?_
        refine Z.put C in4 0 rfl rfl 20 (by decide) tyX4 tyX4_ok nmX4 (by decide +kernel) rfl rfl rfl rfl (Nat.le_of_ble_eq_true rfl) dX4_factor_47 (w' := (wN a cI cZ o (q.1, q.2.1, q.2.2.1, q.2.2.2.1, q.2.2.2.2.1, q.2.2.2.2.2.1, q.2.2.2.2.2.2.1, q.2.2.2.2.2.2.2.1, q.2.2.2.2.2.2.2.2.1, q.2.2.2.2.2.2.2.2.2.1, q.2.2.2.2.2.2.2.2.2.2.1 + (1 : Int32), q.2.2.2.2.2.2.2.2.2.2.2))) rfl ?_
        refine Z.aload_n C dX4_factor_50 1 rfl rfl ?_
        refine Z.dup C dX4_factor_51 rfl ?_
        refine Z.get C in4 0 rfl rfl 28 (by decide) (by decide +kernel) rfl rfl dX4_factor_52 ?_
        refine Z.iconst C (v := (nI 1)) dX4_factor_55 (by decide) ?_
        refine Z.iadd C (v := (nI (q.2.1 + 1))) dX4_factor_56 (nI_add q.2.1 1) ?_
        refine Z.put C in4 0 rfl rfl 28 (by decide) tyX4 tyX4_ok nmX4 (by decide +kernel) rfl rfl rfl rfl (Nat.le_of_ble_eq_true rfl) dX4_factor_57 (w' := (wN a cI cZ o (q.1, q.2.1 + 1, q.2.2.1, q.2.2.2.1, q.2.2.2.2.1, q.2.2.2.2.2.1, q.2.2.2.2.2.2.1, q.2.2.2.2.2.2.2.1, q.2.2.2.2.2.2.2.2.1, q.2.2.2.2.2.2.2.2.2.1, q.2.2.2.2.2.2.2.2.2.2.1 + (1 : Int32), q.2.2.2.2.2.2.2.2.2.2.2))) rfl ?_
        refine Z.aload_n C dX4_factor_60 1 rfl rfl ?_
        refine Z.iload_n C dX4_factor_61 0 rfl rfl ?_
        refine Z.bipush C (v := (nI 40)) dX4_factor_62 (by decide) ?_
        refine Z.icmp_ne C 71 dX4_factor_64 (by decide) (fun c10 => ?_) (fun c10 => ?_)
        · skip
          replace c10 : ¬ (hereN o.2.1 o.2.2.1 q.2.1) = (40 : Int32) := c10
          refine Z.iload_n C dX4_factor_71 0 rfl rfl ?_
          refine Z.bipush C (v := (nI 126)) dX4_factor_72 (by decide) ?_
          refine Z.icmp_ne C 82 dX4_factor_74 (by decide) (fun c11 => ?_) (fun c11 => ?_)
          · skip
            replace c11 : ¬ (hereN o.2.1 o.2.2.1 q.2.1) = (126 : Int32) := c11
            exact absurd c8 c11
          · skip
            replace c11 : (hereN o.2.1 o.2.2.1 q.2.1) = (126 : Int32) := c11
            refine Z.bipush C (v := (nI 6)) dX4_factor_77 (by decide) ?_
            refine Z.goto C 83 dX4_factor_79 (by decide) ?_
            refine Z.callVv C (nA := 1) (As := [.int (6 : Int32)]) (st := []) (c_pushN o (q.1, q.2.1 + 1, q.2.2.1, q.2.2.2.1, q.2.2.2.2.1, q.2.2.2.2.2.1, q.2.2.2.2.2.2.1, q.2.2.2.2.2.2.2.1, q.2.2.2.2.2.2.2.2.1, q.2.2.2.2.2.2.2.2.2.1, q.2.2.2.2.2.2.2.2.2.2.1 + (1 : Int32), q.2.2.2.2.2.2.2.2.2.2.2) (6 : Int32)  (by first | omega | (dsimp only; omega))) gX4_factor_X4_push rfl (by decide +kernel) (rm_ok (by omega) (by decide)) 0 rfl rfl rfl (Nat.le_of_ble_eq_true rfl) rfl dX4_factor_83 ?_
            refine Z.iload_n C dX4_factor_86 0 rfl rfl ?_
            refine Z.bipush C (v := (nI 64)) dX4_factor_87 (by decide) ?_
            refine Z.icmp_ne C 98 dX4_factor_89 (by decide) (fun c12 => ?_) (fun c12 => ?_)
            · skip
              replace c12 : ¬ (hereN o.2.1 o.2.2.1 q.2.1) = (64 : Int32) := c12
              refine Z.iconst C (v := (nI 1)) dX4_factor_98 (by decide) ?_
              refine Z.iret C hr hA dX4_factor_99 ?_ ?_
              · first | (simp [qFactor, qStep, qAt1, qWr, qWant, qPush, qSettle, qBlock, qWork, qNest, (eq_false c1), (eq_true c8), (eq_false c9), (eq_false c10), (eq_true c11), (eq_false c12)]; done) | (simp_all [qFactor, qStep, qAt1, qWr, qWant, qPush, qSettle, qBlock, qWork, qNest]; done)
              · (refine congrArg (wN a cI cZ o) ?_; first | (simp [qFactor, qStep, qAt1, qWr, qWant, qPush, qSettle, qBlock, qWork, qNest, (eq_false c1), (eq_true c8), (eq_false c9), (eq_false c10), (eq_true c11), (eq_false c12)]; done) | (simp_all [qFactor, qStep, qAt1, qWr, qWant, qPush, qSettle, qBlock, qWork, qNest]; done))
            · skip
              replace c12 : (hereN o.2.1 o.2.2.1 q.2.1) = (64 : Int32) := c12
              exact absurd (c8.symm.trans c12) (by decide)
        · skip
          replace c10 : (hereN o.2.1 o.2.2.1 q.2.1) = (40 : Int32) := c10
          exact absurd c10 c1
      · skip
        replace c9 : q.2.2.2.2.2.2.2.2.2.2.1 = (12 : Int32) := c9
        refine Z.aload_n C dX4_factor_32 1 rfl rfl ?_
        refine Z.aload_n C dX4_factor_33 1 rfl rfl ?_
        refine Z.get C in4 0 rfl rfl 28 (by decide) (by decide +kernel) rfl rfl dX4_factor_34 ?_
        refine Z.callVv C (nA := 1) (As := [.int (nI q.2.1)]) (st := []) (c_wrong o q q.2.1  (by first | omega | (dsimp only; omega))) gX4_factor_X4_wrong rfl (by decide +kernel) (rm_ok (by omega) (by decide)) 0 rfl rfl rfl (Nat.le_of_ble_eq_true rfl) rfl dX4_factor_37 ?_
        have w13 : wrF q.1 q.2.1 < 1000 := wrF_b (by first | omega | (dsimp only; omega)) (by first | omega | (dsimp only; omega))
        refine Z.aload_n C dX4_factor_40 1 rfl rfl ?_
        refine Z.dup C dX4_factor_41 rfl ?_
        refine Z.get C in4 0 rfl rfl 20 (by decide) (by decide +kernel) rfl rfl dX4_factor_42 ?_
        refine Z.iconst C (v := (nI 1)) dX4_factor_45 (by decide) ?_
        refine Z.iadd C (v := (q.2.2.2.2.2.2.2.2.2.2.1 + (1 : Int32))) dX4_factor_46 rfl ?_
        refine Z.put C in4 0 rfl rfl 20 (by decide) tyX4 tyX4_ok nmX4 (by decide +kernel) rfl rfl rfl rfl (Nat.le_of_ble_eq_true rfl) dX4_factor_47 (w' := (wN a cI cZ o (wrF q.1 q.2.1, q.2.1, q.2.2.1, q.2.2.2.1, q.2.2.2.2.1, q.2.2.2.2.2.1, q.2.2.2.2.2.2.1, q.2.2.2.2.2.2.2.1, q.2.2.2.2.2.2.2.2.1, q.2.2.2.2.2.2.2.2.2.1, q.2.2.2.2.2.2.2.2.2.2.1 + (1 : Int32), q.2.2.2.2.2.2.2.2.2.2.2))) rfl ?_
        refine Z.aload_n C dX4_factor_50 1 rfl rfl ?_
        refine Z.dup C dX4_factor_51 rfl ?_
        refine Z.get C in4 0 rfl rfl 28 (by decide) (by decide +kernel) rfl rfl dX4_factor_52 ?_
        refine Z.iconst C (v := (nI 1)) dX4_factor_55 (by decide) ?_
        refine Z.iadd C (v := (nI (q.2.1 + 1))) dX4_factor_56 (nI_add q.2.1 1) ?_
        refine Z.put C in4 0 rfl rfl 28 (by decide) tyX4 tyX4_ok nmX4 (by decide +kernel) rfl rfl rfl rfl (Nat.le_of_ble_eq_true rfl) dX4_factor_57 (w' := (wN a cI cZ o (wrF q.1 q.2.1, q.2.1 + 1, q.2.2.1, q.2.2.2.1, q.2.2.2.2.1, q.2.2.2.2.2.1, q.2.2.2.2.2.2.1, q.2.2.2.2.2.2.2.1, q.2.2.2.2.2.2.2.2.1, q.2.2.2.2.2.2.2.2.2.1, q.2.2.2.2.2.2.2.2.2.2.1 + (1 : Int32), q.2.2.2.2.2.2.2.2.2.2.2))) rfl ?_
        refine Z.aload_n C dX4_factor_60 1 rfl rfl ?_
        refine Z.iload_n C dX4_factor_61 0 rfl rfl ?_
        refine Z.bipush C (v := (nI 40)) dX4_factor_62 (by decide) ?_
        refine Z.icmp_ne C 71 dX4_factor_64 (by decide) (fun c14 => ?_) (fun c14 => ?_)
        · skip
          replace c14 : ¬ (hereN o.2.1 o.2.2.1 q.2.1) = (40 : Int32) := c14
          refine Z.iload_n C dX4_factor_71 0 rfl rfl ?_
          refine Z.bipush C (v := (nI 126)) dX4_factor_72 (by decide) ?_
          refine Z.icmp_ne C 82 dX4_factor_74 (by decide) (fun c15 => ?_) (fun c15 => ?_)
          · skip
            replace c15 : ¬ (hereN o.2.1 o.2.2.1 q.2.1) = (126 : Int32) := c15
            exact absurd c8 c15
          · skip
            replace c15 : (hereN o.2.1 o.2.2.1 q.2.1) = (126 : Int32) := c15
            refine Z.bipush C (v := (nI 6)) dX4_factor_77 (by decide) ?_
            refine Z.goto C 83 dX4_factor_79 (by decide) ?_
            refine Z.callVv C (nA := 1) (As := [.int (6 : Int32)]) (st := []) (c_pushN o (wrF q.1 q.2.1, q.2.1 + 1, q.2.2.1, q.2.2.2.1, q.2.2.2.2.1, q.2.2.2.2.2.1, q.2.2.2.2.2.2.1, q.2.2.2.2.2.2.2.1, q.2.2.2.2.2.2.2.2.1, q.2.2.2.2.2.2.2.2.2.1, q.2.2.2.2.2.2.2.2.2.2.1 + (1 : Int32), q.2.2.2.2.2.2.2.2.2.2.2) (6 : Int32)  (by first | omega | (dsimp only; omega))) gX4_factor_X4_push rfl (by decide +kernel) (rm_ok (by omega) (by decide)) 0 rfl rfl rfl (Nat.le_of_ble_eq_true rfl) rfl dX4_factor_83 ?_
            refine Z.iload_n C dX4_factor_86 0 rfl rfl ?_
            refine Z.bipush C (v := (nI 64)) dX4_factor_87 (by decide) ?_
            refine Z.icmp_ne C 98 dX4_factor_89 (by decide) (fun c16 => ?_) (fun c16 => ?_)
            · skip
              replace c16 : ¬ (hereN o.2.1 o.2.2.1 q.2.1) = (64 : Int32) := c16
              refine Z.iconst C (v := (nI 1)) dX4_factor_98 (by decide) ?_
              refine Z.iret C hr hA dX4_factor_99 ?_ ?_
              · first | (simp [qFactor, qStep, qAt1, qWr, qWant, qPush, qSettle, qBlock, qWork, qNest, (eq_false c1), (eq_true c8), (eq_true c9), (eq_false c14), (eq_true c15), (eq_false c16)]; done) | (simp_all [qFactor, qStep, qAt1, qWr, qWant, qPush, qSettle, qBlock, qWork, qNest]; done)
              · (refine congrArg (wN a cI cZ o) ?_; first | (simp [qFactor, qStep, qAt1, qWr, qWant, qPush, qSettle, qBlock, qWork, qNest, (eq_false c1), (eq_true c8), (eq_true c9), (eq_false c14), (eq_true c15), (eq_false c16)]; done) | (simp_all [qFactor, qStep, qAt1, qWr, qWant, qPush, qSettle, qBlock, qWork, qNest]; done))
            · skip
              replace c16 : (hereN o.2.1 o.2.2.1 q.2.1) = (64 : Int32) := c16
              exact absurd (c8.symm.trans c16) (by decide)
        · skip
          replace c14 : (hereN o.2.1 o.2.2.1 q.2.1) = (40 : Int32) := c14
          exact absurd c14 c1
    · skip
      replace c8 : ¬ (hereN o.2.1 o.2.2.1 q.2.1) = (126 : Int32) := c8
      refine Z.iload_n C dX4_factor_17 0 rfl rfl ?_
      refine Z.bipush C (v := (nI 64)) dX4_factor_18 (by decide) ?_
      refine Z.icmp_ne C 100 dX4_factor_20 (by decide) (fun c17 => ?_) (fun c17 => ?_)
      · skip
        replace c17 : ¬ (hereN o.2.1 o.2.2.1 q.2.1) = (64 : Int32) := c17
        refine Z.iload_n C dX4_factor_100 0 rfl rfl ?_
        refine Z.callSi C (nA := 1) (As := [.int (hereN o.2.1 o.2.2.1 q.2.1)]) (st := []) (c_isLetter (hereN o.2.1 o.2.2.1 q.2.1)) gX4_factor_X4_isLetter rfl (by decide +kernel) (rm_ok (by omega) (by decide)) rfl (Nat.le_of_ble_eq_true rfl) rfl dX4_factor_101 ?_
        refine Z.if_eq C 134 dX4_factor_104 (by decide) (fun c18 => ?_) (fun c18 => ?_)
        · skip
          replace c18 : isLetF (hereN o.2.1 o.2.2.1 q.2.1) = false := b2i_0.mp c18
          refine Z.iload_n C dX4_factor_134 0 rfl rfl ?_
          refine Z.callSi C (nA := 1) (As := [.int (hereN o.2.1 o.2.2.1 q.2.1)]) (st := []) (c_isDigit (hereN o.2.1 o.2.2.1 q.2.1)) gX4_factor_X4_isDigit rfl (by decide +kernel) (rm_ok (by omega) (by decide)) rfl (Nat.le_of_ble_eq_true rfl) rfl dX4_factor_135 ?_
          refine Z.if_ne C 147 dX4_factor_138 (by decide) (fun c19 => ?_) (fun c19 => ?_)
          · skip
            replace c19 : isDigF (hereN o.2.1 o.2.2.1 q.2.1) = true := b2i_n0.mp c19
            refine Z.aload_n C dX4_factor_147 1 rfl rfl ?_
            refine Z.lconst C (v := lN 0) dX4_factor_148 (by decide) ?_
            refine Z.ldc2 C (v := lN 4294967295) dX4_factor_149 (by decide +kernel) ?_
            refine Z.callVv C (nA := 2) (As := [.long (lN 0), .long (lN 4294967295)]) (st := []) (c_readNumberN o q 0 4294967295 (by first | omega | (dsimp only; omega)) (by first | omega | (dsimp only; omega)) (by first | omega | (dsimp only; omega))) gX4_factor_X4_readNumber rfl (by decide +kernel) (rm_ok (by omega) (by decide)) 0 rfl rfl rfl (Nat.le_of_ble_eq_true rfl) rfl dX4_factor_152 ?_
            generalize e20 : qNumber o.2.1 o.2.2.1 0 4294967295 q = x20
            have n20 := qNumber_at (tx := o.2.1) (len := o.2.2.1) (lo := 0) (hi := 4294967295) (q := q) (N := 488) (by omega) (by first | omega | (dsimp only; omega))
            rw [e20] at n20
            obtain ⟨n20a, n20b⟩ := n20
            have n20d : x20.2.2.2.2.2.1 = q.2.2.2.2.2.1 := by rw [show x20.2.2.2.2.2.1 = q.2.2.2.2.2.1 from congrArg (fun z => z.2.2.1) n20b]
            have n20o : x20.2.2.2.2.2.2.2.2.2.1 = q.2.2.2.2.2.2.2.2.2.1 := by rw [show x20.2.2.2.2.2.2.2.2.2.1 = q.2.2.2.2.2.2.2.2.2.1 from congrArg (fun z => z.2.2.2.2.2.2.1) n20b]
            have n20s : x20.2.2.2.2.2.2.2.2.2.2.2.2.1 = q.2.2.2.2.2.2.2.2.2.2.2.2.1 := by rw [show x20.2.2.2.2.2.2.2.2.2.2.2.2.1 = q.2.2.2.2.2.2.2.2.2.2.2.2.1 from congrArg (fun z => z.2.2.2.2.2.2.2.2.2.1) n20b]
            have n20b : x20.2.2.2.2.2.2.2.2.2.2.2.2.2.2.2.2.2.1 = q.2.2.2.2.2.2.2.2.2.2.2.2.2.2.2.2.2.1 := by rw [show x20.2.2.2.2.2.2.2.2.2.2.2.2.2.2.2.2.2.1 = q.2.2.2.2.2.2.2.2.2.2.2.2.2.2.2.2.2.1 from congrArg (fun z => z.2.2.2.2.2.2.2.2.2.2.2.2.2.2.1) n20b]
            have n20f : x20.1 < 1000 := by rw [← e20]; exact qNumber_f (by first | omega | (dsimp only; omega)) (by first | omega | (dsimp only; omega)) (by first | omega | (dsimp only; omega))
            refine Z.aload_n C dX4_factor_155 1 rfl rfl ?_
            refine Z.iconst C (v := (nI 0)) dX4_factor_156 (by decide) ?_
            refine Z.aload_n C dX4_factor_157 1 rfl rfl ?_
            refine Z.get C in4 0 rfl rfl 29 (by decide) (by decide +kernel) rfl rfl dX4_factor_158 ?_
            refine Z.l2i C (v := (nI x20.2.2.1)) dX4_factor_161 (lN_i x20.2.2.1) ?_
            refine Z.callVv C (nA := 2) (As := [.int (0 : Int32), .int (nI x20.2.2.1)]) (st := []) (c_step o x20 (0 : Int32) (nI x20.2.2.1)  (by first | omega | (dsimp only; omega))) gX4_factor_X4_step rfl (by decide +kernel) (rm_ok (by omega) (by decide)) 0 rfl rfl rfl (Nat.le_of_ble_eq_true rfl) rfl dX4_factor_162 ?_
            refine Z.aload_n C dX4_factor_165 1 rfl rfl ?_
            refine Z.iconst C (v := (nI 1)) dX4_factor_166 (by decide) ?_
            refine Z.callVv C (nA := 1) (As := [.int (b2i true)]) (st := []) (c_settle o (x20.1, x20.2.1, x20.2.2.1, (upd x20.2.2.2.1 x20.2.2.2.2.2.1 (0 : Int32)), (upd x20.2.2.2.2.1 x20.2.2.2.2.2.1 (nI x20.2.2.1)), x20.2.2.2.2.2.1 + 1, x20.2.2.2.2.2.2) true  (by first | omega | (dsimp only; omega))) gX4_factor_X4_settle rfl (by decide +kernel) (rm_ok (by omega) (by decide)) 0 rfl rfl rfl (Nat.le_of_ble_eq_true rfl) rfl dX4_factor_167 ?_
            refine Z.goto C 183 dX4_factor_170 (by decide) ?_
            refine Z.aload_n C dX4_factor_183 1 rfl rfl ?_
            refine Z.callVv C (nA := 0) (As := []) (st := []) (c_wholeN o (x20.1, x20.2.1, x20.2.2.1, (upd x20.2.2.2.1 x20.2.2.2.2.2.1 (0 : Int32)), (upd x20.2.2.2.2.1 x20.2.2.2.2.2.1 (nI x20.2.2.1)), x20.2.2.2.2.2.1 + 1, x20.2.2.2.2.2.2.1, x20.2.2.2.2.2.2.2.1, x20.2.2.2.2.2.2.2.2.1, x20.2.2.2.2.2.2.2.2.2.1, x20.2.2.2.2.2.2.2.2.2.2.1, (upd x20.2.2.2.2.2.2.2.2.2.2.2.1 x20.2.2.2.2.2.2.2.2.2.2.2.2.1 (b2i true)), x20.2.2.2.2.2.2.2.2.2.2.2.2.1 + 1, x20.2.2.2.2.2.2.2.2.2.2.2.2.2) (by first | omega | (dsimp only; omega)) ⟨by first | omega | (dsimp only; omega), by first | omega | (dsimp only; omega)⟩ (by first | omega | (dsimp only; omega))) gX4_factor_X4_whole rfl (by decide +kernel) (rm_ok (by omega) (by decide)) 0 rfl rfl rfl (Nat.le_of_ble_eq_true rfl) rfl dX4_factor_184 ?_
            generalize e21 : qWhole (x20.1, x20.2.1, x20.2.2.1, (upd x20.2.2.2.1 x20.2.2.2.2.2.1 (0 : Int32)), (upd x20.2.2.2.2.1 x20.2.2.2.2.2.1 (nI x20.2.2.1)), x20.2.2.2.2.2.1 + 1, x20.2.2.2.2.2.2.1, x20.2.2.2.2.2.2.2.1, x20.2.2.2.2.2.2.2.2.1, x20.2.2.2.2.2.2.2.2.2.1, x20.2.2.2.2.2.2.2.2.2.2.1, (upd x20.2.2.2.2.2.2.2.2.2.2.2.1 x20.2.2.2.2.2.2.2.2.2.2.2.2.1 (b2i true)), x20.2.2.2.2.2.2.2.2.2.2.2.2.1 + 1, x20.2.2.2.2.2.2.2.2.2.2.2.2.2) = x21
            refine Z.iconst C (v := (nI 2)) dX4_factor_187 (by decide) ?_
            refine Z.iret C hr hA dX4_factor_188 ?_ ?_
            · first | (simp [qFactor, qStep, qAt1, qWr, qWant, qPush, qSettle, qBlock, qWork, qNest, (eq_false c1), (eq_false c8), (eq_false c17), c18, c19, e20, e21]; done) | (simp_all [qFactor, qStep, qAt1, qWr, qWant, qPush, qSettle, qBlock, qWork, qNest]; done)
            · (refine congrArg (wN a cI cZ o) ?_; first | (simp [qFactor, qStep, qAt1, qWr, qWant, qPush, qSettle, qBlock, qWork, qNest, (eq_false c1), (eq_false c8), (eq_false c17), c18, c19, e20, e21]; done) | (simp_all [qFactor, qStep, qAt1, qWr, qWant, qPush, qSettle, qBlock, qWork, qNest]; done))
          · skip
            replace c19 : isDigF (hereN o.2.1 o.2.2.1 q.2.1) = false := b2i_0.mp c19
            refine Z.iload_n C dX4_factor_141 0 rfl rfl ?_
            refine Z.bipush C (v := (nI 36)) dX4_factor_142 (by decide) ?_
            refine Z.icmp_ne C 173 dX4_factor_144 (by decide) (fun c22 => ?_) (fun c22 => ?_)
            · skip
              replace c22 : ¬ (hereN o.2.1 o.2.2.1 q.2.1) = (36 : Int32) := c22
              refine Z.aload_n C dX4_factor_173 1 rfl rfl ?_
              refine Z.aload_n C dX4_factor_174 1 rfl rfl ?_
              refine Z.get C in4 0 rfl rfl 28 (by decide) (by decide +kernel) rfl rfl dX4_factor_175 ?_
              refine Z.callVv C (nA := 1) (As := [.int (nI q.2.1)]) (st := []) (c_wrong o q q.2.1  (by first | omega | (dsimp only; omega))) gX4_factor_X4_wrong rfl (by decide +kernel) (rm_ok (by omega) (by decide)) 0 rfl rfl rfl (Nat.le_of_ble_eq_true rfl) rfl dX4_factor_178 ?_
              have w23 : wrF q.1 q.2.1 < 1000 := wrF_b (by first | omega | (dsimp only; omega)) (by first | omega | (dsimp only; omega))
              refine Z.iconst C (v := (nI 2)) dX4_factor_181 (by decide) ?_
              refine Z.iret C hr hA dX4_factor_182 ?_ ?_
              · first | (simp [qFactor, qStep, qAt1, qWr, qWant, qPush, qSettle, qBlock, qWork, qNest, (eq_false c1), (eq_false c8), (eq_false c17), c18, c19, (eq_false c22)]; done) | (simp_all [qFactor, qStep, qAt1, qWr, qWant, qPush, qSettle, qBlock, qWork, qNest]; done)
              · (refine congrArg (wN a cI cZ o) ?_; first | (simp [qFactor, qStep, qAt1, qWr, qWant, qPush, qSettle, qBlock, qWork, qNest, (eq_false c1), (eq_false c8), (eq_false c17), c18, c19, (eq_false c22)]; done) | (simp_all [qFactor, qStep, qAt1, qWr, qWant, qPush, qSettle, qBlock, qWork, qNest]; done))
            · skip
              replace c22 : (hereN o.2.1 o.2.2.1 q.2.1) = (36 : Int32) := c22
              refine Z.aload_n C dX4_factor_147 1 rfl rfl ?_
              refine Z.lconst C (v := lN 0) dX4_factor_148 (by decide) ?_
              refine Z.ldc2 C (v := lN 4294967295) dX4_factor_149 (by decide +kernel) ?_
              refine Z.callVv C (nA := 2) (As := [.long (lN 0), .long (lN 4294967295)]) (st := []) (c_readNumberN o q 0 4294967295 (by first | omega | (dsimp only; omega)) (by first | omega | (dsimp only; omega)) (by first | omega | (dsimp only; omega))) gX4_factor_X4_readNumber rfl (by decide +kernel) (rm_ok (by omega) (by decide)) 0 rfl rfl rfl (Nat.le_of_ble_eq_true rfl) rfl dX4_factor_152 ?_
              generalize e24 : qNumber o.2.1 o.2.2.1 0 4294967295 q = x24
              have n24 := qNumber_at (tx := o.2.1) (len := o.2.2.1) (lo := 0) (hi := 4294967295) (q := q) (N := 488) (by omega) (by first | omega | (dsimp only; omega))
              rw [e24] at n24
              obtain ⟨n24a, n24b⟩ := n24
              have n24d : x24.2.2.2.2.2.1 = q.2.2.2.2.2.1 := by rw [show x24.2.2.2.2.2.1 = q.2.2.2.2.2.1 from congrArg (fun z => z.2.2.1) n24b]
              have n24o : x24.2.2.2.2.2.2.2.2.2.1 = q.2.2.2.2.2.2.2.2.2.1 := by rw [show x24.2.2.2.2.2.2.2.2.2.1 = q.2.2.2.2.2.2.2.2.2.1 from congrArg (fun z => z.2.2.2.2.2.2.1) n24b]
              have n24s : x24.2.2.2.2.2.2.2.2.2.2.2.2.1 = q.2.2.2.2.2.2.2.2.2.2.2.2.1 := by rw [show x24.2.2.2.2.2.2.2.2.2.2.2.2.1 = q.2.2.2.2.2.2.2.2.2.2.2.2.1 from congrArg (fun z => z.2.2.2.2.2.2.2.2.2.1) n24b]
              have n24b : x24.2.2.2.2.2.2.2.2.2.2.2.2.2.2.2.2.2.1 = q.2.2.2.2.2.2.2.2.2.2.2.2.2.2.2.2.2.1 := by rw [show x24.2.2.2.2.2.2.2.2.2.2.2.2.2.2.2.2.2.1 = q.2.2.2.2.2.2.2.2.2.2.2.2.2.2.2.2.2.1 from congrArg (fun z => z.2.2.2.2.2.2.2.2.2.2.2.2.2.2.1) n24b]
              have n24f : x24.1 < 1000 := by rw [← e24]; exact qNumber_f (by first | omega | (dsimp only; omega)) (by first | omega | (dsimp only; omega)) (by first | omega | (dsimp only; omega))
              refine Z.aload_n C dX4_factor_155 1 rfl rfl ?_
              refine Z.iconst C (v := (nI 0)) dX4_factor_156 (by decide) ?_
              refine Z.aload_n C dX4_factor_157 1 rfl rfl ?_
              refine Z.get C in4 0 rfl rfl 29 (by decide) (by decide +kernel) rfl rfl dX4_factor_158 ?_
              refine Z.l2i C (v := (nI x24.2.2.1)) dX4_factor_161 (lN_i x24.2.2.1) ?_
              refine Z.callVv C (nA := 2) (As := [.int (0 : Int32), .int (nI x24.2.2.1)]) (st := []) (c_step o x24 (0 : Int32) (nI x24.2.2.1)  (by first | omega | (dsimp only; omega))) gX4_factor_X4_step rfl (by decide +kernel) (rm_ok (by omega) (by decide)) 0 rfl rfl rfl (Nat.le_of_ble_eq_true rfl) rfl dX4_factor_162 ?_
              refine Z.aload_n C dX4_factor_165 1 rfl rfl ?_
              refine Z.iconst C (v := (nI 1)) dX4_factor_166 (by decide) ?_
              refine Z.callVv C (nA := 1) (As := [.int (b2i true)]) (st := []) (c_settle o (x24.1, x24.2.1, x24.2.2.1, (upd x24.2.2.2.1 x24.2.2.2.2.2.1 (0 : Int32)), (upd x24.2.2.2.2.1 x24.2.2.2.2.2.1 (nI x24.2.2.1)), x24.2.2.2.2.2.1 + 1, x24.2.2.2.2.2.2) true  (by first | omega | (dsimp only; omega))) gX4_factor_X4_settle rfl (by decide +kernel) (rm_ok (by omega) (by decide)) 0 rfl rfl rfl (Nat.le_of_ble_eq_true rfl) rfl dX4_factor_167 ?_
              refine Z.goto C 183 dX4_factor_170 (by decide) ?_
              refine Z.aload_n C dX4_factor_183 1 rfl rfl ?_
              refine Z.callVv C (nA := 0) (As := []) (st := []) (c_wholeN o (x24.1, x24.2.1, x24.2.2.1, (upd x24.2.2.2.1 x24.2.2.2.2.2.1 (0 : Int32)), (upd x24.2.2.2.2.1 x24.2.2.2.2.2.1 (nI x24.2.2.1)), x24.2.2.2.2.2.1 + 1, x24.2.2.2.2.2.2.1, x24.2.2.2.2.2.2.2.1, x24.2.2.2.2.2.2.2.2.1, x24.2.2.2.2.2.2.2.2.2.1, x24.2.2.2.2.2.2.2.2.2.2.1, (upd x24.2.2.2.2.2.2.2.2.2.2.2.1 x24.2.2.2.2.2.2.2.2.2.2.2.2.1 (b2i true)), x24.2.2.2.2.2.2.2.2.2.2.2.2.1 + 1, x24.2.2.2.2.2.2.2.2.2.2.2.2.2) (by first | omega | (dsimp only; omega)) ⟨by first | omega | (dsimp only; omega), by first | omega | (dsimp only; omega)⟩ (by first | omega | (dsimp only; omega))) gX4_factor_X4_whole rfl (by decide +kernel) (rm_ok (by omega) (by decide)) 0 rfl rfl rfl (Nat.le_of_ble_eq_true rfl) rfl dX4_factor_184 ?_
              generalize e25 : qWhole (x24.1, x24.2.1, x24.2.2.1, (upd x24.2.2.2.1 x24.2.2.2.2.2.1 (0 : Int32)), (upd x24.2.2.2.2.1 x24.2.2.2.2.2.1 (nI x24.2.2.1)), x24.2.2.2.2.2.1 + 1, x24.2.2.2.2.2.2.1, x24.2.2.2.2.2.2.2.1, x24.2.2.2.2.2.2.2.2.1, x24.2.2.2.2.2.2.2.2.2.1, x24.2.2.2.2.2.2.2.2.2.2.1, (upd x24.2.2.2.2.2.2.2.2.2.2.2.1 x24.2.2.2.2.2.2.2.2.2.2.2.2.1 (b2i true)), x24.2.2.2.2.2.2.2.2.2.2.2.2.1 + 1, x24.2.2.2.2.2.2.2.2.2.2.2.2.2) = x25
              refine Z.iconst C (v := (nI 2)) dX4_factor_187 (by decide) ?_
              refine Z.iret C hr hA dX4_factor_188 ?_ ?_
              · first | (simp [qFactor, qStep, qAt1, qWr, qWant, qPush, qSettle, qBlock, qWork, qNest, (eq_false c1), (eq_false c8), (eq_false c17), c18, c19, (eq_true c22), e24, e25]; done) | (simp_all [qFactor, qStep, qAt1, qWr, qWant, qPush, qSettle, qBlock, qWork, qNest]; done)
              · (refine congrArg (wN a cI cZ o) ?_; first | (simp [qFactor, qStep, qAt1, qWr, qWant, qPush, qSettle, qBlock, qWork, qNest, (eq_false c1), (eq_false c8), (eq_false c17), c18, c19, (eq_true c22), e24, e25]; done) | (simp_all [qFactor, qStep, qAt1, qWr, qWant, qPush, qSettle, qBlock, qWork, qNest]; done))
        · skip
          replace c18 : isLetF (hereN o.2.1 o.2.2.1 q.2.1) = true := b2i_n0.mp c18
          refine Z.aload_n C dX4_factor_107 1 rfl rfl ?_
          refine Z.dup C dX4_factor_108 rfl ?_
          refine Z.get C in4 0 rfl rfl 28 (by decide) (by decide +kernel) rfl rfl dX4_factor_109 ?_
          refine Z.iconst C (v := (nI 1)) dX4_factor_112 (by decide) ?_
          refine Z.iadd C (v := (nI (q.2.1 + 1))) dX4_factor_113 (nI_add q.2.1 1) ?_
          refine Z.put C in4 0 rfl rfl 28 (by decide) tyX4 tyX4_ok nmX4 (by decide +kernel) rfl rfl rfl rfl (Nat.le_of_ble_eq_true rfl) dX4_factor_114 (w' := (wN a cI cZ o (q.1, q.2.1 + 1, q.2.2))) rfl ?_
          refine Z.aload_n C dX4_factor_117 1 rfl rfl ?_
          refine Z.iconst C (v := (nI 1)) dX4_factor_118 (by decide) ?_
          refine Z.iload_n C dX4_factor_119 0 rfl rfl ?_
          refine Z.bipush C (v := (nI 97)) dX4_factor_120 (by decide) ?_
          refine Z.isub C (v := ((hereN o.2.1 o.2.2.1 q.2.1) - (97 : Int32))) dX4_factor_122 rfl ?_
          refine Z.callVv C (nA := 2) (As := [.int (1 : Int32), .int ((hereN o.2.1 o.2.2.1 q.2.1) - (97 : Int32))]) (st := []) (c_step o (q.1, q.2.1 + 1, q.2.2) (1 : Int32) ((hereN o.2.1 o.2.2.1 q.2.1) - (97 : Int32))  (by first | omega | (dsimp only; omega))) gX4_factor_X4_step rfl (by decide +kernel) (rm_ok (by omega) (by decide)) 0 rfl rfl rfl (Nat.le_of_ble_eq_true rfl) rfl dX4_factor_123 ?_
          refine Z.aload_n C dX4_factor_126 1 rfl rfl ?_
          refine Z.iconst C (v := (nI 0)) dX4_factor_127 (by decide) ?_
          refine Z.callVv C (nA := 1) (As := [.int (b2i false)]) (st := []) (c_settle o (q.1, q.2.1 + 1, q.2.2.1, (upd q.2.2.2.1 q.2.2.2.2.2.1 (1 : Int32)), (upd q.2.2.2.2.1 q.2.2.2.2.2.1 ((hereN o.2.1 o.2.2.1 q.2.1) - (97 : Int32))), q.2.2.2.2.2.1 + 1, q.2.2.2.2.2.2) false  (by first | omega | (dsimp only; omega))) gX4_factor_X4_settle rfl (by decide +kernel) (rm_ok (by omega) (by decide)) 0 rfl rfl rfl (Nat.le_of_ble_eq_true rfl) rfl dX4_factor_128 ?_
          refine Z.goto C 183 dX4_factor_131 (by decide) ?_
          refine Z.aload_n C dX4_factor_183 1 rfl rfl ?_
          refine Z.callVv C (nA := 0) (As := []) (st := []) (c_wholeN o (q.1, q.2.1 + 1, q.2.2.1, (upd q.2.2.2.1 q.2.2.2.2.2.1 (1 : Int32)), (upd q.2.2.2.2.1 q.2.2.2.2.2.1 ((hereN o.2.1 o.2.2.1 q.2.1) - (97 : Int32))), q.2.2.2.2.2.1 + 1, q.2.2.2.2.2.2.1, q.2.2.2.2.2.2.2.1, q.2.2.2.2.2.2.2.2.1, q.2.2.2.2.2.2.2.2.2.1, q.2.2.2.2.2.2.2.2.2.2.1, (upd q.2.2.2.2.2.2.2.2.2.2.2.1 q.2.2.2.2.2.2.2.2.2.2.2.2.1 (b2i false)), q.2.2.2.2.2.2.2.2.2.2.2.2.1 + 1, q.2.2.2.2.2.2.2.2.2.2.2.2.2) (by first | omega | (dsimp only; omega)) ⟨by first | omega | (dsimp only; omega), by first | omega | (dsimp only; omega)⟩ (by first | omega | (dsimp only; omega))) gX4_factor_X4_whole rfl (by decide +kernel) (rm_ok (by omega) (by decide)) 0 rfl rfl rfl (Nat.le_of_ble_eq_true rfl) rfl dX4_factor_184 ?_
          generalize e26 : qWhole (q.1, q.2.1 + 1, q.2.2.1, (upd q.2.2.2.1 q.2.2.2.2.2.1 (1 : Int32)), (upd q.2.2.2.2.1 q.2.2.2.2.2.1 ((hereN o.2.1 o.2.2.1 q.2.1) - (97 : Int32))), q.2.2.2.2.2.1 + 1, q.2.2.2.2.2.2.1, q.2.2.2.2.2.2.2.1, q.2.2.2.2.2.2.2.2.1, q.2.2.2.2.2.2.2.2.2.1, q.2.2.2.2.2.2.2.2.2.2.1, (upd q.2.2.2.2.2.2.2.2.2.2.2.1 q.2.2.2.2.2.2.2.2.2.2.2.2.1 (b2i false)), q.2.2.2.2.2.2.2.2.2.2.2.2.1 + 1, q.2.2.2.2.2.2.2.2.2.2.2.2.2) = x26
          refine Z.iconst C (v := (nI 2)) dX4_factor_187 (by decide) ?_
          refine Z.iret C hr hA dX4_factor_188 ?_ ?_
          · first | (simp [qFactor, qStep, qAt1, qWr, qWant, qPush, qSettle, qBlock, qWork, qNest, (eq_false c1), (eq_false c8), (eq_false c17), c18, e26]; done) | (simp_all [qFactor, qStep, qAt1, qWr, qWant, qPush, qSettle, qBlock, qWork, qNest]; done)
          · (refine congrArg (wN a cI cZ o) ?_; first | (simp [qFactor, qStep, qAt1, qWr, qWant, qPush, qSettle, qBlock, qWork, qNest, (eq_false c1), (eq_false c8), (eq_false c17), c18, e26]; done) | (simp_all [qFactor, qStep, qAt1, qWr, qWant, qPush, qSettle, qBlock, qWork, qNest]; done))
      · skip
        replace c17 : (hereN o.2.1 o.2.2.1 q.2.1) = (64 : Int32) := c17
        refine Z.aload_n C dX4_factor_23 1 rfl rfl ?_
        refine Z.get C in4 0 rfl rfl 20 (by decide) (by decide +kernel) rfl rfl dX4_factor_24 ?_
        refine Z.bipush C (v := (nI 12)) dX4_factor_27 (by decide) ?_
        refine Z.icmp_ne C 40 dX4_factor_29 (by decide) (fun c27 => ?_) (fun c27 => ?_)
        · skip
          replace c27 : ¬ q.2.2.2.2.2.2.2.2.2.2.1 = (12 : Int32) := c27
          refine Z.aload_n C dX4_factor_40 1 rfl rfl ?_
          refine Z.dup C dX4_factor_41 rfl ?_
          refine Z.get C in4 0 rfl rfl 20 (by decide) (by decide +kernel) rfl rfl dX4_factor_42 ?_
          refine Z.iconst C (v := (nI 1)) dX4_factor_45 (by decide) ?_
          refine Z.iadd C (v := (q.2.2.2.2.2.2.2.2.2.2.1 + (1 : Int32))) dX4_factor_46 rfl ?_
          refine Z.put C in4 0 rfl rfl 20 (by decide) tyX4 tyX4_ok nmX4 (by decide +kernel) rfl rfl rfl rfl (Nat.le_of_ble_eq_true rfl) dX4_factor_47 (w' := (wN a cI cZ o (q.1, q.2.1, q.2.2.1, q.2.2.2.1, q.2.2.2.2.1, q.2.2.2.2.2.1, q.2.2.2.2.2.2.1, q.2.2.2.2.2.2.2.1, q.2.2.2.2.2.2.2.2.1, q.2.2.2.2.2.2.2.2.2.1, q.2.2.2.2.2.2.2.2.2.2.1 + (1 : Int32), q.2.2.2.2.2.2.2.2.2.2.2))) rfl ?_
          refine Z.aload_n C dX4_factor_50 1 rfl rfl ?_
          refine Z.dup C dX4_factor_51 rfl ?_
          refine Z.get C in4 0 rfl rfl 28 (by decide) (by decide +kernel) rfl rfl dX4_factor_52 ?_
          refine Z.iconst C (v := (nI 1)) dX4_factor_55 (by decide) ?_
          refine Z.iadd C (v := (nI (q.2.1 + 1))) dX4_factor_56 (nI_add q.2.1 1) ?_
          refine Z.put C in4 0 rfl rfl 28 (by decide) tyX4 tyX4_ok nmX4 (by decide +kernel) rfl rfl rfl rfl (Nat.le_of_ble_eq_true rfl) dX4_factor_57 (w' := (wN a cI cZ o (q.1, q.2.1 + 1, q.2.2.1, q.2.2.2.1, q.2.2.2.2.1, q.2.2.2.2.2.1, q.2.2.2.2.2.2.1, q.2.2.2.2.2.2.2.1, q.2.2.2.2.2.2.2.2.1, q.2.2.2.2.2.2.2.2.2.1, q.2.2.2.2.2.2.2.2.2.2.1 + (1 : Int32), q.2.2.2.2.2.2.2.2.2.2.2))) rfl ?_
          refine Z.aload_n C dX4_factor_60 1 rfl rfl ?_
          refine Z.iload_n C dX4_factor_61 0 rfl rfl ?_
          refine Z.bipush C (v := (nI 40)) dX4_factor_62 (by decide) ?_
          refine Z.icmp_ne C 71 dX4_factor_64 (by decide) (fun c28 => ?_) (fun c28 => ?_)
          · skip
            replace c28 : ¬ (hereN o.2.1 o.2.2.1 q.2.1) = (40 : Int32) := c28
            refine Z.iload_n C dX4_factor_71 0 rfl rfl ?_
            refine Z.bipush C (v := (nI 126)) dX4_factor_72 (by decide) ?_
            refine Z.icmp_ne C 82 dX4_factor_74 (by decide) (fun c29 => ?_) (fun c29 => ?_)
            · skip
              replace c29 : ¬ (hereN o.2.1 o.2.2.1 q.2.1) = (126 : Int32) := c29
              refine Z.iconst C (v := (nI 5)) dX4_factor_82 (by decide) ?_
              refine Z.callVv C (nA := 1) (As := [.int (5 : Int32)]) (st := []) (c_pushN o (q.1, q.2.1 + 1, q.2.2.1, q.2.2.2.1, q.2.2.2.2.1, q.2.2.2.2.2.1, q.2.2.2.2.2.2.1, q.2.2.2.2.2.2.2.1, q.2.2.2.2.2.2.2.2.1, q.2.2.2.2.2.2.2.2.2.1, q.2.2.2.2.2.2.2.2.2.2.1 + (1 : Int32), q.2.2.2.2.2.2.2.2.2.2.2) (5 : Int32)  (by first | omega | (dsimp only; omega))) gX4_factor_X4_push rfl (by decide +kernel) (rm_ok (by omega) (by decide)) 0 rfl rfl rfl (Nat.le_of_ble_eq_true rfl) rfl dX4_factor_83 ?_
              refine Z.iload_n C dX4_factor_86 0 rfl rfl ?_
              refine Z.bipush C (v := (nI 64)) dX4_factor_87 (by decide) ?_
              refine Z.icmp_ne C 98 dX4_factor_89 (by decide) (fun c30 => ?_) (fun c30 => ?_)
              · skip
                replace c30 : ¬ (hereN o.2.1 o.2.2.1 q.2.1) = (64 : Int32) := c30
                exact absurd c17 c30
              · skip
                replace c30 : (hereN o.2.1 o.2.2.1 q.2.1) = (64 : Int32) := c30
                refine Z.aload_n C dX4_factor_92 1 rfl rfl ?_
                refine Z.bipush C (v := (nI 91)) dX4_factor_93 (by decide) ?_
                refine Z.callVv C (nA := 1) (As := [.int (91 : Int32)]) (st := []) (c_want o (q.1, q.2.1 + 1, q.2.2.1, q.2.2.2.1, q.2.2.2.2.1, q.2.2.2.2.2.1, q.2.2.2.2.2.2.1, (upd q.2.2.2.2.2.2.2.1 q.2.2.2.2.2.2.2.2.2.1 (5 : Int32)), (upd q.2.2.2.2.2.2.2.2.1 q.2.2.2.2.2.2.2.2.2.1 0), q.2.2.2.2.2.2.2.2.2.1 + 1, q.2.2.2.2.2.2.2.2.2.2.1 + (1 : Int32), q.2.2.2.2.2.2.2.2.2.2.2) (91 : Int32)  (by first | omega | (dsimp only; omega)) (by first | omega | (dsimp only; omega)) (by first | omega | (dsimp only; omega))) gX4_factor_X4_want rfl (by decide +kernel) (rm_ok (by omega) (by decide)) 0 rfl rfl rfl (Nat.le_of_ble_eq_true rfl) rfl dX4_factor_95 ?_
                have w31 : wanF o.2.1 o.2.2.1 (91 : Int32) (q.2.1 + 1) q.1 < 1000 := wanF_b (by first | omega | (dsimp only; omega)) (by first | omega | (dsimp only; omega))
                refine Z.iconst C (v := (nI 1)) dX4_factor_98 (by decide) ?_
                refine Z.iret C hr hA dX4_factor_99 ?_ ?_
                · first | (simp [qFactor, qStep, qAt1, qWr, qWant, qPush, qSettle, qBlock, qWork, qNest, (eq_false c1), (eq_false c8), (eq_true c17), (eq_false c27), (eq_false c28), (eq_false c29), (eq_true c30)]; done) | (simp_all [qFactor, qStep, qAt1, qWr, qWant, qPush, qSettle, qBlock, qWork, qNest]; done)
                · (refine congrArg (wN a cI cZ o) ?_; first | (simp [qFactor, qStep, qAt1, qWr, qWant, qPush, qSettle, qBlock, qWork, qNest, (eq_false c1), (eq_false c8), (eq_true c17), (eq_false c27), (eq_false c28), (eq_false c29), (eq_true c30)]; done) | (simp_all [qFactor, qStep, qAt1, qWr, qWant, qPush, qSettle, qBlock, qWork, qNest]; done))
            · skip
              replace c29 : (hereN o.2.1 o.2.2.1 q.2.1) = (126 : Int32) := c29
              exact absurd c29 c8
          · skip
            replace c28 : (hereN o.2.1 o.2.2.1 q.2.1) = (40 : Int32) := c28
            exact absurd c28 c1
        · skip
          replace c27 : q.2.2.2.2.2.2.2.2.2.2.1 = (12 : Int32) := c27
          refine Z.aload_n C dX4_factor_32 1 rfl rfl ?_
          refine Z.aload_n C dX4_factor_33 1 rfl rfl ?_
          refine Z.get C in4 0 rfl rfl 28 (by decide) (by decide +kernel) rfl rfl dX4_factor_34 ?_
          refine Z.callVv C (nA := 1) (As := [.int (nI q.2.1)]) (st := []) (c_wrong o q q.2.1  (by first | omega | (dsimp only; omega))) gX4_factor_X4_wrong rfl (by decide +kernel) (rm_ok (by omega) (by decide)) 0 rfl rfl rfl (Nat.le_of_ble_eq_true rfl) rfl dX4_factor_37 ?_
          have w32 : wrF q.1 q.2.1 < 1000 := wrF_b (by first | omega | (dsimp only; omega)) (by first | omega | (dsimp only; omega))
          refine Z.aload_n C dX4_factor_40 1 rfl rfl ?_
          refine Z.dup C dX4_factor_41 rfl ?_
          refine Z.get C in4 0 rfl rfl 20 (by decide) (by decide +kernel) rfl rfl dX4_factor_42 ?_
          refine Z.iconst C (v := (nI 1)) dX4_factor_45 (by decide) ?_
          refine Z.iadd C (v := (q.2.2.2.2.2.2.2.2.2.2.1 + (1 : Int32))) dX4_factor_46 rfl ?_
          refine Z.put C in4 0 rfl rfl 20 (by decide) tyX4 tyX4_ok nmX4 (by decide +kernel) rfl rfl rfl rfl (Nat.le_of_ble_eq_true rfl) dX4_factor_47 (w' := (wN a cI cZ o (wrF q.1 q.2.1, q.2.1, q.2.2.1, q.2.2.2.1, q.2.2.2.2.1, q.2.2.2.2.2.1, q.2.2.2.2.2.2.1, q.2.2.2.2.2.2.2.1, q.2.2.2.2.2.2.2.2.1, q.2.2.2.2.2.2.2.2.2.1, q.2.2.2.2.2.2.2.2.2.2.1 + (1 : Int32), q.2.2.2.2.2.2.2.2.2.2.2))) rfl ?_
          refine Z.aload_n C dX4_factor_50 1 rfl rfl ?_
          refine Z.dup C dX4_factor_51 rfl ?_
          refine Z.get C in4 0 rfl rfl 28 (by decide) (by decide +kernel) rfl rfl dX4_factor_52 ?_
          refine Z.iconst C (v := (nI 1)) dX4_factor_55 (by decide) ?_
          refine Z.iadd C (v := (nI (q.2.1 + 1))) dX4_factor_56 (nI_add q.2.1 1) ?_
          refine Z.put C in4 0 rfl rfl 28 (by decide) tyX4 tyX4_ok nmX4 (by decide +kernel) rfl rfl rfl rfl (Nat.le_of_ble_eq_true rfl) dX4_factor_57 (w' := (wN a cI cZ o (wrF q.1 q.2.1, q.2.1 + 1, q.2.2.1, q.2.2.2.1, q.2.2.2.2.1, q.2.2.2.2.2.1, q.2.2.2.2.2.2.1, q.2.2.2.2.2.2.2.1, q.2.2.2.2.2.2.2.2.1, q.2.2.2.2.2.2.2.2.2.1, q.2.2.2.2.2.2.2.2.2.2.1 + (1 : Int32), q.2.2.2.2.2.2.2.2.2.2.2))) rfl ?_
          refine Z.aload_n C dX4_factor_60 1 rfl rfl ?_
          refine Z.iload_n C dX4_factor_61 0 rfl rfl ?_
          refine Z.bipush C (v := (nI 40)) dX4_factor_62 (by decide) ?_
          refine Z.icmp_ne C 71 dX4_factor_64 (by decide) (fun c33 => ?_) (fun c33 => ?_)
          · skip
            replace c33 : ¬ (hereN o.2.1 o.2.2.1 q.2.1) = (40 : Int32) := c33
            refine Z.iload_n C dX4_factor_71 0 rfl rfl ?_
            refine Z.bipush C (v := (nI 126)) dX4_factor_72 (by decide) ?_
            refine Z.icmp_ne C 82 dX4_factor_74 (by decide) (fun c34 => ?_) (fun c34 => ?_)
            · skip
              replace c34 : ¬ (hereN o.2.1 o.2.2.1 q.2.1) = (126 : Int32) := c34
              refine Z.iconst C (v := (nI 5)) dX4_factor_82 (by decide) ?_
              refine Z.callVv C (nA := 1) (As := [.int (5 : Int32)]) (st := []) (c_pushN o (wrF q.1 q.2.1, q.2.1 + 1, q.2.2.1, q.2.2.2.1, q.2.2.2.2.1, q.2.2.2.2.2.1, q.2.2.2.2.2.2.1, q.2.2.2.2.2.2.2.1, q.2.2.2.2.2.2.2.2.1, q.2.2.2.2.2.2.2.2.2.1, q.2.2.2.2.2.2.2.2.2.2.1 + (1 : Int32), q.2.2.2.2.2.2.2.2.2.2.2) (5 : Int32)  (by first | omega | (dsimp only; omega))) gX4_factor_X4_push rfl (by decide +kernel) (rm_ok (by omega) (by decide)) 0 rfl rfl rfl (Nat.le_of_ble_eq_true rfl) rfl dX4_factor_83 ?_
              refine Z.iload_n C dX4_factor_86 0 rfl rfl ?_
              refine Z.bipush C (v := (nI 64)) dX4_factor_87 (by decide) ?_
              refine Z.icmp_ne C 98 dX4_factor_89 (by decide) (fun c35 => ?_) (fun c35 => ?_)
              · skip
                replace c35 : ¬ (hereN o.2.1 o.2.2.1 q.2.1) = (64 : Int32) := c35
                exact absurd c17 c35
              · skip
                replace c35 : (hereN o.2.1 o.2.2.1 q.2.1) = (64 : Int32) := c35
                refine Z.aload_n C dX4_factor_92 1 rfl rfl ?_
                refine Z.bipush C (v := (nI 91)) dX4_factor_93 (by decide) ?_
                refine Z.callVv C (nA := 1) (As := [.int (91 : Int32)]) (st := []) (c_want o (wrF q.1 q.2.1, q.2.1 + 1, q.2.2.1, q.2.2.2.1, q.2.2.2.2.1, q.2.2.2.2.2.1, q.2.2.2.2.2.2.1, (upd q.2.2.2.2.2.2.2.1 q.2.2.2.2.2.2.2.2.2.1 (5 : Int32)), (upd q.2.2.2.2.2.2.2.2.1 q.2.2.2.2.2.2.2.2.2.1 0), q.2.2.2.2.2.2.2.2.2.1 + 1, q.2.2.2.2.2.2.2.2.2.2.1 + (1 : Int32), q.2.2.2.2.2.2.2.2.2.2.2) (91 : Int32)  (by first | omega | (dsimp only; omega)) (by first | omega | (dsimp only; omega)) (by first | omega | (dsimp only; omega))) gX4_factor_X4_want rfl (by decide +kernel) (rm_ok (by omega) (by decide)) 0 rfl rfl rfl (Nat.le_of_ble_eq_true rfl) rfl dX4_factor_95 ?_
                have w36 : wanF o.2.1 o.2.2.1 (91 : Int32) (q.2.1 + 1) (wrF q.1 q.2.1) < 1000 := wanF_b (by first | omega | (dsimp only; omega)) (by first | omega | (dsimp only; omega))
                refine Z.iconst C (v := (nI 1)) dX4_factor_98 (by decide) ?_
                refine Z.iret C hr hA dX4_factor_99 ?_ ?_
                · first | (simp [qFactor, qStep, qAt1, qWr, qWant, qPush, qSettle, qBlock, qWork, qNest, (eq_false c1), (eq_false c8), (eq_true c17), (eq_true c27), (eq_false c33), (eq_false c34), (eq_true c35)]; done) | (simp_all [qFactor, qStep, qAt1, qWr, qWant, qPush, qSettle, qBlock, qWork, qNest]; done)
                · (refine congrArg (wN a cI cZ o) ?_; first | (simp [qFactor, qStep, qAt1, qWr, qWant, qPush, qSettle, qBlock, qWork, qNest, (eq_false c1), (eq_false c8), (eq_true c17), (eq_true c27), (eq_false c33), (eq_false c34), (eq_true c35)]; done) | (simp_all [qFactor, qStep, qAt1, qWr, qWant, qPush, qSettle, qBlock, qWork, qNest]; done))
            · skip
              replace c34 : (hereN o.2.1 o.2.2.1 q.2.1) = (126 : Int32) := c34
              exact absurd c34 c8
          · skip
            replace c33 : (hereN o.2.1 o.2.2.1 q.2.1) = (40 : Int32) := c33
            exact absurd c33 c1
