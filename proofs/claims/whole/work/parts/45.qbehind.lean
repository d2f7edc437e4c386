def qBoth (q : QS) : Bool := decide (¬ q.2.2.2.2.2.2.2.2.2.2.2.1 (q.2.2.2.2.2.2.2.2.2.2.2.2.1 - 1) = 0 ∧ ¬ q.2.2.2.2.2.2.2.2.2.2.2.1 (q.2.2.2.2.2.2.2.2.2.2.2.2.1 - 1 - 1) = 0)
def qPend (q : QS) : QS := if q.2.2.2.2.2.2.2.2.1 (q.2.2.2.2.2.2.2.2.2.1 - 1) = 0 then q else (q.1, q.2.1, q.2.2.1, upd q.2.2.2.1 q.2.2.2.2.2.1 6, upd q.2.2.2.2.1 q.2.2.2.2.2.1 (q.2.2.2.2.2.2.2.2.1 (q.2.2.2.2.2.2.2.2.2.1 - 1)), q.2.2.2.2.2.1 + 1, if qBoth q = true then q.2.2.2.2.2.2.1 else q.2.2.2.2.2.2.1 + 1, q.2.2.2.2.2.2.2.1, upd q.2.2.2.2.2.2.2.2.1 (q.2.2.2.2.2.2.2.2.2.1 - 1) 0, q.2.2.2.2.2.2.2.2.2.1, q.2.2.2.2.2.2.2.2.2.2.1, upd q.2.2.2.2.2.2.2.2.2.2.2.1 (q.2.2.2.2.2.2.2.2.2.2.2.2.1 - 1 - 1) (b2i (qBoth q)), q.2.2.2.2.2.2.2.2.2.2.2.2.1 - 1, q.2.2.2.2.2.2.2.2.2.2.2.2.2)
def qCls (tx : Nat → Int32) (len : Nat) (wh : Int32) (q : QS) : Nat × QS :=
  if wh = 4 then (2, qWhole (q.1, q.2.1, q.2.2.1, q.2.2.2.1, q.2.2.2.2.1, q.2.2.2.2.2.1, q.2.2.2.2.2.2.1, q.2.2.2.2.2.2.2.1, q.2.2.2.2.2.2.2.2.1, q.2.2.2.2.2.2.2.2.2.1, q.2.2.2.2.2.2.2.2.2.2.1 - 1, q.2.2.2.2.2.2.2.2.2.2.2))
  else if wh = 5 then (2, qWhole (q.1, q.2.1, q.2.2.1, upd q.2.2.2.1 q.2.2.2.2.2.1 2, upd q.2.2.2.2.1 q.2.2.2.2.2.1 0, q.2.2.2.2.2.1 + 1, q.2.2.2.2.2.2.1, q.2.2.2.2.2.2.2.1, q.2.2.2.2.2.2.2.2.1, q.2.2.2.2.2.2.2.2.2.1, q.2.2.2.2.2.2.2.2.2.2.1 - 1, upd q.2.2.2.2.2.2.2.2.2.2.2.1 (q.2.2.2.2.2.2.2.2.2.2.2.2.1 - 1) 0, q.2.2.2.2.2.2.2.2.2.2.2.2))
  else if wh = 1 then (1, qPush 2 (qWant tx len 61 (q.1, q.2.1, q.2.2.1, q.2.2.2.1, q.2.2.2.2.1, q.2.2.2.2.2.1, q.2.2.2.2.2.2.1, q.2.2.2.2.2.2.2.1, q.2.2.2.2.2.2.2.2.1, q.2.2.2.2.2.2.2.2.2.1, q.2.2.2.2.2.2.2.2.2.2.1, q.2.2.2.2.2.2.2.2.2.2.2.1, q.2.2.2.2.2.2.2.2.2.2.2.2.1 - 1, q.2.2.2.2.2.2.2.2.2.2.2.2.2)))
  else if wh = 3 then (0, qBlock (-1) (nI (q.2.2.2.2.2.1 + 1 - 1)) (q.2.2.2.2.2.2.2.2.2.2.2.2.2.2.2.2.1 q.2.2.2.2.2.2.2.2.2.2.2.2.2.2.2.2.2.1) (qStep 9 0 (q.1, q.2.1, q.2.2.1, q.2.2.2.1, q.2.2.2.2.1, q.2.2.2.2.2.1, q.2.2.2.2.2.2.1, q.2.2.2.2.2.2.2.1, q.2.2.2.2.2.2.2.2.1, q.2.2.2.2.2.2.2.2.2.1, q.2.2.2.2.2.2.2.2.2.2.1, q.2.2.2.2.2.2.2.2.2.2.2.1, q.2.2.2.2.2.2.2.2.2.2.2.2.1 - 1, q.2.2.2.2.2.2.2.2.2.2.2.2.2)))
  else (0, qStep (if wh = 0 then 7 else 8) q.2.2.2.2.2.2.2.2.2.2.2.2.2.1 (q.1, q.2.1, q.2.2.1, q.2.2.2.1, q.2.2.2.2.1, q.2.2.2.2.2.1, q.2.2.2.2.2.2.1, q.2.2.2.2.2.2.2.1, q.2.2.2.2.2.2.2.2.1, q.2.2.2.2.2.2.2.2.2.1, q.2.2.2.2.2.2.2.2.2.2.1, q.2.2.2.2.2.2.2.2.2.2.2.1, q.2.2.2.2.2.2.2.2.2.2.2.2.1 - 1, q.2.2.2.2.2.2.2.2.2.2.2.2.2))
def closeF (wh : Int32) : Int32 := if wh = 0 ∨ wh = 2 then 59 else if wh = 3 then 123 else if wh = 4 then 41 else 93
def qBeh2 (tx : Nat → Int32) (len : Nat) (c : Int32) (q : QS) : Nat × QS :=
  if isOpF c = true then (1, (q.1, q.2.1 + 1, q.2.2.1, q.2.2.2.1, q.2.2.2.2.1, q.2.2.2.2.2.1, q.2.2.2.2.2.2.1, q.2.2.2.2.2.2.2.1, upd q.2.2.2.2.2.2.2.2.1 (q.2.2.2.2.2.2.2.2.2.1 - 1) c, q.2.2.2.2.2.2.2.2.2))
  else if c = closeF (q.2.2.2.2.2.2.2.1 (q.2.2.2.2.2.2.2.2.2.1 - 1)) then qCls tx len (q.2.2.2.2.2.2.2.1 (q.2.2.2.2.2.2.2.2.2.1 - 1)) (q.1, q.2.1 + 1, q.2.2.1, q.2.2.2.1, q.2.2.2.2.1, q.2.2.2.2.2.1, q.2.2.2.2.2.2.1, q.2.2.2.2.2.2.2.1, q.2.2.2.2.2.2.2.2.1, q.2.2.2.2.2.2.2.2.2.1 - 1, q.2.2.2.2.2.2.2.2.2.2)
  else (2, qWr q.2.1 q)
def qBehind (tx : Nat → Int32) (len : Nat) (q : QS) : Nat × QS :=
  if hereN tx len q.2.1 = 60 then (2, qWork (qStep 4 (nI (qNumber tx len 1 31 (qAt1 q)).2.2.1) (qNumber tx len 1 31 (qAt1 q))))
  else if hereN tx len q.2.1 = 62 then (2, qWork (qStep 5 (nI (qNumber tx len 1 31 (qAt1 q)).2.2.1) (qNumber tx len 1 31 (qAt1 q))))
  else qBeh2 tx len (hereN tx len q.2.1) (qPend q)

set_option maxHeartbeats 4000000 in
set_option maxRecDepth 100000 in
theorem c_behindN {l : Launch} {D : va_G} {a : Nat → Nat} {cI cZ : ClassId} (o : OS) (q : QS)  (hL : o.2.2.1 ≤ 480) (ha : q.2.1 ≤ 480) (hf : q.1 < 1000) (ho : 1 ≤ q.2.2.2.2.2.2.2.2.2.1 ∧ q.2.2.2.2.2.2.2.2.2.1 + 2 ≤ 520) (hs : 1 ≤ q.2.2.2.2.2.2.2.2.2.2.2.2.1 ∧ q.2.2.2.2.2.2.2.2.2.2.2.2.1 + 2 ≤ 520) (hp : ¬ q.2.2.2.2.2.2.2.2.1 (q.2.2.2.2.2.2.2.2.2.1 - 1) = 0 → 2 ≤ q.2.2.2.2.2.2.2.2.2.2.2.2.1) (hd : q.2.2.2.2.2.1 + q.2.2.2.2.2.2.2.2.2.1 + 4 ≤ 1000) (hb : q.2.2.2.2.2.2.2.2.2.2.2.2.2.2.2.2.2.1 ≤ 8) (hbr : q.2.2.2.2.2.2.2.1 (q.2.2.2.2.2.2.2.2.2.1 - 1) = 3 → q.2.2.2.2.2.2.2.2.2.2.2.2.2.2.2.2.2.1 < 8) : Mi l yX4_behind wsX4_behind 3 D [(cI, .int), (cZ, .boolean)] [.ref (a 0)] (wN a cI cZ o q) (nI ((qBehind o.2.1 o.2.2.1 q).1)) (wN a cI cZ o ((qBehind o.2.1 o.2.2.1 q).2)) := by
  refine Mi.of (cc := cX4_behind) (maxL := 5) (by decide) rfl (Nat.le_of_ble_eq_true rfl) ?_
  intro p e s m below meth c A C hr hA
  have in4 : ∀ w ∈ wsX40, w ∈ wsX4_behind := by decide +kernel
  show Z p l e (rmN _) s m _ below meth c _ D A _ _ [(0, .ref (a 0))] 0 []
  obtain ⟨ho5, ho6⟩ := ho
  obtain ⟨hs5, hs6⟩ := hs
  have key198 : ∀ (q2 : QS), q2.2.1 ≤ 480 → q2.1 < 1000 → 1 ≤ q2.2.2.2.2.2.2.2.2.2.1 ∧ q2.2.2.2.2.2.2.2.2.2.1 + 2 ≤ 520 → 1 ≤ q2.2.2.2.2.2.2.2.2.2.2.2.2.1 ∧ q2.2.2.2.2.2.2.2.2.2.2.2.2.1 + 2 ≤ 520 → q2.2.2.2.2.2.1 + q2.2.2.2.2.2.2.2.2.2.1 + 3 ≤ 1000 → q2.2.2.2.2.2.2.2.2.2.2.2.2.2.2.2.2.2.1 ≤ 8 → (q2.2.2.2.2.2.2.2.1 (q2.2.2.2.2.2.2.2.2.2.1 - 1) = 3 → q2.2.2.2.2.2.2.2.2.2.2.2.2.2.2.2.2.2.1 < 8) → qBehind o.2.1 o.2.2.1 q = qBeh2 o.2.1 o.2.2.1 (hereN o.2.1 o.2.2.1 q.2.1) q2 → Z p l e (rmN 3) s m ([.ref (a 0)] : List Value).toArray below meth c 5 D A (QI below D [(cI, .int), (cZ, .boolean)] [.ref (a 0)] (wN a cI cZ o q) (nI ((qBehind o.2.1 o.2.2.1 q).1)) (wN a cI cZ o ((qBehind o.2.1 o.2.2.1 q).2)) s) (wN a cI cZ o q2) [(2, .int (nI (q2.2.2.2.2.2.2.2.2.2.1 - 1))), (1, .int (hereN o.2.1 o.2.2.1 q.2.1)), (0, .ref (a 0))] 198 [] := by
    intro q2 ha2 hf2 ho2 hs2 hd2 hb2 hbr2 hm198
    obtain ⟨ho3, ho4⟩ := ho2
    obtain ⟨hs3, hs4⟩ := hs2
    refine Z.iload_n C dX4_behind_198 1 rfl rfl ?_
    refine Z.callSi C (nA := 1) (As := [.int (hereN o.2.1 o.2.2.1 q.2.1)]) (st := []) (c_isOpN (hereN o.2.1 o.2.2.1 q.2.1)) gX4_behind_X4_isOperator rfl (by decide +kernel) (rm_ok (by omega) (by decide)) rfl (Nat.le_of_ble_eq_true rfl) rfl dX4_behind_199 ?_
    refine Z.if_eq C 224 dX4_behind_202 (by decide) (fun c1 => ?_) (fun c1 => ?_)
    · skip
      replace c1 : isOpF (hereN o.2.1 o.2.2.1 q.2.1) = false := b2i_0.mp c1
      refine Z.aload_n C dX4_behind_224 2 rfl rfl ?_
      refine Z.get C in4 0 rfl rfl 17 (by decide) (by decide +kernel) rfl rfl dX4_behind_225 ?_
      refine Z.iload_n C dX4_behind_228 0 rfl rfl ?_
      refine Z.iald C 10 0 rfl rfl (q2.2.2.2.2.2.2.2.2.2.1 - 1) rfl (by omega) (by decide) dX4_behind_229 (v := (q2.2.2.2.2.2.2.2.1 (q2.2.2.2.2.2.2.2.2.2.1 - 1))) rfl ?_
      refine Z.istore_n C (lv' := [(3, .int (q2.2.2.2.2.2.2.2.1 (q2.2.2.2.2.2.2.2.2.2.1 - 1))), (2, .int (nI (q2.2.2.2.2.2.2.2.2.2.1 - 1))), (1, .int (hereN o.2.1 o.2.2.1 q.2.1)), (0, .ref (a 0))]) dX4_behind_230 rfl (by decide) rfl ?_
      refine Z.iload_n C dX4_behind_231 0 rfl rfl ?_
      refine Z.if_eq C 240 dX4_behind_232 (by decide) (fun c2 => ?_) (fun c2 => ?_)
      · skip
        replace c2 : (q2.2.2.2.2.2.2.2.1 (q2.2.2.2.2.2.2.2.2.2.1 - 1)) = (0 : Int32) := c2
        refine Z.bipush C (v := (nI 59)) dX4_behind_240 (by decide) ?_
        refine Z.goto C 267 dX4_behind_242 (by decide) ?_
        refine Z.istore C (lv' := [(4, .int (nI 59)), (3, .int (q2.2.2.2.2.2.2.2.1 (q2.2.2.2.2.2.2.2.2.2.1 - 1))), (2, .int (nI (q2.2.2.2.2.2.2.2.2.2.1 - 1))), (1, .int (hereN o.2.1 o.2.2.1 q.2.1)), (0, .ref (a 0))]) dX4_behind_267 (by decide) rfl ?_
        refine Z.iload_n C dX4_behind_269 3 rfl rfl ?_
        refine Z.iload C dX4_behind_270 0 rfl ?_
        refine Z.icmp_eq C 285 dX4_behind_272 (by decide) (fun c3 => ?_) (fun c3 => ?_)
        · skip
          replace c3 : (hereN o.2.1 o.2.2.1 q.2.1) = (59 : Int32) := c3
          refine Z.aload_n C dX4_behind_285 4 rfl rfl ?_
          refine Z.dup C dX4_behind_286 rfl ?_
          refine Z.get C in4 0 rfl rfl 28 (by decide) (by decide +kernel) rfl rfl dX4_behind_287 ?_
          refine Z.iconst C (v := (nI 1)) dX4_behind_290 (by decide) ?_
          refine Z.iadd C (v := (nI (q2.2.1 + 1))) dX4_behind_291 (nI_add q2.2.1 1) ?_
          refine Z.put C in4 0 rfl rfl 28 (by decide) tyX4 tyX4_ok nmX4 (by decide +kernel) rfl rfl rfl rfl (Nat.le_of_ble_eq_true rfl) dX4_behind_292 (w' := (wN a cI cZ o (q2.1, q2.2.1 + 1, q2.2.2))) rfl ?_
          refine Z.aload_n C dX4_behind_295 4 rfl rfl ?_
          refine Z.dup C dX4_behind_296 rfl ?_
          refine Z.get C in4 0 rfl rfl 19 (by decide) (by decide +kernel) rfl rfl dX4_behind_297 ?_
          refine Z.iconst C (v := (nI 1)) dX4_behind_300 (by decide) ?_
          refine Z.isub C (v := (nI (q2.2.2.2.2.2.2.2.2.2.1 - 1))) dX4_behind_301 (pk_sub (a := q2.2.2.2.2.2.2.2.2.2.1) (b := 1) (by omega)) ?_
          refine Z.put C in4 0 rfl rfl 19 (by decide) tyX4 tyX4_ok nmX4 (by decide +kernel) rfl rfl rfl rfl (Nat.le_of_ble_eq_true rfl) dX4_behind_302 (w' := (wN a cI cZ o (q2.1, q2.2.1 + 1, q2.2.2.1, q2.2.2.2.1, q2.2.2.2.2.1, q2.2.2.2.2.2.1, q2.2.2.2.2.2.2.1, q2.2.2.2.2.2.2.2.1, q2.2.2.2.2.2.2.2.2.1, q2.2.2.2.2.2.2.2.2.2.1 - 1, q2.2.2.2.2.2.2.2.2.2.2))) rfl ?_
          refine Z.iload_n C dX4_behind_305 1 rfl rfl ?_
          refine Z.iconst C (v := (nI 4)) dX4_behind_306 (by decide) ?_
          refine Z.icmp_eq C 315 dX4_behind_307 (by decide) (fun c4 => ?_) (fun c4 => ?_)
          · skip
            replace c4 : (q2.2.2.2.2.2.2.2.1 (q2.2.2.2.2.2.2.2.2.2.1 - 1)) = (4 : Int32) := c4
            exact absurd (c2.symm.trans c4) (by decide)
          · skip
            replace c4 : ¬ (q2.2.2.2.2.2.2.2.1 (q2.2.2.2.2.2.2.2.2.2.1 - 1)) = (4 : Int32) := c4
            refine Z.iload_n C dX4_behind_310 1 rfl rfl ?_
            refine Z.iconst C (v := (nI 5)) dX4_behind_311 (by decide) ?_
            refine Z.icmp_ne C 354 dX4_behind_312 (by decide) (fun c5 => ?_) (fun c5 => ?_)
            · skip
              replace c5 : ¬ (q2.2.2.2.2.2.2.2.1 (q2.2.2.2.2.2.2.2.2.2.1 - 1)) = (5 : Int32) := c5
              refine Z.aload_n C dX4_behind_354 4 rfl rfl ?_
              refine Z.dup C dX4_behind_355 rfl ?_
              refine Z.get C in4 0 rfl rfl 22 (by decide) (by decide +kernel) rfl rfl dX4_behind_356 ?_
              refine Z.iconst C (v := (nI 1)) dX4_behind_359 (by decide) ?_
              refine Z.isub C (v := (nI (q2.2.2.2.2.2.2.2.2.2.2.2.2.1 - 1))) dX4_behind_360 (pk_sub (a := q2.2.2.2.2.2.2.2.2.2.2.2.2.1) (b := 1) (by omega)) ?_
              refine Z.put C in4 0 rfl rfl 22 (by decide) tyX4 tyX4_ok nmX4 (by decide +kernel) rfl rfl rfl rfl (Nat.le_of_ble_eq_true rfl) dX4_behind_361 (w' := (wN a cI cZ o (q2.1, q2.2.1 + 1, q2.2.2.1, q2.2.2.2.1, q2.2.2.2.2.1, q2.2.2.2.2.2.1, q2.2.2.2.2.2.2.1, q2.2.2.2.2.2.2.2.1, q2.2.2.2.2.2.2.2.2.1, q2.2.2.2.2.2.2.2.2.2.1 - 1, q2.2.2.2.2.2.2.2.2.2.2.1, q2.2.2.2.2.2.2.2.2.2.2.2.1, q2.2.2.2.2.2.2.2.2.2.2.2.2.1 - 1, q2.2.2.2.2.2.2.2.2.2.2.2.2.2))) rfl ?_
              refine Z.iload_n C dX4_behind_364 1 rfl rfl ?_
              refine Z.iconst C (v := (nI 1)) dX4_behind_365 (by decide) ?_
              refine Z.icmp_ne C 382 dX4_behind_366 (by decide) (fun c6 => ?_) (fun c6 => ?_)
              · skip
                replace c6 : ¬ (q2.2.2.2.2.2.2.2.1 (q2.2.2.2.2.2.2.2.2.2.1 - 1)) = (1 : Int32) := c6
                refine Z.iload_n C dX4_behind_382 1 rfl rfl ?_
                refine Z.iconst C (v := (nI 3)) dX4_behind_383 (by decide) ?_
                refine Z.icmp_ne C 417 dX4_behind_384 (by decide) (fun c7 => ?_) (fun c7 => ?_)
                · skip
                  replace c7 : ¬ (q2.2.2.2.2.2.2.2.1 (q2.2.2.2.2.2.2.2.2.2.1 - 1)) = (3 : Int32) := c7
                  refine Z.aload_n C dX4_behind_417 4 rfl rfl ?_
                  refine Z.iload_n C dX4_behind_418 1 rfl rfl ?_
                  refine Z.if_ne C 427 dX4_behind_419 (by decide) (fun c8 => ?_) (fun c8 => ?_)
                  · skip
                    replace c8 : ¬ (q2.2.2.2.2.2.2.2.1 (q2.2.2.2.2.2.2.2.2.2.1 - 1)) = (0 : Int32) := c8
                    exact absurd c2 c8
                  · skip
                    replace c8 : (q2.2.2.2.2.2.2.2.1 (q2.2.2.2.2.2.2.2.2.2.1 - 1)) = (0 : Int32) := c8
                    refine Z.bipush C (v := (nI 7)) dX4_behind_422 (by decide) ?_
                    refine Z.goto C 429 dX4_behind_424 (by decide) ?_
                    refine Z.aload_n C dX4_behind_429 4 rfl rfl ?_
                    refine Z.get C in4 0 rfl rfl 23 (by decide) (by decide +kernel) rfl rfl dX4_behind_430 ?_
                    refine Z.callVv C (nA := 2) (As := [.int (7 : Int32), .int q2.2.2.2.2.2.2.2.2.2.2.2.2.2.1]) (st := []) (c_step o (q2.1, q2.2.1 + 1, q2.2.2.1, q2.2.2.2.1, q2.2.2.2.2.1, q2.2.2.2.2.2.1, q2.2.2.2.2.2.2.1, q2.2.2.2.2.2.2.2.1, q2.2.2.2.2.2.2.2.2.1, q2.2.2.2.2.2.2.2.2.2.1 - 1, q2.2.2.2.2.2.2.2.2.2.2.1, q2.2.2.2.2.2.2.2.2.2.2.2.1, q2.2.2.2.2.2.2.2.2.2.2.2.2.1 - 1, q2.2.2.2.2.2.2.2.2.2.2.2.2.2) (7 : Int32) q2.2.2.2.2.2.2.2.2.2.2.2.2.2.1  (by first | omega | (dsimp only; omega))) gX4_behind_X4_step rfl (by decide +kernel) (rm_ok (by omega) (by decide)) 0 rfl rfl rfl (Nat.le_of_ble_eq_true rfl) rfl dX4_behind_433 ?_
                    refine Z.iconst C (v := (nI 0)) dX4_behind_436 (by decide) ?_
                    refine Z.iret C hr hA dX4_behind_437 ?_ ?_
                    · first | (rw [hm198]; simp [qBehind, qBeh2, qCls, closeF, qStep, qAt1, qWr, qWant, qPush, qSettle, qBlock, qWork, qNest, c1, (eq_true c2), (eq_true c3), (eq_false c4), (eq_false c5), (eq_false c6), (eq_false c7), (eq_true c8)]; done) | (rw [hm198]; simp_all [qBehind, qBeh2, qCls, closeF, qStep, qAt1, qWr, qWant, qPush, qSettle, qBlock, qWork, qNest]; done)
                    · (refine congrArg (wN a cI cZ o) ?_; first | (rw [hm198]; simp [qBehind, qBeh2, qCls, closeF, qStep, qAt1, qWr, qWant, qPush, qSettle, qBlock, qWork, qNest, c1, (eq_true c2), (eq_true c3), (eq_false c4), (eq_false c5), (eq_false c6), (eq_false c7), (eq_true c8)]; done) | (rw [hm198]; simp_all [qBehind, qBeh2, qCls, closeF, qStep, qAt1, qWr, qWant, qPush, qSettle, qBlock, qWork, qNest]; done))
                · skip
                  replace c7 : (q2.2.2.2.2.2.2.2.1 (q2.2.2.2.2.2.2.2.2.2.1 - 1)) = (3 : Int32) := c7
                  exact absurd (c2.symm.trans c7) (by decide)
              · skip
                replace c6 : (q2.2.2.2.2.2.2.2.1 (q2.2.2.2.2.2.2.2.2.2.1 - 1)) = (1 : Int32) := c6
                exact absurd (c2.symm.trans c6) (by decide)
            · skip
              replace c5 : (q2.2.2.2.2.2.2.2.1 (q2.2.2.2.2.2.2.2.2.2.1 - 1)) = (5 : Int32) := c5
              exact absurd (c2.symm.trans c5) (by decide)
        · skip
          replace c3 : ¬ (hereN o.2.1 o.2.2.1 q.2.1) = (59 : Int32) := c3
          refine Z.aload_n C dX4_behind_275 4 rfl rfl ?_
          refine Z.aload_n C dX4_behind_276 4 rfl rfl ?_
          refine Z.get C in4 0 rfl rfl 28 (by decide) (by decide +kernel) rfl rfl dX4_behind_277 ?_
          refine Z.callVv C (nA := 1) (As := [.int (nI q2.2.1)]) (st := []) (c_wrong o q2 q2.2.1  (by first | omega | (dsimp only; omega))) gX4_behind_X4_wrong rfl (by decide +kernel) (rm_ok (by omega) (by decide)) 0 rfl rfl rfl (Nat.le_of_ble_eq_true rfl) rfl dX4_behind_280 ?_
          have w9 : wrF q2.1 q2.2.1 < 1000 := wrF_b (by first | omega | (dsimp only; omega)) (by first | omega | (dsimp only; omega))
          refine Z.iconst C (v := (nI 2)) dX4_behind_283 (by decide) ?_
          refine Z.iret C hr hA dX4_behind_284 ?_ ?_
          · first | (rw [hm198]; simp [qBehind, qBeh2, qCls, closeF, qStep, qAt1, qWr, qWant, qPush, qSettle, qBlock, qWork, qNest, c1, (eq_true c2), (eq_false c3)]; done) | (rw [hm198]; simp_all [qBehind, qBeh2, qCls, closeF, qStep, qAt1, qWr, qWant, qPush, qSettle, qBlock, qWork, qNest]; done)
          · (refine congrArg (wN a cI cZ o) ?_; first | (rw [hm198]; simp [qBehind, qBeh2, qCls, closeF, qStep, qAt1, qWr, qWant, qPush, qSettle, qBlock, qWork, qNest, c1, (eq_true c2), (eq_false c3)]; done) | (rw [hm198]; simp_all [qBehind, qBeh2, qCls, closeF, qStep, qAt1, qWr, qWant, qPush, qSettle, qBlock, qWork, qNest]; done))
      · skip
        replace c2 : ¬ (q2.2.2.2.2.2.2.2.1 (q2.2.2.2.2.2.2.2.2.2.1 - 1)) = (0 : Int32) := c2
        refine Z.iload_n C dX4_behind_235 0 rfl rfl ?_
        refine Z.iconst C (v := (nI 2)) dX4_behind_236 (by decide) ?_
        refine Z.icmp_ne C 245 dX4_behind_237 (by decide) (fun c10 => ?_) (fun c10 => ?_)
        · skip
          replace c10 : ¬ (q2.2.2.2.2.2.2.2.1 (q2.2.2.2.2.2.2.2.2.2.1 - 1)) = (2 : Int32) := c10
          refine Z.iload_n C dX4_behind_245 0 rfl rfl ?_
          refine Z.iconst C (v := (nI 3)) dX4_behind_246 (by decide) ?_
          refine Z.icmp_ne C 255 dX4_behind_247 (by decide) (fun c11 => ?_) (fun c11 => ?_)
          · skip
            replace c11 : ¬ (q2.2.2.2.2.2.2.2.1 (q2.2.2.2.2.2.2.2.2.2.1 - 1)) = (3 : Int32) := c11
            refine Z.iload_n C dX4_behind_255 0 rfl rfl ?_
            refine Z.iconst C (v := (nI 4)) dX4_behind_256 (by decide) ?_
            refine Z.icmp_ne C 265 dX4_behind_257 (by decide) (fun c12 => ?_) (fun c12 => ?_)
            · skip
              replace c12 : ¬ (q2.2.2.2.2.2.2.2.1 (q2.2.2.2.2.2.2.2.2.2.1 - 1)) = (4 : Int32) := c12
              refine Z.bipush C (v := (nI 93)) dX4_behind_265 (by decide) ?_
              refine Z.istore C (lv' := [(4, .int (nI 93)), (3, .int (q2.2.2.2.2.2.2.2.1 (q2.2.2.2.2.2.2.2.2.2.1 - 1))), (2, .int (nI (q2.2.2.2.2.2.2.2.2.2.1 - 1))), (1, .int (hereN o.2.1 o.2.2.1 q.2.1)), (0, .ref (a 0))]) dX4_behind_267 (by decide) rfl ?_
              refine Z.iload_n C dX4_behind_269 3 rfl rfl ?_
              refine Z.iload C dX4_behind_270 0 rfl ?_
              refine Z.icmp_eq C 285 dX4_behind_272 (by decide) (fun c13 => ?_) (fun c13 => ?_)
              · skip
                replace c13 : (hereN o.2.1 o.2.2.1 q.2.1) = (93 : Int32) := c13
                refine Z.aload_n C dX4_behind_285 4 rfl rfl ?_
                refine Z.dup C dX4_behind_286 rfl ?_
                refine Z.get C in4 0 rfl rfl 28 (by decide) (by decide +kernel) rfl rfl dX4_behind_287 ?_
                refine Z.iconst C (v := (nI 1)) dX4_behind_290 (by decide) ?_
                refine Z.iadd C (v := (nI (q2.2.1 + 1))) dX4_behind_291 (nI_add q2.2.1 1) ?_
                refine Z.put C in4 0 rfl rfl 28 (by decide) tyX4 tyX4_ok nmX4 (by decide +kernel) rfl rfl rfl rfl (Nat.le_of_ble_eq_true rfl) dX4_behind_292 (w' := (wN a cI cZ o (q2.1, q2.2.1 + 1, q2.2.2))) rfl ?_
                refine Z.aload_n C dX4_behind_295 4 rfl rfl ?_
                refine Z.dup C dX4_behind_296 rfl ?_
                refine Z.get C in4 0 rfl rfl 19 (by decide) (by decide +kernel) rfl rfl dX4_behind_297 ?_
                refine Z.iconst C (v := (nI 1)) dX4_behind_300 (by decide) ?_
                refine Z.isub C (v := (nI (q2.2.2.2.2.2.2.2.2.2.1 - 1))) dX4_behind_301 (pk_sub (a := q2.2.2.2.2.2.2.2.2.2.1) (b := 1) (by omega)) ?_
                refine Z.put C in4 0 rfl rfl 19 (by decide) tyX4 tyX4_ok nmX4 (by decide +kernel) rfl rfl rfl rfl (Nat.le_of_ble_eq_true rfl) dX4_behind_302 (w' := (wN a cI cZ o (q2.1, q2.2.1 + 1, q2.2.2.1, q2.2.2.2.1, q2.2.2.2.2.1, q2.2.2.2.2.2.1, q2.2.2.2.2.2.2.1, q2.2.2.2.2.2.2.2.1, q2.2.2.2.2.2.2.2.2.1, q2.2.2.2.2.2.2.2.2.2.1 - 1, q2.2.2.2.2.2.2.2.2.2.2))) rfl ?_
                refine Z.iload_n C dX4_behind_305 1 rfl rfl ?_
                refine Z.iconst C (v := (nI 4)) dX4_behind_306 (by decide) ?_
                refine Z.icmp_eq C 315 dX4_behind_307 (by decide) (fun c14 => ?_) (fun c14 => ?_)
                · skip
                  replace c14 : (q2.2.2.2.2.2.2.2.1 (q2.2.2.2.2.2.2.2.2.2.1 - 1)) = (4 : Int32) := c14
                  exact absurd c14 c12
                · skip
                  replace c14 : ¬ (q2.2.2.2.2.2.2.2.1 (q2.2.2.2.2.2.2.2.2.2.1 - 1)) = (4 : Int32) := c14
                  refine Z.iload_n C dX4_behind_310 1 rfl rfl ?_
                  refine Z.iconst C (v := (nI 5)) dX4_behind_311 (by decide) ?_
                  refine Z.icmp_ne C 354 dX4_behind_312 (by decide) (fun c15 => ?_) (fun c15 => ?_)
                  · skip
                    replace c15 : ¬ (q2.2.2.2.2.2.2.2.1 (q2.2.2.2.2.2.2.2.2.2.1 - 1)) = (5 : Int32) := c15
                    refine Z.aload_n C dX4_behind_354 4 rfl rfl ?_
                    refine Z.dup C dX4_behind_355 rfl ?_
                    refine Z.get C in4 0 rfl rfl 22 (by decide) (by decide +kernel) rfl rfl dX4_behind_356 ?_
                    refine Z.iconst C (v := (nI 1)) dX4_behind_359 (by decide) ?_
                    refine Z.isub C (v := (nI (q2.2.2.2.2.2.2.2.2.2.2.2.2.1 - 1))) dX4_behind_360 (pk_sub (a := q2.2.2.2.2.2.2.2.2.2.2.2.2.1) (b := 1) (by omega)) ?_
                    refine Z.put C in4 0 rfl rfl 22 (by decide) tyX4 tyX4_ok nmX4 (by decide +kernel) rfl rfl rfl rfl (Nat.le_of_ble_eq_true rfl) dX4_behind_361 (w' := (wN a cI cZ o (q2.1, q2.2.1 + 1, q2.2.2.1, q2.2.2.2.1, q2.2.2.2.2.1, q2.2.2.2.2.2.1, q2.2.2.2.2.2.2.1, q2.2.2.2.2.2.2.2.1, q2.2.2.2.2.2.2.2.2.1, q2.2.2.2.2.2.2.2.2.2.1 - 1, q2.2.2.2.2.2.2.2.2.2.2.1, q2.2.2.2.2.2.2.2.2.2.2.2.1, q2.2.2.2.2.2.2.2.2.2.2.2.2.1 - 1, q2.2.2.2.2.2.2.2.2.2.2.2.2.2))) rfl ?_
                    refine Z.iload_n C dX4_behind_364 1 rfl rfl ?_
                    refine Z.iconst C (v := (nI 1)) dX4_behind_365 (by decide) ?_
                    refine Z.icmp_ne C 382 dX4_behind_366 (by decide) (fun c16 => ?_) (fun c16 => ?_)
                    · skip
                      replace c16 : ¬ (q2.2.2.2.2.2.2.2.1 (q2.2.2.2.2.2.2.2.2.2.1 - 1)) = (1 : Int32) := c16
                      refine Z.iload_n C dX4_behind_382 1 rfl rfl ?_
                      refine Z.iconst C (v := (nI 3)) dX4_behind_383 (by decide) ?_
                      refine Z.icmp_ne C 417 dX4_behind_384 (by decide) (fun c17 => ?_) (fun c17 => ?_)
                      · skip
                        replace c17 : ¬ (q2.2.2.2.2.2.2.2.1 (q2.2.2.2.2.2.2.2.2.2.1 - 1)) = (3 : Int32) := c17
                        refine Z.aload_n C dX4_behind_417 4 rfl rfl ?_
                        refine Z.iload_n C dX4_behind_418 1 rfl rfl ?_
                        refine Z.if_ne C 427 dX4_behind_419 (by decide) (fun c18 => ?_) (fun c18 => ?_)
                        · skip
                          replace c18 : ¬ (q2.2.2.2.2.2.2.2.1 (q2.2.2.2.2.2.2.2.2.2.1 - 1)) = (0 : Int32) := c18
                          refine Z.bipush C (v := (nI 8)) dX4_behind_427 (by decide) ?_
                          refine Z.aload_n C dX4_behind_429 4 rfl rfl ?_
                          refine Z.get C in4 0 rfl rfl 23 (by decide) (by decide +kernel) rfl rfl dX4_behind_430 ?_
                          refine Z.callVv C (nA := 2) (As := [.int (8 : Int32), .int q2.2.2.2.2.2.2.2.2.2.2.2.2.2.1]) (st := []) (c_step o (q2.1, q2.2.1 + 1, q2.2.2.1, q2.2.2.2.1, q2.2.2.2.2.1, q2.2.2.2.2.2.1, q2.2.2.2.2.2.2.1, q2.2.2.2.2.2.2.2.1, q2.2.2.2.2.2.2.2.2.1, q2.2.2.2.2.2.2.2.2.2.1 - 1, q2.2.2.2.2.2.2.2.2.2.2.1, q2.2.2.2.2.2.2.2.2.2.2.2.1, q2.2.2.2.2.2.2.2.2.2.2.2.2.1 - 1, q2.2.2.2.2.2.2.2.2.2.2.2.2.2) (8 : Int32) q2.2.2.2.2.2.2.2.2.2.2.2.2.2.1  (by first | omega | (dsimp only; omega))) gX4_behind_X4_step rfl (by decide +kernel) (rm_ok (by omega) (by decide)) 0 rfl rfl rfl (Nat.le_of_ble_eq_true rfl) rfl dX4_behind_433 ?_
                          refine Z.iconst C (v := (nI 0)) dX4_behind_436 (by decide) ?_
                          refine Z.iret C hr hA dX4_behind_437 ?_ ?_
                          · first | (rw [hm198]; simp [qBehind, qBeh2, qCls, closeF, qStep, qAt1, qWr, qWant, qPush, qSettle, qBlock, qWork, qNest, c1, (eq_false c2), (eq_false c10), (eq_false c11), (eq_false c12), (eq_true c13), (eq_false c14), (eq_false c15), (eq_false c16), (eq_false c17), (eq_false c18)]; done) | (rw [hm198]; simp_all [qBehind, qBeh2, qCls, closeF, qStep, qAt1, qWr, qWant, qPush, qSettle, qBlock, qWork, qNest]; done)
                          · (refine congrArg (wN a cI cZ o) ?_; first | (rw [hm198]; simp [qBehind, qBeh2, qCls, closeF, qStep, qAt1, qWr, qWant, qPush, qSettle, qBlock, qWork, qNest, c1, (eq_false c2), (eq_false c10), (eq_false c11), (eq_false c12), (eq_true c13), (eq_false c14), (eq_false c15), (eq_false c16), (eq_false c17), (eq_false c18)]; done) | (rw [hm198]; simp_all [qBehind, qBeh2, qCls, closeF, qStep, qAt1, qWr, qWant, qPush, qSettle, qBlock, qWork, qNest]; done))
                        · skip
                          replace c18 : (q2.2.2.2.2.2.2.2.1 (q2.2.2.2.2.2.2.2.2.2.1 - 1)) = (0 : Int32) := c18
                          exact absurd c18 c2
                      · skip
                        replace c17 : (q2.2.2.2.2.2.2.2.1 (q2.2.2.2.2.2.2.2.2.2.1 - 1)) = (3 : Int32) := c17
                        exact absurd c17 c11
                    · skip
                      replace c16 : (q2.2.2.2.2.2.2.2.1 (q2.2.2.2.2.2.2.2.2.2.1 - 1)) = (1 : Int32) := c16
                      refine Z.aload_n C dX4_behind_369 4 rfl rfl ?_
                      refine Z.bipush C (v := (nI 61)) dX4_behind_370 (by decide) ?_
                      refine Z.callVv C (nA := 1) (As := [.int (61 : Int32)]) (st := []) (c_want o (q2.1, q2.2.1 + 1, q2.2.2.1, q2.2.2.2.1, q2.2.2.2.2.1, q2.2.2.2.2.2.1, q2.2.2.2.2.2.2.1, q2.2.2.2.2.2.2.2.1, q2.2.2.2.2.2.2.2.2.1, q2.2.2.2.2.2.2.2.2.2.1 - 1, q2.2.2.2.2.2.2.2.2.2.2.1, q2.2.2.2.2.2.2.2.2.2.2.2.1, q2.2.2.2.2.2.2.2.2.2.2.2.2.1 - 1, q2.2.2.2.2.2.2.2.2.2.2.2.2.2) (61 : Int32)  (by first | omega | (dsimp only; omega)) (by first | omega | (dsimp only; omega)) (by first | omega | (dsimp only; omega))) gX4_behind_X4_want rfl (by decide +kernel) (rm_ok (by omega) (by decide)) 0 rfl rfl rfl (Nat.le_of_ble_eq_true rfl) rfl dX4_behind_372 ?_
                      have w19 : wanF o.2.1 o.2.2.1 (61 : Int32) (q2.2.1 + 1) q2.1 < 1000 := wanF_b (by first | omega | (dsimp only; omega)) (by first | omega | (dsimp only; omega))
                      refine Z.aload_n C dX4_behind_375 4 rfl rfl ?_
                      refine Z.iconst C (v := (nI 2)) dX4_behind_376 (by decide) ?_
                      refine Z.callVv C (nA := 1) (As := [.int (2 : Int32)]) (st := []) (c_pushN o (wanF o.2.1 o.2.2.1 (61 : Int32) (q2.2.1 + 1) q2.1, q2.2.1 + 1 + 1, q2.2.2.1, q2.2.2.2.1, q2.2.2.2.2.1, q2.2.2.2.2.2.1, q2.2.2.2.2.2.2.1, q2.2.2.2.2.2.2.2.1, q2.2.2.2.2.2.2.2.2.1, q2.2.2.2.2.2.2.2.2.2.1 - 1, q2.2.2.2.2.2.2.2.2.2.2.1, q2.2.2.2.2.2.2.2.2.2.2.2.1, q2.2.2.2.2.2.2.2.2.2.2.2.2.1 - 1, q2.2.2.2.2.2.2.2.2.2.2.2.2.2) (2 : Int32)  (by first | omega | (dsimp only; omega))) gX4_behind_X4_push rfl (by decide +kernel) (rm_ok (by omega) (by decide)) 0 rfl rfl rfl (Nat.le_of_ble_eq_true rfl) rfl dX4_behind_377 ?_
                      refine Z.iconst C (v := (nI 1)) dX4_behind_380 (by decide) ?_
                      refine Z.iret C hr hA dX4_behind_381 ?_ ?_
                      · first | (rw [hm198]; simp [qBehind, qBeh2, qCls, closeF, qStep, qAt1, qWr, qWant, qPush, qSettle, qBlock, qWork, qNest, c1, (eq_false c2), (eq_false c10), (eq_false c11), (eq_false c12), (eq_true c13), (eq_false c14), (eq_false c15), (eq_true c16)]; done) | (rw [hm198]; simp_all [qBehind, qBeh2, qCls, closeF, qStep, qAt1, qWr, qWant, qPush, qSettle, qBlock, qWork, qNest]; done)
                      · (refine congrArg (wN a cI cZ o) ?_; first | (rw [hm198]; simp [qBehind, qBeh2, qCls, closeF, qStep, qAt1, qWr, qWant, qPush, qSettle, qBlock, qWork, qNest, c1, (eq_false c2), (eq_false c10), (eq_false c11), (eq_false c12), (eq_true c13), (eq_false c14), (eq_false c15), (eq_true c16)]; done) | (rw [hm198]; simp_all [qBehind, qBeh2, qCls, closeF, qStep, qAt1, qWr, qWant, qPush, qSettle, qBlock, qWork, qNest]; done))
                  · skip
                    replace c15 : (q2.2.2.2.2.2.2.2.1 (q2.2.2.2.2.2.2.2.2.2.1 - 1)) = (5 : Int32) := c15
                    refine Z.aload_n C dX4_behind_315 4 rfl rfl ?_
                    refine Z.dup C dX4_behind_316 rfl ?_
                    refine Z.get C in4 0 rfl rfl 20 (by decide) (by decide +kernel) rfl rfl dX4_behind_317 ?_
                    refine Z.iconst C (v := (nI 1)) dX4_behind_320 (by decide) ?_
                    refine Z.isub C (v := (q2.2.2.2.2.2.2.2.2.2.2.1 - (1 : Int32))) dX4_behind_321 rfl ?_
                    refine Z.put C in4 0 rfl rfl 20 (by decide) tyX4 tyX4_ok nmX4 (by decide +kernel) rfl rfl rfl rfl (Nat.le_of_ble_eq_true rfl) dX4_behind_322 (w' := (wN a cI cZ o (q2.1, q2.2.1 + 1, q2.2.2.1, q2.2.2.2.1, q2.2.2.2.2.1, q2.2.2.2.2.2.1, q2.2.2.2.2.2.2.1, q2.2.2.2.2.2.2.2.1, q2.2.2.2.2.2.2.2.2.1, q2.2.2.2.2.2.2.2.2.2.1 - 1, q2.2.2.2.2.2.2.2.2.2.2.1 - (1 : Int32), q2.2.2.2.2.2.2.2.2.2.2.2))) rfl ?_
                    refine Z.iload_n C dX4_behind_325 1 rfl rfl ?_
                    refine Z.iconst C (v := (nI 5)) dX4_behind_326 (by decide) ?_
                    refine Z.icmp_ne C 348 dX4_behind_327 (by decide) (fun c20 => ?_) (fun c20 => ?_)
                    · skip
                      replace c20 : ¬ (q2.2.2.2.2.2.2.2.1 (q2.2.2.2.2.2.2.2.2.2.1 - 1)) = (5 : Int32) := c20
                      exact absurd c15 c20
                    · skip
                      replace c20 : (q2.2.2.2.2.2.2.2.1 (q2.2.2.2.2.2.2.2.2.2.1 - 1)) = (5 : Int32) := c20
                      refine Z.aload_n C dX4_behind_330 4 rfl rfl ?_
                      refine Z.iconst C (v := (nI 2)) dX4_behind_331 (by decide) ?_
                      refine Z.iconst C (v := (nI 0)) dX4_behind_332 (by decide) ?_
                      refine Z.callVv C (nA := 2) (As := [.int (2 : Int32), .int (0 : Int32)]) (st := []) (c_step o (q2.1, q2.2.1 + 1, q2.2.2.1, q2.2.2.2.1, q2.2.2.2.2.1, q2.2.2.2.2.2.1, q2.2.2.2.2.2.2.1, q2.2.2.2.2.2.2.2.1, q2.2.2.2.2.2.2.2.2.1, q2.2.2.2.2.2.2.2.2.2.1 - 1, q2.2.2.2.2.2.2.2.2.2.2.1 - (1 : Int32), q2.2.2.2.2.2.2.2.2.2.2.2) (2 : Int32) (0 : Int32)  (by first | omega | (dsimp only; omega))) gX4_behind_X4_step rfl (by decide +kernel) (rm_ok (by omega) (by decide)) 0 rfl rfl rfl (Nat.le_of_ble_eq_true rfl) rfl dX4_behind_333 ?_
                      refine Z.aload_n C dX4_behind_336 4 rfl rfl ?_
                      refine Z.get C in4 0 rfl rfl 21 (by decide) (by decide +kernel) rfl rfl dX4_behind_337 ?_
                      refine Z.aload_n C dX4_behind_340 4 rfl rfl ?_
                      refine Z.get C in4 0 rfl rfl 22 (by decide) (by decide +kernel) rfl rfl dX4_behind_341 ?_
                      refine Z.iconst C (v := (nI 1)) dX4_behind_344 (by decide) ?_
                      refine Z.isub C (v := (nI (q2.2.2.2.2.2.2.2.2.2.2.2.2.1 - 1))) dX4_behind_345 (pk_sub (a := q2.2.2.2.2.2.2.2.2.2.2.2.2.1) (b := 1) (by omega)) ?_
                      refine Z.iconst C (v := (nI 0)) dX4_behind_346 (by decide) ?_
                      refine Z.zast C 12 1 rfl rfl (q2.2.2.2.2.2.2.2.2.2.2.2.2.1 - 1) rfl (by omega) (by decide) dX4_behind_347 (v := (0 : Int32)) (by decide) (w' := (wN a cI cZ o (q2.1, q2.2.1 + 1, q2.2.2.1, (upd q2.2.2.2.1 q2.2.2.2.2.2.1 (2 : Int32)), (upd q2.2.2.2.2.1 q2.2.2.2.2.2.1 (0 : Int32)), q2.2.2.2.2.2.1 + 1, q2.2.2.2.2.2.2.1, q2.2.2.2.2.2.2.2.1, q2.2.2.2.2.2.2.2.2.1, q2.2.2.2.2.2.2.2.2.2.1 - 1, q2.2.2.2.2.2.2.2.2.2.2.1 - (1 : Int32), (upd q2.2.2.2.2.2.2.2.2.2.2.2.1 (q2.2.2.2.2.2.2.2.2.2.2.2.2.1 - 1) (0 : Int32)), q2.2.2.2.2.2.2.2.2.2.2.2.2))) rfl ?_
                      refine Z.aload_n C dX4_behind_348 4 rfl rfl ?_
                      refine Z.callVv C (nA := 0) (As := []) (st := []) (c_wholeN o (q2.1, q2.2.1 + 1, q2.2.2.1, (upd q2.2.2.2.1 q2.2.2.2.2.2.1 (2 : Int32)), (upd q2.2.2.2.2.1 q2.2.2.2.2.2.1 (0 : Int32)), q2.2.2.2.2.2.1 + 1, q2.2.2.2.2.2.2.1, q2.2.2.2.2.2.2.2.1, q2.2.2.2.2.2.2.2.2.1, q2.2.2.2.2.2.2.2.2.2.1 - 1, q2.2.2.2.2.2.2.2.2.2.2.1 - (1 : Int32), (upd q2.2.2.2.2.2.2.2.2.2.2.2.1 (q2.2.2.2.2.2.2.2.2.2.2.2.2.1 - 1) (0 : Int32)), q2.2.2.2.2.2.2.2.2.2.2.2.2) (by first | omega | (dsimp only; omega)) ⟨by first | omega | (dsimp only; omega), by first | omega | (dsimp only; omega)⟩ (by first | omega | (dsimp only; omega))) gX4_behind_X4_whole rfl (by decide +kernel) (rm_ok (by omega) (by decide)) 0 rfl rfl rfl (Nat.le_of_ble_eq_true rfl) rfl dX4_behind_349 ?_
                      generalize e21 : qWhole (q2.1, q2.2.1 + 1, q2.2.2.1, (upd q2.2.2.2.1 q2.2.2.2.2.2.1 (2 : Int32)), (upd q2.2.2.2.2.1 q2.2.2.2.2.2.1 (0 : Int32)), q2.2.2.2.2.2.1 + 1, q2.2.2.2.2.2.2.1, q2.2.2.2.2.2.2.2.1, q2.2.2.2.2.2.2.2.2.1, q2.2.2.2.2.2.2.2.2.2.1 - 1, q2.2.2.2.2.2.2.2.2.2.2.1 - (1 : Int32), (upd q2.2.2.2.2.2.2.2.2.2.2.2.1 (q2.2.2.2.2.2.2.2.2.2.2.2.2.1 - 1) (0 : Int32)), q2.2.2.2.2.2.2.2.2.2.2.2.2) = x21
                      refine Z.iconst C (v := (nI 2)) dX4_behind_352 (by decide) ?_
                      refine Z.iret C hr hA dX4_behind_353 ?_ ?_
                      · first | (rw [hm198]; simp [qBehind, qBeh2, qCls, closeF, qStep, qAt1, qWr, qWant, qPush, qSettle, qBlock, qWork, qNest, c1, (eq_false c2), (eq_false c10), (eq_false c11), (eq_false c12), (eq_true c13), (eq_false c14), (eq_true c15), (eq_true c20), e21]; done) | (rw [hm198]; simp_all [qBehind, qBeh2, qCls, closeF, qStep, qAt1, qWr, qWant, qPush, qSettle, qBlock, qWork, qNest]; done)
                      · (refine congrArg (wN a cI cZ o) ?_; first | (rw [hm198]; simp [qBehind, qBeh2, qCls, closeF, qStep, qAt1, qWr, qWant, qPush, qSettle, qBlock, qWork, qNest, c1, (eq_false c2), (eq_false c10), (eq_false c11), (eq_false c12), (eq_true c13), (eq_false c14), (eq_true c15), (eq_true c20), e21]; done) | (rw [hm198]; simp_all [qBehind, qBeh2, qCls, closeF, qStep, qAt1, qWr, qWant, qPush, qSettle, qBlock, qWork, qNest]; done))
              · skip
                replace c13 : ¬ (hereN o.2.1 o.2.2.1 q.2.1) = (93 : Int32) := c13
                refine Z.aload_n C dX4_behind_275 4 rfl rfl ?_
                refine Z.aload_n C dX4_behind_276 4 rfl rfl ?_
                refine Z.get C in4 0 rfl rfl 28 (by decide) (by decide +kernel) rfl rfl dX4_behind_277 ?_
                refine Z.callVv C (nA := 1) (As := [.int (nI q2.2.1)]) (st := []) (c_wrong o q2 q2.2.1  (by first | omega | (dsimp only; omega))) gX4_behind_X4_wrong rfl (by decide +kernel) (rm_ok (by omega) (by decide)) 0 rfl rfl rfl (Nat.le_of_ble_eq_true rfl) rfl dX4_behind_280 ?_
                have w22 : wrF q2.1 q2.2.1 < 1000 := wrF_b (by first | omega | (dsimp only; omega)) (by first | omega | (dsimp only; omega))
                refine Z.iconst C (v := (nI 2)) dX4_behind_283 (by decide) ?_
                refine Z.iret C hr hA dX4_behind_284 ?_ ?_
                · first | (rw [hm198]; simp [qBehind, qBeh2, qCls, closeF, qStep, qAt1, qWr, qWant, qPush, qSettle, qBlock, qWork, qNest, c1, (eq_false c2), (eq_false c10), (eq_false c11), (eq_false c12), (eq_false c13)]; done) | (rw [hm198]; simp_all [qBehind, qBeh2, qCls, closeF, qStep, qAt1, qWr, qWant, qPush, qSettle, qBlock, qWork, qNest]; done)
                · (refine congrArg (wN a cI cZ o) ?_; first | (rw [hm198]; simp [qBehind, qBeh2, qCls, closeF, qStep, qAt1, qWr, qWant, qPush, qSettle, qBlock, qWork, qNest, c1, (eq_false c2), (eq_false c10), (eq_false c11), (eq_false c12), (eq_false c13)]; done) | (rw [hm198]; simp_all [qBehind, qBeh2, qCls, closeF, qStep, qAt1, qWr, qWant, qPush, qSettle, qBlock, qWork, qNest]; done))
            · skip
              replace c12 : (q2.2.2.2.2.2.2.2.1 (q2.2.2.2.2.2.2.2.2.2.1 - 1)) = (4 : Int32) := c12
              refine Z.bipush C (v := (nI 41)) dX4_behind_260 (by decide) ?_
              refine Z.goto C 267 dX4_behind_262 (by decide) ?_
              refine Z.istore C (lv' := [(4, .int (nI 41)), (3, .int (q2.2.2.2.2.2.2.2.1 (q2.2.2.2.2.2.2.2.2.2.1 - 1))), (2, .int (nI (q2.2.2.2.2.2.2.2.2.2.1 - 1))), (1, .int (hereN o.2.1 o.2.2.1 q.2.1)), (0, .ref (a 0))]) dX4_behind_267 (by decide) rfl ?_
              refine Z.iload_n C dX4_behind_269 3 rfl rfl ?_
              refine Z.iload C dX4_behind_270 0 rfl ?_
              refine Z.icmp_eq C 285 dX4_behind_272 (by decide) (fun c23 => ?_) (fun c23 => ?_)
              · skip
                replace c23 : (hereN o.2.1 o.2.2.1 q.2.1) = (41 : Int32) := c23
                refine Z.aload_n C dX4_behind_285 4 rfl rfl ?_
                refine Z.dup C dX4_behind_286 rfl ?_
                refine Z.get C in4 0 rfl rfl 28 (by decide) (by decide +kernel) rfl rfl dX4_behind_287 ?_
                refine Z.iconst C (v := (nI 1)) dX4_behind_290 (by decide) ?_
                refine Z.iadd C (v := (nI (q2.2.1 + 1))) dX4_behind_291 (nI_add q2.2.1 1) ?_
                refine Z.put C in4 0 rfl rfl 28 (by decide) tyX4 tyX4_ok nmX4 (by decide +kernel) rfl rfl rfl rfl (Nat.le_of_ble_eq_true rfl) dX4_behind_292 (w' := (wN a cI cZ o (q2.1, q2.2.1 + 1, q2.2.2))) rfl ?_
                refine Z.aload_n C dX4_behind_295 4 rfl rfl ?_
                refine Z.dup C dX4_behind_296 rfl ?_
                refine Z.get C in4 0 rfl rfl 19 (by decide) (by decide +kernel) rfl rfl dX4_behind_297 ?_
                refine Z.iconst C (v := (nI 1)) dX4_behind_300 (by decide) ?_
                refine Z.isub C (v := (nI (q2.2.2.2.2.2.2.2.2.2.1 - 1))) dX4_behind_301 (pk_sub (a := q2.2.2.2.2.2.2.2.2.2.1) (b := 1) (by omega)) ?_
                refine Z.put C in4 0 rfl rfl 19 (by decide) tyX4 tyX4_ok nmX4 (by decide +kernel) rfl rfl rfl rfl (Nat.le_of_ble_eq_true rfl) dX4_behind_302 (w' := (wN a cI cZ o (q2.1, q2.2.1 + 1, q2.2.2.1, q2.2.2.2.1, q2.2.2.2.2.1, q2.2.2.2.2.2.1, q2.2.2.2.2.2.2.1, q2.2.2.2.2.2.2.2.1, q2.2.2.2.2.2.2.2.2.1, q2.2.2.2.2.2.2.2.2.2.1 - 1, q2.2.2.2.2.2.2.2.2.2.2))) rfl ?_
                refine Z.iload_n C dX4_behind_305 1 rfl rfl ?_
                refine Z.iconst C (v := (nI 4)) dX4_behind_306 (by decide) ?_
                refine Z.icmp_eq C 315 dX4_behind_307 (by decide) (fun c24 => ?_) (fun c24 => ?_)
                · skip
                  replace c24 : (q2.2.2.2.2.2.2.2.1 (q2.2.2.2.2.2.2.2.2.2.1 - 1)) = (4 : Int32) := c24
                  refine Z.aload_n C dX4_behind_315 4 rfl rfl ?_
                  refine Z.dup C dX4_behind_316 rfl ?_
                  refine Z.get C in4 0 rfl rfl 20 (by decide) (by decide +kernel) rfl rfl dX4_behind_317 ?_
                  refine Z.iconst C (v := (nI 1)) dX4_behind_320 (by decide) ?_
                  refine Z.isub C (v := (q2.2.2.2.2.2.2.2.2.2.2.1 - (1 : Int32))) dX4_behind_321 rfl ?_
                  refine Z.put C in4 0 rfl rfl 20 (by decide) tyX4 tyX4_ok nmX4 (by decide +kernel) rfl rfl rfl rfl (Nat.le_of_ble_eq_true rfl) dX4_behind_322 (w' := (wN a cI cZ o (q2.1, q2.2.1 + 1, q2.2.2.1, q2.2.2.2.1, q2.2.2.2.2.1, q2.2.2.2.2.2.1, q2.2.2.2.2.2.2.1, q2.2.2.2.2.2.2.2.1, q2.2.2.2.2.2.2.2.2.1, q2.2.2.2.2.2.2.2.2.2.1 - 1, q2.2.2.2.2.2.2.2.2.2.2.1 - (1 : Int32), q2.2.2.2.2.2.2.2.2.2.2.2))) rfl ?_
                  refine Z.iload_n C dX4_behind_325 1 rfl rfl ?_
                  refine Z.iconst C (v := (nI 5)) dX4_behind_326 (by decide) ?_
                  refine Z.icmp_ne C 348 dX4_behind_327 (by decide) (fun c25 => ?_) (fun c25 => ?_)
                  · skip
                    replace c25 : ¬ (q2.2.2.2.2.2.2.2.1 (q2.2.2.2.2.2.2.2.2.2.1 - 1)) = (5 : Int32) := c25
                    refine Z.aload_n C dX4_behind_348 4 rfl rfl ?_
                    refine Z.callVv C (nA := 0) (As := []) (st := []) (c_wholeN o (q2.1, q2.2.1 + 1, q2.2.2.1, q2.2.2.2.1, q2.2.2.2.2.1, q2.2.2.2.2.2.1, q2.2.2.2.2.2.2.1, q2.2.2.2.2.2.2.2.1, q2.2.2.2.2.2.2.2.2.1, q2.2.2.2.2.2.2.2.2.2.1 - 1, q2.2.2.2.2.2.2.2.2.2.2.1 - (1 : Int32), q2.2.2.2.2.2.2.2.2.2.2.2) (by first | omega | (dsimp only; omega)) ⟨by first | omega | (dsimp only; omega), by first | omega | (dsimp only; omega)⟩ (by first | omega | (dsimp only; omega))) gX4_behind_X4_whole rfl (by decide +kernel) (rm_ok (by omega) (by decide)) 0 rfl rfl rfl (Nat.le_of_ble_eq_true rfl) rfl dX4_behind_349 ?_
                    generalize e26 : qWhole (q2.1, q2.2.1 + 1, q2.2.2.1, q2.2.2.2.1, q2.2.2.2.2.1, q2.2.2.2.2.2.1, q2.2.2.2.2.2.2.1, q2.2.2.2.2.2.2.2.1, q2.2.2.2.2.2.2.2.2.1, q2.2.2.2.2.2.2.2.2.2.1 - 1, q2.2.2.2.2.2.2.2.2.2.2.1 - (1 : Int32), q2.2.2.2.2.2.2.2.2.2.2.2) = x26
                    refine Z.iconst C (v := (nI 2)) dX4_behind_352 (by decide) ?_
                    refine Z.iret C hr hA dX4_behind_353 ?_ ?_
                    · first | (rw [hm198]; simp [qBehind, qBeh2, qCls, closeF, qStep, qAt1, qWr, qWant, qPush, qSettle, qBlock, qWork, qNest, c1, (eq_false c2), (eq_false c10), (eq_false c11), (eq_true c12), (eq_true c23), (eq_true c24), (eq_false c25), e26]; done) | (rw [hm198]; simp_all [qBehind, qBeh2, qCls, closeF, qStep, qAt1, qWr, qWant, qPush, qSettle, qBlock, qWork, qNest]; done)
                    · (refine congrArg (wN a cI cZ o) ?_; first | (rw [hm198]; simp [qBehind, qBeh2, qCls, closeF, qStep, qAt1, qWr, qWant, qPush, qSettle, qBlock, qWork, qNest, c1, (eq_false c2), (eq_false c10), (eq_false c11), (eq_true c12), (eq_true c23), (eq_true c24), (eq_false c25), e26]; done) | (rw [hm198]; simp_all [qBehind, qBeh2, qCls, closeF, qStep, qAt1, qWr, qWant, qPush, qSettle, qBlock, qWork, qNest]; done))
                  · skip
                    replace c25 : (q2.2.2.2.2.2.2.2.1 (q2.2.2.2.2.2.2.2.2.2.1 - 1)) = (5 : Int32) := c25
                    exact absurd (c12.symm.trans c25) (by decide)
                · skip
                  replace c24 : ¬ (q2.2.2.2.2.2.2.2.1 (q2.2.2.2.2.2.2.2.2.2.1 - 1)) = (4 : Int32) := c24
                  exact absurd c12 c24
              · skip
                replace c23 : ¬ (hereN o.2.1 o.2.2.1 q.2.1) = (41 : Int32) := c23
                refine Z.aload_n C dX4_behind_275 4 rfl rfl ?_
                refine Z.aload_n C dX4_behind_276 4 rfl rfl ?_
                refine Z.get C in4 0 rfl rfl 28 (by decide) (by decide +kernel) rfl rfl dX4_behind_277 ?_
                refine Z.callVv C (nA := 1) (As := [.int (nI q2.2.1)]) (st := []) (c_wrong o q2 q2.2.1  (by first | omega | (dsimp only; omega))) gX4_behind_X4_wrong rfl (by decide +kernel) (rm_ok (by omega) (by decide)) 0 rfl rfl rfl (Nat.le_of_ble_eq_true rfl) rfl dX4_behind_280 ?_
                have w27 : wrF q2.1 q2.2.1 < 1000 := wrF_b (by first | omega | (dsimp only; omega)) (by first | omega | (dsimp only; omega))
                refine Z.iconst C (v := (nI 2)) dX4_behind_283 (by decide) ?_
                refine Z.iret C hr hA dX4_behind_284 ?_ ?_
                · first | (rw [hm198]; simp [qBehind, qBeh2, qCls, closeF, qStep, qAt1, qWr, qWant, qPush, qSettle, qBlock, qWork, qNest, c1, (eq_false c2), (eq_false c10), (eq_false c11), (eq_true c12), (eq_false c23)]; done) | (rw [hm198]; simp_all [qBehind, qBeh2, qCls, closeF, qStep, qAt1, qWr, qWant, qPush, qSettle, qBlock, qWork, qNest]; done)
                · (refine congrArg (wN a cI cZ o) ?_; first | (rw [hm198]; simp [qBehind, qBeh2, qCls, closeF, qStep, qAt1, qWr, qWant, qPush, qSettle, qBlock, qWork, qNest, c1, (eq_false c2), (eq_false c10), (eq_false c11), (eq_true c12), (eq_false c23)]; done) | (rw [hm198]; simp_all [qBehind, qBeh2, qCls, closeF, qStep, qAt1, qWr, qWant, qPush, qSettle, qBlock, qWork, qNest]; done))
          · skip
            replace c11 : (q2.2.2.2.2.2.2.2.1 (q2.2.2.2.2.2.2.2.2.2.1 - 1)) = (3 : Int32) := c11
            refine Z.bipush C (v := (nI 123)) dX4_behind_250 (by decide) ?_
            refine Z.goto C 267 dX4_behind_252 (by decide) ?_
            refine Z.istore C (lv' := [(4, .int (nI 123)), (3, .int (q2.2.2.2.2.2.2.2.1 (q2.2.2.2.2.2.2.2.2.2.1 - 1))), (2, .int (nI (q2.2.2.2.2.2.2.2.2.2.1 - 1))), (1, .int (hereN o.2.1 o.2.2.1 q.2.1)), (0, .ref (a 0))]) dX4_behind_267 (by decide) rfl ?_
            refine Z.iload_n C dX4_behind_269 3 rfl rfl ?_
            refine Z.iload C dX4_behind_270 0 rfl ?_
            refine Z.icmp_eq C 285 dX4_behind_272 (by decide) (fun c28 => ?_) (fun c28 => ?_)
            · skip
              replace c28 : (hereN o.2.1 o.2.2.1 q.2.1) = (123 : Int32) := c28
              refine Z.aload_n C dX4_behind_285 4 rfl rfl ?_
              refine Z.dup C dX4_behind_286 rfl ?_
              refine Z.get C in4 0 rfl rfl 28 (by decide) (by decide +kernel) rfl rfl dX4_behind_287 ?_
              refine Z.iconst C (v := (nI 1)) dX4_behind_290 (by decide) ?_
              refine Z.iadd C (v := (nI (q2.2.1 + 1))) dX4_behind_291 (nI_add q2.2.1 1) ?_
              refine Z.put C in4 0 rfl rfl 28 (by decide) tyX4 tyX4_ok nmX4 (by decide +kernel) rfl rfl rfl rfl (Nat.le_of_ble_eq_true rfl) dX4_behind_292 (w' := (wN a cI cZ o (q2.1, q2.2.1 + 1, q2.2.2))) rfl ?_
              refine Z.aload_n C dX4_behind_295 4 rfl rfl ?_
              refine Z.dup C dX4_behind_296 rfl ?_
              refine Z.get C in4 0 rfl rfl 19 (by decide) (by decide +kernel) rfl rfl dX4_behind_297 ?_
              refine Z.iconst C (v := (nI 1)) dX4_behind_300 (by decide) ?_
              refine Z.isub C (v := (nI (q2.2.2.2.2.2.2.2.2.2.1 - 1))) dX4_behind_301 (pk_sub (a := q2.2.2.2.2.2.2.2.2.2.1) (b := 1) (by omega)) ?_
              refine Z.put C in4 0 rfl rfl 19 (by decide) tyX4 tyX4_ok nmX4 (by decide +kernel) rfl rfl rfl rfl (Nat.le_of_ble_eq_true rfl) dX4_behind_302 (w' := (wN a cI cZ o (q2.1, q2.2.1 + 1, q2.2.2.1, q2.2.2.2.1, q2.2.2.2.2.1, q2.2.2.2.2.2.1, q2.2.2.2.2.2.2.1, q2.2.2.2.2.2.2.2.1, q2.2.2.2.2.2.2.2.2.1, q2.2.2.2.2.2.2.2.2.2.1 - 1, q2.2.2.2.2.2.2.2.2.2.2))) rfl ?_
              refine Z.iload_n C dX4_behind_305 1 rfl rfl ?_
              refine Z.iconst C (v := (nI 4)) dX4_behind_306 (by decide) ?_
              refine Z.icmp_eq C 315 dX4_behind_307 (by decide) (fun c29 => ?_) (fun c29 => ?_)
              · skip
                replace c29 : (q2.2.2.2.2.2.2.2.1 (q2.2.2.2.2.2.2.2.2.2.1 - 1)) = (4 : Int32) := c29
                exact absurd (c11.symm.trans c29) (by decide)
              · skip
                replace c29 : ¬ (q2.2.2.2.2.2.2.2.1 (q2.2.2.2.2.2.2.2.2.2.1 - 1)) = (4 : Int32) := c29
                refine Z.iload_n C dX4_behind_310 1 rfl rfl ?_
                refine Z.iconst C (v := (nI 5)) dX4_behind_311 (by decide) ?_
                refine Z.icmp_ne C 354 dX4_behind_312 (by decide) (fun c30 => ?_) (fun c30 => ?_)
                · skip
                  replace c30 : ¬ (q2.2.2.2.2.2.2.2.1 (q2.2.2.2.2.2.2.2.2.2.1 - 1)) = (5 : Int32) := c30
                  refine Z.aload_n C dX4_behind_354 4 rfl rfl ?_
                  refine Z.dup C dX4_behind_355 rfl ?_
                  refine Z.get C in4 0 rfl rfl 22 (by decide) (by decide +kernel) rfl rfl dX4_behind_356 ?_
                  refine Z.iconst C (v := (nI 1)) dX4_behind_359 (by decide) ?_
                  refine Z.isub C (v := (nI (q2.2.2.2.2.2.2.2.2.2.2.2.2.1 - 1))) dX4_behind_360 (pk_sub (a := q2.2.2.2.2.2.2.2.2.2.2.2.2.1) (b := 1) (by omega)) ?_
                  refine Z.put C in4 0 rfl rfl 22 (by decide) tyX4 tyX4_ok nmX4 (by decide +kernel) rfl rfl rfl rfl (Nat.le_of_ble_eq_true rfl) dX4_behind_361 (w' := (wN a cI cZ o (q2.1, q2.2.1 + 1, q2.2.2.1, q2.2.2.2.1, q2.2.2.2.2.1, q2.2.2.2.2.2.1, q2.2.2.2.2.2.2.1, q2.2.2.2.2.2.2.2.1, q2.2.2.2.2.2.2.2.2.1, q2.2.2.2.2.2.2.2.2.2.1 - 1, q2.2.2.2.2.2.2.2.2.2.2.1, q2.2.2.2.2.2.2.2.2.2.2.2.1, q2.2.2.2.2.2.2.2.2.2.2.2.2.1 - 1, q2.2.2.2.2.2.2.2.2.2.2.2.2.2))) rfl ?_
                  refine Z.iload_n C dX4_behind_364 1 rfl rfl ?_
                  refine Z.iconst C (v := (nI 1)) dX4_behind_365 (by decide) ?_
                  refine Z.icmp_ne C 382 dX4_behind_366 (by decide) (fun c31 => ?_) (fun c31 => ?_)
                  · skip
                    replace c31 : ¬ (q2.2.2.2.2.2.2.2.1 (q2.2.2.2.2.2.2.2.2.2.1 - 1)) = (1 : Int32) := c31
                    refine Z.iload_n C dX4_behind_382 1 rfl rfl ?_
                    refine Z.iconst C (v := (nI 3)) dX4_behind_383 (by decide) ?_
                    refine Z.icmp_ne C 417 dX4_behind_384 (by decide) (fun c32 => ?_) (fun c32 => ?_)
                    · skip
                      replace c32 : ¬ (q2.2.2.2.2.2.2.2.1 (q2.2.2.2.2.2.2.2.2.2.1 - 1)) = (3 : Int32) := c32
                      exact absurd c11 c32
                    · skip
                      replace c32 : (q2.2.2.2.2.2.2.2.1 (q2.2.2.2.2.2.2.2.2.2.1 - 1)) = (3 : Int32) := c32
                      have hb8 := hbr2 c32
                      refine Z.aload_n C dX4_behind_387 4 rfl rfl ?_
                      refine Z.bipush C (v := (nI 9)) dX4_behind_388 (by decide) ?_
                      refine Z.iconst C (v := (nI 0)) dX4_behind_390 (by decide) ?_
                      refine Z.callVv C (nA := 2) (As := [.int (9 : Int32), .int (0 : Int32)]) (st := []) (c_step o (q2.1, q2.2.1 + 1, q2.2.2.1, q2.2.2.2.1, q2.2.2.2.2.1, q2.2.2.2.2.2.1, q2.2.2.2.2.2.2.1, q2.2.2.2.2.2.2.2.1, q2.2.2.2.2.2.2.2.2.1, q2.2.2.2.2.2.2.2.2.2.1 - 1, q2.2.2.2.2.2.2.2.2.2.2.1, q2.2.2.2.2.2.2.2.2.2.2.2.1, q2.2.2.2.2.2.2.2.2.2.2.2.2.1 - 1, q2.2.2.2.2.2.2.2.2.2.2.2.2.2) (9 : Int32) (0 : Int32)  (by first | omega | (dsimp only; omega))) gX4_behind_X4_step rfl (by decide +kernel) (rm_ok (by omega) (by decide)) 0 rfl rfl rfl (Nat.le_of_ble_eq_true rfl) rfl dX4_behind_391 ?_
                      refine Z.aload_n C dX4_behind_394 4 rfl rfl ?_
                      refine Z.iconst C (v := (-1)) dX4_behind_395 (by decide) ?_
                      refine Z.aload_n C dX4_behind_396 4 rfl rfl ?_
                      refine Z.get C in4 0 rfl rfl 10 (by decide) (by decide +kernel) rfl rfl dX4_behind_397 ?_
                      refine Z.iconst C (v := (nI 1)) dX4_behind_400 (by decide) ?_
                      refine Z.isub C (v := (nI ((q2.2.2.2.2.2.1 + 1) - 1))) dX4_behind_401 (pk_sub (a := q2.2.2.2.2.2.1 + 1) (b := 1) (by omega)) ?_
                      refine Z.aload_n C dX4_behind_402 4 rfl rfl ?_
                      refine Z.get C in4 0 rfl rfl 26 (by decide) (by decide +kernel) rfl rfl dX4_behind_403 ?_
                      refine Z.aload_n C dX4_behind_406 4 rfl rfl ?_
                      refine Z.get C in4 0 rfl rfl 27 (by decide) (by decide +kernel) rfl rfl dX4_behind_407 ?_
                      refine Z.iald C 15 0 rfl rfl q2.2.2.2.2.2.2.2.2.2.2.2.2.2.2.2.2.2.1 rfl (by omega) (by decide) dX4_behind_410 (v := (q2.2.2.2.2.2.2.2.2.2.2.2.2.2.2.2.2.1 q2.2.2.2.2.2.2.2.2.2.2.2.2.2.2.2.2.2.1)) rfl ?_
                      refine Z.callVv C (nA := 3) (As := [.int (-1), .int (nI ((q2.2.2.2.2.2.1 + 1) - 1)), .int (q2.2.2.2.2.2.2.2.2.2.2.2.2.2.2.2.2.1 q2.2.2.2.2.2.2.2.2.2.2.2.2.2.2.2.2.2.1)]) (st := []) (c_blockN o (q2.1, q2.2.1 + 1, q2.2.2.1, (upd q2.2.2.2.1 q2.2.2.2.2.2.1 (9 : Int32)), (upd q2.2.2.2.2.1 q2.2.2.2.2.2.1 (0 : Int32)), q2.2.2.2.2.2.1 + 1, q2.2.2.2.2.2.2.1, q2.2.2.2.2.2.2.2.1, q2.2.2.2.2.2.2.2.2.1, q2.2.2.2.2.2.2.2.2.2.1 - 1, q2.2.2.2.2.2.2.2.2.2.2.1, q2.2.2.2.2.2.2.2.2.2.2.2.1, q2.2.2.2.2.2.2.2.2.2.2.2.2.1 - 1, q2.2.2.2.2.2.2.2.2.2.2.2.2.2) (-1) (nI ((q2.2.2.2.2.2.1 + 1) - 1)) (q2.2.2.2.2.2.2.2.2.2.2.2.2.2.2.2.2.1 q2.2.2.2.2.2.2.2.2.2.2.2.2.2.2.2.2.2.1)  (by first | omega | (dsimp only; omega))) gX4_behind_X4_block rfl (by decide +kernel) (rm_ok (by omega) (by decide)) 0 rfl rfl rfl (Nat.le_of_ble_eq_true rfl) rfl dX4_behind_411 ?_
                      refine Z.goto C 436 dX4_behind_414 (by decide) ?_
                      refine Z.iconst C (v := (nI 0)) dX4_behind_436 (by decide) ?_
                      refine Z.iret C hr hA dX4_behind_437 ?_ ?_
                      · first | (rw [hm198]; simp [qBehind, qBeh2, qCls, closeF, qStep, qAt1, qWr, qWant, qPush, qSettle, qBlock, qWork, qNest, c1, (eq_false c2), (eq_false c10), (eq_true c11), (eq_true c28), (eq_false c29), (eq_false c30), (eq_false c31), (eq_true c32)]; done) | (rw [hm198]; simp_all [qBehind, qBeh2, qCls, closeF, qStep, qAt1, qWr, qWant, qPush, qSettle, qBlock, qWork, qNest]; done)
                      · (refine congrArg (wN a cI cZ o) ?_; first | (rw [hm198]; simp [qBehind, qBeh2, qCls, closeF, qStep, qAt1, qWr, qWant, qPush, qSettle, qBlock, qWork, qNest, c1, (eq_false c2), (eq_false c10), (eq_true c11), (eq_true c28), (eq_false c29), (eq_false c30), (eq_false c31), (eq_true c32)]; done) | (rw [hm198]; simp_all [qBehind, qBeh2, qCls, closeF, qStep, qAt1, qWr, qWant, qPush, qSettle, qBlock, qWork, qNest]; done))
                  · skip
                    replace c31 : (q2.2.2.2.2.2.2.2.1 (q2.2.2.2.2.2.2.2.2.2.1 - 1)) = (1 : Int32) := c31
                    exact absurd (c11.symm.trans c31) (by decide)
                · skip
                  replace c30 : (q2.2.2.2.2.2.2.2.1 (q2.2.2.2.2.2.2.2.2.2.1 - 1)) = (5 : Int32) := c30
                  exact absurd (c11.symm.trans c30) (by decide)
            · skip
              replace c28 : ¬ (hereN o.2.1 o.2.2.1 q.2.1) = (123 : Int32) := c28
              refine Z.aload_n C dX4_behind_275 4 rfl rfl ?_
              refine Z.aload_n C dX4_behind_276 4 rfl rfl ?_
              refine Z.get C in4 0 rfl rfl 28 (by decide) (by decide +kernel) rfl rfl dX4_behind_277 ?_
              refine Z.callVv C (nA := 1) (As := [.int (nI q2.2.1)]) (st := []) (c_wrong o q2 q2.2.1  (by first | omega | (dsimp only; omega))) gX4_behind_X4_wrong rfl (by decide +kernel) (rm_ok (by omega) (by decide)) 0 rfl rfl rfl (Nat.le_of_ble_eq_true rfl) rfl dX4_behind_280 ?_
              have w33 : wrF q2.1 q2.2.1 < 1000 := wrF_b (by first | omega | (dsimp only; omega)) (by first | omega | (dsimp only; omega))
              refine Z.iconst C (v := (nI 2)) dX4_behind_283 (by decide) ?_
              refine Z.iret C hr hA dX4_behind_284 ?_ ?_
              · first | (rw [hm198]; simp [qBehind, qBeh2, qCls, closeF, qStep, qAt1, qWr, qWant, qPush, qSettle, qBlock, qWork, qNest, c1, (eq_false c2), (eq_false c10), (eq_true c11), (eq_false c28)]; done) | (rw [hm198]; simp_all [qBehind, qBeh2, qCls, closeF, qStep, qAt1, qWr, qWant, qPush, qSettle, qBlock, qWork, qNest]; done)
              · (refine congrArg (wN a cI cZ o) ?_; first | (rw [hm198]; simp [qBehind, qBeh2, qCls, closeF, qStep, qAt1, qWr, qWant, qPush, qSettle, qBlock, qWork, qNest, c1, (eq_false c2), (eq_false c10), (eq_true c11), (eq_false c28)]; done) | (rw [hm198]; simp_all [qBehind, qBeh2, qCls, closeF, qStep, qAt1, qWr, qWant, qPush, qSettle, qBlock, qWork, qNest]; done))
        · skip
          replace c10 : (q2.2.2.2.2.2.2.2.1 (q2.2.2.2.2.2.2.2.2.2.1 - 1)) = (2 : Int32) := c10
          refine Z.bipush C (v := (nI 59)) dX4_behind_240 (by decide) ?_
          refine Z.goto C 267 dX4_behind_242 (by decide) ?_
          refine Z.istore C (lv' := [(4, .int (nI 59)), (3, .int (q2.2.2.2.2.2.2.2.1 (q2.2.2.2.2.2.2.2.2.2.1 - 1))), (2, .int (nI (q2.2.2.2.2.2.2.2.2.2.1 - 1))), (1, .int (hereN o.2.1 o.2.2.1 q.2.1)), (0, .ref (a 0))]) dX4_behind_267 (by decide) rfl ?_
          refine Z.iload_n C dX4_behind_269 3 rfl rfl ?_
          refine Z.iload C dX4_behind_270 0 rfl ?_
          refine Z.icmp_eq C 285 dX4_behind_272 (by decide) (fun c34 => ?_) (fun c34 => ?_)
          · skip
            replace c34 : (hereN o.2.1 o.2.2.1 q.2.1) = (59 : Int32) := c34
            refine Z.aload_n C dX4_behind_285 4 rfl rfl ?_
            refine Z.dup C dX4_behind_286 rfl ?_
            refine Z.get C in4 0 rfl rfl 28 (by decide) (by decide +kernel) rfl rfl dX4_behind_287 ?_
            refine Z.iconst C (v := (nI 1)) dX4_behind_290 (by decide) ?_
            refine Z.iadd C (v := (nI (q2.2.1 + 1))) dX4_behind_291 (nI_add q2.2.1 1) ?_
            refine Z.put C in4 0 rfl rfl 28 (by decide) tyX4 tyX4_ok nmX4 (by decide +kernel) rfl rfl rfl rfl (Nat.le_of_ble_eq_true rfl) dX4_behind_292 (w' := (wN a cI cZ o (q2.1, q2.2.1 + 1, q2.2.2))) rfl ?_
            refine Z.aload_n C dX4_behind_295 4 rfl rfl ?_
            refine Z.dup C dX4_behind_296 rfl ?_
            refine Z.get C in4 0 rfl rfl 19 (by decide) (by decide +kernel) rfl rfl dX4_behind_297 ?_
            refine Z.iconst C (v := (nI 1)) dX4_behind_300 (by decide) ?_
            refine Z.isub C (v := (nI (q2.2.2.2.2.2.2.2.2.2.1 - 1))) dX4_behind_301 (pk_sub (a := q2.2.2.2.2.2.2.2.2.2.1) (b := 1) (by omega)) ?_
            refine Z.put C in4 0 rfl rfl 19 (by decide) tyX4 tyX4_ok nmX4 (by decide +kernel) rfl rfl rfl rfl (Nat.le_of_ble_eq_true rfl) dX4_behind_302 (w' := (wN a cI cZ o (q2.1, q2.2.1 + 1, q2.2.2.1, q2.2.2.2.1, q2.2.2.2.2.1, q2.2.2.2.2.2.1, q2.2.2.2.2.2.2.1, q2.2.2.2.2.2.2.2.1, q2.2.2.2.2.2.2.2.2.1, q2.2.2.2.2.2.2.2.2.2.1 - 1, q2.2.2.2.2.2.2.2.2.2.2))) rfl ?_
            refine Z.iload_n C dX4_behind_305 1 rfl rfl ?_
            refine Z.iconst C (v := (nI 4)) dX4_behind_306 (by decide) ?_
            refine Z.icmp_eq C 315 dX4_behind_307 (by decide) (fun c35 => ?_) (fun c35 => ?_)
            · skip
              replace c35 : (q2.2.2.2.2.2.2.2.1 (q2.2.2.2.2.2.2.2.2.2.1 - 1)) = (4 : Int32) := c35
              exact absurd (c10.symm.trans c35) (by decide)
            · skip
              replace c35 : ¬ (q2.2.2.2.2.2.2.2.1 (q2.2.2.2.2.2.2.2.2.2.1 - 1)) = (4 : Int32) := c35
              refine Z.iload_n C dX4_behind_310 1 rfl rfl ?_
              refine Z.iconst C (v := (nI 5)) dX4_behind_311 (by decide) ?_
              refine Z.icmp_ne C 354 dX4_behind_312 (by decide) (fun c36 => ?_) (fun c36 => ?_)
              · skip
                replace c36 : ¬ (q2.2.2.2.2.2.2.2.1 (q2.2.2.2.2.2.2.2.2.2.1 - 1)) = (5 : Int32) := c36
                refine Z.aload_n C dX4_behind_354 4 rfl rfl ?_
                refine Z.dup C dX4_behind_355 rfl ?_
                refine Z.get C in4 0 rfl rfl 22 (by decide) (by decide +kernel) rfl rfl dX4_behind_356 ?_
                refine Z.iconst C (v := (nI 1)) dX4_behind_359 (by decide) ?_
                refine Z.isub C (v := (nI (q2.2.2.2.2.2.2.2.2.2.2.2.2.1 - 1))) dX4_behind_360 (pk_sub (a := q2.2.2.2.2.2.2.2.2.2.2.2.2.1) (b := 1) (by omega)) ?_
                refine Z.put C in4 0 rfl rfl 22 (by decide) tyX4 tyX4_ok nmX4 (by decide +kernel) rfl rfl rfl rfl (Nat.le_of_ble_eq_true rfl) dX4_behind_361 (w' := (wN a cI cZ o (q2.1, q2.2.1 + 1, q2.2.2.1, q2.2.2.2.1, q2.2.2.2.2.1, q2.2.2.2.2.2.1, q2.2.2.2.2.2.2.1, q2.2.2.2.2.2.2.2.1, q2.2.2.2.2.2.2.2.2.1, q2.2.2.2.2.2.2.2.2.2.1 - 1, q2.2.2.2.2.2.2.2.2.2.2.1, q2.2.2.2.2.2.2.2.2.2.2.2.1, q2.2.2.2.2.2.2.2.2.2.2.2.2.1 - 1, q2.2.2.2.2.2.2.2.2.2.2.2.2.2))) rfl ?_
                refine Z.iload_n C dX4_behind_364 1 rfl rfl ?_
                refine Z.iconst C (v := (nI 1)) dX4_behind_365 (by decide) ?_
                refine Z.icmp_ne C 382 dX4_behind_366 (by decide) (fun c37 => ?_) (fun c37 => ?_)
                · skip
                  replace c37 : ¬ (q2.2.2.2.2.2.2.2.1 (q2.2.2.2.2.2.2.2.2.2.1 - 1)) = (1 : Int32) := c37
                  refine Z.iload_n C dX4_behind_382 1 rfl rfl ?_
                  refine Z.iconst C (v := (nI 3)) dX4_behind_383 (by decide) ?_
                  refine Z.icmp_ne C 417 dX4_behind_384 (by decide) (fun c38 => ?_) (fun c38 => ?_)
                  · skip
                    replace c38 : ¬ (q2.2.2.2.2.2.2.2.1 (q2.2.2.2.2.2.2.2.2.2.1 - 1)) = (3 : Int32) := c38
                    refine Z.aload_n C dX4_behind_417 4 rfl rfl ?_
                    refine Z.iload_n C dX4_behind_418 1 rfl rfl ?_
                    refine Z.if_ne C 427 dX4_behind_419 (by decide) (fun c39 => ?_) (fun c39 => ?_)
                    · skip
                      replace c39 : ¬ (q2.2.2.2.2.2.2.2.1 (q2.2.2.2.2.2.2.2.2.2.1 - 1)) = (0 : Int32) := c39
                      refine Z.bipush C (v := (nI 8)) dX4_behind_427 (by decide) ?_
                      refine Z.aload_n C dX4_behind_429 4 rfl rfl ?_
                      refine Z.get C in4 0 rfl rfl 23 (by decide) (by decide +kernel) rfl rfl dX4_behind_430 ?_
                      refine Z.callVv C (nA := 2) (As := [.int (8 : Int32), .int q2.2.2.2.2.2.2.2.2.2.2.2.2.2.1]) (st := []) (c_step o (q2.1, q2.2.1 + 1, q2.2.2.1, q2.2.2.2.1, q2.2.2.2.2.1, q2.2.2.2.2.2.1, q2.2.2.2.2.2.2.1, q2.2.2.2.2.2.2.2.1, q2.2.2.2.2.2.2.2.2.1, q2.2.2.2.2.2.2.2.2.2.1 - 1, q2.2.2.2.2.2.2.2.2.2.2.1, q2.2.2.2.2.2.2.2.2.2.2.2.1, q2.2.2.2.2.2.2.2.2.2.2.2.2.1 - 1, q2.2.2.2.2.2.2.2.2.2.2.2.2.2) (8 : Int32) q2.2.2.2.2.2.2.2.2.2.2.2.2.2.1  (by first | omega | (dsimp only; omega))) gX4_behind_X4_step rfl (by decide +kernel) (rm_ok (by omega) (by decide)) 0 rfl rfl rfl (Nat.le_of_ble_eq_true rfl) rfl dX4_behind_433 ?_
                      refine Z.iconst C (v := (nI 0)) dX4_behind_436 (by decide) ?_
                      refine Z.iret C hr hA dX4_behind_437 ?_ ?_
                      · first | (rw [hm198]; simp [qBehind, qBeh2, qCls, closeF, qStep, qAt1, qWr, qWant, qPush, qSettle, qBlock, qWork, qNest, c1, (eq_false c2), (eq_true c10), (eq_true c34), (eq_false c35), (eq_false c36), (eq_false c37), (eq_false c38), (eq_false c39)]; done) | (rw [hm198]; simp_all [qBehind, qBeh2, qCls, closeF, qStep, qAt1, qWr, qWant, qPush, qSettle, qBlock, qWork, qNest]; done)
                      · (refine congrArg (wN a cI cZ o) ?_; first | (rw [hm198]; simp [qBehind, qBeh2, qCls, closeF, qStep, qAt1, qWr, qWant, qPush, qSettle, qBlock, qWork, qNest, c1, (eq_false c2), (eq_true c10), (eq_true c34), (eq_false c35), (eq_false c36), (eq_false c37), (eq_false c38), (eq_false c39)]; done) | (rw [hm198]; simp_all [qBehind, qBeh2, qCls, closeF, qStep, qAt1, qWr, qWant, qPush, qSettle, qBlock, qWork, qNest]; done))
                    · skip
                      replace c39 : (q2.2.2.2.2.2.2.2.1 (q2.2.2.2.2.2.2.2.2.2.1 - 1)) = (0 : Int32) := c39
                      exact absurd c39 c2
                  · skip
                    replace c38 : (q2.2.2.2.2.2.2.2.1 (q2.2.2.2.2.2.2.2.2.2.1 - 1)) = (3 : Int32) := c38
                    exact absurd (c10.symm.trans c38) (by decide)
                · skip
                  replace c37 : (q2.2.2.2.2.2.2.2.1 (q2.2.2.2.2.2.2.2.2.2.1 - 1)) = (1 : Int32) := c37
                  exact absurd (c10.symm.trans c37) (by decide)
              · skip
                replace c36 : (q2.2.2.2.2.2.2.2.1 (q2.2.2.2.2.2.2.2.2.2.1 - 1)) = (5 : Int32) := c36
                exact absurd (c10.symm.trans c36) (by decide)
          · skip
            replace c34 : ¬ (hereN o.2.1 o.2.2.1 q.2.1) = (59 : Int32) := c34
            refine Z.aload_n C dX4_behind_275 4 rfl rfl ?_
            refine Z.aload_n C dX4_behind_276 4 rfl rfl ?_
            refine Z.get C in4 0 rfl rfl 28 (by decide) (by decide +kernel) rfl rfl dX4_behind_277 ?_
            refine Z.callVv C (nA := 1) (As := [.int (nI q2.2.1)]) (st := []) (c_wrong o q2 q2.2.1  (by first | omega | (dsimp only; omega))) gX4_behind_X4_wrong rfl (by decide +kernel) (rm_ok (by omega) (by decide)) 0 rfl rfl rfl (Nat.le_of_ble_eq_true rfl) rfl dX4_behind_280 ?_
            have w40 : wrF q2.1 q2.2.1 < 1000 := wrF_b (by first | omega | (dsimp only; omega)) (by first | omega | (dsimp only; omega))
            refine Z.iconst C (v := (nI 2)) dX4_behind_283 (by decide) ?_
            refine Z.iret C hr hA dX4_behind_284 ?_ ?_
            · first | (rw [hm198]; simp [qBehind, qBeh2, qCls, closeF, qStep, qAt1, qWr, qWant, qPush, qSettle, qBlock, qWork, qNest, c1, (eq_false c2), (eq_true c10), (eq_false c34)]; done) | (rw [hm198]; simp_all [qBehind, qBeh2, qCls, closeF, qStep, qAt1, qWr, qWant, qPush, qSettle, qBlock, qWork, qNest]; done)
            · (refine congrArg (wN a cI cZ o) ?_; first | (rw [hm198]; simp [qBehind, qBeh2, qCls, closeF, qStep, qAt1, qWr, qWant, qPush, qSettle, qBlock, qWork, qNest, c1, (eq_false c2), (eq_true c10), (eq_false c34)]; done) | (rw [hm198]; simp_all [qBehind, qBeh2, qCls, closeF, qStep, qAt1, qWr, qWant, qPush, qSettle, qBlock, qWork, qNest]; done))
    · skip
      replace c1 : isOpF (hereN o.2.1 o.2.2.1 q.2.1) = true := b2i_n0.mp c1
      refine Z.aload_n C dX4_behind_205 2 rfl rfl ?_
      refine Z.get C in4 0 rfl rfl 18 (by decide) (by decide +kernel) rfl rfl dX4_behind_206 ?_
      refine Z.iload_n C dX4_behind_209 0 rfl rfl ?_
      refine Z.iload_n C dX4_behind_210 1 rfl rfl ?_
      refine Z.iast C 11 0 rfl rfl (q2.2.2.2.2.2.2.2.2.2.1 - 1) rfl (by omega) (by decide) dX4_behind_211 (v := (hereN o.2.1 o.2.2.1 q.2.1)) rfl (w' := (wN a cI cZ o (q2.1, q2.2.1, q2.2.2.1, q2.2.2.2.1, q2.2.2.2.2.1, q2.2.2.2.2.2.1, q2.2.2.2.2.2.2.1, q2.2.2.2.2.2.2.2.1, (upd q2.2.2.2.2.2.2.2.2.1 (q2.2.2.2.2.2.2.2.2.2.1 - 1) (hereN o.2.1 o.2.2.1 q.2.1)), q2.2.2.2.2.2.2.2.2.2))) rfl ?_
      refine Z.aload_n C dX4_behind_212 2 rfl rfl ?_
      refine Z.dup C dX4_behind_213 rfl ?_
      refine Z.get C in4 0 rfl rfl 28 (by decide) (by decide +kernel) rfl rfl dX4_behind_214 ?_
      refine Z.iconst C (v := (nI 1)) dX4_behind_217 (by decide) ?_
      refine Z.iadd C (v := (nI (q2.2.1 + 1))) dX4_behind_218 (nI_add q2.2.1 1) ?_
      refine Z.put C in4 0 rfl rfl 28 (by decide) tyX4 tyX4_ok nmX4 (by decide +kernel) rfl rfl rfl rfl (Nat.le_of_ble_eq_true rfl) dX4_behind_219 (w' := (wN a cI cZ o (q2.1, q2.2.1 + 1, q2.2.2.1, q2.2.2.2.1, q2.2.2.2.2.1, q2.2.2.2.2.2.1, q2.2.2.2.2.2.2.1, q2.2.2.2.2.2.2.2.1, (upd q2.2.2.2.2.2.2.2.2.1 (q2.2.2.2.2.2.2.2.2.2.1 - 1) (hereN o.2.1 o.2.2.1 q.2.1)), q2.2.2.2.2.2.2.2.2.2))) rfl ?_
      refine Z.iconst C (v := (nI 1)) dX4_behind_222 (by decide) ?_
      refine Z.iret C hr hA dX4_behind_223 ?_ ?_
      · first | (rw [hm198]; simp [qBehind, qBeh2, qCls, closeF, qStep, qAt1, qWr, qWant, qPush, qSettle, qBlock, qWork, qNest, c1]; done) | (rw [hm198]; simp_all [qBehind, qBeh2, qCls, closeF, qStep, qAt1, qWr, qWant, qPush, qSettle, qBlock, qWork, qNest]; done)
      · (refine congrArg (wN a cI cZ o) ?_; first | (rw [hm198]; simp [qBehind, qBeh2, qCls, closeF, qStep, qAt1, qWr, qWant, qPush, qSettle, qBlock, qWork, qNest, c1]; done) | (rw [hm198]; simp_all [qBehind, qBeh2, qCls, closeF, qStep, qAt1, qWr, qWant, qPush, qSettle, qBlock, qWork, qNest]; done))
  refine Z.aload_n C dX4_behind_0 0 rfl rfl ?_
  refine Z.callVi C (nA := 0) (As := []) (st := []) (c_hereN o q (by first | omega | (dsimp only; omega)) (by first | omega | (dsimp only; omega))) gX4_behind_X4_here rfl (by decide +kernel) (rm_ok (by omega) (by decide)) 0 rfl rfl rfl (Nat.le_of_ble_eq_true rfl) rfl dX4_behind_1 ?_
  refine Z.istore_n C (lv' := [(1, .int (hereN o.2.1 o.2.2.1 q.2.1)), (0, .ref (a 0))]) dX4_behind_4 rfl (by decide) rfl ?_
  refine Z.iload_n C dX4_behind_5 0 rfl rfl ?_
  refine Z.bipush C (v := (nI 60)) dX4_behind_6 (by decide) ?_
  refine Z.icmp_eq C 17 dX4_behind_8 (by decide) (fun c41 => ?_) (fun c41 => ?_)
  · skip
    replace c41 : (hereN o.2.1 o.2.2.1 q.2.1) = (60 : Int32) := c41
    refine Z.aload_n C dX4_behind_17 1 rfl rfl ?_
    refine Z.dup C dX4_behind_18 rfl ?_
    refine Z.get C in4 0 rfl rfl 28 (by decide) (by decide +kernel) rfl rfl dX4_behind_19 ?_
    refine Z.iconst C (v := (nI 1)) dX4_behind_22 (by decide) ?_
    refine Z.iadd C (v := (nI (q.2.1 + 1))) dX4_behind_23 (nI_add q.2.1 1) ?_
    refine Z.put C in4 0 rfl rfl 28 (by decide) tyX4 tyX4_ok nmX4 (by decide +kernel) rfl rfl rfl rfl (Nat.le_of_ble_eq_true rfl) dX4_behind_24 (w' := (wN a cI cZ o (q.1, q.2.1 + 1, q.2.2))) rfl ?_
    refine Z.aload_n C dX4_behind_27 1 rfl rfl ?_
    refine Z.lconst C (v := lN 1) dX4_behind_28 (by decide) ?_
    refine Z.ldc2 C (v := lN 31) dX4_behind_29 (by decide +kernel) ?_
    refine Z.callVv C (nA := 2) (As := [.long (lN 1), .long (lN 31)]) (st := []) (c_readNumberN o (q.1, q.2.1 + 1, q.2.2) 1 31 (by first | omega | (dsimp only; omega)) (by first | omega | (dsimp only; omega)) (by first | omega | (dsimp only; omega))) gX4_behind_X4_readNumber rfl (by decide +kernel) (rm_ok (by omega) (by decide)) 0 rfl rfl rfl (Nat.le_of_ble_eq_true rfl) rfl dX4_behind_32 ?_
    generalize e42 : qNumber o.2.1 o.2.2.1 1 31 (q.1, q.2.1 + 1, q.2.2) = x42
    have n42 := qNumber_at (tx := o.2.1) (len := o.2.2.1) (lo := 1) (hi := 31) (q := (q.1, q.2.1 + 1, q.2.2)) (N := 488) (by omega) (by first | omega | (dsimp only; omega))
    rw [e42] at n42
    obtain ⟨n42a, n42b⟩ := n42
    have n42d : x42.2.2.2.2.2.1 = q.2.2.2.2.2.1 := by rw [show x42.2.2.2.2.2.1 = (q.1, q.2.1 + 1, q.2.2).2.2.2.2.2.1 from congrArg (fun z => z.2.2.1) n42b]
    have n42o : x42.2.2.2.2.2.2.2.2.2.1 = q.2.2.2.2.2.2.2.2.2.1 := by rw [show x42.2.2.2.2.2.2.2.2.2.1 = (q.1, q.2.1 + 1, q.2.2).2.2.2.2.2.2.2.2.2.1 from congrArg (fun z => z.2.2.2.2.2.2.1) n42b]
    have n42s : x42.2.2.2.2.2.2.2.2.2.2.2.2.1 = q.2.2.2.2.2.2.2.2.2.2.2.2.1 := by rw [show x42.2.2.2.2.2.2.2.2.2.2.2.2.1 = (q.1, q.2.1 + 1, q.2.2).2.2.2.2.2.2.2.2.2.2.2.2.1 from congrArg (fun z => z.2.2.2.2.2.2.2.2.2.1) n42b]
    have n42b : x42.2.2.2.2.2.2.2.2.2.2.2.2.2.2.2.2.2.1 = q.2.2.2.2.2.2.2.2.2.2.2.2.2.2.2.2.2.1 := by rw [show x42.2.2.2.2.2.2.2.2.2.2.2.2.2.2.2.2.2.1 = (q.1, q.2.1 + 1, q.2.2).2.2.2.2.2.2.2.2.2.2.2.2.2.2.2.2.2.1 from congrArg (fun z => z.2.2.2.2.2.2.2.2.2.2.2.2.2.2.1) n42b]
    have n42f : x42.1 < 1000 := by rw [← e42]; exact qNumber_f (by first | omega | (dsimp only; omega)) (by first | omega | (dsimp only; omega)) (by first | omega | (dsimp only; omega))
    refine Z.aload_n C dX4_behind_35 1 rfl rfl ?_
    refine Z.iload_n C dX4_behind_36 0 rfl rfl ?_
    refine Z.bipush C (v := (nI 60)) dX4_behind_37 (by decide) ?_
    refine Z.icmp_ne C 46 dX4_behind_39 (by decide) (fun c43 => ?_) (fun c43 => ?_)
    · skip
      replace c43 : ¬ (hereN o.2.1 o.2.2.1 q.2.1) = (60 : Int32) := c43
      exact absurd c41 c43
    · skip
      replace c43 : (hereN o.2.1 o.2.2.1 q.2.1) = (60 : Int32) := c43
      refine Z.iconst C (v := (nI 4)) dX4_behind_42 (by decide) ?_
      refine Z.goto C 47 dX4_behind_43 (by decide) ?_
      refine Z.aload_n C dX4_behind_47 1 rfl rfl ?_
      refine Z.get C in4 0 rfl rfl 29 (by decide) (by decide +kernel) rfl rfl dX4_behind_48 ?_
      refine Z.l2i C (v := (nI x42.2.2.1)) dX4_behind_51 (lN_i x42.2.2.1) ?_
      refine Z.callVv C (nA := 2) (As := [.int (4 : Int32), .int (nI x42.2.2.1)]) (st := []) (c_step o x42 (4 : Int32) (nI x42.2.2.1)  (by first | omega | (dsimp only; omega))) gX4_behind_X4_step rfl (by decide +kernel) (rm_ok (by omega) (by decide)) 0 rfl rfl rfl (Nat.le_of_ble_eq_true rfl) rfl dX4_behind_52 ?_
      refine Z.aload_n C dX4_behind_55 1 rfl rfl ?_
      refine Z.aload_n C dX4_behind_56 1 rfl rfl ?_
      refine Z.get C in4 0 rfl rfl 21 (by decide) (by decide +kernel) rfl rfl dX4_behind_57 ?_
      refine Z.aload_n C dX4_behind_60 1 rfl rfl ?_
      refine Z.get C in4 0 rfl rfl 22 (by decide) (by decide +kernel) rfl rfl dX4_behind_61 ?_
      refine Z.iconst C (v := (nI 1)) dX4_behind_64 (by decide) ?_
      refine Z.isub C (v := (nI (x42.2.2.2.2.2.2.2.2.2.2.2.2.1 - 1))) dX4_behind_65 (pk_sub (a := x42.2.2.2.2.2.2.2.2.2.2.2.2.1) (b := 1) (by omega)) ?_
      refine Z.zald C 12 1 rfl rfl (x42.2.2.2.2.2.2.2.2.2.2.2.2.1 - 1) rfl (by omega) (by decide) dX4_behind_66 (v := (x42.2.2.2.2.2.2.2.2.2.2.2.1 (x42.2.2.2.2.2.2.2.2.2.2.2.2.1 - 1))) rfl ?_
      refine Z.if_eq C 77 dX4_behind_67 (by decide) (fun c44 => ?_) (fun c44 => ?_)
      · skip
        replace c44 : (x42.2.2.2.2.2.2.2.2.2.2.2.1 (x42.2.2.2.2.2.2.2.2.2.2.2.2.1 - 1)) = (0 : Int32) := c44
        refine Z.aload_n C dX4_behind_77 1 rfl rfl ?_
        refine Z.get C in4 0 rfl rfl 11 (by decide) (by decide +kernel) rfl rfl dX4_behind_78 ?_
        refine Z.iconst C (v := (nI 1)) dX4_behind_81 (by decide) ?_
        refine Z.iadd C (v := (nI (x42.2.2.2.2.2.2.1 + 1))) dX4_behind_82 (nI_add x42.2.2.2.2.2.2.1 1) ?_
        refine Z.put C in4 0 rfl rfl 11 (by decide) tyX4 tyX4_ok nmX4 (by decide +kernel) rfl rfl rfl rfl (Nat.le_of_ble_eq_true rfl) dX4_behind_83 (w' := (wN a cI cZ o (x42.1, x42.2.1, x42.2.2.1, (upd x42.2.2.2.1 x42.2.2.2.2.2.1 (4 : Int32)), (upd x42.2.2.2.2.1 x42.2.2.2.2.2.1 (nI x42.2.2.1)), x42.2.2.2.2.2.1 + 1, x42.2.2.2.2.2.2.1 + 1, x42.2.2.2.2.2.2.2))) rfl ?_
        refine Z.iconst C (v := (nI 2)) dX4_behind_86 (by decide) ?_
        refine Z.iret C hr hA dX4_behind_87 ?_ ?_
        · first | (simp [qBehind, qBeh2, qCls, closeF, qStep, qAt1, qWr, qWant, qPush, qSettle, qBlock, qWork, qNest, (eq_true c41), e42, (eq_true c43), (eq_true c44)]; done) | (simp_all [qBehind, qBeh2, qCls, closeF, qStep, qAt1, qWr, qWant, qPush, qSettle, qBlock, qWork, qNest]; done)
        · (refine congrArg (wN a cI cZ o) ?_; first | (simp [qBehind, qBeh2, qCls, closeF, qStep, qAt1, qWr, qWant, qPush, qSettle, qBlock, qWork, qNest, (eq_true c41), e42, (eq_true c43), (eq_true c44)]; done) | (simp_all [qBehind, qBeh2, qCls, closeF, qStep, qAt1, qWr, qWant, qPush, qSettle, qBlock, qWork, qNest]; done))
      · skip
        replace c44 : ¬ (x42.2.2.2.2.2.2.2.2.2.2.2.1 (x42.2.2.2.2.2.2.2.2.2.2.2.2.1 - 1)) = (0 : Int32) := c44
        refine Z.aload_n C dX4_behind_70 1 rfl rfl ?_
        refine Z.get C in4 0 rfl rfl 11 (by decide) (by decide +kernel) rfl rfl dX4_behind_71 ?_
        refine Z.goto C 83 dX4_behind_74 (by decide) ?_
        refine Z.put C in4 0 rfl rfl 11 (by decide) tyX4 tyX4_ok nmX4 (by decide +kernel) rfl rfl rfl rfl (Nat.le_of_ble_eq_true rfl) dX4_behind_83 (w' := (wN a cI cZ o (x42.1, x42.2.1, x42.2.2.1, (upd x42.2.2.2.1 x42.2.2.2.2.2.1 (4 : Int32)), (upd x42.2.2.2.2.1 x42.2.2.2.2.2.1 (nI x42.2.2.1)), x42.2.2.2.2.2.1 + 1, x42.2.2.2.2.2.2))) rfl ?_
        refine Z.iconst C (v := (nI 2)) dX4_behind_86 (by decide) ?_
        refine Z.iret C hr hA dX4_behind_87 ?_ ?_
        · first | (simp [qBehind, qBeh2, qCls, closeF, qStep, qAt1, qWr, qWant, qPush, qSettle, qBlock, qWork, qNest, (eq_true c41), e42, (eq_true c43), (eq_false c44)]; done) | (simp_all [qBehind, qBeh2, qCls, closeF, qStep, qAt1, qWr, qWant, qPush, qSettle, qBlock, qWork, qNest]; done)
        · (refine congrArg (wN a cI cZ o) ?_; first | (simp [qBehind, qBeh2, qCls, closeF, qStep, qAt1, qWr, qWant, qPush, qSettle, qBlock, qWork, qNest, (eq_true c41), e42, (eq_true c43), (eq_false c44)]; done) | (simp_all [qBehind, qBeh2, qCls, closeF, qStep, qAt1, qWr, qWant, qPush, qSettle, qBlock, qWork, qNest]; done))
  · skip
    replace c41 : ¬ (hereN o.2.1 o.2.2.1 q.2.1) = (60 : Int32) := c41
    refine Z.iload_n C dX4_behind_11 0 rfl rfl ?_
    refine Z.bipush C (v := (nI 62)) dX4_behind_12 (by decide) ?_
    refine Z.icmp_ne C 88 dX4_behind_14 (by decide) (fun c45 => ?_) (fun c45 => ?_)
    · skip
      replace c45 : ¬ (hereN o.2.1 o.2.2.1 q.2.1) = (62 : Int32) := c45
      refine Z.aload_n C dX4_behind_88 1 rfl rfl ?_
      refine Z.get C in4 0 rfl rfl 19 (by decide) (by decide +kernel) rfl rfl dX4_behind_89 ?_
      refine Z.iconst C (v := (nI 1)) dX4_behind_92 (by decide) ?_
      refine Z.isub C (v := (nI (q.2.2.2.2.2.2.2.2.2.1 - 1))) dX4_behind_93 (pk_sub (a := q.2.2.2.2.2.2.2.2.2.1) (b := 1) (by omega)) ?_
      refine Z.istore_n C (lv' := [(2, .int (nI (q.2.2.2.2.2.2.2.2.2.1 - 1))), (1, .int (hereN o.2.1 o.2.2.1 q.2.1)), (0, .ref (a 0))]) dX4_behind_94 rfl (by decide) rfl ?_
      refine Z.aload_n C dX4_behind_95 2 rfl rfl ?_
      refine Z.get C in4 0 rfl rfl 18 (by decide) (by decide +kernel) rfl rfl dX4_behind_96 ?_
      refine Z.iload_n C dX4_behind_99 0 rfl rfl ?_
      refine Z.iald C 11 0 rfl rfl (q.2.2.2.2.2.2.2.2.2.1 - 1) rfl (by omega) (by decide) dX4_behind_100 (v := (q.2.2.2.2.2.2.2.2.1 (q.2.2.2.2.2.2.2.2.2.1 - 1))) rfl ?_
      refine Z.if_eq C 198 dX4_behind_101 (by decide) (fun c46 => ?_) (fun c46 => ?_)
      · skip
        replace c46 : (q.2.2.2.2.2.2.2.2.1 (q.2.2.2.2.2.2.2.2.2.1 - 1)) = (0 : Int32) := c46
        refine Z.sub [0, 1, 2] rfl ?_
        exact key198 q (by first | omega | (dsimp only; omega)) (by first | omega | (dsimp only; omega)) ⟨by first | omega | (dsimp only; omega), by first | omega | (dsimp only; omega)⟩ ⟨by first | omega | (dsimp only; omega), by first | omega | (dsimp only; omega)⟩ (by first | omega | (dsimp only; omega)) (by first | omega | (dsimp only; omega)) hbr (by simp [qBehind, qPend, qBoth, b2i, (eq_false c41), (eq_false c45), (eq_true c46)])
      · skip
        replace c46 : ¬ (q.2.2.2.2.2.2.2.2.1 (q.2.2.2.2.2.2.2.2.2.1 - 1)) = (0 : Int32) := c46
        have hp2 := hp c46
        refine Z.aload_n C dX4_behind_104 2 rfl rfl ?_
        refine Z.bipush C (v := (nI 6)) dX4_behind_105 (by decide) ?_
        refine Z.aload_n C dX4_behind_107 2 rfl rfl ?_
        refine Z.get C in4 0 rfl rfl 18 (by decide) (by decide +kernel) rfl rfl dX4_behind_108 ?_
        refine Z.iload_n C dX4_behind_111 0 rfl rfl ?_
        refine Z.iald C 11 0 rfl rfl (q.2.2.2.2.2.2.2.2.2.1 - 1) rfl (by omega) (by decide) dX4_behind_112 (v := (q.2.2.2.2.2.2.2.2.1 (q.2.2.2.2.2.2.2.2.2.1 - 1))) rfl ?_
        refine Z.callVv C (nA := 2) (As := [.int (6 : Int32), .int (q.2.2.2.2.2.2.2.2.1 (q.2.2.2.2.2.2.2.2.2.1 - 1))]) (st := []) (c_step o q (6 : Int32) (q.2.2.2.2.2.2.2.2.1 (q.2.2.2.2.2.2.2.2.2.1 - 1))  (by first | omega | (dsimp only; omega))) gX4_behind_X4_step rfl (by decide +kernel) (rm_ok (by omega) (by decide)) 0 rfl rfl rfl (Nat.le_of_ble_eq_true rfl) rfl dX4_behind_113 ?_
        refine Z.aload_n C dX4_behind_116 2 rfl rfl ?_
        refine Z.dup C dX4_behind_117 rfl ?_
        refine Z.get C in4 0 rfl rfl 22 (by decide) (by decide +kernel) rfl rfl dX4_behind_118 ?_
        refine Z.iconst C (v := (nI 1)) dX4_behind_121 (by decide) ?_
        refine Z.isub C (v := (nI (q.2.2.2.2.2.2.2.2.2.2.2.2.1 - 1))) dX4_behind_122 (pk_sub (a := q.2.2.2.2.2.2.2.2.2.2.2.2.1) (b := 1) (by omega)) ?_
        refine Z.put C in4 0 rfl rfl 22 (by decide) tyX4 tyX4_ok nmX4 (by decide +kernel) rfl rfl rfl rfl (Nat.le_of_ble_eq_true rfl) dX4_behind_123 (w' := (wN a cI cZ o (q.1, q.2.1, q.2.2.1, (upd q.2.2.2.1 q.2.2.2.2.2.1 (6 : Int32)), (upd q.2.2.2.2.1 q.2.2.2.2.2.1 (q.2.2.2.2.2.2.2.2.1 (q.2.2.2.2.2.2.2.2.2.1 - 1))), q.2.2.2.2.2.1 + 1, q.2.2.2.2.2.2.1, q.2.2.2.2.2.2.2.1, q.2.2.2.2.2.2.2.2.1, q.2.2.2.2.2.2.2.2.2.1, q.2.2.2.2.2.2.2.2.2.2.1, q.2.2.2.2.2.2.2.2.2.2.2.1, q.2.2.2.2.2.2.2.2.2.2.2.2.1 - 1, q.2.2.2.2.2.2.2.2.2.2.2.2.2))) rfl ?_
        refine Z.aload_n C dX4_behind_126 2 rfl rfl ?_
        refine Z.get C in4 0 rfl rfl 21 (by decide) (by decide +kernel) rfl rfl dX4_behind_127 ?_
        refine Z.aload_n C dX4_behind_130 2 rfl rfl ?_
        refine Z.get C in4 0 rfl rfl 22 (by decide) (by decide +kernel) rfl rfl dX4_behind_131 ?_
        refine Z.zald C 12 1 rfl rfl (q.2.2.2.2.2.2.2.2.2.2.2.2.1 - 1) rfl (by omega) (by decide) dX4_behind_134 (v := (q.2.2.2.2.2.2.2.2.2.2.2.1 (q.2.2.2.2.2.2.2.2.2.2.2.2.1 - 1))) rfl ?_
        refine Z.if_eq C 156 dX4_behind_135 (by decide) (fun c47 => ?_) (fun c47 => ?_)
        · skip
          replace c47 : (q.2.2.2.2.2.2.2.2.2.2.2.1 (q.2.2.2.2.2.2.2.2.2.2.2.2.1 - 1)) = (0 : Int32) := c47
          refine Z.iconst C (v := (nI 0)) dX4_behind_156 (by decide) ?_
          refine Z.istore_n C (lv' := [(3, .int (nI 0)), (2, .int (nI (q.2.2.2.2.2.2.2.2.2.1 - 1))), (1, .int (hereN o.2.1 o.2.2.1 q.2.1)), (0, .ref (a 0))]) dX4_behind_157 rfl (by decide) rfl ?_
          refine Z.aload_n C dX4_behind_158 3 rfl rfl ?_
          refine Z.get C in4 0 rfl rfl 21 (by decide) (by decide +kernel) rfl rfl dX4_behind_159 ?_
          refine Z.aload_n C dX4_behind_162 3 rfl rfl ?_
          refine Z.get C in4 0 rfl rfl 22 (by decide) (by decide +kernel) rfl rfl dX4_behind_163 ?_
          refine Z.iconst C (v := (nI 1)) dX4_behind_166 (by decide) ?_
          refine Z.isub C (v := (nI ((q.2.2.2.2.2.2.2.2.2.2.2.2.1 - 1) - 1))) dX4_behind_167 (pk_sub (a := q.2.2.2.2.2.2.2.2.2.2.2.2.1 - 1) (b := 1) (by omega)) ?_
          refine Z.iload_n C dX4_behind_168 0 rfl rfl ?_
          refine Z.zast C 12 1 rfl rfl ((q.2.2.2.2.2.2.2.2.2.2.2.2.1 - 1) - 1) rfl (by omega) (by decide) dX4_behind_169 (v := (0 : Int32)) (by decide) (w' := (wN a cI cZ o (q.1, q.2.1, q.2.2.1, (upd q.2.2.2.1 q.2.2.2.2.2.1 (6 : Int32)), (upd q.2.2.2.2.1 q.2.2.2.2.2.1 (q.2.2.2.2.2.2.2.2.1 (q.2.2.2.2.2.2.2.2.2.1 - 1))), q.2.2.2.2.2.1 + 1, q.2.2.2.2.2.2.1, q.2.2.2.2.2.2.2.1, q.2.2.2.2.2.2.2.2.1, q.2.2.2.2.2.2.2.2.2.1, q.2.2.2.2.2.2.2.2.2.2.1, (upd q.2.2.2.2.2.2.2.2.2.2.2.1 ((q.2.2.2.2.2.2.2.2.2.2.2.2.1 - 1) - 1) (0 : Int32)), q.2.2.2.2.2.2.2.2.2.2.2.2.1 - 1, q.2.2.2.2.2.2.2.2.2.2.2.2.2))) rfl ?_
          refine Z.aload_n C dX4_behind_170 3 rfl rfl ?_
          refine Z.iload_n C dX4_behind_171 0 rfl rfl ?_
          refine Z.if_eq C 182 dX4_behind_172 (by decide) (fun c48 => ?_) (fun c48 => ?_)
          · skip
            replace c48 : 0 = 0 := (nI_eq (by omega) (by omega)).mp c48
            refine Z.aload_n C dX4_behind_182 3 rfl rfl ?_
            refine Z.get C in4 0 rfl rfl 11 (by decide) (by decide +kernel) rfl rfl dX4_behind_183 ?_
            refine Z.iconst C (v := (nI 1)) dX4_behind_186 (by decide) ?_
            refine Z.iadd C (v := (nI (q.2.2.2.2.2.2.1 + 1))) dX4_behind_187 (nI_add q.2.2.2.2.2.2.1 1) ?_
            refine Z.put C in4 0 rfl rfl 11 (by decide) tyX4 tyX4_ok nmX4 (by decide +kernel) rfl rfl rfl rfl (Nat.le_of_ble_eq_true rfl) dX4_behind_188 (w' := (wN a cI cZ o (q.1, q.2.1, q.2.2.1, (upd q.2.2.2.1 q.2.2.2.2.2.1 (6 : Int32)), (upd q.2.2.2.2.1 q.2.2.2.2.2.1 (q.2.2.2.2.2.2.2.2.1 (q.2.2.2.2.2.2.2.2.2.1 - 1))), q.2.2.2.2.2.1 + 1, q.2.2.2.2.2.2.1 + 1, q.2.2.2.2.2.2.2.1, q.2.2.2.2.2.2.2.2.1, q.2.2.2.2.2.2.2.2.2.1, q.2.2.2.2.2.2.2.2.2.2.1, (upd q.2.2.2.2.2.2.2.2.2.2.2.1 ((q.2.2.2.2.2.2.2.2.2.2.2.2.1 - 1) - 1) (0 : Int32)), q.2.2.2.2.2.2.2.2.2.2.2.2.1 - 1, q.2.2.2.2.2.2.2.2.2.2.2.2.2))) rfl ?_
            refine Z.aload_n C dX4_behind_191 3 rfl rfl ?_
            refine Z.get C in4 0 rfl rfl 18 (by decide) (by decide +kernel) rfl rfl dX4_behind_192 ?_
            refine Z.iload_n C dX4_behind_195 1 rfl rfl ?_
            refine Z.iconst C (v := (nI 0)) dX4_behind_196 (by decide) ?_
            refine Z.iast C 11 0 rfl rfl (q.2.2.2.2.2.2.2.2.2.1 - 1) rfl (by omega) (by decide) dX4_behind_197 (v := (0 : Int32)) rfl (w' := (wN a cI cZ o (q.1, q.2.1, q.2.2.1, (upd q.2.2.2.1 q.2.2.2.2.2.1 (6 : Int32)), (upd q.2.2.2.2.1 q.2.2.2.2.2.1 (q.2.2.2.2.2.2.2.2.1 (q.2.2.2.2.2.2.2.2.2.1 - 1))), q.2.2.2.2.2.1 + 1, q.2.2.2.2.2.2.1 + 1, q.2.2.2.2.2.2.2.1, (upd q.2.2.2.2.2.2.2.2.1 (q.2.2.2.2.2.2.2.2.2.1 - 1) (0 : Int32)), q.2.2.2.2.2.2.2.2.2.1, q.2.2.2.2.2.2.2.2.2.2.1, (upd q.2.2.2.2.2.2.2.2.2.2.2.1 ((q.2.2.2.2.2.2.2.2.2.2.2.2.1 - 1) - 1) (0 : Int32)), q.2.2.2.2.2.2.2.2.2.2.2.2.1 - 1, q.2.2.2.2.2.2.2.2.2.2.2.2.2))) rfl ?_
            refine Z.sub [1, 2, 3] rfl ?_
            exact key198 (q.1, q.2.1, q.2.2.1, (upd q.2.2.2.1 q.2.2.2.2.2.1 (6 : Int32)), (upd q.2.2.2.2.1 q.2.2.2.2.2.1 (q.2.2.2.2.2.2.2.2.1 (q.2.2.2.2.2.2.2.2.2.1 - 1))), q.2.2.2.2.2.1 + 1, q.2.2.2.2.2.2.1 + 1, q.2.2.2.2.2.2.2.1, (upd q.2.2.2.2.2.2.2.2.1 (q.2.2.2.2.2.2.2.2.2.1 - 1) (0 : Int32)), q.2.2.2.2.2.2.2.2.2.1, q.2.2.2.2.2.2.2.2.2.2.1, (upd q.2.2.2.2.2.2.2.2.2.2.2.1 ((q.2.2.2.2.2.2.2.2.2.2.2.2.1 - 1) - 1) (0 : Int32)), q.2.2.2.2.2.2.2.2.2.2.2.2.1 - 1, q.2.2.2.2.2.2.2.2.2.2.2.2.2) (by first | omega | (dsimp only; omega)) (by first | omega | (dsimp only; omega)) ⟨by first | omega | (dsimp only; omega), by first | omega | (dsimp only; omega)⟩ ⟨by first | omega | (dsimp only; omega), by first | omega | (dsimp only; omega)⟩ (by first | omega | (dsimp only; omega)) (by first | omega | (dsimp only; omega)) hbr (by simp [qBehind, qPend, qBoth, b2i, (eq_false c41), (eq_false c45), (eq_false c46), (eq_true c47), (eq_true c48)])
          · skip
            replace c48 : ¬ 0 = 0 := mt (nI_eq (by omega) (by omega)).mpr c48
            exact absurd c48 (by decide)
        · skip
          replace c47 : ¬ (q.2.2.2.2.2.2.2.2.2.2.2.1 (q.2.2.2.2.2.2.2.2.2.2.2.2.1 - 1)) = (0 : Int32) := c47
          refine Z.aload_n C dX4_behind_138 2 rfl rfl ?_
          refine Z.get C in4 0 rfl rfl 21 (by decide) (by decide +kernel) rfl rfl dX4_behind_139 ?_
          refine Z.aload_n C dX4_behind_142 2 rfl rfl ?_
          refine Z.get C in4 0 rfl rfl 22 (by decide) (by decide +kernel) rfl rfl dX4_behind_143 ?_
          refine Z.iconst C (v := (nI 1)) dX4_behind_146 (by decide) ?_
          refine Z.isub C (v := (nI ((q.2.2.2.2.2.2.2.2.2.2.2.2.1 - 1) - 1))) dX4_behind_147 (pk_sub (a := q.2.2.2.2.2.2.2.2.2.2.2.2.1 - 1) (b := 1) (by omega)) ?_
          refine Z.zald C 12 1 rfl rfl ((q.2.2.2.2.2.2.2.2.2.2.2.2.1 - 1) - 1) rfl (by omega) (by decide) dX4_behind_148 (v := (q.2.2.2.2.2.2.2.2.2.2.2.1 ((q.2.2.2.2.2.2.2.2.2.2.2.2.1 - 1) - 1))) rfl ?_
          refine Z.if_eq C 156 dX4_behind_149 (by decide) (fun c49 => ?_) (fun c49 => ?_)
          · skip
            replace c49 : (q.2.2.2.2.2.2.2.2.2.2.2.1 ((q.2.2.2.2.2.2.2.2.2.2.2.2.1 - 1) - 1)) = (0 : Int32) := c49
            refine Z.iconst C (v := (nI 0)) dX4_behind_156 (by decide) ?_
            refine Z.istore_n C (lv' := [(3, .int (nI 0)), (2, .int (nI (q.2.2.2.2.2.2.2.2.2.1 - 1))), (1, .int (hereN o.2.1 o.2.2.1 q.2.1)), (0, .ref (a 0))]) dX4_behind_157 rfl (by decide) rfl ?_
            refine Z.aload_n C dX4_behind_158 3 rfl rfl ?_
            refine Z.get C in4 0 rfl rfl 21 (by decide) (by decide +kernel) rfl rfl dX4_behind_159 ?_
            refine Z.aload_n C dX4_behind_162 3 rfl rfl ?_
            refine Z.get C in4 0 rfl rfl 22 (by decide) (by decide +kernel) rfl rfl dX4_behind_163 ?_
            refine Z.iconst C (v := (nI 1)) dX4_behind_166 (by decide) ?_
            refine Z.isub C (v := (nI ((q.2.2.2.2.2.2.2.2.2.2.2.2.1 - 1) - 1))) dX4_behind_167 (pk_sub (a := q.2.2.2.2.2.2.2.2.2.2.2.2.1 - 1) (b := 1) (by omega)) ?_
            refine Z.iload_n C dX4_behind_168 0 rfl rfl ?_
            refine Z.zast C 12 1 rfl rfl ((q.2.2.2.2.2.2.2.2.2.2.2.2.1 - 1) - 1) rfl (by omega) (by decide) dX4_behind_169 (v := (0 : Int32)) (by decide) (w' := (wN a cI cZ o (q.1, q.2.1, q.2.2.1, (upd q.2.2.2.1 q.2.2.2.2.2.1 (6 : Int32)), (upd q.2.2.2.2.1 q.2.2.2.2.2.1 (q.2.2.2.2.2.2.2.2.1 (q.2.2.2.2.2.2.2.2.2.1 - 1))), q.2.2.2.2.2.1 + 1, q.2.2.2.2.2.2.1, q.2.2.2.2.2.2.2.1, q.2.2.2.2.2.2.2.2.1, q.2.2.2.2.2.2.2.2.2.1, q.2.2.2.2.2.2.2.2.2.2.1, (upd q.2.2.2.2.2.2.2.2.2.2.2.1 ((q.2.2.2.2.2.2.2.2.2.2.2.2.1 - 1) - 1) (0 : Int32)), q.2.2.2.2.2.2.2.2.2.2.2.2.1 - 1, q.2.2.2.2.2.2.2.2.2.2.2.2.2))) rfl ?_
            refine Z.aload_n C dX4_behind_170 3 rfl rfl ?_
            refine Z.iload_n C dX4_behind_171 0 rfl rfl ?_
            refine Z.if_eq C 182 dX4_behind_172 (by decide) (fun c50 => ?_) (fun c50 => ?_)
            · skip
              replace c50 : 0 = 0 := (nI_eq (by omega) (by omega)).mp c50
              refine Z.aload_n C dX4_behind_182 3 rfl rfl ?_
              refine Z.get C in4 0 rfl rfl 11 (by decide) (by decide +kernel) rfl rfl dX4_behind_183 ?_
              refine Z.iconst C (v := (nI 1)) dX4_behind_186 (by decide) ?_
              refine Z.iadd C (v := (nI (q.2.2.2.2.2.2.1 + 1))) dX4_behind_187 (nI_add q.2.2.2.2.2.2.1 1) ?_
              refine Z.put C in4 0 rfl rfl 11 (by decide) tyX4 tyX4_ok nmX4 (by decide +kernel) rfl rfl rfl rfl (Nat.le_of_ble_eq_true rfl) dX4_behind_188 (w' := (wN a cI cZ o (q.1, q.2.1, q.2.2.1, (upd q.2.2.2.1 q.2.2.2.2.2.1 (6 : Int32)), (upd q.2.2.2.2.1 q.2.2.2.2.2.1 (q.2.2.2.2.2.2.2.2.1 (q.2.2.2.2.2.2.2.2.2.1 - 1))), q.2.2.2.2.2.1 + 1, q.2.2.2.2.2.2.1 + 1, q.2.2.2.2.2.2.2.1, q.2.2.2.2.2.2.2.2.1, q.2.2.2.2.2.2.2.2.2.1, q.2.2.2.2.2.2.2.2.2.2.1, (upd q.2.2.2.2.2.2.2.2.2.2.2.1 ((q.2.2.2.2.2.2.2.2.2.2.2.2.1 - 1) - 1) (0 : Int32)), q.2.2.2.2.2.2.2.2.2.2.2.2.1 - 1, q.2.2.2.2.2.2.2.2.2.2.2.2.2))) rfl ?_
              refine Z.aload_n C dX4_behind_191 3 rfl rfl ?_
              refine Z.get C in4 0 rfl rfl 18 (by decide) (by decide +kernel) rfl rfl dX4_behind_192 ?_
              refine Z.iload_n C dX4_behind_195 1 rfl rfl ?_
              refine Z.iconst C (v := (nI 0)) dX4_behind_196 (by decide) ?_
              refine Z.iast C 11 0 rfl rfl (q.2.2.2.2.2.2.2.2.2.1 - 1) rfl (by omega) (by decide) dX4_behind_197 (v := (0 : Int32)) rfl (w' := (wN a cI cZ o (q.1, q.2.1, q.2.2.1, (upd q.2.2.2.1 q.2.2.2.2.2.1 (6 : Int32)), (upd q.2.2.2.2.1 q.2.2.2.2.2.1 (q.2.2.2.2.2.2.2.2.1 (q.2.2.2.2.2.2.2.2.2.1 - 1))), q.2.2.2.2.2.1 + 1, q.2.2.2.2.2.2.1 + 1, q.2.2.2.2.2.2.2.1, (upd q.2.2.2.2.2.2.2.2.1 (q.2.2.2.2.2.2.2.2.2.1 - 1) (0 : Int32)), q.2.2.2.2.2.2.2.2.2.1, q.2.2.2.2.2.2.2.2.2.2.1, (upd q.2.2.2.2.2.2.2.2.2.2.2.1 ((q.2.2.2.2.2.2.2.2.2.2.2.2.1 - 1) - 1) (0 : Int32)), q.2.2.2.2.2.2.2.2.2.2.2.2.1 - 1, q.2.2.2.2.2.2.2.2.2.2.2.2.2))) rfl ?_
              refine Z.sub [1, 2, 3] rfl ?_
              exact key198 (q.1, q.2.1, q.2.2.1, (upd q.2.2.2.1 q.2.2.2.2.2.1 (6 : Int32)), (upd q.2.2.2.2.1 q.2.2.2.2.2.1 (q.2.2.2.2.2.2.2.2.1 (q.2.2.2.2.2.2.2.2.2.1 - 1))), q.2.2.2.2.2.1 + 1, q.2.2.2.2.2.2.1 + 1, q.2.2.2.2.2.2.2.1, (upd q.2.2.2.2.2.2.2.2.1 (q.2.2.2.2.2.2.2.2.2.1 - 1) (0 : Int32)), q.2.2.2.2.2.2.2.2.2.1, q.2.2.2.2.2.2.2.2.2.2.1, (upd q.2.2.2.2.2.2.2.2.2.2.2.1 ((q.2.2.2.2.2.2.2.2.2.2.2.2.1 - 1) - 1) (0 : Int32)), q.2.2.2.2.2.2.2.2.2.2.2.2.1 - 1, q.2.2.2.2.2.2.2.2.2.2.2.2.2) (by first | omega | (dsimp only; omega)) (by first | omega | (dsimp only; omega)) ⟨by first | omega | (dsimp only; omega), by first | omega | (dsimp only; omega)⟩ ⟨by first | omega | (dsimp only; omega), by first | omega | (dsimp only; omega)⟩ (by first | omega | (dsimp only; omega)) (by first | omega | (dsimp only; omega)) hbr (by simp [qBehind, qPend, qBoth, b2i, (eq_false c41), (eq_false c45), (eq_false c46), (eq_false c47), (eq_true c49), (eq_true c50)])
            · skip
              replace c50 : ¬ 0 = 0 := mt (nI_eq (by omega) (by omega)).mpr c50
              exact absurd c50 (by decide)
          · skip
            replace c49 : ¬ (q.2.2.2.2.2.2.2.2.2.2.2.1 ((q.2.2.2.2.2.2.2.2.2.2.2.2.1 - 1) - 1)) = (0 : Int32) := c49
            refine Z.iconst C (v := (nI 1)) dX4_behind_152 (by decide) ?_
            refine Z.goto C 157 dX4_behind_153 (by decide) ?_
            refine Z.istore_n C (lv' := [(3, .int (nI 1)), (2, .int (nI (q.2.2.2.2.2.2.2.2.2.1 - 1))), (1, .int (hereN o.2.1 o.2.2.1 q.2.1)), (0, .ref (a 0))]) dX4_behind_157 rfl (by decide) rfl ?_
            refine Z.aload_n C dX4_behind_158 3 rfl rfl ?_
            refine Z.get C in4 0 rfl rfl 21 (by decide) (by decide +kernel) rfl rfl dX4_behind_159 ?_
            refine Z.aload_n C dX4_behind_162 3 rfl rfl ?_
            refine Z.get C in4 0 rfl rfl 22 (by decide) (by decide +kernel) rfl rfl dX4_behind_163 ?_
            refine Z.iconst C (v := (nI 1)) dX4_behind_166 (by decide) ?_
            refine Z.isub C (v := (nI ((q.2.2.2.2.2.2.2.2.2.2.2.2.1 - 1) - 1))) dX4_behind_167 (pk_sub (a := q.2.2.2.2.2.2.2.2.2.2.2.2.1 - 1) (b := 1) (by omega)) ?_
            refine Z.iload_n C dX4_behind_168 0 rfl rfl ?_
            refine Z.zast C 12 1 rfl rfl ((q.2.2.2.2.2.2.2.2.2.2.2.2.1 - 1) - 1) rfl (by omega) (by decide) dX4_behind_169 (v := (1 : Int32)) (by decide) (w' := (wN a cI cZ o (q.1, q.2.1, q.2.2.1, (upd q.2.2.2.1 q.2.2.2.2.2.1 (6 : Int32)), (upd q.2.2.2.2.1 q.2.2.2.2.2.1 (q.2.2.2.2.2.2.2.2.1 (q.2.2.2.2.2.2.2.2.2.1 - 1))), q.2.2.2.2.2.1 + 1, q.2.2.2.2.2.2.1, q.2.2.2.2.2.2.2.1, q.2.2.2.2.2.2.2.2.1, q.2.2.2.2.2.2.2.2.2.1, q.2.2.2.2.2.2.2.2.2.2.1, (upd q.2.2.2.2.2.2.2.2.2.2.2.1 ((q.2.2.2.2.2.2.2.2.2.2.2.2.1 - 1) - 1) (1 : Int32)), q.2.2.2.2.2.2.2.2.2.2.2.2.1 - 1, q.2.2.2.2.2.2.2.2.2.2.2.2.2))) rfl ?_
            refine Z.aload_n C dX4_behind_170 3 rfl rfl ?_
            refine Z.iload_n C dX4_behind_171 0 rfl rfl ?_
            refine Z.if_eq C 182 dX4_behind_172 (by decide) (fun c51 => ?_) (fun c51 => ?_)
            · skip
              replace c51 : 1 = 0 := (nI_eq (by omega) (by omega)).mp c51
              exact absurd c51 (by decide)
            · skip
              replace c51 : ¬ 1 = 0 := mt (nI_eq (by omega) (by omega)).mpr c51
              refine Z.aload_n C dX4_behind_175 3 rfl rfl ?_
              refine Z.get C in4 0 rfl rfl 11 (by decide) (by decide +kernel) rfl rfl dX4_behind_176 ?_
              refine Z.goto C 188 dX4_behind_179 (by decide) ?_
              refine Z.put C in4 0 rfl rfl 11 (by decide) tyX4 tyX4_ok nmX4 (by decide +kernel) rfl rfl rfl rfl (Nat.le_of_ble_eq_true rfl) dX4_behind_188 (w' := (wN a cI cZ o (q.1, q.2.1, q.2.2.1, (upd q.2.2.2.1 q.2.2.2.2.2.1 (6 : Int32)), (upd q.2.2.2.2.1 q.2.2.2.2.2.1 (q.2.2.2.2.2.2.2.2.1 (q.2.2.2.2.2.2.2.2.2.1 - 1))), q.2.2.2.2.2.1 + 1, q.2.2.2.2.2.2.1, q.2.2.2.2.2.2.2.1, q.2.2.2.2.2.2.2.2.1, q.2.2.2.2.2.2.2.2.2.1, q.2.2.2.2.2.2.2.2.2.2.1, (upd q.2.2.2.2.2.2.2.2.2.2.2.1 ((q.2.2.2.2.2.2.2.2.2.2.2.2.1 - 1) - 1) (1 : Int32)), q.2.2.2.2.2.2.2.2.2.2.2.2.1 - 1, q.2.2.2.2.2.2.2.2.2.2.2.2.2))) rfl ?_
              refine Z.aload_n C dX4_behind_191 3 rfl rfl ?_
              refine Z.get C in4 0 rfl rfl 18 (by decide) (by decide +kernel) rfl rfl dX4_behind_192 ?_
              refine Z.iload_n C dX4_behind_195 1 rfl rfl ?_
              refine Z.iconst C (v := (nI 0)) dX4_behind_196 (by decide) ?_
              refine Z.iast C 11 0 rfl rfl (q.2.2.2.2.2.2.2.2.2.1 - 1) rfl (by omega) (by decide) dX4_behind_197 (v := (0 : Int32)) rfl (w' := (wN a cI cZ o (q.1, q.2.1, q.2.2.1, (upd q.2.2.2.1 q.2.2.2.2.2.1 (6 : Int32)), (upd q.2.2.2.2.1 q.2.2.2.2.2.1 (q.2.2.2.2.2.2.2.2.1 (q.2.2.2.2.2.2.2.2.2.1 - 1))), q.2.2.2.2.2.1 + 1, q.2.2.2.2.2.2.1, q.2.2.2.2.2.2.2.1, (upd q.2.2.2.2.2.2.2.2.1 (q.2.2.2.2.2.2.2.2.2.1 - 1) (0 : Int32)), q.2.2.2.2.2.2.2.2.2.1, q.2.2.2.2.2.2.2.2.2.2.1, (upd q.2.2.2.2.2.2.2.2.2.2.2.1 ((q.2.2.2.2.2.2.2.2.2.2.2.2.1 - 1) - 1) (1 : Int32)), q.2.2.2.2.2.2.2.2.2.2.2.2.1 - 1, q.2.2.2.2.2.2.2.2.2.2.2.2.2))) rfl ?_
              refine Z.sub [1, 2, 3] rfl ?_
              exact key198 (q.1, q.2.1, q.2.2.1, (upd q.2.2.2.1 q.2.2.2.2.2.1 (6 : Int32)), (upd q.2.2.2.2.1 q.2.2.2.2.2.1 (q.2.2.2.2.2.2.2.2.1 (q.2.2.2.2.2.2.2.2.2.1 - 1))), q.2.2.2.2.2.1 + 1, q.2.2.2.2.2.2.1, q.2.2.2.2.2.2.2.1, (upd q.2.2.2.2.2.2.2.2.1 (q.2.2.2.2.2.2.2.2.2.1 - 1) (0 : Int32)), q.2.2.2.2.2.2.2.2.2.1, q.2.2.2.2.2.2.2.2.2.2.1, (upd q.2.2.2.2.2.2.2.2.2.2.2.1 ((q.2.2.2.2.2.2.2.2.2.2.2.2.1 - 1) - 1) (1 : Int32)), q.2.2.2.2.2.2.2.2.2.2.2.2.1 - 1, q.2.2.2.2.2.2.2.2.2.2.2.2.2) (by first | omega | (dsimp only; omega)) (by first | omega | (dsimp only; omega)) ⟨by first | omega | (dsimp only; omega), by first | omega | (dsimp only; omega)⟩ ⟨by first | omega | (dsimp only; omega), by first | omega | (dsimp only; omega)⟩ (by first | omega | (dsimp only; omega)) (by first | omega | (dsimp only; omega)) hbr (by simp [qBehind, qPend, qBoth, b2i, (eq_false c41), (eq_false c45), (eq_false c46), (eq_false c47), (eq_false c49), (eq_false c51)])
    · skip
      replace c45 : (hereN o.2.1 o.2.2.1 q.2.1) = (62 : Int32) := c45
      refine Z.aload_n C dX4_behind_17 1 rfl rfl ?_
      refine Z.dup C dX4_behind_18 rfl ?_
      refine Z.get C in4 0 rfl rfl 28 (by decide) (by decide +kernel) rfl rfl dX4_behind_19 ?_
      refine Z.iconst C (v := (nI 1)) dX4_behind_22 (by decide) ?_
      refine Z.iadd C (v := (nI (q.2.1 + 1))) dX4_behind_23 (nI_add q.2.1 1) ?_
      refine Z.put C in4 0 rfl rfl 28 (by decide) tyX4 tyX4_ok nmX4 (by decide +kernel) rfl rfl rfl rfl (Nat.le_of_ble_eq_true rfl) dX4_behind_24 (w' := (wN a cI cZ o (q.1, q.2.1 + 1, q.2.2))) rfl ?_
      refine Z.aload_n C dX4_behind_27 1 rfl rfl ?_
      refine Z.lconst C (v := lN 1) dX4_behind_28 (by decide) ?_
      refine Z.ldc2 C (v := lN 31) dX4_behind_29 (by decide +kernel) ?_
      refine Z.callVv C (nA := 2) (As := [.long (lN 1), .long (lN 31)]) (st := []) (c_readNumberN o (q.1, q.2.1 + 1, q.2.2) 1 31 (by first | omega | (dsimp only; omega)) (by first | omega | (dsimp only; omega)) (by first | omega | (dsimp only; omega))) gX4_behind_X4_readNumber rfl (by decide +kernel) (rm_ok (by omega) (by decide)) 0 rfl rfl rfl (Nat.le_of_ble_eq_true rfl) rfl dX4_behind_32 ?_
      generalize e52 : qNumber o.2.1 o.2.2.1 1 31 (q.1, q.2.1 + 1, q.2.2) = x52
      have n52 := qNumber_at (tx := o.2.1) (len := o.2.2.1) (lo := 1) (hi := 31) (q := (q.1, q.2.1 + 1, q.2.2)) (N := 488) (by omega) (by first | omega | (dsimp only; omega))
      rw [e52] at n52
      obtain ⟨n52a, n52b⟩ := n52
      have n52d : x52.2.2.2.2.2.1 = q.2.2.2.2.2.1 := by rw [show x52.2.2.2.2.2.1 = (q.1, q.2.1 + 1, q.2.2).2.2.2.2.2.1 from congrArg (fun z => z.2.2.1) n52b]
      have n52o : x52.2.2.2.2.2.2.2.2.2.1 = q.2.2.2.2.2.2.2.2.2.1 := by rw [show x52.2.2.2.2.2.2.2.2.2.1 = (q.1, q.2.1 + 1, q.2.2).2.2.2.2.2.2.2.2.2.1 from congrArg (fun z => z.2.2.2.2.2.2.1) n52b]
      have n52s : x52.2.2.2.2.2.2.2.2.2.2.2.2.1 = q.2.2.2.2.2.2.2.2.2.2.2.2.1 := by rw [show x52.2.2.2.2.2.2.2.2.2.2.2.2.1 = (q.1, q.2.1 + 1, q.2.2).2.2.2.2.2.2.2.2.2.2.2.2.1 from congrArg (fun z => z.2.2.2.2.2.2.2.2.2.1) n52b]
      have n52b : x52.2.2.2.2.2.2.2.2.2.2.2.2.2.2.2.2.2.1 = q.2.2.2.2.2.2.2.2.2.2.2.2.2.2.2.2.2.1 := by rw [show x52.2.2.2.2.2.2.2.2.2.2.2.2.2.2.2.2.2.1 = (q.1, q.2.1 + 1, q.2.2).2.2.2.2.2.2.2.2.2.2.2.2.2.2.2.2.2.1 from congrArg (fun z => z.2.2.2.2.2.2.2.2.2.2.2.2.2.2.1) n52b]
      have n52f : x52.1 < 1000 := by rw [← e52]; exact qNumber_f (by first | omega | (dsimp only; omega)) (by first | omega | (dsimp only; omega)) (by first | omega | (dsimp only; omega))
      refine Z.aload_n C dX4_behind_35 1 rfl rfl ?_
      refine Z.iload_n C dX4_behind_36 0 rfl rfl ?_
      refine Z.bipush C (v := (nI 60)) dX4_behind_37 (by decide) ?_
      refine Z.icmp_ne C 46 dX4_behind_39 (by decide) (fun c53 => ?_) (fun c53 => ?_)
      · skip
        replace c53 : ¬ (hereN o.2.1 o.2.2.1 q.2.1) = (60 : Int32) := c53
        refine Z.iconst C (v := (nI 5)) dX4_behind_46 (by decide) ?_
        refine Z.aload_n C dX4_behind_47 1 rfl rfl ?_
        refine Z.get C in4 0 rfl rfl 29 (by decide) (by decide +kernel) rfl rfl dX4_behind_48 ?_
        refine Z.l2i C (v := (nI x52.2.2.1)) dX4_behind_51 (lN_i x52.2.2.1) ?_
        refine Z.callVv C (nA := 2) (As := [.int (5 : Int32), .int (nI x52.2.2.1)]) (st := []) (c_step o x52 (5 : Int32) (nI x52.2.2.1)  (by first | omega | (dsimp only; omega))) gX4_behind_X4_step rfl (by decide +kernel) (rm_ok (by omega) (by decide)) 0 rfl rfl rfl (Nat.le_of_ble_eq_true rfl) rfl dX4_behind_52 ?_
        refine Z.aload_n C dX4_behind_55 1 rfl rfl ?_
        refine Z.aload_n C dX4_behind_56 1 rfl rfl ?_
        refine Z.get C in4 0 rfl rfl 21 (by decide) (by decide +kernel) rfl rfl dX4_behind_57 ?_
        refine Z.aload_n C dX4_behind_60 1 rfl rfl ?_
        refine Z.get C in4 0 rfl rfl 22 (by decide) (by decide +kernel) rfl rfl dX4_behind_61 ?_
        refine Z.iconst C (v := (nI 1)) dX4_behind_64 (by decide) ?_
        refine Z.isub C (v := (nI (x52.2.2.2.2.2.2.2.2.2.2.2.2.1 - 1))) dX4_behind_65 (pk_sub (a := x52.2.2.2.2.2.2.2.2.2.2.2.2.1) (b := 1) (by omega)) ?_
        refine Z.zald C 12 1 rfl rfl (x52.2.2.2.2.2.2.2.2.2.2.2.2.1 - 1) rfl (by omega) (by decide) dX4_behind_66 (v := (x52.2.2.2.2.2.2.2.2.2.2.2.1 (x52.2.2.2.2.2.2.2.2.2.2.2.2.1 - 1))) rfl ?_
        refine Z.if_eq C 77 dX4_behind_67 (by decide) (fun c54 => ?_) (fun c54 => ?_)
        · skip
          replace c54 : (x52.2.2.2.2.2.2.2.2.2.2.2.1 (x52.2.2.2.2.2.2.2.2.2.2.2.2.1 - 1)) = (0 : Int32) := c54
          refine Z.aload_n C dX4_behind_77 1 rfl rfl ?_
          refine Z.get C in4 0 rfl rfl 11 (by decide) (by decide +kernel) rfl rfl dX4_behind_78 ?_
          refine Z.iconst C (v := (nI 1)) dX4_behind_81 (by decide) ?_
          refine Z.iadd C (v := (nI (x52.2.2.2.2.2.2.1 + 1))) dX4_behind_82 (nI_add x52.2.2.2.2.2.2.1 1) ?_
          refine Z.put C in4 0 rfl rfl 11 (by decide) tyX4 tyX4_ok nmX4 (by decide +kernel) rfl rfl rfl rfl (Nat.le_of_ble_eq_true rfl) dX4_behind_83 (w' := (wN a cI cZ o (x52.1, x52.2.1, x52.2.2.1, (upd x52.2.2.2.1 x52.2.2.2.2.2.1 (5 : Int32)), (upd x52.2.2.2.2.1 x52.2.2.2.2.2.1 (nI x52.2.2.1)), x52.2.2.2.2.2.1 + 1, x52.2.2.2.2.2.2.1 + 1, x52.2.2.2.2.2.2.2))) rfl ?_
          refine Z.iconst C (v := (nI 2)) dX4_behind_86 (by decide) ?_
          refine Z.iret C hr hA dX4_behind_87 ?_ ?_
          · first | (simp [qBehind, qBeh2, qCls, closeF, qStep, qAt1, qWr, qWant, qPush, qSettle, qBlock, qWork, qNest, (eq_false c41), (eq_true c45), e52, (eq_false c53), (eq_true c54)]; done) | (simp_all [qBehind, qBeh2, qCls, closeF, qStep, qAt1, qWr, qWant, qPush, qSettle, qBlock, qWork, qNest]; done)
          · (refine congrArg (wN a cI cZ o) ?_; first | (simp [qBehind, qBeh2, qCls, closeF, qStep, qAt1, qWr, qWant, qPush, qSettle, qBlock, qWork, qNest, (eq_false c41), (eq_true c45), e52, (eq_false c53), (eq_true c54)]; done) | (simp_all [qBehind, qBeh2, qCls, closeF, qStep, qAt1, qWr, qWant, qPush, qSettle, qBlock, qWork, qNest]; done))
        · skip
          replace c54 : ¬ (x52.2.2.2.2.2.2.2.2.2.2.2.1 (x52.2.2.2.2.2.2.2.2.2.2.2.2.1 - 1)) = (0 : Int32) := c54
          refine Z.aload_n C dX4_behind_70 1 rfl rfl ?_
          refine Z.get C in4 0 rfl rfl 11 (by decide) (by decide +kernel) rfl rfl dX4_behind_71 ?_
          refine Z.goto C 83 dX4_behind_74 (by decide) ?_
          refine Z.put C in4 0 rfl rfl 11 (by decide) tyX4 tyX4_ok nmX4 (by decide +kernel) rfl rfl rfl rfl (Nat.le_of_ble_eq_true rfl) dX4_behind_83 (w' := (wN a cI cZ o (x52.1, x52.2.1, x52.2.2.1, (upd x52.2.2.2.1 x52.2.2.2.2.2.1 (5 : Int32)), (upd x52.2.2.2.2.1 x52.2.2.2.2.2.1 (nI x52.2.2.1)), x52.2.2.2.2.2.1 + 1, x52.2.2.2.2.2.2))) rfl ?_
          refine Z.iconst C (v := (nI 2)) dX4_behind_86 (by decide) ?_
          refine Z.iret C hr hA dX4_behind_87 ?_ ?_
          · first | (simp [qBehind, qBeh2, qCls, closeF, qStep, qAt1, qWr, qWant, qPush, qSettle, qBlock, qWork, qNest, (eq_false c41), (eq_true c45), e52, (eq_false c53), (eq_false c54)]; done) | (simp_all [qBehind, qBeh2, qCls, closeF, qStep, qAt1, qWr, qWant, qPush, qSettle, qBlock, qWork, qNest]; done)
          · (refine congrArg (wN a cI cZ o) ?_; first | (simp [qBehind, qBeh2, qCls, closeF, qStep, qAt1, qWr, qWant, qPush, qSettle, qBlock, qWork, qNest, (eq_false c41), (eq_true c45), e52, (eq_false c53), (eq_false c54)]; done) | (simp_all [qBehind, qBeh2, qCls, closeF, qStep, qAt1, qWr, qWant, qPush, qSettle, qBlock, qWork, qNest]; done))
      · skip
        replace c53 : (hereN o.2.1 o.2.2.1 q.2.1) = (60 : Int32) := c53
        exact absurd c53 c41
