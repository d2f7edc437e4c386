def qLoopStmt (tx : Nat → Int32) (len : Nat) (q : QS) : Nat × QS :=
  let nm := hereN tx len q.2.1 - 97
  let q3 := if isLetF (hereN tx len q.2.1) = true then (if isLoopF q.2.2.2.2.2.2.2.2.2.2.2.2.2.2.1 q.2.2.2.2.2.2.2.2.2.2.2.2.2.2.2.2.2.1 nm = true then qWr q.2.1 q else q) else qWr q.2.1 q
  let q5 := qNumber tx len 1 64 (qAt1 q3)
  let q6 := if q5.1 = 0 then (if q5.2.2.2.2.2.2.2.2.2.2.2.2.2.2.2.2.1 q5.2.2.2.2.2.2.2.2.2.2.2.2.2.2.2.2.2.1 * nI q5.2.2.1 ≤ 640 then q5 else qWr (q.2.1 + 1) q5) else q5
  let q7 := qWant tx len 123 q6
  if q7.1 = 0 then (0, qBlock nm (nI (q7.2.2.2.2.2.1 + 1 + 1)) (q7.2.2.2.2.2.2.2.2.2.2.2.2.2.2.2.2.1 q7.2.2.2.2.2.2.2.2.2.2.2.2.2.2.2.2.2.1 * nI q7.2.2.1) (qStep (nI q7.2.2.1) 0 (qStep 10 nm q7))) else (0, q7)
def qStmt2 (tx : Nat → Int32) (len : Nat) (c : Int32) (q : QS) : Nat × QS :=
  if isLetF c = true then (1, qPush 0 (qWant tx len 61 (qAt1 (if isLoopF q.2.2.2.2.2.2.2.2.2.2.2.2.2.2.1 q.2.2.2.2.2.2.2.2.2.2.2.2.2.2.2.2.2.1 (c - 97) = true then qWr q.2.1 ((q.1, q.2.1, q.2.2.1, q.2.2.2.1, q.2.2.2.2.1, q.2.2.2.2.2.1, q.2.2.2.2.2.2.1, q.2.2.2.2.2.2.2.1, q.2.2.2.2.2.2.2.2.1, q.2.2.2.2.2.2.2.2.2.1, q.2.2.2.2.2.2.2.2.2.2.1, q.2.2.2.2.2.2.2.2.2.2.2.1, q.2.2.2.2.2.2.2.2.2.2.2.2.1, c - 97, q.2.2.2.2.2.2.2.2.2.2.2.2.2.2)) else ((q.1, q.2.1, q.2.2.1, q.2.2.2.1, q.2.2.2.2.1, q.2.2.2.2.2.1, q.2.2.2.2.2.2.1, q.2.2.2.2.2.2.2.1, q.2.2.2.2.2.2.2.2.1, q.2.2.2.2.2.2.2.2.2.1, q.2.2.2.2.2.2.2.2.2.2.1, q.2.2.2.2.2.2.2.2.2.2.2.1, q.2.2.2.2.2.2.2.2.2.2.2.2.1, c - 97, q.2.2.2.2.2.2.2.2.2.2.2.2.2.2))))))
  else if c = 64 then (1, qPush 1 (qWant tx len 91 (qAt1 q)))
  else if c = 35 ∨ c = 63 then (if q.2.2.2.2.2.2.2.2.2.2.2.2.2.2.2.2.2.1 = 8 then (0, qWr q.2.1 q) else if c = 63 then (1, qPush 3 (qAt1 q)) else qLoopStmt tx len (qAt1 q))
  else (0, qWr q.2.1 q)
def qStmt (tx : Nat → Int32) (len : Nat) (q : QS) : Nat × QS :=
  if hereN tx len q.2.1 = 125 ∧ 0 < q.2.2.2.2.2.2.2.2.2.2.2.2.2.2.2.2.2.1 then
    (0, if 0 ≤ q.2.2.2.2.2.2.2.2.2.2.2.2.2.2.1 (q.2.2.2.2.2.2.2.2.2.2.2.2.2.2.2.2.2.1 - 1) then qStep 11 (q.2.2.2.2.2.2.2.2.2.2.2.2.2.2.2.1 (q.2.2.2.2.2.2.2.2.2.2.2.2.2.2.2.2.2.1 - 1)) (q.1, q.2.1 + 1, q.2.2.1, q.2.2.2.1, q.2.2.2.2.1, q.2.2.2.2.2.1, q.2.2.2.2.2.2.1, q.2.2.2.2.2.2.2.1, q.2.2.2.2.2.2.2.2.1, q.2.2.2.2.2.2.2.2.2.1, q.2.2.2.2.2.2.2.2.2.2.1, q.2.2.2.2.2.2.2.2.2.2.2.1, q.2.2.2.2.2.2.2.2.2.2.2.2.1, q.2.2.2.2.2.2.2.2.2.2.2.2.2.1, q.2.2.2.2.2.2.2.2.2.2.2.2.2.2.1, q.2.2.2.2.2.2.2.2.2.2.2.2.2.2.2.1, q.2.2.2.2.2.2.2.2.2.2.2.2.2.2.2.2.1, q.2.2.2.2.2.2.2.2.2.2.2.2.2.2.2.2.2.1 - 1, q.2.2.2.2.2.2.2.2.2.2.2.2.2.2.2.2.2.2) else (q.1, q.2.1 + 1, q.2.2.1, q.2.2.2.1, upd q.2.2.2.2.1 (q.2.2.2.2.2.2.2.2.2.2.2.2.2.2.2.1 (q.2.2.2.2.2.2.2.2.2.2.2.2.2.2.2.2.2.1 - 1)).toNatClampNeg (nI q.2.2.2.2.2.1), q.2.2.2.2.2.1, q.2.2.2.2.2.2.1, q.2.2.2.2.2.2.2.1, q.2.2.2.2.2.2.2.2.1, q.2.2.2.2.2.2.2.2.2.1, q.2.2.2.2.2.2.2.2.2.2.1, q.2.2.2.2.2.2.2.2.2.2.2.1, q.2.2.2.2.2.2.2.2.2.2.2.2.1, q.2.2.2.2.2.2.2.2.2.2.2.2.2.1, q.2.2.2.2.2.2.2.2.2.2.2.2.2.2.1, q.2.2.2.2.2.2.2.2.2.2.2.2.2.2.2.1, q.2.2.2.2.2.2.2.2.2.2.2.2.2.2.2.2.1, q.2.2.2.2.2.2.2.2.2.2.2.2.2.2.2.2.2.1 - 1, q.2.2.2.2.2.2.2.2.2.2.2.2.2.2.2.2.2.2))
  else qStmt2 tx len (hereN tx len q.2.1) (q.1, q.2.1, q.2.2.1, q.2.2.2.1, q.2.2.2.2.1, q.2.2.2.2.2.1, q.2.2.2.2.2.2.1, q.2.2.2.2.2.2.2.1, q.2.2.2.2.2.2.2.2.1, q.2.2.2.2.2.2.2.2.2.1, q.2.2.2.2.2.2.2.2.2.2.1, q.2.2.2.2.2.2.2.2.2.2.2.1, q.2.2.2.2.2.2.2.2.2.2.2.2.1, q.2.2.2.2.2.2.2.2.2.2.2.2.2.1, q.2.2.2.2.2.2.2.2.2.2.2.2.2.2.1, q.2.2.2.2.2.2.2.2.2.2.2.2.2.2.2.1, q.2.2.2.2.2.2.2.2.2.2.2.2.2.2.2.2.1, q.2.2.2.2.2.2.2.2.2.2.2.2.2.2.2.2.2.1, q.2.2.2.2.2.2.2.2.2.2.2.2.2.2.2.2.2.2 + 1)

set_option maxHeartbeats 4000000 in
set_option maxRecDepth 100000 in
theorem c_statementN {l : Launch} {D : va_G} {a : Nat → Nat} {cI cZ : ClassId} (o : OS) (q : QS)  (hL : o.2.2.1 ≤ 480) (ha : q.2.1 ≤ 480) (hf : q.1 < 1000) (ho : q.2.2.2.2.2.2.2.2.2.1 + 2 ≤ 520) (hs : q.2.2.2.2.2.2.2.2.2.2.2.2.1 + 2 ≤ 520) (hd : q.2.2.2.2.2.1 + q.2.2.2.2.2.2.2.2.2.1 + 4 ≤ 1000) (hb : q.2.2.2.2.2.2.2.2.2.2.2.2.2.2.2.2.2.1 ≤ 8) (hbs : ∀ b, b < q.2.2.2.2.2.2.2.2.2.2.2.2.2.2.2.2.2.1 → 0 ≤ q.2.2.2.2.2.2.2.2.2.2.2.2.2.2.2.1 b ∧ ¬ (1000 : Int32) ≤ q.2.2.2.2.2.2.2.2.2.2.2.2.2.2.2.1 b) : Mi l yX4_statement wsX4_statement 3 D [(cI, .int), (cZ, .boolean)] [.ref (a 0)] (wN a cI cZ o q) (nI ((qStmt o.2.1 o.2.2.1 q).1)) (wN a cI cZ o ((qStmt o.2.1 o.2.2.1 q).2)) := by
  refine Mi.of (cc := cX4_statement) (maxL := 4) (by decide) rfl (Nat.le_of_ble_eq_true rfl) ?_
  intro p e s m below meth c A C hr hA
  have in4 : ∀ w ∈ wsX40, w ∈ wsX4_statement := by decide +kernel
  show Z p l e (rmN _) s m _ below meth c _ D A _ _ [(0, .ref (a 0))] 0 []
  refine Z.aload_n C dX4_statement_0 0 rfl rfl ?_
  refine Z.callVi C (nA := 0) (As := []) (st := []) (c_hereN o q (by first | omega | (dsimp only; omega)) (by first | omega | (dsimp only; omega))) gX4_statement_X4_here rfl (by decide +kernel) (rm_ok (by omega) (by decide)) 0 rfl rfl rfl (Nat.le_of_ble_eq_true rfl) rfl dX4_statement_1 ?_
  refine Z.istore_n C (lv' := [(1, .int (hereN o.2.1 o.2.2.1 q.2.1)), (0, .ref (a 0))]) dX4_statement_4 rfl (by decide) rfl ?_
  refine Z.iload_n C dX4_statement_5 0 rfl rfl ?_
  refine Z.bipush C (v := (nI 125)) dX4_statement_6 (by decide) ?_
  refine Z.icmp_ne C 88 dX4_statement_8 (by decide) (fun c1 => ?_) (fun c1 => ?_)
  · skip
    replace c1 : ¬ (hereN o.2.1 o.2.2.1 q.2.1) = (125 : Int32) := c1
    refine Z.aload_n C dX4_statement_88 1 rfl rfl ?_
    refine Z.dup C dX4_statement_89 rfl ?_
    refine Z.get C in4 0 rfl rfl 32 (by decide) (by decide +kernel) rfl rfl dX4_statement_90 ?_
    refine Z.iconst C (v := (nI 1)) dX4_statement_93 (by decide) ?_
    refine Z.iadd C (v := (nI (q.2.2.2.2.2.2.2.2.2.2.2.2.2.2.2.2.2.2 + 1))) dX4_statement_94 (nI_add q.2.2.2.2.2.2.2.2.2.2.2.2.2.2.2.2.2.2 1) ?_
    refine Z.put C in4 0 rfl rfl 32 (by decide) tyX4 tyX4_ok nmX4 (by decide +kernel) rfl rfl rfl rfl (Nat.le_of_ble_eq_true rfl) dX4_statement_95 (w' := (wN a cI cZ o (q.1, q.2.1, q.2.2.1, q.2.2.2.1, q.2.2.2.2.1, q.2.2.2.2.2.1, q.2.2.2.2.2.2.1, q.2.2.2.2.2.2.2.1, q.2.2.2.2.2.2.2.2.1, q.2.2.2.2.2.2.2.2.2.1, q.2.2.2.2.2.2.2.2.2.2.1, q.2.2.2.2.2.2.2.2.2.2.2.1, q.2.2.2.2.2.2.2.2.2.2.2.2.1, q.2.2.2.2.2.2.2.2.2.2.2.2.2.1, q.2.2.2.2.2.2.2.2.2.2.2.2.2.2.1, q.2.2.2.2.2.2.2.2.2.2.2.2.2.2.2.1, q.2.2.2.2.2.2.2.2.2.2.2.2.2.2.2.2.1, q.2.2.2.2.2.2.2.2.2.2.2.2.2.2.2.2.2.1, q.2.2.2.2.2.2.2.2.2.2.2.2.2.2.2.2.2.2 + 1))) rfl ?_
    refine Z.iload_n C dX4_statement_98 0 rfl rfl ?_
    refine Z.callSi C (nA := 1) (As := [.int (hereN o.2.1 o.2.2.1 q.2.1)]) (st := []) (c_isLetter (hereN o.2.1 o.2.2.1 q.2.1)) gX4_statement_X4_isLetter rfl (by decide +kernel) (rm_ok (by omega) (by decide)) rfl (Nat.le_of_ble_eq_true rfl) rfl dX4_statement_99 ?_
    refine Z.if_eq C 155 dX4_statement_102 (by decide) (fun c2 => ?_) (fun c2 => ?_)
    · skip
      replace c2 : isLetF (hereN o.2.1 o.2.2.1 q.2.1) = false := b2i_0.mp c2
      refine Z.iload_n C dX4_statement_155 0 rfl rfl ?_
      refine Z.bipush C (v := (nI 64)) dX4_statement_156 (by decide) ?_
      refine Z.icmp_ne C 184 dX4_statement_158 (by decide) (fun c3 => ?_) (fun c3 => ?_)
      · skip
        replace c3 : ¬ (hereN o.2.1 o.2.2.1 q.2.1) = (64 : Int32) := c3
        refine Z.iload_n C dX4_statement_184 0 rfl rfl ?_
        refine Z.bipush C (v := (nI 35)) dX4_statement_185 (by decide) ?_
        refine Z.icmp_eq C 196 dX4_statement_187 (by decide) (fun c4 => ?_) (fun c4 => ?_)
        · skip
          replace c4 : (hereN o.2.1 o.2.2.1 q.2.1) = (35 : Int32) := c4
          refine Z.aload_n C dX4_statement_196 1 rfl rfl ?_
          refine Z.get C in4 0 rfl rfl 27 (by decide) (by decide +kernel) rfl rfl dX4_statement_197 ?_
          refine Z.bipush C (v := (nI 8)) dX4_statement_200 (by decide) ?_
          refine Z.icmp_ne C 215 dX4_statement_202 (by decide) (fun c5 => ?_) (fun c5 => ?_)
          · skip
            replace c5 : ¬ q.2.2.2.2.2.2.2.2.2.2.2.2.2.2.2.2.2.1 = 8 := mt (nI_eq (by omega) (by omega)).mpr c5
            refine Z.aload_n C dX4_statement_215 1 rfl rfl ?_
            refine Z.dup C dX4_statement_216 rfl ?_
            refine Z.get C in4 0 rfl rfl 28 (by decide) (by decide +kernel) rfl rfl dX4_statement_217 ?_
            refine Z.iconst C (v := (nI 1)) dX4_statement_220 (by decide) ?_
            refine Z.iadd C (v := (nI (q.2.1 + 1))) dX4_statement_221 (nI_add q.2.1 1) ?_
            refine Z.put C in4 0 rfl rfl 28 (by decide) tyX4 tyX4_ok nmX4 (by decide +kernel) rfl rfl rfl rfl (Nat.le_of_ble_eq_true rfl) dX4_statement_222 (w' := (wN a cI cZ o (q.1, q.2.1 + 1, q.2.2.1, q.2.2.2.1, q.2.2.2.2.1, q.2.2.2.2.2.1, q.2.2.2.2.2.2.1, q.2.2.2.2.2.2.2.1, q.2.2.2.2.2.2.2.2.1, q.2.2.2.2.2.2.2.2.2.1, q.2.2.2.2.2.2.2.2.2.2.1, q.2.2.2.2.2.2.2.2.2.2.2.1, q.2.2.2.2.2.2.2.2.2.2.2.2.1, q.2.2.2.2.2.2.2.2.2.2.2.2.2.1, q.2.2.2.2.2.2.2.2.2.2.2.2.2.2.1, q.2.2.2.2.2.2.2.2.2.2.2.2.2.2.2.1, q.2.2.2.2.2.2.2.2.2.2.2.2.2.2.2.2.1, q.2.2.2.2.2.2.2.2.2.2.2.2.2.2.2.2.2.1, q.2.2.2.2.2.2.2.2.2.2.2.2.2.2.2.2.2.2 + 1))) rfl ?_
            refine Z.iload_n C dX4_statement_225 0 rfl rfl ?_
            refine Z.bipush C (v := (nI 63)) dX4_statement_226 (by decide) ?_
            refine Z.icmp_ne C 238 dX4_statement_228 (by decide) (fun c6 => ?_) (fun c6 => ?_)
            · skip
              replace c6 : ¬ (hereN o.2.1 o.2.2.1 q.2.1) = (63 : Int32) := c6
              refine Z.aload_n C dX4_statement_238 1 rfl rfl ?_
              refine Z.callVi C (nA := 0) (As := []) (st := []) (c_hereN o (q.1, q.2.1 + 1, q.2.2.1, q.2.2.2.1, q.2.2.2.2.1, q.2.2.2.2.2.1, q.2.2.2.2.2.2.1, q.2.2.2.2.2.2.2.1, q.2.2.2.2.2.2.2.2.1, q.2.2.2.2.2.2.2.2.2.1, q.2.2.2.2.2.2.2.2.2.2.1, q.2.2.2.2.2.2.2.2.2.2.2.1, q.2.2.2.2.2.2.2.2.2.2.2.2.1, q.2.2.2.2.2.2.2.2.2.2.2.2.2.1, q.2.2.2.2.2.2.2.2.2.2.2.2.2.2.1, q.2.2.2.2.2.2.2.2.2.2.2.2.2.2.2.1, q.2.2.2.2.2.2.2.2.2.2.2.2.2.2.2.2.1, q.2.2.2.2.2.2.2.2.2.2.2.2.2.2.2.2.2.1, q.2.2.2.2.2.2.2.2.2.2.2.2.2.2.2.2.2.2 + 1) (by first | omega | (dsimp only; omega)) (by first | omega | (dsimp only; omega))) gX4_statement_X4_here rfl (by decide +kernel) (rm_ok (by omega) (by decide)) 0 rfl rfl rfl (Nat.le_of_ble_eq_true rfl) rfl dX4_statement_239 ?_
              refine Z.bipush C (v := (nI 97)) dX4_statement_242 (by decide) ?_
              refine Z.isub C (v := ((hereN o.2.1 o.2.2.1 (q.2.1 + 1)) - (97 : Int32))) dX4_statement_244 rfl ?_
              refine Z.istore_n C (lv' := [(2, .int ((hereN o.2.1 o.2.2.1 (q.2.1 + 1)) - (97 : Int32))), (1, .int (hereN o.2.1 o.2.2.1 q.2.1)), (0, .ref (a 0))]) dX4_statement_245 rfl (by decide) rfl ?_
              refine Z.aload_n C dX4_statement_246 2 rfl rfl ?_
              refine Z.callVi C (nA := 0) (As := []) (st := []) (c_hereN o (q.1, q.2.1 + 1, q.2.2.1, q.2.2.2.1, q.2.2.2.2.1, q.2.2.2.2.2.1, q.2.2.2.2.2.2.1, q.2.2.2.2.2.2.2.1, q.2.2.2.2.2.2.2.2.1, q.2.2.2.2.2.2.2.2.2.1, q.2.2.2.2.2.2.2.2.2.2.1, q.2.2.2.2.2.2.2.2.2.2.2.1, q.2.2.2.2.2.2.2.2.2.2.2.2.1, q.2.2.2.2.2.2.2.2.2.2.2.2.2.1, q.2.2.2.2.2.2.2.2.2.2.2.2.2.2.1, q.2.2.2.2.2.2.2.2.2.2.2.2.2.2.2.1, q.2.2.2.2.2.2.2.2.2.2.2.2.2.2.2.2.1, q.2.2.2.2.2.2.2.2.2.2.2.2.2.2.2.2.2.1, q.2.2.2.2.2.2.2.2.2.2.2.2.2.2.2.2.2.2 + 1) (by first | omega | (dsimp only; omega)) (by first | omega | (dsimp only; omega))) gX4_statement_X4_here rfl (by decide +kernel) (rm_ok (by omega) (by decide)) 0 rfl rfl rfl (Nat.le_of_ble_eq_true rfl) rfl dX4_statement_247 ?_
              refine Z.callSi C (nA := 1) (As := [.int (hereN o.2.1 o.2.2.1 (q.2.1 + 1))]) (st := []) (c_isLetter (hereN o.2.1 o.2.2.1 (q.2.1 + 1))) gX4_statement_X4_isLetter rfl (by decide +kernel) (rm_ok (by omega) (by decide)) rfl (Nat.le_of_ble_eq_true rfl) rfl dX4_statement_250 ?_
              refine Z.if_eq C 264 dX4_statement_253 (by decide) (fun c7 => ?_) (fun c7 => ?_)
              · skip
                replace c7 : isLetF (hereN o.2.1 o.2.2.1 (q.2.1 + 1)) = false := b2i_0.mp c7
                refine Z.aload_n C dX4_statement_264 2 rfl rfl ?_
                refine Z.aload_n C dX4_statement_265 2 rfl rfl ?_
                refine Z.get C in4 0 rfl rfl 28 (by decide) (by decide +kernel) rfl rfl dX4_statement_266 ?_
                refine Z.callVv C (nA := 1) (As := [.int (nI (q.2.1 + 1))]) (st := []) (c_wrong o (q.1, q.2.1 + 1, q.2.2.1, q.2.2.2.1, q.2.2.2.2.1, q.2.2.2.2.2.1, q.2.2.2.2.2.2.1, q.2.2.2.2.2.2.2.1, q.2.2.2.2.2.2.2.2.1, q.2.2.2.2.2.2.2.2.2.1, q.2.2.2.2.2.2.2.2.2.2.1, q.2.2.2.2.2.2.2.2.2.2.2.1, q.2.2.2.2.2.2.2.2.2.2.2.2.1, q.2.2.2.2.2.2.2.2.2.2.2.2.2.1, q.2.2.2.2.2.2.2.2.2.2.2.2.2.2.1, q.2.2.2.2.2.2.2.2.2.2.2.2.2.2.2.1, q.2.2.2.2.2.2.2.2.2.2.2.2.2.2.2.2.1, q.2.2.2.2.2.2.2.2.2.2.2.2.2.2.2.2.2.1, q.2.2.2.2.2.2.2.2.2.2.2.2.2.2.2.2.2.2 + 1) (q.2.1 + 1)  (by first | omega | (dsimp only; omega))) gX4_statement_X4_wrong rfl (by decide +kernel) (rm_ok (by omega) (by decide)) 0 rfl rfl rfl (Nat.le_of_ble_eq_true rfl) rfl dX4_statement_269 ?_
                have w8 : wrF q.1 (q.2.1 + 1) < 1000 := wrF_b (by first | omega | (dsimp only; omega)) (by first | omega | (dsimp only; omega))
                refine Z.aload_n C dX4_statement_272 2 rfl rfl ?_
                refine Z.dup C dX4_statement_273 rfl ?_
                refine Z.get C in4 0 rfl rfl 28 (by decide) (by decide +kernel) rfl rfl dX4_statement_274 ?_
                refine Z.iconst C (v := (nI 1)) dX4_statement_277 (by decide) ?_
                refine Z.iadd C (v := (nI (q.2.1 + 1 + 1))) dX4_statement_278 (nI_add (q.2.1 + 1) 1) ?_
                refine Z.put C in4 0 rfl rfl 28 (by decide) tyX4 tyX4_ok nmX4 (by decide +kernel) rfl rfl rfl rfl (Nat.le_of_ble_eq_true rfl) dX4_statement_279 (w' := (wN a cI cZ o (wrF q.1 (q.2.1 + 1), q.2.1 + 1 + 1, q.2.2.1, q.2.2.2.1, q.2.2.2.2.1, q.2.2.2.2.2.1, q.2.2.2.2.2.2.1, q.2.2.2.2.2.2.2.1, q.2.2.2.2.2.2.2.2.1, q.2.2.2.2.2.2.2.2.2.1, q.2.2.2.2.2.2.2.2.2.2.1, q.2.2.2.2.2.2.2.2.2.2.2.1, q.2.2.2.2.2.2.2.2.2.2.2.2.1, q.2.2.2.2.2.2.2.2.2.2.2.2.2.1, q.2.2.2.2.2.2.2.2.2.2.2.2.2.2.1, q.2.2.2.2.2.2.2.2.2.2.2.2.2.2.2.1, q.2.2.2.2.2.2.2.2.2.2.2.2.2.2.2.2.1, q.2.2.2.2.2.2.2.2.2.2.2.2.2.2.2.2.2.1, q.2.2.2.2.2.2.2.2.2.2.2.2.2.2.2.2.2.2 + 1))) rfl ?_
                refine Z.aload_n C dX4_statement_282 2 rfl rfl ?_
                refine Z.get C in4 0 rfl rfl 28 (by decide) (by decide +kernel) rfl rfl dX4_statement_283 ?_
                refine Z.istore_n C (lv' := [(3, .int (nI (q.2.1 + 1 + 1))), (2, .int ((hereN o.2.1 o.2.2.1 (q.2.1 + 1)) - (97 : Int32))), (1, .int (hereN o.2.1 o.2.2.1 q.2.1)), (0, .ref (a 0))]) dX4_statement_286 rfl (by decide) rfl ?_
                refine Z.aload_n C dX4_statement_287 3 rfl rfl ?_
                refine Z.lconst C (v := lN 1) dX4_statement_288 (by decide) ?_
                refine Z.ldc2 C (v := lN 64) dX4_statement_289 (by decide +kernel) ?_
                refine Z.callVv C (nA := 2) (As := [.long (lN 1), .long (lN 64)]) (st := []) (c_readNumberN o (wrF q.1 (q.2.1 + 1), q.2.1 + 1 + 1, q.2.2.1, q.2.2.2.1, q.2.2.2.2.1, q.2.2.2.2.2.1, q.2.2.2.2.2.2.1, q.2.2.2.2.2.2.2.1, q.2.2.2.2.2.2.2.2.1, q.2.2.2.2.2.2.2.2.2.1, q.2.2.2.2.2.2.2.2.2.2.1, q.2.2.2.2.2.2.2.2.2.2.2.1, q.2.2.2.2.2.2.2.2.2.2.2.2.1, q.2.2.2.2.2.2.2.2.2.2.2.2.2.1, q.2.2.2.2.2.2.2.2.2.2.2.2.2.2.1, q.2.2.2.2.2.2.2.2.2.2.2.2.2.2.2.1, q.2.2.2.2.2.2.2.2.2.2.2.2.2.2.2.2.1, q.2.2.2.2.2.2.2.2.2.2.2.2.2.2.2.2.2.1, q.2.2.2.2.2.2.2.2.2.2.2.2.2.2.2.2.2.2 + 1) 1 64 (by first | omega | (dsimp only; omega)) (by first | omega | (dsimp only; omega)) (by first | omega | (dsimp only; omega))) gX4_statement_X4_readNumber rfl (by decide +kernel) (rm_ok (by omega) (by decide)) 0 rfl rfl rfl (Nat.le_of_ble_eq_true rfl) rfl dX4_statement_292 ?_
                generalize e9 : qNumber o.2.1 o.2.2.1 1 64 (wrF q.1 (q.2.1 + 1), q.2.1 + 1 + 1, q.2.2.1, q.2.2.2.1, q.2.2.2.2.1, q.2.2.2.2.2.1, q.2.2.2.2.2.2.1, q.2.2.2.2.2.2.2.1, q.2.2.2.2.2.2.2.2.1, q.2.2.2.2.2.2.2.2.2.1, q.2.2.2.2.2.2.2.2.2.2.1, q.2.2.2.2.2.2.2.2.2.2.2.1, q.2.2.2.2.2.2.2.2.2.2.2.2.1, q.2.2.2.2.2.2.2.2.2.2.2.2.2.1, q.2.2.2.2.2.2.2.2.2.2.2.2.2.2.1, q.2.2.2.2.2.2.2.2.2.2.2.2.2.2.2.1, q.2.2.2.2.2.2.2.2.2.2.2.2.2.2.2.2.1, q.2.2.2.2.2.2.2.2.2.2.2.2.2.2.2.2.2.1, q.2.2.2.2.2.2.2.2.2.2.2.2.2.2.2.2.2.2 + 1) = x9
                have n9 := qNumber_at (tx := o.2.1) (len := o.2.2.1) (lo := 1) (hi := 64) (q := (wrF q.1 (q.2.1 + 1), q.2.1 + 1 + 1, q.2.2.1, q.2.2.2.1, q.2.2.2.2.1, q.2.2.2.2.2.1, q.2.2.2.2.2.2.1, q.2.2.2.2.2.2.2.1, q.2.2.2.2.2.2.2.2.1, q.2.2.2.2.2.2.2.2.2.1, q.2.2.2.2.2.2.2.2.2.2.1, q.2.2.2.2.2.2.2.2.2.2.2.1, q.2.2.2.2.2.2.2.2.2.2.2.2.1, q.2.2.2.2.2.2.2.2.2.2.2.2.2.1, q.2.2.2.2.2.2.2.2.2.2.2.2.2.2.1, q.2.2.2.2.2.2.2.2.2.2.2.2.2.2.2.1, q.2.2.2.2.2.2.2.2.2.2.2.2.2.2.2.2.1, q.2.2.2.2.2.2.2.2.2.2.2.2.2.2.2.2.2.1, q.2.2.2.2.2.2.2.2.2.2.2.2.2.2.2.2.2.2 + 1)) (N := 488) (by omega) (by first | omega | (dsimp only; omega))
                rw [e9] at n9
                obtain ⟨n9a, n9b⟩ := n9
                have n9d : x9.2.2.2.2.2.1 = q.2.2.2.2.2.1 := by rw [show x9.2.2.2.2.2.1 = (wrF q.1 (q.2.1 + 1), q.2.1 + 1 + 1, q.2.2.1, q.2.2.2.1, q.2.2.2.2.1, q.2.2.2.2.2.1, q.2.2.2.2.2.2.1, q.2.2.2.2.2.2.2.1, q.2.2.2.2.2.2.2.2.1, q.2.2.2.2.2.2.2.2.2.1, q.2.2.2.2.2.2.2.2.2.2.1, q.2.2.2.2.2.2.2.2.2.2.2.1, q.2.2.2.2.2.2.2.2.2.2.2.2.1, q.2.2.2.2.2.2.2.2.2.2.2.2.2.1, q.2.2.2.2.2.2.2.2.2.2.2.2.2.2.1, q.2.2.2.2.2.2.2.2.2.2.2.2.2.2.2.1, q.2.2.2.2.2.2.2.2.2.2.2.2.2.2.2.2.1, q.2.2.2.2.2.2.2.2.2.2.2.2.2.2.2.2.2.1, q.2.2.2.2.2.2.2.2.2.2.2.2.2.2.2.2.2.2 + 1).2.2.2.2.2.1 from congrArg (fun z => z.2.2.1) n9b]
                have n9o : x9.2.2.2.2.2.2.2.2.2.1 = q.2.2.2.2.2.2.2.2.2.1 := by rw [show x9.2.2.2.2.2.2.2.2.2.1 = (wrF q.1 (q.2.1 + 1), q.2.1 + 1 + 1, q.2.2.1, q.2.2.2.1, q.2.2.2.2.1, q.2.2.2.2.2.1, q.2.2.2.2.2.2.1, q.2.2.2.2.2.2.2.1, q.2.2.2.2.2.2.2.2.1, q.2.2.2.2.2.2.2.2.2.1, q.2.2.2.2.2.2.2.2.2.2.1, q.2.2.2.2.2.2.2.2.2.2.2.1, q.2.2.2.2.2.2.2.2.2.2.2.2.1, q.2.2.2.2.2.2.2.2.2.2.2.2.2.1, q.2.2.2.2.2.2.2.2.2.2.2.2.2.2.1, q.2.2.2.2.2.2.2.2.2.2.2.2.2.2.2.1, q.2.2.2.2.2.2.2.2.2.2.2.2.2.2.2.2.1, q.2.2.2.2.2.2.2.2.2.2.2.2.2.2.2.2.2.1, q.2.2.2.2.2.2.2.2.2.2.2.2.2.2.2.2.2.2 + 1).2.2.2.2.2.2.2.2.2.1 from congrArg (fun z => z.2.2.2.2.2.2.1) n9b]
                have n9s : x9.2.2.2.2.2.2.2.2.2.2.2.2.1 = q.2.2.2.2.2.2.2.2.2.2.2.2.1 := by rw [show x9.2.2.2.2.2.2.2.2.2.2.2.2.1 = (wrF q.1 (q.2.1 + 1), q.2.1 + 1 + 1, q.2.2.1, q.2.2.2.1, q.2.2.2.2.1, q.2.2.2.2.2.1, q.2.2.2.2.2.2.1, q.2.2.2.2.2.2.2.1, q.2.2.2.2.2.2.2.2.1, q.2.2.2.2.2.2.2.2.2.1, q.2.2.2.2.2.2.2.2.2.2.1, q.2.2.2.2.2.2.2.2.2.2.2.1, q.2.2.2.2.2.2.2.2.2.2.2.2.1, q.2.2.2.2.2.2.2.2.2.2.2.2.2.1, q.2.2.2.2.2.2.2.2.2.2.2.2.2.2.1, q.2.2.2.2.2.2.2.2.2.2.2.2.2.2.2.1, q.2.2.2.2.2.2.2.2.2.2.2.2.2.2.2.2.1, q.2.2.2.2.2.2.2.2.2.2.2.2.2.2.2.2.2.1, q.2.2.2.2.2.2.2.2.2.2.2.2.2.2.2.2.2.2 + 1).2.2.2.2.2.2.2.2.2.2.2.2.1 from congrArg (fun z => z.2.2.2.2.2.2.2.2.2.1) n9b]
                have n9b : x9.2.2.2.2.2.2.2.2.2.2.2.2.2.2.2.2.2.1 = q.2.2.2.2.2.2.2.2.2.2.2.2.2.2.2.2.2.1 := by rw [show x9.2.2.2.2.2.2.2.2.2.2.2.2.2.2.2.2.2.1 = (wrF q.1 (q.2.1 + 1), q.2.1 + 1 + 1, q.2.2.1, q.2.2.2.1, q.2.2.2.2.1, q.2.2.2.2.2.1, q.2.2.2.2.2.2.1, q.2.2.2.2.2.2.2.1, q.2.2.2.2.2.2.2.2.1, q.2.2.2.2.2.2.2.2.2.1, q.2.2.2.2.2.2.2.2.2.2.1, q.2.2.2.2.2.2.2.2.2.2.2.1, q.2.2.2.2.2.2.2.2.2.2.2.2.1, q.2.2.2.2.2.2.2.2.2.2.2.2.2.1, q.2.2.2.2.2.2.2.2.2.2.2.2.2.2.1, q.2.2.2.2.2.2.2.2.2.2.2.2.2.2.2.1, q.2.2.2.2.2.2.2.2.2.2.2.2.2.2.2.2.1, q.2.2.2.2.2.2.2.2.2.2.2.2.2.2.2.2.2.1, q.2.2.2.2.2.2.2.2.2.2.2.2.2.2.2.2.2.2 + 1).2.2.2.2.2.2.2.2.2.2.2.2.2.2.2.2.2.1 from congrArg (fun z => z.2.2.2.2.2.2.2.2.2.2.2.2.2.2.1) n9b]
                have n9f : x9.1 < 1000 := by rw [← e9]; exact qNumber_f (by first | omega | (dsimp only; omega)) (by first | omega | (dsimp only; omega)) (by first | omega | (dsimp only; omega))
                refine Z.aload_n C dX4_statement_295 3 rfl rfl ?_
                refine Z.get C in4 0 rfl rfl 3 (by decide) (by decide +kernel) rfl rfl dX4_statement_296 ?_
                refine Z.if_ne C 328 dX4_statement_299 (by decide) (fun c10 => ?_) (fun c10 => ?_)
                · skip
                  replace c10 : ¬ x9.1 = 0 := mt (nI_eq (by omega) (by omega)).mpr c10
                  refine Z.aload_n C dX4_statement_328 3 rfl rfl ?_
                  refine Z.bipush C (v := (nI 123)) dX4_statement_329 (by decide) ?_
                  refine Z.callVv C (nA := 1) (As := [.int (123 : Int32)]) (st := []) (c_want o x9 (123 : Int32)  (by first | omega | (dsimp only; omega)) (by first | omega | (dsimp only; omega)) (by first | omega | (dsimp only; omega))) gX4_statement_X4_want rfl (by decide +kernel) (rm_ok (by omega) (by decide)) 0 rfl rfl rfl (Nat.le_of_ble_eq_true rfl) rfl dX4_statement_331 ?_
                  have w11 : wanF o.2.1 o.2.2.1 (123 : Int32) x9.2.1 x9.1 < 1000 := wanF_b (by first | omega | (dsimp only; omega)) (by first | omega | (dsimp only; omega))
                  refine Z.aload_n C dX4_statement_334 3 rfl rfl ?_
                  refine Z.get C in4 0 rfl rfl 3 (by decide) (by decide +kernel) rfl rfl dX4_statement_335 ?_
                  refine Z.if_ne C 382 dX4_statement_338 (by decide) (fun c12 => ?_) (fun c12 => ?_)
                  · skip
                    replace c12 : ¬ (wanF o.2.1 o.2.2.1 (123 : Int32) x9.2.1 x9.1) = 0 := mt (nI_eq (by omega) (by omega)).mpr c12
                    refine Z.iconst C (v := (nI 0)) dX4_statement_382 (by decide) ?_
                    refine Z.iret C hr hA dX4_statement_383 ?_ ?_
                    · first | (simp [qStmt, qStmt2, qLoopStmt, qStep, qAt1, qWr, qWant, qPush, qSettle, qBlock, qWork, qNest, (eq_false c1), c2, (eq_false c3), (eq_true c4), (eq_false c5), (eq_false c6), c7, e9, (eq_false c10), (eq_false c12)]; done) | (simp_all [qStmt, qStmt2, qLoopStmt, qStep, qAt1, qWr, qWant, qPush, qSettle, qBlock, qWork, qNest]; done)
                    · (refine congrArg (wN a cI cZ o) ?_; first | (simp [qStmt, qStmt2, qLoopStmt, qStep, qAt1, qWr, qWant, qPush, qSettle, qBlock, qWork, qNest, (eq_false c1), c2, (eq_false c3), (eq_true c4), (eq_false c5), (eq_false c6), c7, e9, (eq_false c10), (eq_false c12)]; done) | (simp_all [qStmt, qStmt2, qLoopStmt, qStep, qAt1, qWr, qWant, qPush, qSettle, qBlock, qWork, qNest]; done))
                  · skip
                    replace c12 : (wanF o.2.1 o.2.2.1 (123 : Int32) x9.2.1 x9.1) = 0 := (nI_eq (by omega) (by omega)).mp c12
                    refine Z.aload_n C dX4_statement_341 3 rfl rfl ?_
                    refine Z.bipush C (v := (nI 10)) dX4_statement_342 (by decide) ?_
                    refine Z.iload_n C dX4_statement_344 1 rfl rfl ?_
                    refine Z.callVv C (nA := 2) (As := [.int (10 : Int32), .int ((hereN o.2.1 o.2.2.1 (q.2.1 + 1)) - (97 : Int32))]) (st := []) (c_step o (wanF o.2.1 o.2.2.1 (123 : Int32) x9.2.1 x9.1, x9.2.1 + 1, x9.2.2) (10 : Int32) ((hereN o.2.1 o.2.2.1 (q.2.1 + 1)) - (97 : Int32))  (by first | omega | (dsimp only; omega))) gX4_statement_X4_step rfl (by decide +kernel) (rm_ok (by omega) (by decide)) 0 rfl rfl rfl (Nat.le_of_ble_eq_true rfl) rfl dX4_statement_345 ?_
                    refine Z.aload_n C dX4_statement_348 3 rfl rfl ?_
                    refine Z.aload_n C dX4_statement_349 3 rfl rfl ?_
                    refine Z.get C in4 0 rfl rfl 29 (by decide) (by decide +kernel) rfl rfl dX4_statement_350 ?_
                    refine Z.l2i C (v := (nI x9.2.2.1)) dX4_statement_353 (lN_i x9.2.2.1) ?_
                    refine Z.iconst C (v := (nI 0)) dX4_statement_354 (by decide) ?_
                    refine Z.callVv C (nA := 2) (As := [.int (nI x9.2.2.1), .int (0 : Int32)]) (st := []) (c_step o (wanF o.2.1 o.2.2.1 (123 : Int32) x9.2.1 x9.1, x9.2.1 + 1, x9.2.2.1, (upd x9.2.2.2.1 x9.2.2.2.2.2.1 (10 : Int32)), (upd x9.2.2.2.2.1 x9.2.2.2.2.2.1 ((hereN o.2.1 o.2.2.1 (q.2.1 + 1)) - (97 : Int32))), x9.2.2.2.2.2.1 + 1, x9.2.2.2.2.2.2) (nI x9.2.2.1) (0 : Int32)  (by first | omega | (dsimp only; omega))) gX4_statement_X4_step rfl (by decide +kernel) (rm_ok (by omega) (by decide)) 0 rfl rfl rfl (Nat.le_of_ble_eq_true rfl) rfl dX4_statement_355 ?_
                    refine Z.aload_n C dX4_statement_358 3 rfl rfl ?_
                    refine Z.iload_n C dX4_statement_359 1 rfl rfl ?_
                    refine Z.aload_n C dX4_statement_360 3 rfl rfl ?_
                    refine Z.get C in4 0 rfl rfl 10 (by decide) (by decide +kernel) rfl rfl dX4_statement_361 ?_
                    refine Z.aload_n C dX4_statement_364 3 rfl rfl ?_
                    refine Z.get C in4 0 rfl rfl 26 (by decide) (by decide +kernel) rfl rfl dX4_statement_365 ?_
                    refine Z.aload_n C dX4_statement_368 3 rfl rfl ?_
                    refine Z.get C in4 0 rfl rfl 27 (by decide) (by decide +kernel) rfl rfl dX4_statement_369 ?_
                    refine Z.iald C 15 0 rfl rfl x9.2.2.2.2.2.2.2.2.2.2.2.2.2.2.2.2.2.1 rfl (by omega) (by decide) dX4_statement_372 (v := (x9.2.2.2.2.2.2.2.2.2.2.2.2.2.2.2.2.1 x9.2.2.2.2.2.2.2.2.2.2.2.2.2.2.2.2.2.1)) rfl ?_
                    refine Z.aload_n C dX4_statement_373 3 rfl rfl ?_
                    refine Z.get C in4 0 rfl rfl 29 (by decide) (by decide +kernel) rfl rfl dX4_statement_374 ?_
                    refine Z.l2i C (v := (nI x9.2.2.1)) dX4_statement_377 (lN_i x9.2.2.1) ?_
                    refine Z.imul C (v := ((x9.2.2.2.2.2.2.2.2.2.2.2.2.2.2.2.2.1 x9.2.2.2.2.2.2.2.2.2.2.2.2.2.2.2.2.2.1) * (nI x9.2.2.1))) dX4_statement_378 rfl ?_
                    refine Z.callVv C (nA := 3) (As := [.int ((hereN o.2.1 o.2.2.1 (q.2.1 + 1)) - (97 : Int32)), .int (nI (x9.2.2.2.2.2.1 + 1 + 1)), .int ((x9.2.2.2.2.2.2.2.2.2.2.2.2.2.2.2.2.1 x9.2.2.2.2.2.2.2.2.2.2.2.2.2.2.2.2.2.1) * (nI x9.2.2.1))]) (st := []) (c_blockN o (wanF o.2.1 o.2.2.1 (123 : Int32) x9.2.1 x9.1, x9.2.1 + 1, x9.2.2.1, (upd (upd x9.2.2.2.1 x9.2.2.2.2.2.1 (10 : Int32)) (x9.2.2.2.2.2.1 + 1) (nI x9.2.2.1)), (upd (upd x9.2.2.2.2.1 x9.2.2.2.2.2.1 ((hereN o.2.1 o.2.2.1 (q.2.1 + 1)) - (97 : Int32))) (x9.2.2.2.2.2.1 + 1) (0 : Int32)), x9.2.2.2.2.2.1 + 1 + 1, x9.2.2.2.2.2.2) ((hereN o.2.1 o.2.2.1 (q.2.1 + 1)) - (97 : Int32)) (nI (x9.2.2.2.2.2.1 + 1 + 1)) ((x9.2.2.2.2.2.2.2.2.2.2.2.2.2.2.2.2.1 x9.2.2.2.2.2.2.2.2.2.2.2.2.2.2.2.2.2.1) * (nI x9.2.2.1))  (by first | omega | (dsimp only; omega))) gX4_statement_X4_block rfl (by decide +kernel) (rm_ok (by omega) (by decide)) 0 rfl rfl rfl (Nat.le_of_ble_eq_true rfl) rfl dX4_statement_379 ?_
                    refine Z.iconst C (v := (nI 0)) dX4_statement_382 (by decide) ?_
                    refine Z.iret C hr hA dX4_statement_383 ?_ ?_
                    · first | (simp [qStmt, qStmt2, qLoopStmt, qStep, qAt1, qWr, qWant, qPush, qSettle, qBlock, qWork, qNest, (eq_false c1), c2, (eq_false c3), (eq_true c4), (eq_false c5), (eq_false c6), c7, e9, (eq_false c10), (eq_true c12)]; done) | (simp_all [qStmt, qStmt2, qLoopStmt, qStep, qAt1, qWr, qWant, qPush, qSettle, qBlock, qWork, qNest]; done)
                    · (refine congrArg (wN a cI cZ o) ?_; first | (simp [qStmt, qStmt2, qLoopStmt, qStep, qAt1, qWr, qWant, qPush, qSettle, qBlock, qWork, qNest, (eq_false c1), c2, (eq_false c3), (eq_true c4), (eq_false c5), (eq_false c6), c7, e9, (eq_false c10), (eq_true c12)]; done) | (simp_all [qStmt, qStmt2, qLoopStmt, qStep, qAt1, qWr, qWant, qPush, qSettle, qBlock, qWork, qNest]; done))
                · skip
                  replace c10 : x9.1 = 0 := (nI_eq (by omega) (by omega)).mp c10
                  refine Z.aload_n C dX4_statement_302 3 rfl rfl ?_
                  refine Z.get C in4 0 rfl rfl 26 (by decide) (by decide +kernel) rfl rfl dX4_statement_303 ?_
                  refine Z.aload_n C dX4_statement_306 3 rfl rfl ?_
                  refine Z.get C in4 0 rfl rfl 27 (by decide) (by decide +kernel) rfl rfl dX4_statement_307 ?_
                  refine Z.iald C 15 0 rfl rfl x9.2.2.2.2.2.2.2.2.2.2.2.2.2.2.2.2.2.1 rfl (by omega) (by decide) dX4_statement_310 (v := (x9.2.2.2.2.2.2.2.2.2.2.2.2.2.2.2.2.1 x9.2.2.2.2.2.2.2.2.2.2.2.2.2.2.2.2.2.1)) rfl ?_
                  refine Z.aload_n C dX4_statement_311 3 rfl rfl ?_
                  refine Z.get C in4 0 rfl rfl 29 (by decide) (by decide +kernel) rfl rfl dX4_statement_312 ?_
                  refine Z.l2i C (v := (nI x9.2.2.1)) dX4_statement_315 (lN_i x9.2.2.1) ?_
                  refine Z.imul C (v := ((x9.2.2.2.2.2.2.2.2.2.2.2.2.2.2.2.2.1 x9.2.2.2.2.2.2.2.2.2.2.2.2.2.2.2.2.2.1) * (nI x9.2.2.1))) dX4_statement_316 rfl ?_
                  refine Z.sipush C (v := (nI 640)) dX4_statement_317 (by decide) ?_
                  refine Z.icmp_le C 328 dX4_statement_320 (by decide) (fun c13 => ?_) (fun c13 => ?_)
                  · skip
                    replace c13 : ((x9.2.2.2.2.2.2.2.2.2.2.2.2.2.2.2.2.1 x9.2.2.2.2.2.2.2.2.2.2.2.2.2.2.2.2.2.1) * (nI x9.2.2.1)) ≤ (640 : Int32) := c13
                    refine Z.aload_n C dX4_statement_328 3 rfl rfl ?_
                    refine Z.bipush C (v := (nI 123)) dX4_statement_329 (by decide) ?_
                    refine Z.callVv C (nA := 1) (As := [.int (123 : Int32)]) (st := []) (c_want o x9 (123 : Int32)  (by first | omega | (dsimp only; omega)) (by first | omega | (dsimp only; omega)) (by first | omega | (dsimp only; omega))) gX4_statement_X4_want rfl (by decide +kernel) (rm_ok (by omega) (by decide)) 0 rfl rfl rfl (Nat.le_of_ble_eq_true rfl) rfl dX4_statement_331 ?_
                    have w14 : wanF o.2.1 o.2.2.1 (123 : Int32) x9.2.1 x9.1 < 1000 := wanF_b (by first | omega | (dsimp only; omega)) (by first | omega | (dsimp only; omega))
                    refine Z.aload_n C dX4_statement_334 3 rfl rfl ?_
                    refine Z.get C in4 0 rfl rfl 3 (by decide) (by decide +kernel) rfl rfl dX4_statement_335 ?_
                    refine Z.if_ne C 382 dX4_statement_338 (by decide) (fun c15 => ?_) (fun c15 => ?_)
                    · skip
                      replace c15 : ¬ (wanF o.2.1 o.2.2.1 (123 : Int32) x9.2.1 x9.1) = 0 := mt (nI_eq (by omega) (by omega)).mpr c15
                      refine Z.iconst C (v := (nI 0)) dX4_statement_382 (by decide) ?_
                      refine Z.iret C hr hA dX4_statement_383 ?_ ?_
                      · first | (simp [qStmt, qStmt2, qLoopStmt, qStep, qAt1, qWr, qWant, qPush, qSettle, qBlock, qWork, qNest, (eq_false c1), c2, (eq_false c3), (eq_true c4), (eq_false c5), (eq_false c6), c7, e9, (eq_true c10), (eq_true c13), (eq_false c15)]; done) | (simp_all [qStmt, qStmt2, qLoopStmt, qStep, qAt1, qWr, qWant, qPush, qSettle, qBlock, qWork, qNest]; done)
                      · (refine congrArg (wN a cI cZ o) ?_; first | (simp [qStmt, qStmt2, qLoopStmt, qStep, qAt1, qWr, qWant, qPush, qSettle, qBlock, qWork, qNest, (eq_false c1), c2, (eq_false c3), (eq_true c4), (eq_false c5), (eq_false c6), c7, e9, (eq_true c10), (eq_true c13), (eq_false c15)]; done) | (simp_all [qStmt, qStmt2, qLoopStmt, qStep, qAt1, qWr, qWant, qPush, qSettle, qBlock, qWork, qNest]; done))
                    · skip
                      replace c15 : (wanF o.2.1 o.2.2.1 (123 : Int32) x9.2.1 x9.1) = 0 := (nI_eq (by omega) (by omega)).mp c15
                      refine Z.aload_n C dX4_statement_341 3 rfl rfl ?_
                      refine Z.bipush C (v := (nI 10)) dX4_statement_342 (by decide) ?_
                      refine Z.iload_n C dX4_statement_344 1 rfl rfl ?_
                      refine Z.callVv C (nA := 2) (As := [.int (10 : Int32), .int ((hereN o.2.1 o.2.2.1 (q.2.1 + 1)) - (97 : Int32))]) (st := []) (c_step o (wanF o.2.1 o.2.2.1 (123 : Int32) x9.2.1 x9.1, x9.2.1 + 1, x9.2.2) (10 : Int32) ((hereN o.2.1 o.2.2.1 (q.2.1 + 1)) - (97 : Int32))  (by first | omega | (dsimp only; omega))) gX4_statement_X4_step rfl (by decide +kernel) (rm_ok (by omega) (by decide)) 0 rfl rfl rfl (Nat.le_of_ble_eq_true rfl) rfl dX4_statement_345 ?_
                      refine Z.aload_n C dX4_statement_348 3 rfl rfl ?_
                      refine Z.aload_n C dX4_statement_349 3 rfl rfl ?_
                      refine Z.get C in4 0 rfl rfl 29 (by decide) (by decide +kernel) rfl rfl dX4_statement_350 ?_
                      refine Z.l2i C (v := (nI x9.2.2.1)) dX4_statement_353 (lN_i x9.2.2.1) ?_
                      refine Z.iconst C (v := (nI 0)) dX4_statement_354 (by decide) ?_
                      refine Z.callVv C (nA := 2) (As := [.int (nI x9.2.2.1), .int (0 : Int32)]) (st := []) (c_step o (wanF o.2.1 o.2.2.1 (123 : Int32) x9.2.1 x9.1, x9.2.1 + 1, x9.2.2.1, (upd x9.2.2.2.1 x9.2.2.2.2.2.1 (10 : Int32)), (upd x9.2.2.2.2.1 x9.2.2.2.2.2.1 ((hereN o.2.1 o.2.2.1 (q.2.1 + 1)) - (97 : Int32))), x9.2.2.2.2.2.1 + 1, x9.2.2.2.2.2.2) (nI x9.2.2.1) (0 : Int32)  (by first | omega | (dsimp only; omega))) gX4_statement_X4_step rfl (by decide +kernel) (rm_ok (by omega) (by decide)) 0 rfl rfl rfl (Nat.le_of_ble_eq_true rfl) rfl dX4_statement_355 ?_
                      refine Z.aload_n C dX4_statement_358 3 rfl rfl ?_
                      refine Z.iload_n C dX4_statement_359 1 rfl rfl ?_
                      refine Z.aload_n C dX4_statement_360 3 rfl rfl ?_
                      refine Z.get C in4 0 rfl rfl 10 (by decide) (by decide +kernel) rfl rfl dX4_statement_361 ?_
                      refine Z.aload_n C dX4_statement_364 3 rfl rfl ?_
                      refine Z.get C in4 0 rfl rfl 26 (by decide) (by decide +kernel) rfl rfl dX4_statement_365 ?_
                      refine Z.aload_n C dX4_statement_368 3 rfl rfl ?_
                      refine Z.get C in4 0 rfl rfl 27 (by decide) (by decide +kernel) rfl rfl dX4_statement_369 ?_
                      refine Z.iald C 15 0 rfl rfl x9.2.2.2.2.2.2.2.2.2.2.2.2.2.2.2.2.2.1 rfl (by omega) (by decide) dX4_statement_372 (v := (x9.2.2.2.2.2.2.2.2.2.2.2.2.2.2.2.2.1 x9.2.2.2.2.2.2.2.2.2.2.2.2.2.2.2.2.2.1)) rfl ?_
                      refine Z.aload_n C dX4_statement_373 3 rfl rfl ?_
                      refine Z.get C in4 0 rfl rfl 29 (by decide) (by decide +kernel) rfl rfl dX4_statement_374 ?_
                      refine Z.l2i C (v := (nI x9.2.2.1)) dX4_statement_377 (lN_i x9.2.2.1) ?_
                      refine Z.imul C (v := ((x9.2.2.2.2.2.2.2.2.2.2.2.2.2.2.2.2.1 x9.2.2.2.2.2.2.2.2.2.2.2.2.2.2.2.2.2.1) * (nI x9.2.2.1))) dX4_statement_378 rfl ?_
                      refine Z.callVv C (nA := 3) (As := [.int ((hereN o.2.1 o.2.2.1 (q.2.1 + 1)) - (97 : Int32)), .int (nI (x9.2.2.2.2.2.1 + 1 + 1)), .int ((x9.2.2.2.2.2.2.2.2.2.2.2.2.2.2.2.2.1 x9.2.2.2.2.2.2.2.2.2.2.2.2.2.2.2.2.2.1) * (nI x9.2.2.1))]) (st := []) (c_blockN o (wanF o.2.1 o.2.2.1 (123 : Int32) x9.2.1 x9.1, x9.2.1 + 1, x9.2.2.1, (upd (upd x9.2.2.2.1 x9.2.2.2.2.2.1 (10 : Int32)) (x9.2.2.2.2.2.1 + 1) (nI x9.2.2.1)), (upd (upd x9.2.2.2.2.1 x9.2.2.2.2.2.1 ((hereN o.2.1 o.2.2.1 (q.2.1 + 1)) - (97 : Int32))) (x9.2.2.2.2.2.1 + 1) (0 : Int32)), x9.2.2.2.2.2.1 + 1 + 1, x9.2.2.2.2.2.2) ((hereN o.2.1 o.2.2.1 (q.2.1 + 1)) - (97 : Int32)) (nI (x9.2.2.2.2.2.1 + 1 + 1)) ((x9.2.2.2.2.2.2.2.2.2.2.2.2.2.2.2.2.1 x9.2.2.2.2.2.2.2.2.2.2.2.2.2.2.2.2.2.1) * (nI x9.2.2.1))  (by first | omega | (dsimp only; omega))) gX4_statement_X4_block rfl (by decide +kernel) (rm_ok (by omega) (by decide)) 0 rfl rfl rfl (Nat.le_of_ble_eq_true rfl) rfl dX4_statement_379 ?_
                      refine Z.iconst C (v := (nI 0)) dX4_statement_382 (by decide) ?_
                      refine Z.iret C hr hA dX4_statement_383 ?_ ?_
                      · first | (simp [qStmt, qStmt2, qLoopStmt, qStep, qAt1, qWr, qWant, qPush, qSettle, qBlock, qWork, qNest, (eq_false c1), c2, (eq_false c3), (eq_true c4), (eq_false c5), (eq_false c6), c7, e9, (eq_true c10), (eq_true c13), (eq_true c15)]; done) | (simp_all [qStmt, qStmt2, qLoopStmt, qStep, qAt1, qWr, qWant, qPush, qSettle, qBlock, qWork, qNest]; done)
                      · (refine congrArg (wN a cI cZ o) ?_; first | (simp [qStmt, qStmt2, qLoopStmt, qStep, qAt1, qWr, qWant, qPush, qSettle, qBlock, qWork, qNest, (eq_false c1), c2, (eq_false c3), (eq_true c4), (eq_false c5), (eq_false c6), c7, e9, (eq_true c10), (eq_true c13), (eq_true c15)]; done) | (simp_all [qStmt, qStmt2, qLoopStmt, qStep, qAt1, qWr, qWant, qPush, qSettle, qBlock, qWork, qNest]; done))
                  · skip
                    replace c13 : ¬ ((x9.2.2.2.2.2.2.2.2.2.2.2.2.2.2.2.2.1 x9.2.2.2.2.2.2.2.2.2.2.2.2.2.2.2.2.2.1) * (nI x9.2.2.1)) ≤ (640 : Int32) := c13
                    refine Z.aload_n C dX4_statement_323 3 rfl rfl ?_
                    refine Z.iload_n C dX4_statement_324 0 rfl rfl ?_
                    refine Z.callVv C (nA := 1) (As := [.int (nI (q.2.1 + 1 + 1))]) (st := []) (c_wrong o x9 (q.2.1 + 1 + 1)  (by first | omega | (dsimp only; omega))) gX4_statement_X4_wrong rfl (by decide +kernel) (rm_ok (by omega) (by decide)) 0 rfl rfl rfl (Nat.le_of_ble_eq_true rfl) rfl dX4_statement_325 ?_
                    have w16 : wrF x9.1 (q.2.1 + 1 + 1) < 1000 := wrF_b (by first | omega | (dsimp only; omega)) (by first | omega | (dsimp only; omega))
                    refine Z.aload_n C dX4_statement_328 3 rfl rfl ?_
                    refine Z.bipush C (v := (nI 123)) dX4_statement_329 (by decide) ?_
                    refine Z.callVv C (nA := 1) (As := [.int (123 : Int32)]) (st := []) (c_want o (wrF x9.1 (q.2.1 + 1 + 1), x9.2) (123 : Int32)  (by first | omega | (dsimp only; omega)) (by first | omega | (dsimp only; omega)) (by first | omega | (dsimp only; omega))) gX4_statement_X4_want rfl (by decide +kernel) (rm_ok (by omega) (by decide)) 0 rfl rfl rfl (Nat.le_of_ble_eq_true rfl) rfl dX4_statement_331 ?_
                    have w17 : wanF o.2.1 o.2.2.1 (123 : Int32) x9.2.1 (wrF x9.1 (q.2.1 + 1 + 1)) < 1000 := wanF_b (by first | omega | (dsimp only; omega)) (by first | omega | (dsimp only; omega))
                    refine Z.aload_n C dX4_statement_334 3 rfl rfl ?_
                    refine Z.get C in4 0 rfl rfl 3 (by decide) (by decide +kernel) rfl rfl dX4_statement_335 ?_
                    refine Z.if_ne C 382 dX4_statement_338 (by decide) (fun c18 => ?_) (fun c18 => ?_)
                    · skip
                      replace c18 : ¬ (wanF o.2.1 o.2.2.1 (123 : Int32) x9.2.1 (wrF x9.1 (q.2.1 + 1 + 1))) = 0 := mt (nI_eq (by omega) (by omega)).mpr c18
                      refine Z.iconst C (v := (nI 0)) dX4_statement_382 (by decide) ?_
                      refine Z.iret C hr hA dX4_statement_383 ?_ ?_
                      · first | (simp [qStmt, qStmt2, qLoopStmt, qStep, qAt1, qWr, qWant, qPush, qSettle, qBlock, qWork, qNest, (eq_false c1), c2, (eq_false c3), (eq_true c4), (eq_false c5), (eq_false c6), c7, e9, (eq_true c10), (eq_false c13), (eq_false c18)]; done) | (simp_all [qStmt, qStmt2, qLoopStmt, qStep, qAt1, qWr, qWant, qPush, qSettle, qBlock, qWork, qNest]; done)
                      · (refine congrArg (wN a cI cZ o) ?_; first | (simp [qStmt, qStmt2, qLoopStmt, qStep, qAt1, qWr, qWant, qPush, qSettle, qBlock, qWork, qNest, (eq_false c1), c2, (eq_false c3), (eq_true c4), (eq_false c5), (eq_false c6), c7, e9, (eq_true c10), (eq_false c13), (eq_false c18)]; done) | (simp_all [qStmt, qStmt2, qLoopStmt, qStep, qAt1, qWr, qWant, qPush, qSettle, qBlock, qWork, qNest]; done))
                    · skip
                      replace c18 : (wanF o.2.1 o.2.2.1 (123 : Int32) x9.2.1 (wrF x9.1 (q.2.1 + 1 + 1))) = 0 := (nI_eq (by omega) (by omega)).mp c18
                      refine Z.aload_n C dX4_statement_341 3 rfl rfl ?_
                      refine Z.bipush C (v := (nI 10)) dX4_statement_342 (by decide) ?_
                      refine Z.iload_n C dX4_statement_344 1 rfl rfl ?_
                      refine Z.callVv C (nA := 2) (As := [.int (10 : Int32), .int ((hereN o.2.1 o.2.2.1 (q.2.1 + 1)) - (97 : Int32))]) (st := []) (c_step o (wanF o.2.1 o.2.2.1 (123 : Int32) x9.2.1 (wrF x9.1 (q.2.1 + 1 + 1)), x9.2.1 + 1, x9.2.2) (10 : Int32) ((hereN o.2.1 o.2.2.1 (q.2.1 + 1)) - (97 : Int32))  (by first | omega | (dsimp only; omega))) gX4_statement_X4_step rfl (by decide +kernel) (rm_ok (by omega) (by decide)) 0 rfl rfl rfl (Nat.le_of_ble_eq_true rfl) rfl dX4_statement_345 ?_
                      refine Z.aload_n C dX4_statement_348 3 rfl rfl ?_
                      refine Z.aload_n C dX4_statement_349 3 rfl rfl ?_
                      refine Z.get C in4 0 rfl rfl 29 (by decide) (by decide +kernel) rfl rfl dX4_statement_350 ?_
                      refine Z.l2i C (v := (nI x9.2.2.1)) dX4_statement_353 (lN_i x9.2.2.1) ?_
                      refine Z.iconst C (v := (nI 0)) dX4_statement_354 (by decide) ?_
                      refine Z.callVv C (nA := 2) (As := [.int (nI x9.2.2.1), .int (0 : Int32)]) (st := []) (c_step o (wanF o.2.1 o.2.2.1 (123 : Int32) x9.2.1 (wrF x9.1 (q.2.1 + 1 + 1)), x9.2.1 + 1, x9.2.2.1, (upd x9.2.2.2.1 x9.2.2.2.2.2.1 (10 : Int32)), (upd x9.2.2.2.2.1 x9.2.2.2.2.2.1 ((hereN o.2.1 o.2.2.1 (q.2.1 + 1)) - (97 : Int32))), x9.2.2.2.2.2.1 + 1, x9.2.2.2.2.2.2) (nI x9.2.2.1) (0 : Int32)  (by first | omega | (dsimp only; omega))) gX4_statement_X4_step rfl (by decide +kernel) (rm_ok (by omega) (by decide)) 0 rfl rfl rfl (Nat.le_of_ble_eq_true rfl) rfl dX4_statement_355 ?_
                      refine Z.aload_n C dX4_statement_358 3 rfl rfl ?_
                      refine Z.iload_n C dX4_statement_359 1 rfl rfl ?_
                      refine Z.aload_n C dX4_statement_360 3 rfl rfl ?_
                      refine Z.get C in4 0 rfl rfl 10 (by decide) (by decide +kernel) rfl rfl dX4_statement_361 ?_
                      refine Z.aload_n C dX4_statement_364 3 rfl rfl ?_
                      refine Z.get C in4 0 rfl rfl 26 (by decide) (by decide +kernel) rfl rfl dX4_statement_365 ?_
                      refine Z.aload_n C dX4_statement_368 3 rfl rfl ?_
                      refine Z.get C in4 0 rfl rfl 27 (by decide) (by decide +kernel) rfl rfl dX4_statement_369 ?_
                      refine Z.iald C 15 0 rfl rfl x9.2.2.2.2.2.2.2.2.2.2.2.2.2.2.2.2.2.1 rfl (by omega) (by decide) dX4_statement_372 (v := (x9.2.2.2.2.2.2.2.2.2.2.2.2.2.2.2.2.1 x9.2.2.2.2.2.2.2.2.2.2.2.2.2.2.2.2.2.1)) rfl ?_
                      refine Z.aload_n C dX4_statement_373 3 rfl rfl ?_
                      refine Z.get C in4 0 rfl rfl 29 (by decide) (by decide +kernel) rfl rfl dX4_statement_374 ?_
                      refine Z.l2i C (v := (nI x9.2.2.1)) dX4_statement_377 (lN_i x9.2.2.1) ?_
                      refine Z.imul C (v := ((x9.2.2.2.2.2.2.2.2.2.2.2.2.2.2.2.2.1 x9.2.2.2.2.2.2.2.2.2.2.2.2.2.2.2.2.2.1) * (nI x9.2.2.1))) dX4_statement_378 rfl ?_
                      refine Z.callVv C (nA := 3) (As := [.int ((hereN o.2.1 o.2.2.1 (q.2.1 + 1)) - (97 : Int32)), .int (nI (x9.2.2.2.2.2.1 + 1 + 1)), .int ((x9.2.2.2.2.2.2.2.2.2.2.2.2.2.2.2.2.1 x9.2.2.2.2.2.2.2.2.2.2.2.2.2.2.2.2.2.1) * (nI x9.2.2.1))]) (st := []) (c_blockN o (wanF o.2.1 o.2.2.1 (123 : Int32) x9.2.1 (wrF x9.1 (q.2.1 + 1 + 1)), x9.2.1 + 1, x9.2.2.1, (upd (upd x9.2.2.2.1 x9.2.2.2.2.2.1 (10 : Int32)) (x9.2.2.2.2.2.1 + 1) (nI x9.2.2.1)), (upd (upd x9.2.2.2.2.1 x9.2.2.2.2.2.1 ((hereN o.2.1 o.2.2.1 (q.2.1 + 1)) - (97 : Int32))) (x9.2.2.2.2.2.1 + 1) (0 : Int32)), x9.2.2.2.2.2.1 + 1 + 1, x9.2.2.2.2.2.2) ((hereN o.2.1 o.2.2.1 (q.2.1 + 1)) - (97 : Int32)) (nI (x9.2.2.2.2.2.1 + 1 + 1)) ((x9.2.2.2.2.2.2.2.2.2.2.2.2.2.2.2.2.1 x9.2.2.2.2.2.2.2.2.2.2.2.2.2.2.2.2.2.1) * (nI x9.2.2.1))  (by first | omega | (dsimp only; omega))) gX4_statement_X4_block rfl (by decide +kernel) (rm_ok (by omega) (by decide)) 0 rfl rfl rfl (Nat.le_of_ble_eq_true rfl) rfl dX4_statement_379 ?_
                      refine Z.iconst C (v := (nI 0)) dX4_statement_382 (by decide) ?_
                      refine Z.iret C hr hA dX4_statement_383 ?_ ?_
                      · first | (simp [qStmt, qStmt2, qLoopStmt, qStep, qAt1, qWr, qWant, qPush, qSettle, qBlock, qWork, qNest, (eq_false c1), c2, (eq_false c3), (eq_true c4), (eq_false c5), (eq_false c6), c7, e9, (eq_true c10), (eq_false c13), (eq_true c18)]; done) | (simp_all [qStmt, qStmt2, qLoopStmt, qStep, qAt1, qWr, qWant, qPush, qSettle, qBlock, qWork, qNest]; done)
                      · (refine congrArg (wN a cI cZ o) ?_; first | (simp [qStmt, qStmt2, qLoopStmt, qStep, qAt1, qWr, qWant, qPush, qSettle, qBlock, qWork, qNest, (eq_false c1), c2, (eq_false c3), (eq_true c4), (eq_false c5), (eq_false c6), c7, e9, (eq_true c10), (eq_false c13), (eq_true c18)]; done) | (simp_all [qStmt, qStmt2, qLoopStmt, qStep, qAt1, qWr, qWant, qPush, qSettle, qBlock, qWork, qNest]; done))
              · skip
                replace c7 : isLetF (hereN o.2.1 o.2.2.1 (q.2.1 + 1)) = true := b2i_n0.mp c7
                refine Z.aload_n C dX4_statement_256 2 rfl rfl ?_
                refine Z.iload_n C dX4_statement_257 0 rfl rfl ?_
                refine Z.callVi C (nA := 1) (As := [.int ((hereN o.2.1 o.2.2.1 (q.2.1 + 1)) - (97 : Int32))]) (st := []) (c_isLoop o (q.1, q.2.1 + 1, q.2.2.1, q.2.2.2.1, q.2.2.2.2.1, q.2.2.2.2.2.1, q.2.2.2.2.2.2.1, q.2.2.2.2.2.2.2.1, q.2.2.2.2.2.2.2.2.1, q.2.2.2.2.2.2.2.2.2.1, q.2.2.2.2.2.2.2.2.2.2.1, q.2.2.2.2.2.2.2.2.2.2.2.1, q.2.2.2.2.2.2.2.2.2.2.2.2.1, q.2.2.2.2.2.2.2.2.2.2.2.2.2.1, q.2.2.2.2.2.2.2.2.2.2.2.2.2.2.1, q.2.2.2.2.2.2.2.2.2.2.2.2.2.2.2.1, q.2.2.2.2.2.2.2.2.2.2.2.2.2.2.2.2.1, q.2.2.2.2.2.2.2.2.2.2.2.2.2.2.2.2.2.1, q.2.2.2.2.2.2.2.2.2.2.2.2.2.2.2.2.2.2 + 1) ((hereN o.2.1 o.2.2.1 (q.2.1 + 1)) - (97 : Int32))  (by first | omega | (dsimp only; omega))) gX4_statement_X4_isLoop rfl (by decide +kernel) (rm_ok (by omega) (by decide)) 0 rfl rfl rfl (Nat.le_of_ble_eq_true rfl) rfl dX4_statement_258 ?_
                refine Z.if_eq C 272 dX4_statement_261 (by decide) (fun c19 => ?_) (fun c19 => ?_)
                · skip
                  replace c19 : isLoopF q.2.2.2.2.2.2.2.2.2.2.2.2.2.2.1 q.2.2.2.2.2.2.2.2.2.2.2.2.2.2.2.2.2.1 ((hereN o.2.1 o.2.2.1 (q.2.1 + 1)) - (97 : Int32)) = false := b2i_0.mp c19
                  refine Z.aload_n C dX4_statement_272 2 rfl rfl ?_
                  refine Z.dup C dX4_statement_273 rfl ?_
                  refine Z.get C in4 0 rfl rfl 28 (by decide) (by decide +kernel) rfl rfl dX4_statement_274 ?_
                  refine Z.iconst C (v := (nI 1)) dX4_statement_277 (by decide) ?_
                  refine Z.iadd C (v := (nI (q.2.1 + 1 + 1))) dX4_statement_278 (nI_add (q.2.1 + 1) 1) ?_
                  refine Z.put C in4 0 rfl rfl 28 (by decide) tyX4 tyX4_ok nmX4 (by decide +kernel) rfl rfl rfl rfl (Nat.le_of_ble_eq_true rfl) dX4_statement_279 (w' := (wN a cI cZ o (q.1, q.2.1 + 1 + 1, q.2.2.1, q.2.2.2.1, q.2.2.2.2.1, q.2.2.2.2.2.1, q.2.2.2.2.2.2.1, q.2.2.2.2.2.2.2.1, q.2.2.2.2.2.2.2.2.1, q.2.2.2.2.2.2.2.2.2.1, q.2.2.2.2.2.2.2.2.2.2.1, q.2.2.2.2.2.2.2.2.2.2.2.1, q.2.2.2.2.2.2.2.2.2.2.2.2.1, q.2.2.2.2.2.2.2.2.2.2.2.2.2.1, q.2.2.2.2.2.2.2.2.2.2.2.2.2.2.1, q.2.2.2.2.2.2.2.2.2.2.2.2.2.2.2.1, q.2.2.2.2.2.2.2.2.2.2.2.2.2.2.2.2.1, q.2.2.2.2.2.2.2.2.2.2.2.2.2.2.2.2.2.1, q.2.2.2.2.2.2.2.2.2.2.2.2.2.2.2.2.2.2 + 1))) rfl ?_
                  refine Z.aload_n C dX4_statement_282 2 rfl rfl ?_
                  refine Z.get C in4 0 rfl rfl 28 (by decide) (by decide +kernel) rfl rfl dX4_statement_283 ?_
                  refine Z.istore_n C (lv' := [(3, .int (nI (q.2.1 + 1 + 1))), (2, .int ((hereN o.2.1 o.2.2.1 (q.2.1 + 1)) - (97 : Int32))), (1, .int (hereN o.2.1 o.2.2.1 q.2.1)), (0, .ref (a 0))]) dX4_statement_286 rfl (by decide) rfl ?_
                  refine Z.aload_n C dX4_statement_287 3 rfl rfl ?_
                  refine Z.lconst C (v := lN 1) dX4_statement_288 (by decide) ?_
                  refine Z.ldc2 C (v := lN 64) dX4_statement_289 (by decide +kernel) ?_
                  refine Z.callVv C (nA := 2) (As := [.long (lN 1), .long (lN 64)]) (st := []) (c_readNumberN o (q.1, q.2.1 + 1 + 1, q.2.2.1, q.2.2.2.1, q.2.2.2.2.1, q.2.2.2.2.2.1, q.2.2.2.2.2.2.1, q.2.2.2.2.2.2.2.1, q.2.2.2.2.2.2.2.2.1, q.2.2.2.2.2.2.2.2.2.1, q.2.2.2.2.2.2.2.2.2.2.1, q.2.2.2.2.2.2.2.2.2.2.2.1, q.2.2.2.2.2.2.2.2.2.2.2.2.1, q.2.2.2.2.2.2.2.2.2.2.2.2.2.1, q.2.2.2.2.2.2.2.2.2.2.2.2.2.2.1, q.2.2.2.2.2.2.2.2.2.2.2.2.2.2.2.1, q.2.2.2.2.2.2.2.2.2.2.2.2.2.2.2.2.1, q.2.2.2.2.2.2.2.2.2.2.2.2.2.2.2.2.2.1, q.2.2.2.2.2.2.2.2.2.2.2.2.2.2.2.2.2.2 + 1) 1 64 (by first | omega | (dsimp only; omega)) (by first | omega | (dsimp only; omega)) (by first | omega | (dsimp only; omega))) gX4_statement_X4_readNumber rfl (by decide +kernel) (rm_ok (by omega) (by decide)) 0 rfl rfl rfl (Nat.le_of_ble_eq_true rfl) rfl dX4_statement_292 ?_
                  generalize e20 : qNumber o.2.1 o.2.2.1 1 64 (q.1, q.2.1 + 1 + 1, q.2.2.1, q.2.2.2.1, q.2.2.2.2.1, q.2.2.2.2.2.1, q.2.2.2.2.2.2.1, q.2.2.2.2.2.2.2.1, q.2.2.2.2.2.2.2.2.1, q.2.2.2.2.2.2.2.2.2.1, q.2.2.2.2.2.2.2.2.2.2.1, q.2.2.2.2.2.2.2.2.2.2.2.1, q.2.2.2.2.2.2.2.2.2.2.2.2.1, q.2.2.2.2.2.2.2.2.2.2.2.2.2.1, q.2.2.2.2.2.2.2.2.2.2.2.2.2.2.1, q.2.2.2.2.2.2.2.2.2.2.2.2.2.2.2.1, q.2.2.2.2.2.2.2.2.2.2.2.2.2.2.2.2.1, q.2.2.2.2.2.2.2.2.2.2.2.2.2.2.2.2.2.1, q.2.2.2.2.2.2.2.2.2.2.2.2.2.2.2.2.2.2 + 1) = x20
                  have n20 := qNumber_at (tx := o.2.1) (len := o.2.2.1) (lo := 1) (hi := 64) (q := (q.1, q.2.1 + 1 + 1, q.2.2.1, q.2.2.2.1, q.2.2.2.2.1, q.2.2.2.2.2.1, q.2.2.2.2.2.2.1, q.2.2.2.2.2.2.2.1, q.2.2.2.2.2.2.2.2.1, q.2.2.2.2.2.2.2.2.2.1, q.2.2.2.2.2.2.2.2.2.2.1, q.2.2.2.2.2.2.2.2.2.2.2.1, q.2.2.2.2.2.2.2.2.2.2.2.2.1, q.2.2.2.2.2.2.2.2.2.2.2.2.2.1, q.2.2.2.2.2.2.2.2.2.2.2.2.2.2.1, q.2.2.2.2.2.2.2.2.2.2.2.2.2.2.2.1, q.2.2.2.2.2.2.2.2.2.2.2.2.2.2.2.2.1, q.2.2.2.2.2.2.2.2.2.2.2.2.2.2.2.2.2.1, q.2.2.2.2.2.2.2.2.2.2.2.2.2.2.2.2.2.2 + 1)) (N := 488) (by omega) (by first | omega | (dsimp only; omega))
                  rw [e20] at n20
                  obtain ⟨n20a, n20b⟩ := n20
                  have n20d : x20.2.2.2.2.2.1 = q.2.2.2.2.2.1 := by rw [show x20.2.2.2.2.2.1 = (q.1, q.2.1 + 1 + 1, q.2.2.1, q.2.2.2.1, q.2.2.2.2.1, q.2.2.2.2.2.1, q.2.2.2.2.2.2.1, q.2.2.2.2.2.2.2.1, q.2.2.2.2.2.2.2.2.1, q.2.2.2.2.2.2.2.2.2.1, q.2.2.2.2.2.2.2.2.2.2.1, q.2.2.2.2.2.2.2.2.2.2.2.1, q.2.2.2.2.2.2.2.2.2.2.2.2.1, q.2.2.2.2.2.2.2.2.2.2.2.2.2.1, q.2.2.2.2.2.2.2.2.2.2.2.2.2.2.1, q.2.2.2.2.2.2.2.2.2.2.2.2.2.2.2.1, q.2.2.2.2.2.2.2.2.2.2.2.2.2.2.2.2.1, q.2.2.2.2.2.2.2.2.2.2.2.2.2.2.2.2.2.1, q.2.2.2.2.2.2.2.2.2.2.2.2.2.2.2.2.2.2 + 1).2.2.2.2.2.1 from congrArg (fun z => z.2.2.1) n20b]
                  have n20o : x20.2.2.2.2.2.2.2.2.2.1 = q.2.2.2.2.2.2.2.2.2.1 := by rw [show x20.2.2.2.2.2.2.2.2.2.1 = (q.1, q.2.1 + 1 + 1, q.2.2.1, q.2.2.2.1, q.2.2.2.2.1, q.2.2.2.2.2.1, q.2.2.2.2.2.2.1, q.2.2.2.2.2.2.2.1, q.2.2.2.2.2.2.2.2.1, q.2.2.2.2.2.2.2.2.2.1, q.2.2.2.2.2.2.2.2.2.2.1, q.2.2.2.2.2.2.2.2.2.2.2.1, q.2.2.2.2.2.2.2.2.2.2.2.2.1, q.2.2.2.2.2.2.2.2.2.2.2.2.2.1, q.2.2.2.2.2.2.2.2.2.2.2.2.2.2.1, q.2.2.2.2.2.2.2.2.2.2.2.2.2.2.2.1, q.2.2.2.2.2.2.2.2.2.2.2.2.2.2.2.2.1, q.2.2.2.2.2.2.2.2.2.2.2.2.2.2.2.2.2.1, q.2.2.2.2.2.2.2.2.2.2.2.2.2.2.2.2.2.2 + 1).2.2.2.2.2.2.2.2.2.1 from congrArg (fun z => z.2.2.2.2.2.2.1) n20b]
                  have n20s : x20.2.2.2.2.2.2.2.2.2.2.2.2.1 = q.2.2.2.2.2.2.2.2.2.2.2.2.1 := by rw [show x20.2.2.2.2.2.2.2.2.2.2.2.2.1 = (q.1, q.2.1 + 1 + 1, q.2.2.1, q.2.2.2.1, q.2.2.2.2.1, q.2.2.2.2.2.1, q.2.2.2.2.2.2.1, q.2.2.2.2.2.2.2.1, q.2.2.2.2.2.2.2.2.1, q.2.2.2.2.2.2.2.2.2.1, q.2.2.2.2.2.2.2.2.2.2.1, q.2.2.2.2.2.2.2.2.2.2.2.1, q.2.2.2.2.2.2.2.2.2.2.2.2.1, q.2.2.2.2.2.2.2.2.2.2.2.2.2.1, q.2.2.2.2.2.2.2.2.2.2.2.2.2.2.1, q.2.2.2.2.2.2.2.2.2.2.2.2.2.2.2.1, q.2.2.2.2.2.2.2.2.2.2.2.2.2.2.2.2.1, q.2.2.2.2.2.2.2.2.2.2.2.2.2.2.2.2.2.1, q.2.2.2.2.2.2.2.2.2.2.2.2.2.2.2.2.2.2 + 1).2.2.2.2.2.2.2.2.2.2.2.2.1 from congrArg (fun z => z.2.2.2.2.2.2.2.2.2.1) n20b]
                  have n20b : x20.2.2.2.2.2.2.2.2.2.2.2.2.2.2.2.2.2.1 = q.2.2.2.2.2.2.2.2.2.2.2.2.2.2.2.2.2.1 := by rw [show x20.2.2.2.2.2.2.2.2.2.2.2.2.2.2.2.2.2.1 = (q.1, q.2.1 + 1 + 1, q.2.2.1, q.2.2.2.1, q.2.2.2.2.1, q.2.2.2.2.2.1, q.2.2.2.2.2.2.1, q.2.2.2.2.2.2.2.1, q.2.2.2.2.2.2.2.2.1, q.2.2.2.2.2.2.2.2.2.1, q.2.2.2.2.2.2.2.2.2.2.1, q.2.2.2.2.2.2.2.2.2.2.2.1, q.2.2.2.2.2.2.2.2.2.2.2.2.1, q.2.2.2.2.2.2.2.2.2.2.2.2.2.1, q.2.2.2.2.2.2.2.2.2.2.2.2.2.2.1, q.2.2.2.2.2.2.2.2.2.2.2.2.2.2.2.1, q.2.2.2.2.2.2.2.2.2.2.2.2.2.2.2.2.1, q.2.2.2.2.2.2.2.2.2.2.2.2.2.2.2.2.2.1, q.2.2.2.2.2.2.2.2.2.2.2.2.2.2.2.2.2.2 + 1).2.2.2.2.2.2.2.2.2.2.2.2.2.2.2.2.2.1 from congrArg (fun z => z.2.2.2.2.2.2.2.2.2.2.2.2.2.2.1) n20b]
                  have n20f : x20.1 < 1000 := by rw [← e20]; exact qNumber_f (by first | omega | (dsimp only; omega)) (by first | omega | (dsimp only; omega)) (by first | omega | (dsimp only; omega))
                  refine Z.aload_n C dX4_statement_295 3 rfl rfl ?_
                  refine Z.get C in4 0 rfl rfl 3 (by decide) (by decide +kernel) rfl rfl dX4_statement_296 ?_
                  refine Z.if_ne C 328 dX4_statement_299 (by decide) (fun c21 => ?_) (fun c21 => ?_)
                  · skip
                    replace c21 : ¬ x20.1 = 0 := mt (nI_eq (by omega) (by omega)).mpr c21
                    refine Z.aload_n C dX4_statement_328 3 rfl rfl ?_
                    refine Z.bipush C (v := (nI 123)) dX4_statement_329 (by decide) ?_
                    refine Z.callVv C (nA := 1) (As := [.int (123 : Int32)]) (st := []) (c_want o x20 (123 : Int32)  (by first | omega | (dsimp only; omega)) (by first | omega | (dsimp only; omega)) (by first | omega | (dsimp only; omega))) gX4_statement_X4_want rfl (by decide +kernel) (rm_ok (by omega) (by decide)) 0 rfl rfl rfl (Nat.le_of_ble_eq_true rfl) rfl dX4_statement_331 ?_
                    have w22 : wanF o.2.1 o.2.2.1 (123 : Int32) x20.2.1 x20.1 < 1000 := wanF_b (by first | omega | (dsimp only; omega)) (by first | omega | (dsimp only; omega))
                    refine Z.aload_n C dX4_statement_334 3 rfl rfl ?_
                    refine Z.get C in4 0 rfl rfl 3 (by decide) (by decide +kernel) rfl rfl dX4_statement_335 ?_
                    refine Z.if_ne C 382 dX4_statement_338 (by decide) (fun c23 => ?_) (fun c23 => ?_)
                    · skip
                      replace c23 : ¬ (wanF o.2.1 o.2.2.1 (123 : Int32) x20.2.1 x20.1) = 0 := mt (nI_eq (by omega) (by omega)).mpr c23
                      refine Z.iconst C (v := (nI 0)) dX4_statement_382 (by decide) ?_
                      refine Z.iret C hr hA dX4_statement_383 ?_ ?_
                      · first | (simp [qStmt, qStmt2, qLoopStmt, qStep, qAt1, qWr, qWant, qPush, qSettle, qBlock, qWork, qNest, (eq_false c1), c2, (eq_false c3), (eq_true c4), (eq_false c5), (eq_false c6), c7, c19, e20, (eq_false c21), (eq_false c23)]; done) | (simp_all [qStmt, qStmt2, qLoopStmt, qStep, qAt1, qWr, qWant, qPush, qSettle, qBlock, qWork, qNest]; done)
                      · (refine congrArg (wN a cI cZ o) ?_; first | (simp [qStmt, qStmt2, qLoopStmt, qStep, qAt1, qWr, qWant, qPush, qSettle, qBlock, qWork, qNest, (eq_false c1), c2, (eq_false c3), (eq_true c4), (eq_false c5), (eq_false c6), c7, c19, e20, (eq_false c21), (eq_false c23)]; done) | (simp_all [qStmt, qStmt2, qLoopStmt, qStep, qAt1, qWr, qWant, qPush, qSettle, qBlock, qWork, qNest]; done))
                    · skip
                      replace c23 : (wanF o.2.1 o.2.2.1 (123 : Int32) x20.2.1 x20.1) = 0 := (nI_eq (by omega) (by omega)).mp c23
                      refine Z.aload_n C dX4_statement_341 3 rfl rfl ?_
                      refine Z.bipush C (v := (nI 10)) dX4_statement_342 (by decide) ?_
                      refine Z.iload_n C dX4_statement_344 1 rfl rfl ?_
                      refine Z.callVv C (nA := 2) (As := [.int (10 : Int32), .int ((hereN o.2.1 o.2.2.1 (q.2.1 + 1)) - (97 : Int32))]) (st := []) (c_step o (wanF o.2.1 o.2.2.1 (123 : Int32) x20.2.1 x20.1, x20.2.1 + 1, x20.2.2) (10 : Int32) ((hereN o.2.1 o.2.2.1 (q.2.1 + 1)) - (97 : Int32))  (by first | omega | (dsimp only; omega))) gX4_statement_X4_step rfl (by decide +kernel) (rm_ok (by omega) (by decide)) 0 rfl rfl rfl (Nat.le_of_ble_eq_true rfl) rfl dX4_statement_345 ?_
                      refine Z.aload_n C dX4_statement_348 3 rfl rfl ?_
                      refine Z.aload_n C dX4_statement_349 3 rfl rfl ?_
                      refine Z.get C in4 0 rfl rfl 29 (by decide) (by decide +kernel) rfl rfl dX4_statement_350 ?_
                      refine Z.l2i C (v := (nI x20.2.2.1)) dX4_statement_353 (lN_i x20.2.2.1) ?_
                      refine Z.iconst C (v := (nI 0)) dX4_statement_354 (by decide) ?_
                      refine Z.callVv C (nA := 2) (As := [.int (nI x20.2.2.1), .int (0 : Int32)]) (st := []) (c_step o (wanF o.2.1 o.2.2.1 (123 : Int32) x20.2.1 x20.1, x20.2.1 + 1, x20.2.2.1, (upd x20.2.2.2.1 x20.2.2.2.2.2.1 (10 : Int32)), (upd x20.2.2.2.2.1 x20.2.2.2.2.2.1 ((hereN o.2.1 o.2.2.1 (q.2.1 + 1)) - (97 : Int32))), x20.2.2.2.2.2.1 + 1, x20.2.2.2.2.2.2) (nI x20.2.2.1) (0 : Int32)  (by first | omega | (dsimp only; omega))) gX4_statement_X4_step rfl (by decide +kernel) (rm_ok (by omega) (by decide)) 0 rfl rfl rfl (Nat.le_of_ble_eq_true rfl) rfl dX4_statement_355 ?_
                      refine Z.aload_n C dX4_statement_358 3 rfl rfl ?_
                      refine Z.iload_n C dX4_statement_359 1 rfl rfl ?_
                      refine Z.aload_n C dX4_statement_360 3 rfl rfl ?_
                      refine Z.get C in4 0 rfl rfl 10 (by decide) (by decide +kernel) rfl rfl dX4_statement_361 ?_
                      refine Z.aload_n C dX4_statement_364 3 rfl rfl ?_
                      refine Z.get C in4 0 rfl rfl 26 (by decide) (by decide +kernel) rfl rfl dX4_statement_365 ?_
                      refine Z.aload_n C dX4_statement_368 3 rfl rfl ?_
                      refine Z.get C in4 0 rfl rfl 27 (by decide) (by decide +kernel) rfl rfl dX4_statement_369 ?_
                      refine Z.iald C 15 0 rfl rfl x20.2.2.2.2.2.2.2.2.2.2.2.2.2.2.2.2.2.1 rfl (by omega) (by decide) dX4_statement_372 (v := (x20.2.2.2.2.2.2.2.2.2.2.2.2.2.2.2.2.1 x20.2.2.2.2.2.2.2.2.2.2.2.2.2.2.2.2.2.1)) rfl ?_
                      refine Z.aload_n C dX4_statement_373 3 rfl rfl ?_
                      refine Z.get C in4 0 rfl rfl 29 (by decide) (by decide +kernel) rfl rfl dX4_statement_374 ?_
                      refine Z.l2i C (v := (nI x20.2.2.1)) dX4_statement_377 (lN_i x20.2.2.1) ?_
                      refine Z.imul C (v := ((x20.2.2.2.2.2.2.2.2.2.2.2.2.2.2.2.2.1 x20.2.2.2.2.2.2.2.2.2.2.2.2.2.2.2.2.2.1) * (nI x20.2.2.1))) dX4_statement_378 rfl ?_
                      refine Z.callVv C (nA := 3) (As := [.int ((hereN o.2.1 o.2.2.1 (q.2.1 + 1)) - (97 : Int32)), .int (nI (x20.2.2.2.2.2.1 + 1 + 1)), .int ((x20.2.2.2.2.2.2.2.2.2.2.2.2.2.2.2.2.1 x20.2.2.2.2.2.2.2.2.2.2.2.2.2.2.2.2.2.1) * (nI x20.2.2.1))]) (st := []) (c_blockN o (wanF o.2.1 o.2.2.1 (123 : Int32) x20.2.1 x20.1, x20.2.1 + 1, x20.2.2.1, (upd (upd x20.2.2.2.1 x20.2.2.2.2.2.1 (10 : Int32)) (x20.2.2.2.2.2.1 + 1) (nI x20.2.2.1)), (upd (upd x20.2.2.2.2.1 x20.2.2.2.2.2.1 ((hereN o.2.1 o.2.2.1 (q.2.1 + 1)) - (97 : Int32))) (x20.2.2.2.2.2.1 + 1) (0 : Int32)), x20.2.2.2.2.2.1 + 1 + 1, x20.2.2.2.2.2.2) ((hereN o.2.1 o.2.2.1 (q.2.1 + 1)) - (97 : Int32)) (nI (x20.2.2.2.2.2.1 + 1 + 1)) ((x20.2.2.2.2.2.2.2.2.2.2.2.2.2.2.2.2.1 x20.2.2.2.2.2.2.2.2.2.2.2.2.2.2.2.2.2.1) * (nI x20.2.2.1))  (by first | omega | (dsimp only; omega))) gX4_statement_X4_block rfl (by decide +kernel) (rm_ok (by omega) (by decide)) 0 rfl rfl rfl (Nat.le_of_ble_eq_true rfl) rfl dX4_statement_379 ?_
                      refine Z.iconst C (v := (nI 0)) dX4_statement_382 (by decide) ?_
                      refine Z.iret C hr hA dX4_statement_383 ?_ ?_
                      · first | (simp [qStmt, qStmt2, qLoopStmt, qStep, qAt1, qWr, qWant, qPush, qSettle, qBlock, qWork, qNest, (eq_false c1), c2, (eq_false c3), (eq_true c4), (eq_false c5), (eq_false c6), c7, c19, e20, (eq_false c21), (eq_true c23)]; done) | (simp_all [qStmt, qStmt2, qLoopStmt, qStep, qAt1, qWr, qWant, qPush, qSettle, qBlock, qWork, qNest]; done)
                      · (refine congrArg (wN a cI cZ o) ?_; first | (simp [qStmt, qStmt2, qLoopStmt, qStep, qAt1, qWr, qWant, qPush, qSettle, qBlock, qWork, qNest, (eq_false c1), c2, (eq_false c3), (eq_true c4), (eq_false c5), (eq_false c6), c7, c19, e20, (eq_false c21), (eq_true c23)]; done) | (simp_all [qStmt, qStmt2, qLoopStmt, qStep, qAt1, qWr, qWant, qPush, qSettle, qBlock, qWork, qNest]; done))
                  · skip
                    replace c21 : x20.1 = 0 := (nI_eq (by omega) (by omega)).mp c21
                    refine Z.aload_n C dX4_statement_302 3 rfl rfl ?_
                    refine Z.get C in4 0 rfl rfl 26 (by decide) (by decide +kernel) rfl rfl dX4_statement_303 ?_
                    refine Z.aload_n C dX4_statement_306 3 rfl rfl ?_
                    refine Z.get C in4 0 rfl rfl 27 (by decide) (by decide +kernel) rfl rfl dX4_statement_307 ?_
                    refine Z.iald C 15 0 rfl rfl x20.2.2.2.2.2.2.2.2.2.2.2.2.2.2.2.2.2.1 rfl (by omega) (by decide) dX4_statement_310 (v := (x20.2.2.2.2.2.2.2.2.2.2.2.2.2.2.2.2.1 x20.2.2.2.2.2.2.2.2.2.2.2.2.2.2.2.2.2.1)) rfl ?_
                    refine Z.aload_n C dX4_statement_311 3 rfl rfl ?_
                    refine Z.get C in4 0 rfl rfl 29 (by decide) (by decide +kernel) rfl rfl dX4_statement_312 ?_
                    refine Z.l2i C (v := (nI x20.2.2.1)) dX4_statement_315 (lN_i x20.2.2.1) ?_
                    refine Z.imul C (v := ((x20.2.2.2.2.2.2.2.2.2.2.2.2.2.2.2.2.1 x20.2.2.2.2.2.2.2.2.2.2.2.2.2.2.2.2.2.1) * (nI x20.2.2.1))) dX4_statement_316 rfl ?_
                    refine Z.sipush C (v := (nI 640)) dX4_statement_317 (by decide) ?_
                    refine Z.icmp_le C 328 dX4_statement_320 (by decide) (fun c24 => ?_) (fun c24 => ?_)
                    · skip
                      replace c24 : ((x20.2.2.2.2.2.2.2.2.2.2.2.2.2.2.2.2.1 x20.2.2.2.2.2.2.2.2.2.2.2.2.2.2.2.2.2.1) * (nI x20.2.2.1)) ≤ (640 : Int32) := c24
                      refine Z.aload_n C dX4_statement_328 3 rfl rfl ?_
                      refine Z.bipush C (v := (nI 123)) dX4_statement_329 (by decide) ?_
                      refine Z.callVv C (nA := 1) (As := [.int (123 : Int32)]) (st := []) (c_want o x20 (123 : Int32)  (by first | omega | (dsimp only; omega)) (by first | omega | (dsimp only; omega)) (by first | omega | (dsimp only; omega))) gX4_statement_X4_want rfl (by decide +kernel) (rm_ok (by omega) (by decide)) 0 rfl rfl rfl (Nat.le_of_ble_eq_true rfl) rfl dX4_statement_331 ?_
                      have w25 : wanF o.2.1 o.2.2.1 (123 : Int32) x20.2.1 x20.1 < 1000 := wanF_b (by first | omega | (dsimp only; omega)) (by first | omega | (dsimp only; omega))
                      refine Z.aload_n C dX4_statement_334 3 rfl rfl ?_
                      refine Z.get C in4 0 rfl rfl 3 (by decide) (by decide +kernel) rfl rfl dX4_statement_335 ?_
                      refine Z.if_ne C 382 dX4_statement_338 (by decide) (fun c26 => ?_) (fun c26 => ?_)
                      · skip
                        replace c26 : ¬ (wanF o.2.1 o.2.2.1 (123 : Int32) x20.2.1 x20.1) = 0 := mt (nI_eq (by omega) (by omega)).mpr c26
                        refine Z.iconst C (v := (nI 0)) dX4_statement_382 (by decide) ?_
                        refine Z.iret C hr hA dX4_statement_383 ?_ ?_
                        · first | (simp [qStmt, qStmt2, qLoopStmt, qStep, qAt1, qWr, qWant, qPush, qSettle, qBlock, qWork, qNest, (eq_false c1), c2, (eq_false c3), (eq_true c4), (eq_false c5), (eq_false c6), c7, c19, e20, (eq_true c21), (eq_true c24), (eq_false c26)]; done) | (simp_all [qStmt, qStmt2, qLoopStmt, qStep, qAt1, qWr, qWant, qPush, qSettle, qBlock, qWork, qNest]; done)
                        · (refine congrArg (wN a cI cZ o) ?_; first | (simp [qStmt, qStmt2, qLoopStmt, qStep, qAt1, qWr, qWant, qPush, qSettle, qBlock, qWork, qNest, (eq_false c1), c2, (eq_false c3), (eq_true c4), (eq_false c5), (eq_false c6), c7, c19, e20, (eq_true c21), (eq_true c24), (eq_false c26)]; done) | (simp_all [qStmt, qStmt2, qLoopStmt, qStep, qAt1, qWr, qWant, qPush, qSettle, qBlock, qWork, qNest]; done))
                      · skip
                        replace c26 : (wanF o.2.1 o.2.2.1 (123 : Int32) x20.2.1 x20.1) = 0 := (nI_eq (by omega) (by omega)).mp c26
                        refine Z.aload_n C dX4_statement_341 3 rfl rfl ?_
                        refine Z.bipush C (v := (nI 10)) dX4_statement_342 (by decide) ?_
                        refine Z.iload_n C dX4_statement_344 1 rfl rfl ?_
                        refine Z.callVv C (nA := 2) (As := [.int (10 : Int32), .int ((hereN o.2.1 o.2.2.1 (q.2.1 + 1)) - (97 : Int32))]) (st := []) (c_step o (wanF o.2.1 o.2.2.1 (123 : Int32) x20.2.1 x20.1, x20.2.1 + 1, x20.2.2) (10 : Int32) ((hereN o.2.1 o.2.2.1 (q.2.1 + 1)) - (97 : Int32))  (by first | omega | (dsimp only; omega))) gX4_statement_X4_step rfl (by decide +kernel) (rm_ok (by omega) (by decide)) 0 rfl rfl rfl (Nat.le_of_ble_eq_true rfl) rfl dX4_statement_345 ?_
                        refine Z.aload_n C dX4_statement_348 3 rfl rfl ?_
                        refine Z.aload_n C dX4_statement_349 3 rfl rfl ?_
                        refine Z.get C in4 0 rfl rfl 29 (by decide) (by decide +kernel) rfl rfl dX4_statement_350 ?_
                        refine Z.l2i C (v := (nI x20.2.2.1)) dX4_statement_353 (lN_i x20.2.2.1) ?_
                        refine Z.iconst C (v := (nI 0)) dX4_statement_354 (by decide) ?_
                        refine Z.callVv C (nA := 2) (As := [.int (nI x20.2.2.1), .int (0 : Int32)]) (st := []) (c_step o (wanF o.2.1 o.2.2.1 (123 : Int32) x20.2.1 x20.1, x20.2.1 + 1, x20.2.2.1, (upd x20.2.2.2.1 x20.2.2.2.2.2.1 (10 : Int32)), (upd x20.2.2.2.2.1 x20.2.2.2.2.2.1 ((hereN o.2.1 o.2.2.1 (q.2.1 + 1)) - (97 : Int32))), x20.2.2.2.2.2.1 + 1, x20.2.2.2.2.2.2) (nI x20.2.2.1) (0 : Int32)  (by first | omega | (dsimp only; omega))) gX4_statement_X4_step rfl (by decide +kernel) (rm_ok (by omega) (by decide)) 0 rfl rfl rfl (Nat.le_of_ble_eq_true rfl) rfl dX4_statement_355 ?_
                        refine Z.aload_n C dX4_statement_358 3 rfl rfl ?_
                        refine Z.iload_n C dX4_statement_359 1 rfl rfl ?_
                        refine Z.aload_n C dX4_statement_360 3 rfl rfl ?_
                        refine Z.get C in4 0 rfl rfl 10 (by decide) (by decide +kernel) rfl rfl dX4_statement_361 ?_
                        refine Z.aload_n C dX4_statement_364 3 rfl rfl ?_
                        refine Z.get C in4 0 rfl rfl 26 (by decide) (by decide +kernel) rfl rfl dX4_statement_365 ?_
                        refine Z.aload_n C dX4_statement_368 3 rfl rfl ?_
                        refine Z.get C in4 0 rfl rfl 27 (by decide) (by decide +kernel) rfl rfl dX4_statement_369 ?_
                        refine Z.iald C 15 0 rfl rfl x20.2.2.2.2.2.2.2.2.2.2.2.2.2.2.2.2.2.1 rfl (by omega) (by decide) dX4_statement_372 (v := (x20.2.2.2.2.2.2.2.2.2.2.2.2.2.2.2.2.1 x20.2.2.2.2.2.2.2.2.2.2.2.2.2.2.2.2.2.1)) rfl ?_
                        refine Z.aload_n C dX4_statement_373 3 rfl rfl ?_
                        refine Z.get C in4 0 rfl rfl 29 (by decide) (by decide +kernel) rfl rfl dX4_statement_374 ?_
                        refine Z.l2i C (v := (nI x20.2.2.1)) dX4_statement_377 (lN_i x20.2.2.1) ?_
                        refine Z.imul C (v := ((x20.2.2.2.2.2.2.2.2.2.2.2.2.2.2.2.2.1 x20.2.2.2.2.2.2.2.2.2.2.2.2.2.2.2.2.2.1) * (nI x20.2.2.1))) dX4_statement_378 rfl ?_
                        refine Z.callVv C (nA := 3) (As := [.int ((hereN o.2.1 o.2.2.1 (q.2.1 + 1)) - (97 : Int32)), .int (nI (x20.2.2.2.2.2.1 + 1 + 1)), .int ((x20.2.2.2.2.2.2.2.2.2.2.2.2.2.2.2.2.1 x20.2.2.2.2.2.2.2.2.2.2.2.2.2.2.2.2.2.1) * (nI x20.2.2.1))]) (st := []) (c_blockN o (wanF o.2.1 o.2.2.1 (123 : Int32) x20.2.1 x20.1, x20.2.1 + 1, x20.2.2.1, (upd (upd x20.2.2.2.1 x20.2.2.2.2.2.1 (10 : Int32)) (x20.2.2.2.2.2.1 + 1) (nI x20.2.2.1)), (upd (upd x20.2.2.2.2.1 x20.2.2.2.2.2.1 ((hereN o.2.1 o.2.2.1 (q.2.1 + 1)) - (97 : Int32))) (x20.2.2.2.2.2.1 + 1) (0 : Int32)), x20.2.2.2.2.2.1 + 1 + 1, x20.2.2.2.2.2.2) ((hereN o.2.1 o.2.2.1 (q.2.1 + 1)) - (97 : Int32)) (nI (x20.2.2.2.2.2.1 + 1 + 1)) ((x20.2.2.2.2.2.2.2.2.2.2.2.2.2.2.2.2.1 x20.2.2.2.2.2.2.2.2.2.2.2.2.2.2.2.2.2.1) * (nI x20.2.2.1))  (by first | omega | (dsimp only; omega))) gX4_statement_X4_block rfl (by decide +kernel) (rm_ok (by omega) (by decide)) 0 rfl rfl rfl (Nat.le_of_ble_eq_true rfl) rfl dX4_statement_379 ?_
                        refine Z.iconst C (v := (nI 0)) dX4_statement_382 (by decide) ?_
                        refine Z.iret C hr hA dX4_statement_383 ?_ ?_
                        · first | (simp [qStmt, qStmt2, qLoopStmt, qStep, qAt1, qWr, qWant, qPush, qSettle, qBlock, qWork, qNest, (eq_false c1), c2, (eq_false c3), (eq_true c4), (eq_false c5), (eq_false c6), c7, c19, e20, (eq_true c21), (eq_true c24), (eq_true c26)]; done) | (simp_all [qStmt, qStmt2, qLoopStmt, qStep, qAt1, qWr, qWant, qPush, qSettle, qBlock, qWork, qNest]; done)
                        · (refine congrArg (wN a cI cZ o) ?_; first | (simp [qStmt, qStmt2, qLoopStmt, qStep, qAt1, qWr, qWant, qPush, qSettle, qBlock, qWork, qNest, (eq_false c1), c2, (eq_false c3), (eq_true c4), (eq_false c5), (eq_false c6), c7, c19, e20, (eq_true c21), (eq_true c24), (eq_true c26)]; done) | (simp_all [qStmt, qStmt2, qLoopStmt, qStep, qAt1, qWr, qWant, qPush, qSettle, qBlock, qWork, qNest]; done))
                    · skip
                      replace c24 : ¬ ((x20.2.2.2.2.2.2.2.2.2.2.2.2.2.2.2.2.1 x20.2.2.2.2.2.2.2.2.2.2.2.2.2.2.2.2.2.1) * (nI x20.2.2.1)) ≤ (640 : Int32) := c24
                      refine Z.aload_n C dX4_statement_323 3 rfl rfl ?_
                      refine Z.iload_n C dX4_statement_324 0 rfl rfl ?_
                      refine Z.callVv C (nA := 1) (As := [.int (nI (q.2.1 + 1 + 1))]) (st := []) (c_wrong o x20 (q.2.1 + 1 + 1)  (by first | omega | (dsimp only; omega))) gX4_statement_X4_wrong rfl (by decide +kernel) (rm_ok (by omega) (by decide)) 0 rfl rfl rfl (Nat.le_of_ble_eq_true rfl) rfl dX4_statement_325 ?_
                      have w27 : wrF x20.1 (q.2.1 + 1 + 1) < 1000 := wrF_b (by first | omega | (dsimp only; omega)) (by first | omega | (dsimp only; omega))
                      refine Z.aload_n C dX4_statement_328 3 rfl rfl ?_
                      refine Z.bipush C (v := (nI 123)) dX4_statement_329 (by decide) ?_
                      refine Z.callVv C (nA := 1) (As := [.int (123 : Int32)]) (st := []) (c_want o (wrF x20.1 (q.2.1 + 1 + 1), x20.2) (123 : Int32)  (by first | omega | (dsimp only; omega)) (by first | omega | (dsimp only; omega)) (by first | omega | (dsimp only; omega))) gX4_statement_X4_want rfl (by decide +kernel) (rm_ok (by omega) (by decide)) 0 rfl rfl rfl (Nat.le_of_ble_eq_true rfl) rfl dX4_statement_331 ?_
                      have w28 : wanF o.2.1 o.2.2.1 (123 : Int32) x20.2.1 (wrF x20.1 (q.2.1 + 1 + 1)) < 1000 := wanF_b (by first | omega | (dsimp only; omega)) (by first | omega | (dsimp only; omega))
                      refine Z.aload_n C dX4_statement_334 3 rfl rfl ?_
                      refine Z.get C in4 0 rfl rfl 3 (by decide) (by decide +kernel) rfl rfl dX4_statement_335 ?_
                      refine Z.if_ne C 382 dX4_statement_338 (by decide) (fun c29 => ?_) (fun c29 => ?_)
                      · skip
                        replace c29 : ¬ (wanF o.2.1 o.2.2.1 (123 : Int32) x20.2.1 (wrF x20.1 (q.2.1 + 1 + 1))) = 0 := mt (nI_eq (by omega) (by omega)).mpr c29
                        refine Z.iconst C (v := (nI 0)) dX4_statement_382 (by decide) ?_
                        refine Z.iret C hr hA dX4_statement_383 ?_ ?_
                        · first | (simp [qStmt, qStmt2, qLoopStmt, qStep, qAt1, qWr, qWant, qPush, qSettle, qBlock, qWork, qNest, (eq_false c1), c2, (eq_false c3), (eq_true c4), (eq_false c5), (eq_false c6), c7, c19, e20, (eq_true c21), (eq_false c24), (eq_false c29)]; done) | (simp_all [qStmt, qStmt2, qLoopStmt, qStep, qAt1, qWr, qWant, qPush, qSettle, qBlock, qWork, qNest]; done)
                        · (refine congrArg (wN a cI cZ o) ?_; first | (simp [qStmt, qStmt2, qLoopStmt, qStep, qAt1, qWr, qWant, qPush, qSettle, qBlock, qWork, qNest, (eq_false c1), c2, (eq_false c3), (eq_true c4), (eq_false c5), (eq_false c6), c7, c19, e20, (eq_true c21), (eq_false c24), (eq_false c29)]; done) | (simp_all [qStmt, qStmt2, qLoopStmt, qStep, qAt1, qWr, qWant, qPush, qSettle, qBlock, qWork, qNest]; done))
                      · skip
                        replace c29 : (wanF o.2.1 o.2.2.1 (123 : Int32) x20.2.1 (wrF x20.1 (q.2.1 + 1 + 1))) = 0 := (nI_eq (by omega) (by omega)).mp c29
                        refine Z.aload_n C dX4_statement_341 3 rfl rfl ?_
                        refine Z.bipush C (v := (nI 10)) dX4_statement_342 (by decide) ?_
                        refine Z.iload_n C dX4_statement_344 1 rfl rfl ?_
                        refine Z.callVv C (nA := 2) (As := [.int (10 : Int32), .int ((hereN o.2.1 o.2.2.1 (q.2.1 + 1)) - (97 : Int32))]) (st := []) (c_step o (wanF o.2.1 o.2.2.1 (123 : Int32) x20.2.1 (wrF x20.1 (q.2.1 + 1 + 1)), x20.2.1 + 1, x20.2.2) (10 : Int32) ((hereN o.2.1 o.2.2.1 (q.2.1 + 1)) - (97 : Int32))  (by first | omega | (dsimp only; omega))) gX4_statement_X4_step rfl (by decide +kernel) (rm_ok (by omega) (by decide)) 0 rfl rfl rfl (Nat.le_of_ble_eq_true rfl) rfl dX4_statement_345 ?_
                        refine Z.aload_n C dX4_statement_348 3 rfl rfl ?_
                        refine Z.aload_n C dX4_statement_349 3 rfl rfl ?_
                        refine Z.get C in4 0 rfl rfl 29 (by decide) (by decide +kernel) rfl rfl dX4_statement_350 ?_
                        refine Z.l2i C (v := (nI x20.2.2.1)) dX4_statement_353 (lN_i x20.2.2.1) ?_
                        refine Z.iconst C (v := (nI 0)) dX4_statement_354 (by decide) ?_
                        refine Z.callVv C (nA := 2) (As := [.int (nI x20.2.2.1), .int (0 : Int32)]) (st := []) (c_step o (wanF o.2.1 o.2.2.1 (123 : Int32) x20.2.1 (wrF x20.1 (q.2.1 + 1 + 1)), x20.2.1 + 1, x20.2.2.1, (upd x20.2.2.2.1 x20.2.2.2.2.2.1 (10 : Int32)), (upd x20.2.2.2.2.1 x20.2.2.2.2.2.1 ((hereN o.2.1 o.2.2.1 (q.2.1 + 1)) - (97 : Int32))), x20.2.2.2.2.2.1 + 1, x20.2.2.2.2.2.2) (nI x20.2.2.1) (0 : Int32)  (by first | omega | (dsimp only; omega))) gX4_statement_X4_step rfl (by decide +kernel) (rm_ok (by omega) (by decide)) 0 rfl rfl rfl (Nat.le_of_ble_eq_true rfl) rfl dX4_statement_355 ?_
                        refine Z.aload_n C dX4_statement_358 3 rfl rfl ?_
                        refine Z.iload_n C dX4_statement_359 1 rfl rfl ?_
                        refine Z.aload_n C dX4_statement_360 3 rfl rfl ?_
                        refine Z.get C in4 0 rfl rfl 10 (by decide) (by decide +kernel) rfl rfl dX4_statement_361 ?_
                        refine Z.aload_n C dX4_statement_364 3 rfl rfl ?_
                        refine Z.get C in4 0 rfl rfl 26 (by decide) (by decide +kernel) rfl rfl dX4_statement_365 ?_
                        refine Z.aload_n C dX4_statement_368 3 rfl rfl ?_
                        refine Z.get C in4 0 rfl rfl 27 (by decide) (by decide +kernel) rfl rfl dX4_statement_369 ?_
                        refine Z.iald C 15 0 rfl rfl x20.2.2.2.2.2.2.2.2.2.2.2.2.2.2.2.2.2.1 rfl (by omega) (by decide) dX4_statement_372 (v := (x20.2.2.2.2.2.2.2.2.2.2.2.2.2.2.2.2.1 x20.2.2.2.2.2.2.2.2.2.2.2.2.2.2.2.2.2.1)) rfl ?_
                        refine Z.aload_n C dX4_statement_373 3 rfl rfl ?_
                        refine Z.get C in4 0 rfl rfl 29 (by decide) (by decide +kernel) rfl rfl dX4_statement_374 ?_
                        refine Z.l2i C (v := (nI x20.2.2.1)) dX4_statement_377 (lN_i x20.2.2.1) ?_
                        refine Z.imul C (v := ((x20.2.2.2.2.2.2.2.2.2.2.2.2.2.2.2.2.1 x20.2.2.2.2.2.2.2.2.2.2.2.2.2.2.2.2.2.1) * (nI x20.2.2.1))) dX4_statement_378 rfl ?_
                        refine Z.callVv C (nA := 3) (As := [.int ((hereN o.2.1 o.2.2.1 (q.2.1 + 1)) - (97 : Int32)), .int (nI (x20.2.2.2.2.2.1 + 1 + 1)), .int ((x20.2.2.2.2.2.2.2.2.2.2.2.2.2.2.2.2.1 x20.2.2.2.2.2.2.2.2.2.2.2.2.2.2.2.2.2.1) * (nI x20.2.2.1))]) (st := []) (c_blockN o (wanF o.2.1 o.2.2.1 (123 : Int32) x20.2.1 (wrF x20.1 (q.2.1 + 1 + 1)), x20.2.1 + 1, x20.2.2.1, (upd (upd x20.2.2.2.1 x20.2.2.2.2.2.1 (10 : Int32)) (x20.2.2.2.2.2.1 + 1) (nI x20.2.2.1)), (upd (upd x20.2.2.2.2.1 x20.2.2.2.2.2.1 ((hereN o.2.1 o.2.2.1 (q.2.1 + 1)) - (97 : Int32))) (x20.2.2.2.2.2.1 + 1) (0 : Int32)), x20.2.2.2.2.2.1 + 1 + 1, x20.2.2.2.2.2.2) ((hereN o.2.1 o.2.2.1 (q.2.1 + 1)) - (97 : Int32)) (nI (x20.2.2.2.2.2.1 + 1 + 1)) ((x20.2.2.2.2.2.2.2.2.2.2.2.2.2.2.2.2.1 x20.2.2.2.2.2.2.2.2.2.2.2.2.2.2.2.2.2.1) * (nI x20.2.2.1))  (by first | omega | (dsimp only; omega))) gX4_statement_X4_block rfl (by decide +kernel) (rm_ok (by omega) (by decide)) 0 rfl rfl rfl (Nat.le_of_ble_eq_true rfl) rfl dX4_statement_379 ?_
                        refine Z.iconst C (v := (nI 0)) dX4_statement_382 (by decide) ?_
                        refine Z.iret C hr hA dX4_statement_383 ?_ ?_
                        · first | (simp [qStmt, qStmt2, qLoopStmt, qStep, qAt1, qWr, qWant, qPush, qSettle, qBlock, qWork, qNest, (eq_false c1), c2, (eq_false c3), (eq_true c4), (eq_false c5), (eq_false c6), c7, c19, e20, (eq_true c21), (eq_false c24), (eq_true c29)]; done) | (simp_all [qStmt, qStmt2, qLoopStmt, qStep, qAt1, qWr, qWant, qPush, qSettle, qBlock, qWork, qNest]; done)
                        · (refine congrArg (wN a cI cZ o) ?_; first | (simp [qStmt, qStmt2, qLoopStmt, qStep, qAt1, qWr, qWant, qPush, qSettle, qBlock, qWork, qNest, (eq_false c1), c2, (eq_false c3), (eq_true c4), (eq_false c5), (eq_false c6), c7, c19, e20, (eq_true c21), (eq_false c24), (eq_true c29)]; done) | (simp_all [qStmt, qStmt2, qLoopStmt, qStep, qAt1, qWr, qWant, qPush, qSettle, qBlock, qWork, qNest]; done))
                · skip
                  replace c19 : isLoopF q.2.2.2.2.2.2.2.2.2.2.2.2.2.2.1 q.2.2.2.2.2.2.2.2.2.2.2.2.2.2.2.2.2.1 ((hereN o.2.1 o.2.2.1 (q.2.1 + 1)) - (97 : Int32)) = true := b2i_n0.mp c19
                  refine Z.aload_n C dX4_statement_264 2 rfl rfl ?_
                  refine Z.aload_n C dX4_statement_265 2 rfl rfl ?_
                  refine Z.get C in4 0 rfl rfl 28 (by decide) (by decide +kernel) rfl rfl dX4_statement_266 ?_
                  refine Z.callVv C (nA := 1) (As := [.int (nI (q.2.1 + 1))]) (st := []) (c_wrong o (q.1, q.2.1 + 1, q.2.2.1, q.2.2.2.1, q.2.2.2.2.1, q.2.2.2.2.2.1, q.2.2.2.2.2.2.1, q.2.2.2.2.2.2.2.1, q.2.2.2.2.2.2.2.2.1, q.2.2.2.2.2.2.2.2.2.1, q.2.2.2.2.2.2.2.2.2.2.1, q.2.2.2.2.2.2.2.2.2.2.2.1, q.2.2.2.2.2.2.2.2.2.2.2.2.1, q.2.2.2.2.2.2.2.2.2.2.2.2.2.1, q.2.2.2.2.2.2.2.2.2.2.2.2.2.2.1, q.2.2.2.2.2.2.2.2.2.2.2.2.2.2.2.1, q.2.2.2.2.2.2.2.2.2.2.2.2.2.2.2.2.1, q.2.2.2.2.2.2.2.2.2.2.2.2.2.2.2.2.2.1, q.2.2.2.2.2.2.2.2.2.2.2.2.2.2.2.2.2.2 + 1) (q.2.1 + 1)  (by first | omega | (dsimp only; omega))) gX4_statement_X4_wrong rfl (by decide +kernel) (rm_ok (by omega) (by decide)) 0 rfl rfl rfl (Nat.le_of_ble_eq_true rfl) rfl dX4_statement_269 ?_
                  have w30 : wrF q.1 (q.2.1 + 1) < 1000 := wrF_b (by first | omega | (dsimp only; omega)) (by first | omega | (dsimp only; omega))
                  refine Z.aload_n C dX4_statement_272 2 rfl rfl ?_
                  refine Z.dup C dX4_statement_273 rfl ?_
                  refine Z.get C in4 0 rfl rfl 28 (by decide) (by decide +kernel) rfl rfl dX4_statement_274 ?_
                  refine Z.iconst C (v := (nI 1)) dX4_statement_277 (by decide) ?_
                  refine Z.iadd C (v := (nI (q.2.1 + 1 + 1))) dX4_statement_278 (nI_add (q.2.1 + 1) 1) ?_
                  refine Z.put C in4 0 rfl rfl 28 (by decide) tyX4 tyX4_ok nmX4 (by decide +kernel) rfl rfl rfl rfl (Nat.le_of_ble_eq_true rfl) dX4_statement_279 (w' := (wN a cI cZ o (wrF q.1 (q.2.1 + 1), q.2.1 + 1 + 1, q.2.2.1, q.2.2.2.1, q.2.2.2.2.1, q.2.2.2.2.2.1, q.2.2.2.2.2.2.1, q.2.2.2.2.2.2.2.1, q.2.2.2.2.2.2.2.2.1, q.2.2.2.2.2.2.2.2.2.1, q.2.2.2.2.2.2.2.2.2.2.1, q.2.2.2.2.2.2.2.2.2.2.2.1, q.2.2.2.2.2.2.2.2.2.2.2.2.1, q.2.2.2.2.2.2.2.2.2.2.2.2.2.1, q.2.2.2.2.2.2.2.2.2.2.2.2.2.2.1, q.2.2.2.2.2.2.2.2.2.2.2.2.2.2.2.1, q.2.2.2.2.2.2.2.2.2.2.2.2.2.2.2.2.1, q.2.2.2.2.2.2.2.2.2.2.2.2.2.2.2.2.2.1, q.2.2.2.2.2.2.2.2.2.2.2.2.2.2.2.2.2.2 + 1))) rfl ?_
                  refine Z.aload_n C dX4_statement_282 2 rfl rfl ?_
                  refine Z.get C in4 0 rfl rfl 28 (by decide) (by decide +kernel) rfl rfl dX4_statement_283 ?_
                  refine Z.istore_n C (lv' := [(3, .int (nI (q.2.1 + 1 + 1))), (2, .int ((hereN o.2.1 o.2.2.1 (q.2.1 + 1)) - (97 : Int32))), (1, .int (hereN o.2.1 o.2.2.1 q.2.1)), (0, .ref (a 0))]) dX4_statement_286 rfl (by decide) rfl ?_
                  refine Z.aload_n C dX4_statement_287 3 rfl rfl ?_
                  refine Z.lconst C (v := lN 1) dX4_statement_288 (by decide) ?_
                  refine Z.ldc2 C (v := lN 64) dX4_statement_289 (by decide +kernel) ?_
                  refine Z.callVv C (nA := 2) (As := [.long (lN 1), .long (lN 64)]) (st := []) (c_readNumberN o (wrF q.1 (q.2.1 + 1), q.2.1 + 1 + 1, q.2.2.1, q.2.2.2.1, q.2.2.2.2.1, q.2.2.2.2.2.1, q.2.2.2.2.2.2.1, q.2.2.2.2.2.2.2.1, q.2.2.2.2.2.2.2.2.1, q.2.2.2.2.2.2.2.2.2.1, q.2.2.2.2.2.2.2.2.2.2.1, q.2.2.2.2.2.2.2.2.2.2.2.1, q.2.2.2.2.2.2.2.2.2.2.2.2.1, q.2.2.2.2.2.2.2.2.2.2.2.2.2.1, q.2.2.2.2.2.2.2.2.2.2.2.2.2.2.1, q.2.2.2.2.2.2.2.2.2.2.2.2.2.2.2.1, q.2.2.2.2.2.2.2.2.2.2.2.2.2.2.2.2.1, q.2.2.2.2.2.2.2.2.2.2.2.2.2.2.2.2.2.1, q.2.2.2.2.2.2.2.2.2.2.2.2.2.2.2.2.2.2 + 1) 1 64 (by first | omega | (dsimp only; omega)) (by first | omega | (dsimp only; omega)) (by first | omega | (dsimp only; omega))) gX4_statement_X4_readNumber rfl (by decide +kernel) (rm_ok (by omega) (by decide)) 0 rfl rfl rfl (Nat.le_of_ble_eq_true rfl) rfl dX4_statement_292 ?_
                  generalize e31 : qNumber o.2.1 o.2.2.1 1 64 (wrF q.1 (q.2.1 + 1), q.2.1 + 1 + 1, q.2.2.1, q.2.2.2.1, q.2.2.2.2.1, q.2.2.2.2.2.1, q.2.2.2.2.2.2.1, q.2.2.2.2.2.2.2.1, q.2.2.2.2.2.2.2.2.1, q.2.2.2.2.2.2.2.2.2.1, q.2.2.2.2.2.2.2.2.2.2.1, q.2.2.2.2.2.2.2.2.2.2.2.1, q.2.2.2.2.2.2.2.2.2.2.2.2.1, q.2.2.2.2.2.2.2.2.2.2.2.2.2.1, q.2.2.2.2.2.2.2.2.2.2.2.2.2.2.1, q.2.2.2.2.2.2.2.2.2.2.2.2.2.2.2.1, q.2.2.2.2.2.2.2.2.2.2.2.2.2.2.2.2.1, q.2.2.2.2.2.2.2.2.2.2.2.2.2.2.2.2.2.1, q.2.2.2.2.2.2.2.2.2.2.2.2.2.2.2.2.2.2 + 1) = x31
                  have n31 := qNumber_at (tx := o.2.1) (len := o.2.2.1) (lo := 1) (hi := 64) (q := (wrF q.1 (q.2.1 + 1), q.2.1 + 1 + 1, q.2.2.1, q.2.2.2.1, q.2.2.2.2.1, q.2.2.2.2.2.1, q.2.2.2.2.2.2.1, q.2.2.2.2.2.2.2.1, q.2.2.2.2.2.2.2.2.1, q.2.2.2.2.2.2.2.2.2.1, q.2.2.2.2.2.2.2.2.2.2.1, q.2.2.2.2.2.2.2.2.2.2.2.1, q.2.2.2.2.2.2.2.2.2.2.2.2.1, q.2.2.2.2.2.2.2.2.2.2.2.2.2.1, q.2.2.2.2.2.2.2.2.2.2.2.2.2.2.1, q.2.2.2.2.2.2.2.2.2.2.2.2.2.2.2.1, q.2.2.2.2.2.2.2.2.2.2.2.2.2.2.2.2.1, q.2.2.2.2.2.2.2.2.2.2.2.2.2.2.2.2.2.1, q.2.2.2.2.2.2.2.2.2.2.2.2.2.2.2.2.2.2 + 1)) (N := 488) (by omega) (by first | omega | (dsimp only; omega))
                  rw [e31] at n31
                  obtain ⟨n31a, n31b⟩ := n31
                  have n31d : x31.2.2.2.2.2.1 = q.2.2.2.2.2.1 := by rw [show x31.2.2.2.2.2.1 = (wrF q.1 (q.2.1 + 1), q.2.1 + 1 + 1, q.2.2.1, q.2.2.2.1, q.2.2.2.2.1, q.2.2.2.2.2.1, q.2.2.2.2.2.2.1, q.2.2.2.2.2.2.2.1, q.2.2.2.2.2.2.2.2.1, q.2.2.2.2.2.2.2.2.2.1, q.2.2.2.2.2.2.2.2.2.2.1, q.2.2.2.2.2.2.2.2.2.2.2.1, q.2.2.2.2.2.2.2.2.2.2.2.2.1, q.2.2.2.2.2.2.2.2.2.2.2.2.2.1, q.2.2.2.2.2.2.2.2.2.2.2.2.2.2.1, q.2.2.2.2.2.2.2.2.2.2.2.2.2.2.2.1, q.2.2.2.2.2.2.2.2.2.2.2.2.2.2.2.2.1, q.2.2.2.2.2.2.2.2.2.2.2.2.2.2.2.2.2.1, q.2.2.2.2.2.2.2.2.2.2.2.2.2.2.2.2.2.2 + 1).2.2.2.2.2.1 from congrArg (fun z => z.2.2.1) n31b]
                  have n31o : x31.2.2.2.2.2.2.2.2.2.1 = q.2.2.2.2.2.2.2.2.2.1 := by rw [show x31.2.2.2.2.2.2.2.2.2.1 = (wrF q.1 (q.2.1 + 1), q.2.1 + 1 + 1, q.2.2.1, q.2.2.2.1, q.2.2.2.2.1, q.2.2.2.2.2.1, q.2.2.2.2.2.2.1, q.2.2.2.2.2.2.2.1, q.2.2.2.2.2.2.2.2.1, q.2.2.2.2.2.2.2.2.2.1, q.2.2.2.2.2.2.2.2.2.2.1, q.2.2.2.2.2.2.2.2.2.2.2.1, q.2.2.2.2.2.2.2.2.2.2.2.2.1, q.2.2.2.2.2.2.2.2.2.2.2.2.2.1, q.2.2.2.2.2.2.2.2.2.2.2.2.2.2.1, q.2.2.2.2.2.2.2.2.2.2.2.2.2.2.2.1, q.2.2.2.2.2.2.2.2.2.2.2.2.2.2.2.2.1, q.2.2.2.2.2.2.2.2.2.2.2.2.2.2.2.2.2.1, q.2.2.2.2.2.2.2.2.2.2.2.2.2.2.2.2.2.2 + 1).2.2.2.2.2.2.2.2.2.1 from congrArg (fun z => z.2.2.2.2.2.2.1) n31b]
                  have n31s : x31.2.2.2.2.2.2.2.2.2.2.2.2.1 = q.2.2.2.2.2.2.2.2.2.2.2.2.1 := by rw [show x31.2.2.2.2.2.2.2.2.2.2.2.2.1 = (wrF q.1 (q.2.1 + 1), q.2.1 + 1 + 1, q.2.2.1, q.2.2.2.1, q.2.2.2.2.1, q.2.2.2.2.2.1, q.2.2.2.2.2.2.1, q.2.2.2.2.2.2.2.1, q.2.2.2.2.2.2.2.2.1, q.2.2.2.2.2.2.2.2.2.1, q.2.2.2.2.2.2.2.2.2.2.1, q.2.2.2.2.2.2.2.2.2.2.2.1, q.2.2.2.2.2.2.2.2.2.2.2.2.1, q.2.2.2.2.2.2.2.2.2.2.2.2.2.1, q.2.2.2.2.2.2.2.2.2.2.2.2.2.2.1, q.2.2.2.2.2.2.2.2.2.2.2.2.2.2.2.1, q.2.2.2.2.2.2.2.2.2.2.2.2.2.2.2.2.1, q.2.2.2.2.2.2.2.2.2.2.2.2.2.2.2.2.2.1, q.2.2.2.2.2.2.2.2.2.2.2.2.2.2.2.2.2.2 + 1).2.2.2.2.2.2.2.2.2.2.2.2.1 from congrArg (fun z => z.2.2.2.2.2.2.2.2.2.1) n31b]
                  have n31b : x31.2.2.2.2.2.2.2.2.2.2.2.2.2.2.2.2.2.1 = q.2.2.2.2.2.2.2.2.2.2.2.2.2.2.2.2.2.1 := by rw [show x31.2.2.2.2.2.2.2.2.2.2.2.2.2.2.2.2.2.1 = (wrF q.1 (q.2.1 + 1), q.2.1 + 1 + 1, q.2.2.1, q.2.2.2.1, q.2.2.2.2.1, q.2.2.2.2.2.1, q.2.2.2.2.2.2.1, q.2.2.2.2.2.2.2.1, q.2.2.2.2.2.2.2.2.1, q.2.2.2.2.2.2.2.2.2.1, q.2.2.2.2.2.2.2.2.2.2.1, q.2.2.2.2.2.2.2.2.2.2.2.1, q.2.2.2.2.2.2.2.2.2.2.2.2.1, q.2.2.2.2.2.2.2.2.2.2.2.2.2.1, q.2.2.2.2.2.2.2.2.2.2.2.2.2.2.1, q.2.2.2.2.2.2.2.2.2.2.2.2.2.2.2.1, q.2.2.2.2.2.2.2.2.2.2.2.2.2.2.2.2.1, q.2.2.2.2.2.2.2.2.2.2.2.2.2.2.2.2.2.1, q.2.2.2.2.2.2.2.2.2.2.2.2.2.2.2.2.2.2 + 1).2.2.2.2.2.2.2.2.2.2.2.2.2.2.2.2.2.1 from congrArg (fun z => z.2.2.2.2.2.2.2.2.2.2.2.2.2.2.1) n31b]
                  have n31f : x31.1 < 1000 := by rw [← e31]; exact qNumber_f (by first | omega | (dsimp only; omega)) (by first | omega | (dsimp only; omega)) (by first | omega | (dsimp only; omega))
                  refine Z.aload_n C dX4_statement_295 3 rfl rfl ?_
                  refine Z.get C in4 0 rfl rfl 3 (by decide) (by decide +kernel) rfl rfl dX4_statement_296 ?_
                  refine Z.if_ne C 328 dX4_statement_299 (by decide) (fun c32 => ?_) (fun c32 => ?_)
                  · skip
                    replace c32 : ¬ x31.1 = 0 := mt (nI_eq (by omega) (by omega)).mpr c32
                    refine Z.aload_n C dX4_statement_328 3 rfl rfl ?_
                    refine Z.bipush C (v := (nI 123)) dX4_statement_329 (by decide) ?_
                    refine Z.callVv C (nA := 1) (As := [.int (123 : Int32)]) (st := []) (c_want o x31 (123 : Int32)  (by first | omega | (dsimp only; omega)) (by first | omega | (dsimp only; omega)) (by first | omega | (dsimp only; omega))) gX4_statement_X4_want rfl (by decide +kernel) (rm_ok (by omega) (by decide)) 0 rfl rfl rfl (Nat.le_of_ble_eq_true rfl) rfl dX4_statement_331 ?_
                    have w33 : wanF o.2.1 o.2.2.1 (123 : Int32) x31.2.1 x31.1 < 1000 := wanF_b (by first | omega | (dsimp only; omega)) (by first | omega | (dsimp only; omega))
                    refine Z.aload_n C dX4_statement_334 3 rfl rfl ?_
                    refine Z.get C in4 0 rfl rfl 3 (by decide) (by decide +kernel) rfl rfl dX4_statement_335 ?_
                    refine Z.if_ne C 382 dX4_statement_338 (by decide) (fun c34 => ?_) (fun c34 => ?_)
                    · skip
                      replace c34 : ¬ (wanF o.2.1 o.2.2.1 (123 : Int32) x31.2.1 x31.1) = 0 := mt (nI_eq (by omega) (by omega)).mpr c34
                      refine Z.iconst C (v := (nI 0)) dX4_statement_382 (by decide) ?_
                      refine Z.iret C hr hA dX4_statement_383 ?_ ?_
                      · first | (simp [qStmt, qStmt2, qLoopStmt, qStep, qAt1, qWr, qWant, qPush, qSettle, qBlock, qWork, qNest, (eq_false c1), c2, (eq_false c3), (eq_true c4), (eq_false c5), (eq_false c6), c7, c19, e31, (eq_false c32), (eq_false c34)]; done) | (simp_all [qStmt, qStmt2, qLoopStmt, qStep, qAt1, qWr, qWant, qPush, qSettle, qBlock, qWork, qNest]; done)
                      · (refine congrArg (wN a cI cZ o) ?_; first | (simp [qStmt, qStmt2, qLoopStmt, qStep, qAt1, qWr, qWant, qPush, qSettle, qBlock, qWork, qNest, (eq_false c1), c2, (eq_false c3), (eq_true c4), (eq_false c5), (eq_false c6), c7, c19, e31, (eq_false c32), (eq_false c34)]; done) | (simp_all [qStmt, qStmt2, qLoopStmt, qStep, qAt1, qWr, qWant, qPush, qSettle, qBlock, qWork, qNest]; done))
                    · skip
                      replace c34 : (wanF o.2.1 o.2.2.1 (123 : Int32) x31.2.1 x31.1) = 0 := (nI_eq (by omega) (by omega)).mp c34
                      refine Z.aload_n C dX4_statement_341 3 rfl rfl ?_
                      refine Z.bipush C (v := (nI 10)) dX4_statement_342 (by decide) ?_
                      refine Z.iload_n C dX4_statement_344 1 rfl rfl ?_
                      refine Z.callVv C (nA := 2) (As := [.int (10 : Int32), .int ((hereN o.2.1 o.2.2.1 (q.2.1 + 1)) - (97 : Int32))]) (st := []) (c_step o (wanF o.2.1 o.2.2.1 (123 : Int32) x31.2.1 x31.1, x31.2.1 + 1, x31.2.2) (10 : Int32) ((hereN o.2.1 o.2.2.1 (q.2.1 + 1)) - (97 : Int32))  (by first | omega | (dsimp only; omega))) gX4_statement_X4_step rfl (by decide +kernel) (rm_ok (by omega) (by decide)) 0 rfl rfl rfl (Nat.le_of_ble_eq_true rfl) rfl dX4_statement_345 ?_
                      refine Z.aload_n C dX4_statement_348 3 rfl rfl ?_
                      refine Z.aload_n C dX4_statement_349 3 rfl rfl ?_
                      refine Z.get C in4 0 rfl rfl 29 (by decide) (by decide +kernel) rfl rfl dX4_statement_350 ?_
                      refine Z.l2i C (v := (nI x31.2.2.1)) dX4_statement_353 (lN_i x31.2.2.1) ?_
                      refine Z.iconst C (v := (nI 0)) dX4_statement_354 (by decide) ?_
                      refine Z.callVv C (nA := 2) (As := [.int (nI x31.2.2.1), .int (0 : Int32)]) (st := []) (c_step o (wanF o.2.1 o.2.2.1 (123 : Int32) x31.2.1 x31.1, x31.2.1 + 1, x31.2.2.1, (upd x31.2.2.2.1 x31.2.2.2.2.2.1 (10 : Int32)), (upd x31.2.2.2.2.1 x31.2.2.2.2.2.1 ((hereN o.2.1 o.2.2.1 (q.2.1 + 1)) - (97 : Int32))), x31.2.2.2.2.2.1 + 1, x31.2.2.2.2.2.2) (nI x31.2.2.1) (0 : Int32)  (by first | omega | (dsimp only; omega))) gX4_statement_X4_step rfl (by decide +kernel) (rm_ok (by omega) (by decide)) 0 rfl rfl rfl (Nat.le_of_ble_eq_true rfl) rfl dX4_statement_355 ?_
                      refine Z.aload_n C dX4_statement_358 3 rfl rfl ?_
                      refine Z.iload_n C dX4_statement_359 1 rfl rfl ?_
                      refine Z.aload_n C dX4_statement_360 3 rfl rfl ?_
                      refine Z.get C in4 0 rfl rfl 10 (by decide) (by decide +kernel) rfl rfl dX4_statement_361 ?_
                      refine Z.aload_n C dX4_statement_364 3 rfl rfl ?_
                      refine Z.get C in4 0 rfl rfl 26 (by decide) (by decide +kernel) rfl rfl dX4_statement_365 ?_
                      refine Z.aload_n C dX4_statement_368 3 rfl rfl ?_
                      refine Z.get C in4 0 rfl rfl 27 (by decide) (by decide +kernel) rfl rfl dX4_statement_369 ?_
                      refine Z.iald C 15 0 rfl rfl x31.2.2.2.2.2.2.2.2.2.2.2.2.2.2.2.2.2.1 rfl (by omega) (by decide) dX4_statement_372 (v := (x31.2.2.2.2.2.2.2.2.2.2.2.2.2.2.2.2.1 x31.2.2.2.2.2.2.2.2.2.2.2.2.2.2.2.2.2.1)) rfl ?_
                      refine Z.aload_n C dX4_statement_373 3 rfl rfl ?_
                      refine Z.get C in4 0 rfl rfl 29 (by decide) (by decide +kernel) rfl rfl dX4_statement_374 ?_
                      refine Z.l2i C (v := (nI x31.2.2.1)) dX4_statement_377 (lN_i x31.2.2.1) ?_
                      refine Z.imul C (v := ((x31.2.2.2.2.2.2.2.2.2.2.2.2.2.2.2.2.1 x31.2.2.2.2.2.2.2.2.2.2.2.2.2.2.2.2.2.1) * (nI x31.2.2.1))) dX4_statement_378 rfl ?_
                      refine Z.callVv C (nA := 3) (As := [.int ((hereN o.2.1 o.2.2.1 (q.2.1 + 1)) - (97 : Int32)), .int (nI (x31.2.2.2.2.2.1 + 1 + 1)), .int ((x31.2.2.2.2.2.2.2.2.2.2.2.2.2.2.2.2.1 x31.2.2.2.2.2.2.2.2.2.2.2.2.2.2.2.2.2.1) * (nI x31.2.2.1))]) (st := []) (c_blockN o (wanF o.2.1 o.2.2.1 (123 : Int32) x31.2.1 x31.1, x31.2.1 + 1, x31.2.2.1, (upd (upd x31.2.2.2.1 x31.2.2.2.2.2.1 (10 : Int32)) (x31.2.2.2.2.2.1 + 1) (nI x31.2.2.1)), (upd (upd x31.2.2.2.2.1 x31.2.2.2.2.2.1 ((hereN o.2.1 o.2.2.1 (q.2.1 + 1)) - (97 : Int32))) (x31.2.2.2.2.2.1 + 1) (0 : Int32)), x31.2.2.2.2.2.1 + 1 + 1, x31.2.2.2.2.2.2) ((hereN o.2.1 o.2.2.1 (q.2.1 + 1)) - (97 : Int32)) (nI (x31.2.2.2.2.2.1 + 1 + 1)) ((x31.2.2.2.2.2.2.2.2.2.2.2.2.2.2.2.2.1 x31.2.2.2.2.2.2.2.2.2.2.2.2.2.2.2.2.2.1) * (nI x31.2.2.1))  (by first | omega | (dsimp only; omega))) gX4_statement_X4_block rfl (by decide +kernel) (rm_ok (by omega) (by decide)) 0 rfl rfl rfl (Nat.le_of_ble_eq_true rfl) rfl dX4_statement_379 ?_
                      refine Z.iconst C (v := (nI 0)) dX4_statement_382 (by decide) ?_
                      refine Z.iret C hr hA dX4_statement_383 ?_ ?_
                      · first | (simp [qStmt, qStmt2, qLoopStmt, qStep, qAt1, qWr, qWant, qPush, qSettle, qBlock, qWork, qNest, (eq_false c1), c2, (eq_false c3), (eq_true c4), (eq_false c5), (eq_false c6), c7, c19, e31, (eq_false c32), (eq_true c34)]; done) | (simp_all [qStmt, qStmt2, qLoopStmt, qStep, qAt1, qWr, qWant, qPush, qSettle, qBlock, qWork, qNest]; done)
                      · (refine congrArg (wN a cI cZ o) ?_; first | (simp [qStmt, qStmt2, qLoopStmt, qStep, qAt1, qWr, qWant, qPush, qSettle, qBlock, qWork, qNest, (eq_false c1), c2, (eq_false c3), (eq_true c4), (eq_false c5), (eq_false c6), c7, c19, e31, (eq_false c32), (eq_true c34)]; done) | (simp_all [qStmt, qStmt2, qLoopStmt, qStep, qAt1, qWr, qWant, qPush, qSettle, qBlock, qWork, qNest]; done))
                  · skip
                    replace c32 : x31.1 = 0 := (nI_eq (by omega) (by omega)).mp c32
                    refine Z.aload_n C dX4_statement_302 3 rfl rfl ?_
                    refine Z.get C in4 0 rfl rfl 26 (by decide) (by decide +kernel) rfl rfl dX4_statement_303 ?_
                    refine Z.aload_n C dX4_statement_306 3 rfl rfl ?_
                    refine Z.get C in4 0 rfl rfl 27 (by decide) (by decide +kernel) rfl rfl dX4_statement_307 ?_
                    refine Z.iald C 15 0 rfl rfl x31.2.2.2.2.2.2.2.2.2.2.2.2.2.2.2.2.2.1 rfl (by omega) (by decide) dX4_statement_310 (v := (x31.2.2.2.2.2.2.2.2.2.2.2.2.2.2.2.2.1 x31.2.2.2.2.2.2.2.2.2.2.2.2.2.2.2.2.2.1)) rfl ?_
                    refine Z.aload_n C dX4_statement_311 3 rfl rfl ?_
                    refine Z.get C in4 0 rfl rfl 29 (by decide) (by decide +kernel) rfl rfl dX4_statement_312 ?_
                    refine Z.l2i C (v := (nI x31.2.2.1)) dX4_statement_315 (lN_i x31.2.2.1) ?_
                    refine Z.imul C (v := ((x31.2.2.2.2.2.2.2.2.2.2.2.2.2.2.2.2.1 x31.2.2.2.2.2.2.2.2.2.2.2.2.2.2.2.2.2.1) * (nI x31.2.2.1))) dX4_statement_316 rfl ?_
                    refine Z.sipush C (v := (nI 640)) dX4_statement_317 (by decide) ?_
                    refine Z.icmp_le C 328 dX4_statement_320 (by decide) (fun c35 => ?_) (fun c35 => ?_)
                    · skip
                      replace c35 : ((x31.2.2.2.2.2.2.2.2.2.2.2.2.2.2.2.2.1 x31.2.2.2.2.2.2.2.2.2.2.2.2.2.2.2.2.2.1) * (nI x31.2.2.1)) ≤ (640 : Int32) := c35
                      refine Z.aload_n C dX4_statement_328 3 rfl rfl ?_
                      refine Z.bipush C (v := (nI 123)) dX4_statement_329 (by decide) ?_
                      refine Z.callVv C (nA := 1) (As := [.int (123 : Int32)]) (st := []) (c_want o x31 (123 : Int32)  (by first | omega | (dsimp only; omega)) (by first | omega | (dsimp only; omega)) (by first | omega | (dsimp only; omega))) gX4_statement_X4_want rfl (by decide +kernel) (rm_ok (by omega) (by decide)) 0 rfl rfl rfl (Nat.le_of_ble_eq_true rfl) rfl dX4_statement_331 ?_
                      have w36 : wanF o.2.1 o.2.2.1 (123 : Int32) x31.2.1 x31.1 < 1000 := wanF_b (by first | omega | (dsimp only; omega)) (by first | omega | (dsimp only; omega))
                      refine Z.aload_n C dX4_statement_334 3 rfl rfl ?_
                      refine Z.get C in4 0 rfl rfl 3 (by decide) (by decide +kernel) rfl rfl dX4_statement_335 ?_
                      refine Z.if_ne C 382 dX4_statement_338 (by decide) (fun c37 => ?_) (fun c37 => ?_)
                      · skip
                        replace c37 : ¬ (wanF o.2.1 o.2.2.1 (123 : Int32) x31.2.1 x31.1) = 0 := mt (nI_eq (by omega) (by omega)).mpr c37
                        refine Z.iconst C (v := (nI 0)) dX4_statement_382 (by decide) ?_
                        refine Z.iret C hr hA dX4_statement_383 ?_ ?_
                        · first | (simp [qStmt, qStmt2, qLoopStmt, qStep, qAt1, qWr, qWant, qPush, qSettle, qBlock, qWork, qNest, (eq_false c1), c2, (eq_false c3), (eq_true c4), (eq_false c5), (eq_false c6), c7, c19, e31, (eq_true c32), (eq_true c35), (eq_false c37)]; done) | (simp_all [qStmt, qStmt2, qLoopStmt, qStep, qAt1, qWr, qWant, qPush, qSettle, qBlock, qWork, qNest]; done)
                        · (refine congrArg (wN a cI cZ o) ?_; first | (simp [qStmt, qStmt2, qLoopStmt, qStep, qAt1, qWr, qWant, qPush, qSettle, qBlock, qWork, qNest, (eq_false c1), c2, (eq_false c3), (eq_true c4), (eq_false c5), (eq_false c6), c7, c19, e31, (eq_true c32), (eq_true c35), (eq_false c37)]; done) | (simp_all [qStmt, qStmt2, qLoopStmt, qStep, qAt1, qWr, qWant, qPush, qSettle, qBlock, qWork, qNest]; done))
                      · skip
                        replace c37 : (wanF o.2.1 o.2.2.1 (123 : Int32) x31.2.1 x31.1) = 0 := (nI_eq (by omega) (by omega)).mp c37
                        refine Z.aload_n C dX4_statement_341 3 rfl rfl ?_
                        refine Z.bipush C (v := (nI 10)) dX4_statement_342 (by decide) ?_
                        refine Z.iload_n C dX4_statement_344 1 rfl rfl ?_
                        refine Z.callVv C (nA := 2) (As := [.int (10 : Int32), .int ((hereN o.2.1 o.2.2.1 (q.2.1 + 1)) - (97 : Int32))]) (st := []) (c_step o (wanF o.2.1 o.2.2.1 (123 : Int32) x31.2.1 x31.1, x31.2.1 + 1, x31.2.2) (10 : Int32) ((hereN o.2.1 o.2.2.1 (q.2.1 + 1)) - (97 : Int32))  (by first | omega | (dsimp only; omega))) gX4_statement_X4_step rfl (by decide +kernel) (rm_ok (by omega) (by decide)) 0 rfl rfl rfl (Nat.le_of_ble_eq_true rfl) rfl dX4_statement_345 ?_
                        refine Z.aload_n C dX4_statement_348 3 rfl rfl ?_
                        refine Z.aload_n C dX4_statement_349 3 rfl rfl ?_
                        refine Z.get C in4 0 rfl rfl 29 (by decide) (by decide +kernel) rfl rfl dX4_statement_350 ?_
                        refine Z.l2i C (v := (nI x31.2.2.1)) dX4_statement_353 (lN_i x31.2.2.1) ?_
                        refine Z.iconst C (v := (nI 0)) dX4_statement_354 (by decide) ?_
                        refine Z.callVv C (nA := 2) (As := [.int (nI x31.2.2.1), .int (0 : Int32)]) (st := []) (c_step o (wanF o.2.1 o.2.2.1 (123 : Int32) x31.2.1 x31.1, x31.2.1 + 1, x31.2.2.1, (upd x31.2.2.2.1 x31.2.2.2.2.2.1 (10 : Int32)), (upd x31.2.2.2.2.1 x31.2.2.2.2.2.1 ((hereN o.2.1 o.2.2.1 (q.2.1 + 1)) - (97 : Int32))), x31.2.2.2.2.2.1 + 1, x31.2.2.2.2.2.2) (nI x31.2.2.1) (0 : Int32)  (by first | omega | (dsimp only; omega))) gX4_statement_X4_step rfl (by decide +kernel) (rm_ok (by omega) (by decide)) 0 rfl rfl rfl (Nat.le_of_ble_eq_true rfl) rfl dX4_statement_355 ?_
                        refine Z.aload_n C dX4_statement_358 3 rfl rfl ?_
                        refine Z.iload_n C dX4_statement_359 1 rfl rfl ?_
                        refine Z.aload_n C dX4_statement_360 3 rfl rfl ?_
                        refine Z.get C in4 0 rfl rfl 10 (by decide) (by decide +kernel) rfl rfl dX4_statement_361 ?_
                        refine Z.aload_n C dX4_statement_364 3 rfl rfl ?_
                        refine Z.get C in4 0 rfl rfl 26 (by decide) (by decide +kernel) rfl rfl dX4_statement_365 ?_
                        refine Z.aload_n C dX4_statement_368 3 rfl rfl ?_
                        refine Z.get C in4 0 rfl rfl 27 (by decide) (by decide +kernel) rfl rfl dX4_statement_369 ?_
                        refine Z.iald C 15 0 rfl rfl x31.2.2.2.2.2.2.2.2.2.2.2.2.2.2.2.2.2.1 rfl (by omega) (by decide) dX4_statement_372 (v := (x31.2.2.2.2.2.2.2.2.2.2.2.2.2.2.2.2.1 x31.2.2.2.2.2.2.2.2.2.2.2.2.2.2.2.2.2.1)) rfl ?_
                        refine Z.aload_n C dX4_statement_373 3 rfl rfl ?_
                        refine Z.get C in4 0 rfl rfl 29 (by decide) (by decide +kernel) rfl rfl dX4_statement_374 ?_
                        refine Z.l2i C (v := (nI x31.2.2.1)) dX4_statement_377 (lN_i x31.2.2.1) ?_
                        refine Z.imul C (v := ((x31.2.2.2.2.2.2.2.2.2.2.2.2.2.2.2.2.1 x31.2.2.2.2.2.2.2.2.2.2.2.2.2.2.2.2.2.1) * (nI x31.2.2.1))) dX4_statement_378 rfl ?_
                        refine Z.callVv C (nA := 3) (As := [.int ((hereN o.2.1 o.2.2.1 (q.2.1 + 1)) - (97 : Int32)), .int (nI (x31.2.2.2.2.2.1 + 1 + 1)), .int ((x31.2.2.2.2.2.2.2.2.2.2.2.2.2.2.2.2.1 x31.2.2.2.2.2.2.2.2.2.2.2.2.2.2.2.2.2.1) * (nI x31.2.2.1))]) (st := []) (c_blockN o (wanF o.2.1 o.2.2.1 (123 : Int32) x31.2.1 x31.1, x31.2.1 + 1, x31.2.2.1, (upd (upd x31.2.2.2.1 x31.2.2.2.2.2.1 (10 : Int32)) (x31.2.2.2.2.2.1 + 1) (nI x31.2.2.1)), (upd (upd x31.2.2.2.2.1 x31.2.2.2.2.2.1 ((hereN o.2.1 o.2.2.1 (q.2.1 + 1)) - (97 : Int32))) (x31.2.2.2.2.2.1 + 1) (0 : Int32)), x31.2.2.2.2.2.1 + 1 + 1, x31.2.2.2.2.2.2) ((hereN o.2.1 o.2.2.1 (q.2.1 + 1)) - (97 : Int32)) (nI (x31.2.2.2.2.2.1 + 1 + 1)) ((x31.2.2.2.2.2.2.2.2.2.2.2.2.2.2.2.2.1 x31.2.2.2.2.2.2.2.2.2.2.2.2.2.2.2.2.2.1) * (nI x31.2.2.1))  (by first | omega | (dsimp only; omega))) gX4_statement_X4_block rfl (by decide +kernel) (rm_ok (by omega) (by decide)) 0 rfl rfl rfl (Nat.le_of_ble_eq_true rfl) rfl dX4_statement_379 ?_
                        refine Z.iconst C (v := (nI 0)) dX4_statement_382 (by decide) ?_
                        refine Z.iret C hr hA dX4_statement_383 ?_ ?_
                        · first | (simp [qStmt, qStmt2, qLoopStmt, qStep, qAt1, qWr, qWant, qPush, qSettle, qBlock, qWork, qNest, (eq_false c1), c2, (eq_false c3), (eq_true c4), (eq_false c5), (eq_false c6), c7, c19, e31, (eq_true c32), (eq_true c35), (eq_true c37)]; done) | (simp_all [qStmt, qStmt2, qLoopStmt, qStep, qAt1, qWr, qWant, qPush, qSettle, qBlock, qWork, qNest]; done)
                        · (refine congrArg (wN a cI cZ o) ?_; first | (simp [qStmt, qStmt2, qLoopStmt, qStep, qAt1, qWr, qWant, qPush, qSettle, qBlock, qWork, qNest, (eq_false c1), c2, (eq_false c3), (eq_true c4), (eq_false c5), (eq_false c6), c7, c19, e31, (eq_true c32), (eq_true c35), (eq_true c37)]; done) | (simp_all [qStmt, qStmt2, qLoopStmt, qStep, qAt1, qWr, qWant, qPush, qSettle, qBlock, qWork, qNest]; done))
                    · skip
                      replace c35 : ¬ ((x31.2.2.2.2.2.2.2.2.2.2.2.2.2.2.2.2.1 x31.2.2.2.2.2.2.2.2.2.2.2.2.2.2.2.2.2.1) * (nI x31.2.2.1)) ≤ (640 : Int32) := c35
                      refine Z.aload_n C dX4_statement_323 3 rfl rfl ?_
                      refine Z.iload_n C dX4_statement_324 0 rfl rfl ?_
                      refine Z.callVv C (nA := 1) (As := [.int (nI (q.2.1 + 1 + 1))]) (st := []) (c_wrong o x31 (q.2.1 + 1 + 1)  (by first | omega | (dsimp only; omega))) gX4_statement_X4_wrong rfl (by decide +kernel) (rm_ok (by omega) (by decide)) 0 rfl rfl rfl (Nat.le_of_ble_eq_true rfl) rfl dX4_statement_325 ?_
                      have w38 : wrF x31.1 (q.2.1 + 1 + 1) < 1000 := wrF_b (by first | omega | (dsimp only; omega)) (by first | omega | (dsimp only; omega))
                      refine Z.aload_n C dX4_statement_328 3 rfl rfl ?_
                      refine Z.bipush C (v := (nI 123)) dX4_statement_329 (by decide) ?_
                      refine Z.callVv C (nA := 1) (As := [.int (123 : Int32)]) (st := []) (c_want o (wrF x31.1 (q.2.1 + 1 + 1), x31.2) (123 : Int32)  (by first | omega | (dsimp only; omega)) (by first | omega | (dsimp only; omega)) (by first | omega | (dsimp only; omega))) gX4_statement_X4_want rfl (by decide +kernel) (rm_ok (by omega) (by decide)) 0 rfl rfl rfl (Nat.le_of_ble_eq_true rfl) rfl dX4_statement_331 ?_
                      have w39 : wanF o.2.1 o.2.2.1 (123 : Int32) x31.2.1 (wrF x31.1 (q.2.1 + 1 + 1)) < 1000 := wanF_b (by first | omega | (dsimp only; omega)) (by first | omega | (dsimp only; omega))
                      refine Z.aload_n C dX4_statement_334 3 rfl rfl ?_
                      refine Z.get C in4 0 rfl rfl 3 (by decide) (by decide +kernel) rfl rfl dX4_statement_335 ?_
                      refine Z.if_ne C 382 dX4_statement_338 (by decide) (fun c40 => ?_) (fun c40 => ?_)
                      · skip
                        replace c40 : ¬ (wanF o.2.1 o.2.2.1 (123 : Int32) x31.2.1 (wrF x31.1 (q.2.1 + 1 + 1))) = 0 := mt (nI_eq (by omega) (by omega)).mpr c40
                        refine Z.iconst C (v := (nI 0)) dX4_statement_382 (by decide) ?_
                        refine Z.iret C hr hA dX4_statement_383 ?_ ?_
                        · first | (simp [qStmt, qStmt2, qLoopStmt, qStep, qAt1, qWr, qWant, qPush, qSettle, qBlock, qWork, qNest, (eq_false c1), c2, (eq_false c3), (eq_true c4), (eq_false c5), (eq_false c6), c7, c19, e31, (eq_true c32), (eq_false c35), (eq_false c40)]; done) | (simp_all [qStmt, qStmt2, qLoopStmt, qStep, qAt1, qWr, qWant, qPush, qSettle, qBlock, qWork, qNest]; done)
                        · (refine congrArg (wN a cI cZ o) ?_; first | (simp [qStmt, qStmt2, qLoopStmt, qStep, qAt1, qWr, qWant, qPush, qSettle, qBlock, qWork, qNest, (eq_false c1), c2, (eq_false c3), (eq_true c4), (eq_false c5), (eq_false c6), c7, c19, e31, (eq_true c32), (eq_false c35), (eq_false c40)]; done) | (simp_all [qStmt, qStmt2, qLoopStmt, qStep, qAt1, qWr, qWant, qPush, qSettle, qBlock, qWork, qNest]; done))
                      · skip
                        replace c40 : (wanF o.2.1 o.2.2.1 (123 : Int32) x31.2.1 (wrF x31.1 (q.2.1 + 1 + 1))) = 0 := (nI_eq (by omega) (by omega)).mp c40
                        refine Z.aload_n C dX4_statement_341 3 rfl rfl ?_
                        refine Z.bipush C (v := (nI 10)) dX4_statement_342 (by decide) ?_
                        refine Z.iload_n C dX4_statement_344 1 rfl rfl ?_
                        refine Z.callVv C (nA := 2) (As := [.int (10 : Int32), .int ((hereN o.2.1 o.2.2.1 (q.2.1 + 1)) - (97 : Int32))]) (st := []) (c_step o (wanF o.2.1 o.2.2.1 (123 : Int32) x31.2.1 (wrF x31.1 (q.2.1 + 1 + 1)), x31.2.1 + 1, x31.2.2) (10 : Int32) ((hereN o.2.1 o.2.2.1 (q.2.1 + 1)) - (97 : Int32))  (by first | omega | (dsimp only; omega))) gX4_statement_X4_step rfl (by decide +kernel) (rm_ok (by omega) (by decide)) 0 rfl rfl rfl (Nat.le_of_ble_eq_true rfl) rfl dX4_statement_345 ?_
                        refine Z.aload_n C dX4_statement_348 3 rfl rfl ?_
                        refine Z.aload_n C dX4_statement_349 3 rfl rfl ?_
                        refine Z.get C in4 0 rfl rfl 29 (by decide) (by decide +kernel) rfl rfl dX4_statement_350 ?_
                        refine Z.l2i C (v := (nI x31.2.2.1)) dX4_statement_353 (lN_i x31.2.2.1) ?_
                        refine Z.iconst C (v := (nI 0)) dX4_statement_354 (by decide) ?_
                        refine Z.callVv C (nA := 2) (As := [.int (nI x31.2.2.1), .int (0 : Int32)]) (st := []) (c_step o (wanF o.2.1 o.2.2.1 (123 : Int32) x31.2.1 (wrF x31.1 (q.2.1 + 1 + 1)), x31.2.1 + 1, x31.2.2.1, (upd x31.2.2.2.1 x31.2.2.2.2.2.1 (10 : Int32)), (upd x31.2.2.2.2.1 x31.2.2.2.2.2.1 ((hereN o.2.1 o.2.2.1 (q.2.1 + 1)) - (97 : Int32))), x31.2.2.2.2.2.1 + 1, x31.2.2.2.2.2.2) (nI x31.2.2.1) (0 : Int32)  (by first | omega | (dsimp only; omega))) gX4_statement_X4_step rfl (by decide +kernel) (rm_ok (by omega) (by decide)) 0 rfl rfl rfl (Nat.le_of_ble_eq_true rfl) rfl dX4_statement_355 ?_
                        refine Z.aload_n C dX4_statement_358 3 rfl rfl ?_
                        refine Z.iload_n C dX4_statement_359 1 rfl rfl ?_
                        refine Z.aload_n C dX4_statement_360 3 rfl rfl ?_
                        refine Z.get C in4 0 rfl rfl 10 (by decide) (by decide +kernel) rfl rfl dX4_statement_361 ?_
                        refine Z.aload_n C dX4_statement_364 3 rfl rfl ?_
                        refine Z.get C in4 0 rfl rfl 26 (by decide) (by decide +kernel) rfl rfl dX4_statement_365 ?_
                        refine Z.aload_n C dX4_statement_368 3 rfl rfl ?_
                        refine Z.get C in4 0 rfl rfl 27 (by decide) (by decide +kernel) rfl rfl dX4_statement_369 ?_
                        refine Z.iald C 15 0 rfl rfl x31.2.2.2.2.2.2.2.2.2.2.2.2.2.2.2.2.2.1 rfl (by omega) (by decide) dX4_statement_372 (v := (x31.2.2.2.2.2.2.2.2.2.2.2.2.2.2.2.2.1 x31.2.2.2.2.2.2.2.2.2.2.2.2.2.2.2.2.2.1)) rfl ?_
                        refine Z.aload_n C dX4_statement_373 3 rfl rfl ?_
                        refine Z.get C in4 0 rfl rfl 29 (by decide) (by decide +kernel) rfl rfl dX4_statement_374 ?_
                        refine Z.l2i C (v := (nI x31.2.2.1)) dX4_statement_377 (lN_i x31.2.2.1) ?_
                        refine Z.imul C (v := ((x31.2.2.2.2.2.2.2.2.2.2.2.2.2.2.2.2.1 x31.2.2.2.2.2.2.2.2.2.2.2.2.2.2.2.2.2.1) * (nI x31.2.2.1))) dX4_statement_378 rfl ?_
                        refine Z.callVv C (nA := 3) (As := [.int ((hereN o.2.1 o.2.2.1 (q.2.1 + 1)) - (97 : Int32)), .int (nI (x31.2.2.2.2.2.1 + 1 + 1)), .int ((x31.2.2.2.2.2.2.2.2.2.2.2.2.2.2.2.2.1 x31.2.2.2.2.2.2.2.2.2.2.2.2.2.2.2.2.2.1) * (nI x31.2.2.1))]) (st := []) (c_blockN o (wanF o.2.1 o.2.2.1 (123 : Int32) x31.2.1 (wrF x31.1 (q.2.1 + 1 + 1)), x31.2.1 + 1, x31.2.2.1, (upd (upd x31.2.2.2.1 x31.2.2.2.2.2.1 (10 : Int32)) (x31.2.2.2.2.2.1 + 1) (nI x31.2.2.1)), (upd (upd x31.2.2.2.2.1 x31.2.2.2.2.2.1 ((hereN o.2.1 o.2.2.1 (q.2.1 + 1)) - (97 : Int32))) (x31.2.2.2.2.2.1 + 1) (0 : Int32)), x31.2.2.2.2.2.1 + 1 + 1, x31.2.2.2.2.2.2) ((hereN o.2.1 o.2.2.1 (q.2.1 + 1)) - (97 : Int32)) (nI (x31.2.2.2.2.2.1 + 1 + 1)) ((x31.2.2.2.2.2.2.2.2.2.2.2.2.2.2.2.2.1 x31.2.2.2.2.2.2.2.2.2.2.2.2.2.2.2.2.2.1) * (nI x31.2.2.1))  (by first | omega | (dsimp only; omega))) gX4_statement_X4_block rfl (by decide +kernel) (rm_ok (by omega) (by decide)) 0 rfl rfl rfl (Nat.le_of_ble_eq_true rfl) rfl dX4_statement_379 ?_
                        refine Z.iconst C (v := (nI 0)) dX4_statement_382 (by decide) ?_
                        refine Z.iret C hr hA dX4_statement_383 ?_ ?_
                        · first | (simp [qStmt, qStmt2, qLoopStmt, qStep, qAt1, qWr, qWant, qPush, qSettle, qBlock, qWork, qNest, (eq_false c1), c2, (eq_false c3), (eq_true c4), (eq_false c5), (eq_false c6), c7, c19, e31, (eq_true c32), (eq_false c35), (eq_true c40)]; done) | (simp_all [qStmt, qStmt2, qLoopStmt, qStep, qAt1, qWr, qWant, qPush, qSettle, qBlock, qWork, qNest]; done)
                        · (refine congrArg (wN a cI cZ o) ?_; first | (simp [qStmt, qStmt2, qLoopStmt, qStep, qAt1, qWr, qWant, qPush, qSettle, qBlock, qWork, qNest, (eq_false c1), c2, (eq_false c3), (eq_true c4), (eq_false c5), (eq_false c6), c7, c19, e31, (eq_true c32), (eq_false c35), (eq_true c40)]; done) | (simp_all [qStmt, qStmt2, qLoopStmt, qStep, qAt1, qWr, qWant, qPush, qSettle, qBlock, qWork, qNest]; done))
            · skip
              replace c6 : (hereN o.2.1 o.2.2.1 q.2.1) = (63 : Int32) := c6
              exact absurd (c4.symm.trans c6) (by decide)
          · skip
            replace c5 : q.2.2.2.2.2.2.2.2.2.2.2.2.2.2.2.2.2.1 = 8 := (nI_eq (by omega) (by omega)).mp c5
            refine Z.aload_n C dX4_statement_205 1 rfl rfl ?_
            refine Z.aload_n C dX4_statement_206 1 rfl rfl ?_
            refine Z.get C in4 0 rfl rfl 28 (by decide) (by decide +kernel) rfl rfl dX4_statement_207 ?_
            refine Z.callVv C (nA := 1) (As := [.int (nI q.2.1)]) (st := []) (c_wrong o (q.1, q.2.1, q.2.2.1, q.2.2.2.1, q.2.2.2.2.1, q.2.2.2.2.2.1, q.2.2.2.2.2.2.1, q.2.2.2.2.2.2.2.1, q.2.2.2.2.2.2.2.2.1, q.2.2.2.2.2.2.2.2.2.1, q.2.2.2.2.2.2.2.2.2.2.1, q.2.2.2.2.2.2.2.2.2.2.2.1, q.2.2.2.2.2.2.2.2.2.2.2.2.1, q.2.2.2.2.2.2.2.2.2.2.2.2.2.1, q.2.2.2.2.2.2.2.2.2.2.2.2.2.2.1, q.2.2.2.2.2.2.2.2.2.2.2.2.2.2.2.1, q.2.2.2.2.2.2.2.2.2.2.2.2.2.2.2.2.1, q.2.2.2.2.2.2.2.2.2.2.2.2.2.2.2.2.2.1, q.2.2.2.2.2.2.2.2.2.2.2.2.2.2.2.2.2.2 + 1) q.2.1  (by first | omega | (dsimp only; omega))) gX4_statement_X4_wrong rfl (by decide +kernel) (rm_ok (by omega) (by decide)) 0 rfl rfl rfl (Nat.le_of_ble_eq_true rfl) rfl dX4_statement_210 ?_
            have w41 : wrF q.1 q.2.1 < 1000 := wrF_b (by first | omega | (dsimp only; omega)) (by first | omega | (dsimp only; omega))
            refine Z.iconst C (v := (nI 0)) dX4_statement_213 (by decide) ?_
            refine Z.iret C hr hA dX4_statement_214 ?_ ?_
            · first | (simp [qStmt, qStmt2, qLoopStmt, qStep, qAt1, qWr, qWant, qPush, qSettle, qBlock, qWork, qNest, (eq_false c1), c2, (eq_false c3), (eq_true c4), (eq_true c5)]; done) | (simp_all [qStmt, qStmt2, qLoopStmt, qStep, qAt1, qWr, qWant, qPush, qSettle, qBlock, qWork, qNest]; done)
            · (refine congrArg (wN a cI cZ o) ?_; first | (simp [qStmt, qStmt2, qLoopStmt, qStep, qAt1, qWr, qWant, qPush, qSettle, qBlock, qWork, qNest, (eq_false c1), c2, (eq_false c3), (eq_true c4), (eq_true c5)]; done) | (simp_all [qStmt, qStmt2, qLoopStmt, qStep, qAt1, qWr, qWant, qPush, qSettle, qBlock, qWork, qNest]; done))
        · skip
          replace c4 : ¬ (hereN o.2.1 o.2.2.1 q.2.1) = (35 : Int32) := c4
          refine Z.iload_n C dX4_statement_190 0 rfl rfl ?_
          refine Z.bipush C (v := (nI 63)) dX4_statement_191 (by decide) ?_
          refine Z.icmp_ne C 205 dX4_statement_193 (by decide) (fun c42 => ?_) (fun c42 => ?_)
          · skip
            replace c42 : ¬ (hereN o.2.1 o.2.2.1 q.2.1) = (63 : Int32) := c42
            refine Z.aload_n C dX4_statement_205 1 rfl rfl ?_
            refine Z.aload_n C dX4_statement_206 1 rfl rfl ?_
            refine Z.get C in4 0 rfl rfl 28 (by decide) (by decide +kernel) rfl rfl dX4_statement_207 ?_
            refine Z.callVv C (nA := 1) (As := [.int (nI q.2.1)]) (st := []) (c_wrong o (q.1, q.2.1, q.2.2.1, q.2.2.2.1, q.2.2.2.2.1, q.2.2.2.2.2.1, q.2.2.2.2.2.2.1, q.2.2.2.2.2.2.2.1, q.2.2.2.2.2.2.2.2.1, q.2.2.2.2.2.2.2.2.2.1, q.2.2.2.2.2.2.2.2.2.2.1, q.2.2.2.2.2.2.2.2.2.2.2.1, q.2.2.2.2.2.2.2.2.2.2.2.2.1, q.2.2.2.2.2.2.2.2.2.2.2.2.2.1, q.2.2.2.2.2.2.2.2.2.2.2.2.2.2.1, q.2.2.2.2.2.2.2.2.2.2.2.2.2.2.2.1, q.2.2.2.2.2.2.2.2.2.2.2.2.2.2.2.2.1, q.2.2.2.2.2.2.2.2.2.2.2.2.2.2.2.2.2.1, q.2.2.2.2.2.2.2.2.2.2.2.2.2.2.2.2.2.2 + 1) q.2.1  (by first | omega | (dsimp only; omega))) gX4_statement_X4_wrong rfl (by decide +kernel) (rm_ok (by omega) (by decide)) 0 rfl rfl rfl (Nat.le_of_ble_eq_true rfl) rfl dX4_statement_210 ?_
            have w43 : wrF q.1 q.2.1 < 1000 := wrF_b (by first | omega | (dsimp only; omega)) (by first | omega | (dsimp only; omega))
            refine Z.iconst C (v := (nI 0)) dX4_statement_213 (by decide) ?_
            refine Z.iret C hr hA dX4_statement_214 ?_ ?_
            · first | (simp [qStmt, qStmt2, qLoopStmt, qStep, qAt1, qWr, qWant, qPush, qSettle, qBlock, qWork, qNest, (eq_false c1), c2, (eq_false c3), (eq_false c4), (eq_false c42)]; done) | (simp_all [qStmt, qStmt2, qLoopStmt, qStep, qAt1, qWr, qWant, qPush, qSettle, qBlock, qWork, qNest]; done)
            · (refine congrArg (wN a cI cZ o) ?_; first | (simp [qStmt, qStmt2, qLoopStmt, qStep, qAt1, qWr, qWant, qPush, qSettle, qBlock, qWork, qNest, (eq_false c1), c2, (eq_false c3), (eq_false c4), (eq_false c42)]; done) | (simp_all [qStmt, qStmt2, qLoopStmt, qStep, qAt1, qWr, qWant, qPush, qSettle, qBlock, qWork, qNest]; done))
          · skip
            replace c42 : (hereN o.2.1 o.2.2.1 q.2.1) = (63 : Int32) := c42
            refine Z.aload_n C dX4_statement_196 1 rfl rfl ?_
            refine Z.get C in4 0 rfl rfl 27 (by decide) (by decide +kernel) rfl rfl dX4_statement_197 ?_
            refine Z.bipush C (v := (nI 8)) dX4_statement_200 (by decide) ?_
            refine Z.icmp_ne C 215 dX4_statement_202 (by decide) (fun c44 => ?_) (fun c44 => ?_)
            · skip
              replace c44 : ¬ q.2.2.2.2.2.2.2.2.2.2.2.2.2.2.2.2.2.1 = 8 := mt (nI_eq (by omega) (by omega)).mpr c44
              refine Z.aload_n C dX4_statement_215 1 rfl rfl ?_
              refine Z.dup C dX4_statement_216 rfl ?_
              refine Z.get C in4 0 rfl rfl 28 (by decide) (by decide +kernel) rfl rfl dX4_statement_217 ?_
              refine Z.iconst C (v := (nI 1)) dX4_statement_220 (by decide) ?_
              refine Z.iadd C (v := (nI (q.2.1 + 1))) dX4_statement_221 (nI_add q.2.1 1) ?_
              refine Z.put C in4 0 rfl rfl 28 (by decide) tyX4 tyX4_ok nmX4 (by decide +kernel) rfl rfl rfl rfl (Nat.le_of_ble_eq_true rfl) dX4_statement_222 (w' := (wN a cI cZ o (q.1, q.2.1 + 1, q.2.2.1, q.2.2.2.1, q.2.2.2.2.1, q.2.2.2.2.2.1, q.2.2.2.2.2.2.1, q.2.2.2.2.2.2.2.1, q.2.2.2.2.2.2.2.2.1, q.2.2.2.2.2.2.2.2.2.1, q.2.2.2.2.2.2.2.2.2.2.1, q.2.2.2.2.2.2.2.2.2.2.2.1, q.2.2.2.2.2.2.2.2.2.2.2.2.1, q.2.2.2.2.2.2.2.2.2.2.2.2.2.1, q.2.2.2.2.2.2.2.2.2.2.2.2.2.2.1, q.2.2.2.2.2.2.2.2.2.2.2.2.2.2.2.1, q.2.2.2.2.2.2.2.2.2.2.2.2.2.2.2.2.1, q.2.2.2.2.2.2.2.2.2.2.2.2.2.2.2.2.2.1, q.2.2.2.2.2.2.2.2.2.2.2.2.2.2.2.2.2.2 + 1))) rfl ?_
              refine Z.iload_n C dX4_statement_225 0 rfl rfl ?_
              refine Z.bipush C (v := (nI 63)) dX4_statement_226 (by decide) ?_
              refine Z.icmp_ne C 238 dX4_statement_228 (by decide) (fun c45 => ?_) (fun c45 => ?_)
              · skip
                replace c45 : ¬ (hereN o.2.1 o.2.2.1 q.2.1) = (63 : Int32) := c45
                exact absurd c42 c45
              · skip
                replace c45 : (hereN o.2.1 o.2.2.1 q.2.1) = (63 : Int32) := c45
                refine Z.aload_n C dX4_statement_231 1 rfl rfl ?_
                refine Z.iconst C (v := (nI 3)) dX4_statement_232 (by decide) ?_
                refine Z.callVv C (nA := 1) (As := [.int (3 : Int32)]) (st := []) (c_pushN o (q.1, q.2.1 + 1, q.2.2.1, q.2.2.2.1, q.2.2.2.2.1, q.2.2.2.2.2.1, q.2.2.2.2.2.2.1, q.2.2.2.2.2.2.2.1, q.2.2.2.2.2.2.2.2.1, q.2.2.2.2.2.2.2.2.2.1, q.2.2.2.2.2.2.2.2.2.2.1, q.2.2.2.2.2.2.2.2.2.2.2.1, q.2.2.2.2.2.2.2.2.2.2.2.2.1, q.2.2.2.2.2.2.2.2.2.2.2.2.2.1, q.2.2.2.2.2.2.2.2.2.2.2.2.2.2.1, q.2.2.2.2.2.2.2.2.2.2.2.2.2.2.2.1, q.2.2.2.2.2.2.2.2.2.2.2.2.2.2.2.2.1, q.2.2.2.2.2.2.2.2.2.2.2.2.2.2.2.2.2.1, q.2.2.2.2.2.2.2.2.2.2.2.2.2.2.2.2.2.2 + 1) (3 : Int32)  (by first | omega | (dsimp only; omega))) gX4_statement_X4_push rfl (by decide +kernel) (rm_ok (by omega) (by decide)) 0 rfl rfl rfl (Nat.le_of_ble_eq_true rfl) rfl dX4_statement_233 ?_
                refine Z.iconst C (v := (nI 1)) dX4_statement_236 (by decide) ?_
                refine Z.iret C hr hA dX4_statement_237 ?_ ?_
                · first | (simp [qStmt, qStmt2, qLoopStmt, qStep, qAt1, qWr, qWant, qPush, qSettle, qBlock, qWork, qNest, (eq_false c1), c2, (eq_false c3), (eq_false c4), (eq_true c42), (eq_false c44), (eq_true c45)]; done) | (simp_all [qStmt, qStmt2, qLoopStmt, qStep, qAt1, qWr, qWant, qPush, qSettle, qBlock, qWork, qNest]; done)
                · (refine congrArg (wN a cI cZ o) ?_; first | (simp [qStmt, qStmt2, qLoopStmt, qStep, qAt1, qWr, qWant, qPush, qSettle, qBlock, qWork, qNest, (eq_false c1), c2, (eq_false c3), (eq_false c4), (eq_true c42), (eq_false c44), (eq_true c45)]; done) | (simp_all [qStmt, qStmt2, qLoopStmt, qStep, qAt1, qWr, qWant, qPush, qSettle, qBlock, qWork, qNest]; done))
            · skip
              replace c44 : q.2.2.2.2.2.2.2.2.2.2.2.2.2.2.2.2.2.1 = 8 := (nI_eq (by omega) (by omega)).mp c44
              refine Z.aload_n C dX4_statement_205 1 rfl rfl ?_
              refine Z.aload_n C dX4_statement_206 1 rfl rfl ?_
              refine Z.get C in4 0 rfl rfl 28 (by decide) (by decide +kernel) rfl rfl dX4_statement_207 ?_
              refine Z.callVv C (nA := 1) (As := [.int (nI q.2.1)]) (st := []) (c_wrong o (q.1, q.2.1, q.2.2.1, q.2.2.2.1, q.2.2.2.2.1, q.2.2.2.2.2.1, q.2.2.2.2.2.2.1, q.2.2.2.2.2.2.2.1, q.2.2.2.2.2.2.2.2.1, q.2.2.2.2.2.2.2.2.2.1, q.2.2.2.2.2.2.2.2.2.2.1, q.2.2.2.2.2.2.2.2.2.2.2.1, q.2.2.2.2.2.2.2.2.2.2.2.2.1, q.2.2.2.2.2.2.2.2.2.2.2.2.2.1, q.2.2.2.2.2.2.2.2.2.2.2.2.2.2.1, q.2.2.2.2.2.2.2.2.2.2.2.2.2.2.2.1, q.2.2.2.2.2.2.2.2.2.2.2.2.2.2.2.2.1, q.2.2.2.2.2.2.2.2.2.2.2.2.2.2.2.2.2.1, q.2.2.2.2.2.2.2.2.2.2.2.2.2.2.2.2.2.2 + 1) q.2.1  (by first | omega | (dsimp only; omega))) gX4_statement_X4_wrong rfl (by decide +kernel) (rm_ok (by omega) (by decide)) 0 rfl rfl rfl (Nat.le_of_ble_eq_true rfl) rfl dX4_statement_210 ?_
              have w46 : wrF q.1 q.2.1 < 1000 := wrF_b (by first | omega | (dsimp only; omega)) (by first | omega | (dsimp only; omega))
              refine Z.iconst C (v := (nI 0)) dX4_statement_213 (by decide) ?_
              refine Z.iret C hr hA dX4_statement_214 ?_ ?_
              · first | (simp [qStmt, qStmt2, qLoopStmt, qStep, qAt1, qWr, qWant, qPush, qSettle, qBlock, qWork, qNest, (eq_false c1), c2, (eq_false c3), (eq_false c4), (eq_true c42), (eq_true c44)]; done) | (simp_all [qStmt, qStmt2, qLoopStmt, qStep, qAt1, qWr, qWant, qPush, qSettle, qBlock, qWork, qNest]; done)
              · (refine congrArg (wN a cI cZ o) ?_; first | (simp [qStmt, qStmt2, qLoopStmt, qStep, qAt1, qWr, qWant, qPush, qSettle, qBlock, qWork, qNest, (eq_false c1), c2, (eq_false c3), (eq_false c4), (eq_true c42), (eq_true c44)]; done) | (simp_all [qStmt, qStmt2, qLoopStmt, qStep, qAt1, qWr, qWant, qPush, qSettle, qBlock, qWork, qNest]; done))
      · skip
        replace c3 : (hereN o.2.1 o.2.2.1 q.2.1) = (64 : Int32) := c3
        refine Z.aload_n C dX4_statement_161 1 rfl rfl ?_
        refine Z.dup C dX4_statement_162 rfl ?_
        refine Z.get C in4 0 rfl rfl 28 (by decide) (by decide +kernel) rfl rfl dX4_statement_163 ?_
        refine Z.iconst C (v := (nI 1)) dX4_statement_166 (by decide) ?_
        refine Z.iadd C (v := (nI (q.2.1 + 1))) dX4_statement_167 (nI_add q.2.1 1) ?_
        refine Z.put C in4 0 rfl rfl 28 (by decide) tyX4 tyX4_ok nmX4 (by decide +kernel) rfl rfl rfl rfl (Nat.le_of_ble_eq_true rfl) dX4_statement_168 (w' := (wN a cI cZ o (q.1, q.2.1 + 1, q.2.2.1, q.2.2.2.1, q.2.2.2.2.1, q.2.2.2.2.2.1, q.2.2.2.2.2.2.1, q.2.2.2.2.2.2.2.1, q.2.2.2.2.2.2.2.2.1, q.2.2.2.2.2.2.2.2.2.1, q.2.2.2.2.2.2.2.2.2.2.1, q.2.2.2.2.2.2.2.2.2.2.2.1, q.2.2.2.2.2.2.2.2.2.2.2.2.1, q.2.2.2.2.2.2.2.2.2.2.2.2.2.1, q.2.2.2.2.2.2.2.2.2.2.2.2.2.2.1, q.2.2.2.2.2.2.2.2.2.2.2.2.2.2.2.1, q.2.2.2.2.2.2.2.2.2.2.2.2.2.2.2.2.1, q.2.2.2.2.2.2.2.2.2.2.2.2.2.2.2.2.2.1, q.2.2.2.2.2.2.2.2.2.2.2.2.2.2.2.2.2.2 + 1))) rfl ?_
        refine Z.aload_n C dX4_statement_171 1 rfl rfl ?_
        refine Z.bipush C (v := (nI 91)) dX4_statement_172 (by decide) ?_
        refine Z.callVv C (nA := 1) (As := [.int (91 : Int32)]) (st := []) (c_want o (q.1, q.2.1 + 1, q.2.2.1, q.2.2.2.1, q.2.2.2.2.1, q.2.2.2.2.2.1, q.2.2.2.2.2.2.1, q.2.2.2.2.2.2.2.1, q.2.2.2.2.2.2.2.2.1, q.2.2.2.2.2.2.2.2.2.1, q.2.2.2.2.2.2.2.2.2.2.1, q.2.2.2.2.2.2.2.2.2.2.2.1, q.2.2.2.2.2.2.2.2.2.2.2.2.1, q.2.2.2.2.2.2.2.2.2.2.2.2.2.1, q.2.2.2.2.2.2.2.2.2.2.2.2.2.2.1, q.2.2.2.2.2.2.2.2.2.2.2.2.2.2.2.1, q.2.2.2.2.2.2.2.2.2.2.2.2.2.2.2.2.1, q.2.2.2.2.2.2.2.2.2.2.2.2.2.2.2.2.2.1, q.2.2.2.2.2.2.2.2.2.2.2.2.2.2.2.2.2.2 + 1) (91 : Int32)  (by first | omega | (dsimp only; omega)) (by first | omega | (dsimp only; omega)) (by first | omega | (dsimp only; omega))) gX4_statement_X4_want rfl (by decide +kernel) (rm_ok (by omega) (by decide)) 0 rfl rfl rfl (Nat.le_of_ble_eq_true rfl) rfl dX4_statement_174 ?_
        have w47 : wanF o.2.1 o.2.2.1 (91 : Int32) (q.2.1 + 1) q.1 < 1000 := wanF_b (by first | omega | (dsimp only; omega)) (by first | omega | (dsimp only; omega))
        refine Z.aload_n C dX4_statement_177 1 rfl rfl ?_
        refine Z.iconst C (v := (nI 1)) dX4_statement_178 (by decide) ?_
        refine Z.callVv C (nA := 1) (As := [.int (1 : Int32)]) (st := []) (c_pushN o (wanF o.2.1 o.2.2.1 (91 : Int32) (q.2.1 + 1) q.1, q.2.1 + 1 + 1, q.2.2.1, q.2.2.2.1, q.2.2.2.2.1, q.2.2.2.2.2.1, q.2.2.2.2.2.2.1, q.2.2.2.2.2.2.2.1, q.2.2.2.2.2.2.2.2.1, q.2.2.2.2.2.2.2.2.2.1, q.2.2.2.2.2.2.2.2.2.2.1, q.2.2.2.2.2.2.2.2.2.2.2.1, q.2.2.2.2.2.2.2.2.2.2.2.2.1, q.2.2.2.2.2.2.2.2.2.2.2.2.2.1, q.2.2.2.2.2.2.2.2.2.2.2.2.2.2.1, q.2.2.2.2.2.2.2.2.2.2.2.2.2.2.2.1, q.2.2.2.2.2.2.2.2.2.2.2.2.2.2.2.2.1, q.2.2.2.2.2.2.2.2.2.2.2.2.2.2.2.2.2.1, q.2.2.2.2.2.2.2.2.2.2.2.2.2.2.2.2.2.2 + 1) (1 : Int32)  (by first | omega | (dsimp only; omega))) gX4_statement_X4_push rfl (by decide +kernel) (rm_ok (by omega) (by decide)) 0 rfl rfl rfl (Nat.le_of_ble_eq_true rfl) rfl dX4_statement_179 ?_
        refine Z.iconst C (v := (nI 1)) dX4_statement_182 (by decide) ?_
        refine Z.iret C hr hA dX4_statement_183 ?_ ?_
        · first | (simp [qStmt, qStmt2, qLoopStmt, qStep, qAt1, qWr, qWant, qPush, qSettle, qBlock, qWork, qNest, (eq_false c1), c2, (eq_true c3)]; done) | (simp_all [qStmt, qStmt2, qLoopStmt, qStep, qAt1, qWr, qWant, qPush, qSettle, qBlock, qWork, qNest]; done)
        · (refine congrArg (wN a cI cZ o) ?_; first | (simp [qStmt, qStmt2, qLoopStmt, qStep, qAt1, qWr, qWant, qPush, qSettle, qBlock, qWork, qNest, (eq_false c1), c2, (eq_true c3)]; done) | (simp_all [qStmt, qStmt2, qLoopStmt, qStep, qAt1, qWr, qWant, qPush, qSettle, qBlock, qWork, qNest]; done))
    · skip
      replace c2 : isLetF (hereN o.2.1 o.2.2.1 q.2.1) = true := b2i_n0.mp c2
      refine Z.aload_n C dX4_statement_105 1 rfl rfl ?_
      refine Z.iload_n C dX4_statement_106 0 rfl rfl ?_
      refine Z.bipush C (v := (nI 97)) dX4_statement_107 (by decide) ?_
      refine Z.isub C (v := ((hereN o.2.1 o.2.2.1 q.2.1) - (97 : Int32))) dX4_statement_109 rfl ?_
      refine Z.put C in4 0 rfl rfl 23 (by decide) tyX4 tyX4_ok nmX4 (by decide +kernel) rfl rfl rfl rfl (Nat.le_of_ble_eq_true rfl) dX4_statement_110 (w' := (wN a cI cZ o (q.1, q.2.1, q.2.2.1, q.2.2.2.1, q.2.2.2.2.1, q.2.2.2.2.2.1, q.2.2.2.2.2.2.1, q.2.2.2.2.2.2.2.1, q.2.2.2.2.2.2.2.2.1, q.2.2.2.2.2.2.2.2.2.1, q.2.2.2.2.2.2.2.2.2.2.1, q.2.2.2.2.2.2.2.2.2.2.2.1, q.2.2.2.2.2.2.2.2.2.2.2.2.1, (hereN o.2.1 o.2.2.1 q.2.1) - (97 : Int32), q.2.2.2.2.2.2.2.2.2.2.2.2.2.2.1, q.2.2.2.2.2.2.2.2.2.2.2.2.2.2.2.1, q.2.2.2.2.2.2.2.2.2.2.2.2.2.2.2.2.1, q.2.2.2.2.2.2.2.2.2.2.2.2.2.2.2.2.2.1, q.2.2.2.2.2.2.2.2.2.2.2.2.2.2.2.2.2.2 + 1))) rfl ?_
      refine Z.aload_n C dX4_statement_113 1 rfl rfl ?_
      refine Z.aload_n C dX4_statement_114 1 rfl rfl ?_
      refine Z.get C in4 0 rfl rfl 23 (by decide) (by decide +kernel) rfl rfl dX4_statement_115 ?_
      refine Z.callVi C (nA := 1) (As := [.int ((hereN o.2.1 o.2.2.1 q.2.1) - (97 : Int32))]) (st := []) (c_isLoop o (q.1, q.2.1, q.2.2.1, q.2.2.2.1, q.2.2.2.2.1, q.2.2.2.2.2.1, q.2.2.2.2.2.2.1, q.2.2.2.2.2.2.2.1, q.2.2.2.2.2.2.2.2.1, q.2.2.2.2.2.2.2.2.2.1, q.2.2.2.2.2.2.2.2.2.2.1, q.2.2.2.2.2.2.2.2.2.2.2.1, q.2.2.2.2.2.2.2.2.2.2.2.2.1, (hereN o.2.1 o.2.2.1 q.2.1) - (97 : Int32), q.2.2.2.2.2.2.2.2.2.2.2.2.2.2.1, q.2.2.2.2.2.2.2.2.2.2.2.2.2.2.2.1, q.2.2.2.2.2.2.2.2.2.2.2.2.2.2.2.2.1, q.2.2.2.2.2.2.2.2.2.2.2.2.2.2.2.2.2.1, q.2.2.2.2.2.2.2.2.2.2.2.2.2.2.2.2.2.2 + 1) ((hereN o.2.1 o.2.2.1 q.2.1) - (97 : Int32))  (by first | omega | (dsimp only; omega))) gX4_statement_X4_isLoop rfl (by decide +kernel) (rm_ok (by omega) (by decide)) 0 rfl rfl rfl (Nat.le_of_ble_eq_true rfl) rfl dX4_statement_118 ?_
      refine Z.if_eq C 132 dX4_statement_121 (by decide) (fun c48 => ?_) (fun c48 => ?_)
      · skip
        replace c48 : isLoopF q.2.2.2.2.2.2.2.2.2.2.2.2.2.2.1 q.2.2.2.2.2.2.2.2.2.2.2.2.2.2.2.2.2.1 ((hereN o.2.1 o.2.2.1 q.2.1) - (97 : Int32)) = false := b2i_0.mp c48
        refine Z.aload_n C dX4_statement_132 1 rfl rfl ?_
        refine Z.dup C dX4_statement_133 rfl ?_
        refine Z.get C in4 0 rfl rfl 28 (by decide) (by decide +kernel) rfl rfl dX4_statement_134 ?_
        refine Z.iconst C (v := (nI 1)) dX4_statement_137 (by decide) ?_
        refine Z.iadd C (v := (nI (q.2.1 + 1))) dX4_statement_138 (nI_add q.2.1 1) ?_
        refine Z.put C in4 0 rfl rfl 28 (by decide) tyX4 tyX4_ok nmX4 (by decide +kernel) rfl rfl rfl rfl (Nat.le_of_ble_eq_true rfl) dX4_statement_139 (w' := (wN a cI cZ o (q.1, q.2.1 + 1, q.2.2.1, q.2.2.2.1, q.2.2.2.2.1, q.2.2.2.2.2.1, q.2.2.2.2.2.2.1, q.2.2.2.2.2.2.2.1, q.2.2.2.2.2.2.2.2.1, q.2.2.2.2.2.2.2.2.2.1, q.2.2.2.2.2.2.2.2.2.2.1, q.2.2.2.2.2.2.2.2.2.2.2.1, q.2.2.2.2.2.2.2.2.2.2.2.2.1, (hereN o.2.1 o.2.2.1 q.2.1) - (97 : Int32), q.2.2.2.2.2.2.2.2.2.2.2.2.2.2.1, q.2.2.2.2.2.2.2.2.2.2.2.2.2.2.2.1, q.2.2.2.2.2.2.2.2.2.2.2.2.2.2.2.2.1, q.2.2.2.2.2.2.2.2.2.2.2.2.2.2.2.2.2.1, q.2.2.2.2.2.2.2.2.2.2.2.2.2.2.2.2.2.2 + 1))) rfl ?_
        refine Z.aload_n C dX4_statement_142 1 rfl rfl ?_
        refine Z.bipush C (v := (nI 61)) dX4_statement_143 (by decide) ?_
        refine Z.callVv C (nA := 1) (As := [.int (61 : Int32)]) (st := []) (c_want o (q.1, q.2.1 + 1, q.2.2.1, q.2.2.2.1, q.2.2.2.2.1, q.2.2.2.2.2.1, q.2.2.2.2.2.2.1, q.2.2.2.2.2.2.2.1, q.2.2.2.2.2.2.2.2.1, q.2.2.2.2.2.2.2.2.2.1, q.2.2.2.2.2.2.2.2.2.2.1, q.2.2.2.2.2.2.2.2.2.2.2.1, q.2.2.2.2.2.2.2.2.2.2.2.2.1, (hereN o.2.1 o.2.2.1 q.2.1) - (97 : Int32), q.2.2.2.2.2.2.2.2.2.2.2.2.2.2.1, q.2.2.2.2.2.2.2.2.2.2.2.2.2.2.2.1, q.2.2.2.2.2.2.2.2.2.2.2.2.2.2.2.2.1, q.2.2.2.2.2.2.2.2.2.2.2.2.2.2.2.2.2.1, q.2.2.2.2.2.2.2.2.2.2.2.2.2.2.2.2.2.2 + 1) (61 : Int32)  (by first | omega | (dsimp only; omega)) (by first | omega | (dsimp only; omega)) (by first | omega | (dsimp only; omega))) gX4_statement_X4_want rfl (by decide +kernel) (rm_ok (by omega) (by decide)) 0 rfl rfl rfl (Nat.le_of_ble_eq_true rfl) rfl dX4_statement_145 ?_
        have w49 : wanF o.2.1 o.2.2.1 (61 : Int32) (q.2.1 + 1) q.1 < 1000 := wanF_b (by first | omega | (dsimp only; omega)) (by first | omega | (dsimp only; omega))
        refine Z.aload_n C dX4_statement_148 1 rfl rfl ?_
        refine Z.iconst C (v := (nI 0)) dX4_statement_149 (by decide) ?_
        refine Z.callVv C (nA := 1) (As := [.int (0 : Int32)]) (st := []) (c_pushN o (wanF o.2.1 o.2.2.1 (61 : Int32) (q.2.1 + 1) q.1, q.2.1 + 1 + 1, q.2.2.1, q.2.2.2.1, q.2.2.2.2.1, q.2.2.2.2.2.1, q.2.2.2.2.2.2.1, q.2.2.2.2.2.2.2.1, q.2.2.2.2.2.2.2.2.1, q.2.2.2.2.2.2.2.2.2.1, q.2.2.2.2.2.2.2.2.2.2.1, q.2.2.2.2.2.2.2.2.2.2.2.1, q.2.2.2.2.2.2.2.2.2.2.2.2.1, (hereN o.2.1 o.2.2.1 q.2.1) - (97 : Int32), q.2.2.2.2.2.2.2.2.2.2.2.2.2.2.1, q.2.2.2.2.2.2.2.2.2.2.2.2.2.2.2.1, q.2.2.2.2.2.2.2.2.2.2.2.2.2.2.2.2.1, q.2.2.2.2.2.2.2.2.2.2.2.2.2.2.2.2.2.1, q.2.2.2.2.2.2.2.2.2.2.2.2.2.2.2.2.2.2 + 1) (0 : Int32)  (by first | omega | (dsimp only; omega))) gX4_statement_X4_push rfl (by decide +kernel) (rm_ok (by omega) (by decide)) 0 rfl rfl rfl (Nat.le_of_ble_eq_true rfl) rfl dX4_statement_150 ?_
        refine Z.iconst C (v := (nI 1)) dX4_statement_153 (by decide) ?_
        refine Z.iret C hr hA dX4_statement_154 ?_ ?_
        · first | (simp [qStmt, qStmt2, qLoopStmt, qStep, qAt1, qWr, qWant, qPush, qSettle, qBlock, qWork, qNest, (eq_false c1), c2, c48]; done) | (simp_all [qStmt, qStmt2, qLoopStmt, qStep, qAt1, qWr, qWant, qPush, qSettle, qBlock, qWork, qNest]; done)
        · (refine congrArg (wN a cI cZ o) ?_; first | (simp [qStmt, qStmt2, qLoopStmt, qStep, qAt1, qWr, qWant, qPush, qSettle, qBlock, qWork, qNest, (eq_false c1), c2, c48]; done) | (simp_all [qStmt, qStmt2, qLoopStmt, qStep, qAt1, qWr, qWant, qPush, qSettle, qBlock, qWork, qNest]; done))
      · skip
        replace c48 : isLoopF q.2.2.2.2.2.2.2.2.2.2.2.2.2.2.1 q.2.2.2.2.2.2.2.2.2.2.2.2.2.2.2.2.2.1 ((hereN o.2.1 o.2.2.1 q.2.1) - (97 : Int32)) = true := b2i_n0.mp c48
        refine Z.aload_n C dX4_statement_124 1 rfl rfl ?_
        refine Z.aload_n C dX4_statement_125 1 rfl rfl ?_
        refine Z.get C in4 0 rfl rfl 28 (by decide) (by decide +kernel) rfl rfl dX4_statement_126 ?_
        refine Z.callVv C (nA := 1) (As := [.int (nI q.2.1)]) (st := []) (c_wrong o (q.1, q.2.1, q.2.2.1, q.2.2.2.1, q.2.2.2.2.1, q.2.2.2.2.2.1, q.2.2.2.2.2.2.1, q.2.2.2.2.2.2.2.1, q.2.2.2.2.2.2.2.2.1, q.2.2.2.2.2.2.2.2.2.1, q.2.2.2.2.2.2.2.2.2.2.1, q.2.2.2.2.2.2.2.2.2.2.2.1, q.2.2.2.2.2.2.2.2.2.2.2.2.1, (hereN o.2.1 o.2.2.1 q.2.1) - (97 : Int32), q.2.2.2.2.2.2.2.2.2.2.2.2.2.2.1, q.2.2.2.2.2.2.2.2.2.2.2.2.2.2.2.1, q.2.2.2.2.2.2.2.2.2.2.2.2.2.2.2.2.1, q.2.2.2.2.2.2.2.2.2.2.2.2.2.2.2.2.2.1, q.2.2.2.2.2.2.2.2.2.2.2.2.2.2.2.2.2.2 + 1) q.2.1  (by first | omega | (dsimp only; omega))) gX4_statement_X4_wrong rfl (by decide +kernel) (rm_ok (by omega) (by decide)) 0 rfl rfl rfl (Nat.le_of_ble_eq_true rfl) rfl dX4_statement_129 ?_
        have w50 : wrF q.1 q.2.1 < 1000 := wrF_b (by first | omega | (dsimp only; omega)) (by first | omega | (dsimp only; omega))
        refine Z.aload_n C dX4_statement_132 1 rfl rfl ?_
        refine Z.dup C dX4_statement_133 rfl ?_
        refine Z.get C in4 0 rfl rfl 28 (by decide) (by decide +kernel) rfl rfl dX4_statement_134 ?_
        refine Z.iconst C (v := (nI 1)) dX4_statement_137 (by decide) ?_
        refine Z.iadd C (v := (nI (q.2.1 + 1))) dX4_statement_138 (nI_add q.2.1 1) ?_
        refine Z.put C in4 0 rfl rfl 28 (by decide) tyX4 tyX4_ok nmX4 (by decide +kernel) rfl rfl rfl rfl (Nat.le_of_ble_eq_true rfl) dX4_statement_139 (w' := (wN a cI cZ o (wrF q.1 q.2.1, q.2.1 + 1, q.2.2.1, q.2.2.2.1, q.2.2.2.2.1, q.2.2.2.2.2.1, q.2.2.2.2.2.2.1, q.2.2.2.2.2.2.2.1, q.2.2.2.2.2.2.2.2.1, q.2.2.2.2.2.2.2.2.2.1, q.2.2.2.2.2.2.2.2.2.2.1, q.2.2.2.2.2.2.2.2.2.2.2.1, q.2.2.2.2.2.2.2.2.2.2.2.2.1, (hereN o.2.1 o.2.2.1 q.2.1) - (97 : Int32), q.2.2.2.2.2.2.2.2.2.2.2.2.2.2.1, q.2.2.2.2.2.2.2.2.2.2.2.2.2.2.2.1, q.2.2.2.2.2.2.2.2.2.2.2.2.2.2.2.2.1, q.2.2.2.2.2.2.2.2.2.2.2.2.2.2.2.2.2.1, q.2.2.2.2.2.2.2.2.2.2.2.2.2.2.2.2.2.2 + 1))) rfl ?_
        refine Z.aload_n C dX4_statement_142 1 rfl rfl ?_
        refine Z.bipush C (v := (nI 61)) dX4_statement_143 (by decide) ?_
        refine Z.callVv C (nA := 1) (As := [.int (61 : Int32)]) (st := []) (c_want o (wrF q.1 q.2.1, q.2.1 + 1, q.2.2.1, q.2.2.2.1, q.2.2.2.2.1, q.2.2.2.2.2.1, q.2.2.2.2.2.2.1, q.2.2.2.2.2.2.2.1, q.2.2.2.2.2.2.2.2.1, q.2.2.2.2.2.2.2.2.2.1, q.2.2.2.2.2.2.2.2.2.2.1, q.2.2.2.2.2.2.2.2.2.2.2.1, q.2.2.2.2.2.2.2.2.2.2.2.2.1, (hereN o.2.1 o.2.2.1 q.2.1) - (97 : Int32), q.2.2.2.2.2.2.2.2.2.2.2.2.2.2.1, q.2.2.2.2.2.2.2.2.2.2.2.2.2.2.2.1, q.2.2.2.2.2.2.2.2.2.2.2.2.2.2.2.2.1, q.2.2.2.2.2.2.2.2.2.2.2.2.2.2.2.2.2.1, q.2.2.2.2.2.2.2.2.2.2.2.2.2.2.2.2.2.2 + 1) (61 : Int32)  (by first | omega | (dsimp only; omega)) (by first | omega | (dsimp only; omega)) (by first | omega | (dsimp only; omega))) gX4_statement_X4_want rfl (by decide +kernel) (rm_ok (by omega) (by decide)) 0 rfl rfl rfl (Nat.le_of_ble_eq_true rfl) rfl dX4_statement_145 ?_
        have w51 : wanF o.2.1 o.2.2.1 (61 : Int32) (q.2.1 + 1) (wrF q.1 q.2.1) < 1000 := wanF_b (by first | omega | (dsimp only; omega)) (by first | omega | (dsimp only; omega))
        refine Z.aload_n C dX4_statement_148 1 rfl rfl ?_
        refine Z.iconst C (v := (nI 0)) dX4_statement_149 (by decide) ?_
        refine Z.callVv C (nA := 1) (As := [.int (0 : Int32)]) (st := []) (c_pushN o (wanF o.2.1 o.2.2.1 (61 : Int32) (q.2.1 + 1) (wrF q.1 q.2.1), q.2.1 + 1 + 1, q.2.2.1, q.2.2.2.1, q.2.2.2.2.1, q.2.2.2.2.2.1, q.2.2.2.2.2.2.1, q.2.2.2.2.2.2.2.1, q.2.2.2.2.2.2.2.2.1, q.2.2.2.2.2.2.2.2.2.1, q.2.2.2.2.2.2.2.2.2.2.1, q.2.2.2.2.2.2.2.2.2.2.2.1, q.2.2.2.2.2.2.2.2.2.2.2.2.1, (hereN o.2.1 o.2.2.1 q.2.1) - (97 : Int32), q.2.2.2.2.2.2.2.2.2.2.2.2.2.2.1, q.2.2.2.2.2.2.2.2.2.2.2.2.2.2.2.1, q.2.2.2.2.2.2.2.2.2.2.2.2.2.2.2.2.1, q.2.2.2.2.2.2.2.2.2.2.2.2.2.2.2.2.2.1, q.2.2.2.2.2.2.2.2.2.2.2.2.2.2.2.2.2.2 + 1) (0 : Int32)  (by first | omega | (dsimp only; omega))) gX4_statement_X4_push rfl (by decide +kernel) (rm_ok (by omega) (by decide)) 0 rfl rfl rfl (Nat.le_of_ble_eq_true rfl) rfl dX4_statement_150 ?_
        refine Z.iconst C (v := (nI 1)) dX4_statement_153 (by decide) ?_
        refine Z.iret C hr hA dX4_statement_154 ?_ ?_
        · first | (simp [qStmt, qStmt2, qLoopStmt, qStep, qAt1, qWr, qWant, qPush, qSettle, qBlock, qWork, qNest, (eq_false c1), c2, c48]; done) | (simp_all [qStmt, qStmt2, qLoopStmt, qStep, qAt1, qWr, qWant, qPush, qSettle, qBlock, qWork, qNest]; done)
        · (refine congrArg (wN a cI cZ o) ?_; first | (simp [qStmt, qStmt2, qLoopStmt, qStep, qAt1, qWr, qWant, qPush, qSettle, qBlock, qWork, qNest, (eq_false c1), c2, c48]; done) | (simp_all [qStmt, qStmt2, qLoopStmt, qStep, qAt1, qWr, qWant, qPush, qSettle, qBlock, qWork, qNest]; done))
  · skip
    replace c1 : (hereN o.2.1 o.2.2.1 q.2.1) = (125 : Int32) := c1
    refine Z.aload_n C dX4_statement_11 1 rfl rfl ?_
    refine Z.get C in4 0 rfl rfl 27 (by decide) (by decide +kernel) rfl rfl dX4_statement_12 ?_
    refine Z.if_le C 88 dX4_statement_15 (by decide) (fun c52 => ?_) (fun c52 => ?_)
    · skip
      replace c52 : ¬ 0 < q.2.2.2.2.2.2.2.2.2.2.2.2.2.2.2.2.2.1 := Nat.not_lt.mpr ((nI_leI (by omega) (by omega)).mp c52)
      refine Z.aload_n C dX4_statement_88 1 rfl rfl ?_
      refine Z.dup C dX4_statement_89 rfl ?_
      refine Z.get C in4 0 rfl rfl 32 (by decide) (by decide +kernel) rfl rfl dX4_statement_90 ?_
      refine Z.iconst C (v := (nI 1)) dX4_statement_93 (by decide) ?_
      refine Z.iadd C (v := (nI (q.2.2.2.2.2.2.2.2.2.2.2.2.2.2.2.2.2.2 + 1))) dX4_statement_94 (nI_add q.2.2.2.2.2.2.2.2.2.2.2.2.2.2.2.2.2.2 1) ?_
      refine Z.put C in4 0 rfl rfl 32 (by decide) tyX4 tyX4_ok nmX4 (by decide +kernel) rfl rfl rfl rfl (Nat.le_of_ble_eq_true rfl) dX4_statement_95 (w' := (wN a cI cZ o (q.1, q.2.1, q.2.2.1, q.2.2.2.1, q.2.2.2.2.1, q.2.2.2.2.2.1, q.2.2.2.2.2.2.1, q.2.2.2.2.2.2.2.1, q.2.2.2.2.2.2.2.2.1, q.2.2.2.2.2.2.2.2.2.1, q.2.2.2.2.2.2.2.2.2.2.1, q.2.2.2.2.2.2.2.2.2.2.2.1, q.2.2.2.2.2.2.2.2.2.2.2.2.1, q.2.2.2.2.2.2.2.2.2.2.2.2.2.1, q.2.2.2.2.2.2.2.2.2.2.2.2.2.2.1, q.2.2.2.2.2.2.2.2.2.2.2.2.2.2.2.1, q.2.2.2.2.2.2.2.2.2.2.2.2.2.2.2.2.1, q.2.2.2.2.2.2.2.2.2.2.2.2.2.2.2.2.2.1, q.2.2.2.2.2.2.2.2.2.2.2.2.2.2.2.2.2.2 + 1))) rfl ?_
      refine Z.iload_n C dX4_statement_98 0 rfl rfl ?_
      refine Z.callSi C (nA := 1) (As := [.int (hereN o.2.1 o.2.2.1 q.2.1)]) (st := []) (c_isLetter (hereN o.2.1 o.2.2.1 q.2.1)) gX4_statement_X4_isLetter rfl (by decide +kernel) (rm_ok (by omega) (by decide)) rfl (Nat.le_of_ble_eq_true rfl) rfl dX4_statement_99 ?_
      refine Z.if_eq C 155 dX4_statement_102 (by decide) (fun c53 => ?_) (fun c53 => ?_)
      · skip
        replace c53 : isLetF (hereN o.2.1 o.2.2.1 q.2.1) = false := b2i_0.mp c53
        refine Z.iload_n C dX4_statement_155 0 rfl rfl ?_
        refine Z.bipush C (v := (nI 64)) dX4_statement_156 (by decide) ?_
        refine Z.icmp_ne C 184 dX4_statement_158 (by decide) (fun c54 => ?_) (fun c54 => ?_)
        · skip
          replace c54 : ¬ (hereN o.2.1 o.2.2.1 q.2.1) = (64 : Int32) := c54
          refine Z.iload_n C dX4_statement_184 0 rfl rfl ?_
          refine Z.bipush C (v := (nI 35)) dX4_statement_185 (by decide) ?_
          refine Z.icmp_eq C 196 dX4_statement_187 (by decide) (fun c55 => ?_) (fun c55 => ?_)
          · skip
            replace c55 : (hereN o.2.1 o.2.2.1 q.2.1) = (35 : Int32) := c55
            exact absurd (c1.symm.trans c55) (by decide)
          · skip
            replace c55 : ¬ (hereN o.2.1 o.2.2.1 q.2.1) = (35 : Int32) := c55
            refine Z.iload_n C dX4_statement_190 0 rfl rfl ?_
            refine Z.bipush C (v := (nI 63)) dX4_statement_191 (by decide) ?_
            refine Z.icmp_ne C 205 dX4_statement_193 (by decide) (fun c56 => ?_) (fun c56 => ?_)
            · skip
              replace c56 : ¬ (hereN o.2.1 o.2.2.1 q.2.1) = (63 : Int32) := c56
              refine Z.aload_n C dX4_statement_205 1 rfl rfl ?_
              refine Z.aload_n C dX4_statement_206 1 rfl rfl ?_
              refine Z.get C in4 0 rfl rfl 28 (by decide) (by decide +kernel) rfl rfl dX4_statement_207 ?_
              refine Z.callVv C (nA := 1) (As := [.int (nI q.2.1)]) (st := []) (c_wrong o (q.1, q.2.1, q.2.2.1, q.2.2.2.1, q.2.2.2.2.1, q.2.2.2.2.2.1, q.2.2.2.2.2.2.1, q.2.2.2.2.2.2.2.1, q.2.2.2.2.2.2.2.2.1, q.2.2.2.2.2.2.2.2.2.1, q.2.2.2.2.2.2.2.2.2.2.1, q.2.2.2.2.2.2.2.2.2.2.2.1, q.2.2.2.2.2.2.2.2.2.2.2.2.1, q.2.2.2.2.2.2.2.2.2.2.2.2.2.1, q.2.2.2.2.2.2.2.2.2.2.2.2.2.2.1, q.2.2.2.2.2.2.2.2.2.2.2.2.2.2.2.1, q.2.2.2.2.2.2.2.2.2.2.2.2.2.2.2.2.1, q.2.2.2.2.2.2.2.2.2.2.2.2.2.2.2.2.2.1, q.2.2.2.2.2.2.2.2.2.2.2.2.2.2.2.2.2.2 + 1) q.2.1  (by first | omega | (dsimp only; omega))) gX4_statement_X4_wrong rfl (by decide +kernel) (rm_ok (by omega) (by decide)) 0 rfl rfl rfl (Nat.le_of_ble_eq_true rfl) rfl dX4_statement_210 ?_
              have w57 : wrF q.1 q.2.1 < 1000 := wrF_b (by first | omega | (dsimp only; omega)) (by first | omega | (dsimp only; omega))
              refine Z.iconst C (v := (nI 0)) dX4_statement_213 (by decide) ?_
              refine Z.iret C hr hA dX4_statement_214 ?_ ?_
              · first | (simp [qStmt, qStmt2, qLoopStmt, qStep, qAt1, qWr, qWant, qPush, qSettle, qBlock, qWork, qNest, (eq_true c1), (eq_false c52), c53, (eq_false c54), (eq_false c55), (eq_false c56)]; done) | (simp_all [qStmt, qStmt2, qLoopStmt, qStep, qAt1, qWr, qWant, qPush, qSettle, qBlock, qWork, qNest]; done)
              · (refine congrArg (wN a cI cZ o) ?_; first | (simp [qStmt, qStmt2, qLoopStmt, qStep, qAt1, qWr, qWant, qPush, qSettle, qBlock, qWork, qNest, (eq_true c1), (eq_false c52), c53, (eq_false c54), (eq_false c55), (eq_false c56)]; done) | (simp_all [qStmt, qStmt2, qLoopStmt, qStep, qAt1, qWr, qWant, qPush, qSettle, qBlock, qWork, qNest]; done))
            · skip
              replace c56 : (hereN o.2.1 o.2.2.1 q.2.1) = (63 : Int32) := c56
              exact absurd (c1.symm.trans c56) (by decide)
        · skip
          replace c54 : (hereN o.2.1 o.2.2.1 q.2.1) = (64 : Int32) := c54
          exact absurd (c1.symm.trans c54) (by decide)
      · skip
        replace c53 : isLetF (hereN o.2.1 o.2.2.1 q.2.1) = true := b2i_n0.mp c53
        refine Z.aload_n C dX4_statement_105 1 rfl rfl ?_
        refine Z.iload_n C dX4_statement_106 0 rfl rfl ?_
        refine Z.bipush C (v := (nI 97)) dX4_statement_107 (by decide) ?_
        refine Z.isub C (v := ((hereN o.2.1 o.2.2.1 q.2.1) - (97 : Int32))) dX4_statement_109 rfl ?_
        refine Z.put C in4 0 rfl rfl 23 (by decide) tyX4 tyX4_ok nmX4 (by decide +kernel) rfl rfl rfl rfl (Nat.le_of_ble_eq_true rfl) dX4_statement_110 (w' := (wN a cI cZ o (q.1, q.2.1, q.2.2.1, q.2.2.2.1, q.2.2.2.2.1, q.2.2.2.2.2.1, q.2.2.2.2.2.2.1, q.2.2.2.2.2.2.2.1, q.2.2.2.2.2.2.2.2.1, q.2.2.2.2.2.2.2.2.2.1, q.2.2.2.2.2.2.2.2.2.2.1, q.2.2.2.2.2.2.2.2.2.2.2.1, q.2.2.2.2.2.2.2.2.2.2.2.2.1, (hereN o.2.1 o.2.2.1 q.2.1) - (97 : Int32), q.2.2.2.2.2.2.2.2.2.2.2.2.2.2.1, q.2.2.2.2.2.2.2.2.2.2.2.2.2.2.2.1, q.2.2.2.2.2.2.2.2.2.2.2.2.2.2.2.2.1, q.2.2.2.2.2.2.2.2.2.2.2.2.2.2.2.2.2.1, q.2.2.2.2.2.2.2.2.2.2.2.2.2.2.2.2.2.2 + 1))) rfl ?_
        refine Z.aload_n C dX4_statement_113 1 rfl rfl ?_
        refine Z.aload_n C dX4_statement_114 1 rfl rfl ?_
        refine Z.get C in4 0 rfl rfl 23 (by decide) (by decide +kernel) rfl rfl dX4_statement_115 ?_
        refine Z.callVi C (nA := 1) (As := [.int ((hereN o.2.1 o.2.2.1 q.2.1) - (97 : Int32))]) (st := []) (c_isLoop o (q.1, q.2.1, q.2.2.1, q.2.2.2.1, q.2.2.2.2.1, q.2.2.2.2.2.1, q.2.2.2.2.2.2.1, q.2.2.2.2.2.2.2.1, q.2.2.2.2.2.2.2.2.1, q.2.2.2.2.2.2.2.2.2.1, q.2.2.2.2.2.2.2.2.2.2.1, q.2.2.2.2.2.2.2.2.2.2.2.1, q.2.2.2.2.2.2.2.2.2.2.2.2.1, (hereN o.2.1 o.2.2.1 q.2.1) - (97 : Int32), q.2.2.2.2.2.2.2.2.2.2.2.2.2.2.1, q.2.2.2.2.2.2.2.2.2.2.2.2.2.2.2.1, q.2.2.2.2.2.2.2.2.2.2.2.2.2.2.2.2.1, q.2.2.2.2.2.2.2.2.2.2.2.2.2.2.2.2.2.1, q.2.2.2.2.2.2.2.2.2.2.2.2.2.2.2.2.2.2 + 1) ((hereN o.2.1 o.2.2.1 q.2.1) - (97 : Int32))  (by first | omega | (dsimp only; omega))) gX4_statement_X4_isLoop rfl (by decide +kernel) (rm_ok (by omega) (by decide)) 0 rfl rfl rfl (Nat.le_of_ble_eq_true rfl) rfl dX4_statement_118 ?_
        refine Z.if_eq C 132 dX4_statement_121 (by decide) (fun c58 => ?_) (fun c58 => ?_)
        · skip
          replace c58 : isLoopF q.2.2.2.2.2.2.2.2.2.2.2.2.2.2.1 q.2.2.2.2.2.2.2.2.2.2.2.2.2.2.2.2.2.1 ((hereN o.2.1 o.2.2.1 q.2.1) - (97 : Int32)) = false := b2i_0.mp c58
          refine Z.aload_n C dX4_statement_132 1 rfl rfl ?_
          refine Z.dup C dX4_statement_133 rfl ?_
          refine Z.get C in4 0 rfl rfl 28 (by decide) (by decide +kernel) rfl rfl dX4_statement_134 ?_
          refine Z.iconst C (v := (nI 1)) dX4_statement_137 (by decide) ?_
          refine Z.iadd C (v := (nI (q.2.1 + 1))) dX4_statement_138 (nI_add q.2.1 1) ?_
          refine Z.put C in4 0 rfl rfl 28 (by decide) tyX4 tyX4_ok nmX4 (by decide +kernel) rfl rfl rfl rfl (Nat.le_of_ble_eq_true rfl) dX4_statement_139 (w' := (wN a cI cZ o (q.1, q.2.1 + 1, q.2.2.1, q.2.2.2.1, q.2.2.2.2.1, q.2.2.2.2.2.1, q.2.2.2.2.2.2.1, q.2.2.2.2.2.2.2.1, q.2.2.2.2.2.2.2.2.1, q.2.2.2.2.2.2.2.2.2.1, q.2.2.2.2.2.2.2.2.2.2.1, q.2.2.2.2.2.2.2.2.2.2.2.1, q.2.2.2.2.2.2.2.2.2.2.2.2.1, (hereN o.2.1 o.2.2.1 q.2.1) - (97 : Int32), q.2.2.2.2.2.2.2.2.2.2.2.2.2.2.1, q.2.2.2.2.2.2.2.2.2.2.2.2.2.2.2.1, q.2.2.2.2.2.2.2.2.2.2.2.2.2.2.2.2.1, q.2.2.2.2.2.2.2.2.2.2.2.2.2.2.2.2.2.1, q.2.2.2.2.2.2.2.2.2.2.2.2.2.2.2.2.2.2 + 1))) rfl ?_
          refine Z.aload_n C dX4_statement_142 1 rfl rfl ?_
          refine Z.bipush C (v := (nI 61)) dX4_statement_143 (by decide) ?_
          refine Z.callVv C (nA := 1) (As := [.int (61 : Int32)]) (st := []) (c_want o (q.1, q.2.1 + 1, q.2.2.1, q.2.2.2.1, q.2.2.2.2.1, q.2.2.2.2.2.1, q.2.2.2.2.2.2.1, q.2.2.2.2.2.2.2.1, q.2.2.2.2.2.2.2.2.1, q.2.2.2.2.2.2.2.2.2.1, q.2.2.2.2.2.2.2.2.2.2.1, q.2.2.2.2.2.2.2.2.2.2.2.1, q.2.2.2.2.2.2.2.2.2.2.2.2.1, (hereN o.2.1 o.2.2.1 q.2.1) - (97 : Int32), q.2.2.2.2.2.2.2.2.2.2.2.2.2.2.1, q.2.2.2.2.2.2.2.2.2.2.2.2.2.2.2.1, q.2.2.2.2.2.2.2.2.2.2.2.2.2.2.2.2.1, q.2.2.2.2.2.2.2.2.2.2.2.2.2.2.2.2.2.1, q.2.2.2.2.2.2.2.2.2.2.2.2.2.2.2.2.2.2 + 1) (61 : Int32)  (by first | omega | (dsimp only; omega)) (by first | omega | (dsimp only; omega)) (by first | omega | (dsimp only; omega))) gX4_statement_X4_want rfl (by decide +kernel) (rm_ok (by omega) (by decide)) 0 rfl rfl rfl (Nat.le_of_ble_eq_true rfl) rfl dX4_statement_145 ?_
          have w59 : wanF o.2.1 o.2.2.1 (61 : Int32) (q.2.1 + 1) q.1 < 1000 := wanF_b (by first | omega | (dsimp only; omega)) (by first | omega | (dsimp only; omega))
          refine Z.aload_n C dX4_statement_148 1 rfl rfl ?_
          refine Z.iconst C (v := (nI 0)) dX4_statement_149 (by decide) ?_
          refine Z.callVv C (nA := 1) (As := [.int (0 : Int32)]) (st := []) (c_pushN o (wanF o.2.1 o.2.2.1 (61 : Int32) (q.2.1 + 1) q.1, q.2.1 + 1 + 1, q.2.2.1, q.2.2.2.1, q.2.2.2.2.1, q.2.2.2.2.2.1, q.2.2.2.2.2.2.1, q.2.2.2.2.2.2.2.1, q.2.2.2.2.2.2.2.2.1, q.2.2.2.2.2.2.2.2.2.1, q.2.2.2.2.2.2.2.2.2.2.1, q.2.2.2.2.2.2.2.2.2.2.2.1, q.2.2.2.2.2.2.2.2.2.2.2.2.1, (hereN o.2.1 o.2.2.1 q.2.1) - (97 : Int32), q.2.2.2.2.2.2.2.2.2.2.2.2.2.2.1, q.2.2.2.2.2.2.2.2.2.2.2.2.2.2.2.1, q.2.2.2.2.2.2.2.2.2.2.2.2.2.2.2.2.1, q.2.2.2.2.2.2.2.2.2.2.2.2.2.2.2.2.2.1, q.2.2.2.2.2.2.2.2.2.2.2.2.2.2.2.2.2.2 + 1) (0 : Int32)  (by first | omega | (dsimp only; omega))) gX4_statement_X4_push rfl (by decide +kernel) (rm_ok (by omega) (by decide)) 0 rfl rfl rfl (Nat.le_of_ble_eq_true rfl) rfl dX4_statement_150 ?_
          refine Z.iconst C (v := (nI 1)) dX4_statement_153 (by decide) ?_
          refine Z.iret C hr hA dX4_statement_154 ?_ ?_
          · first | (simp [qStmt, qStmt2, qLoopStmt, qStep, qAt1, qWr, qWant, qPush, qSettle, qBlock, qWork, qNest, (eq_true c1), (eq_false c52), c53, c58]; done) | (simp_all [qStmt, qStmt2, qLoopStmt, qStep, qAt1, qWr, qWant, qPush, qSettle, qBlock, qWork, qNest]; done)
          · (refine congrArg (wN a cI cZ o) ?_; first | (simp [qStmt, qStmt2, qLoopStmt, qStep, qAt1, qWr, qWant, qPush, qSettle, qBlock, qWork, qNest, (eq_true c1), (eq_false c52), c53, c58]; done) | (simp_all [qStmt, qStmt2, qLoopStmt, qStep, qAt1, qWr, qWant, qPush, qSettle, qBlock, qWork, qNest]; done))
        · skip
          replace c58 : isLoopF q.2.2.2.2.2.2.2.2.2.2.2.2.2.2.1 q.2.2.2.2.2.2.2.2.2.2.2.2.2.2.2.2.2.1 ((hereN o.2.1 o.2.2.1 q.2.1) - (97 : Int32)) = true := b2i_n0.mp c58
          refine Z.aload_n C dX4_statement_124 1 rfl rfl ?_
          refine Z.aload_n C dX4_statement_125 1 rfl rfl ?_
          refine Z.get C in4 0 rfl rfl 28 (by decide) (by decide +kernel) rfl rfl dX4_statement_126 ?_
          refine Z.callVv C (nA := 1) (As := [.int (nI q.2.1)]) (st := []) (c_wrong o (q.1, q.2.1, q.2.2.1, q.2.2.2.1, q.2.2.2.2.1, q.2.2.2.2.2.1, q.2.2.2.2.2.2.1, q.2.2.2.2.2.2.2.1, q.2.2.2.2.2.2.2.2.1, q.2.2.2.2.2.2.2.2.2.1, q.2.2.2.2.2.2.2.2.2.2.1, q.2.2.2.2.2.2.2.2.2.2.2.1, q.2.2.2.2.2.2.2.2.2.2.2.2.1, (hereN o.2.1 o.2.2.1 q.2.1) - (97 : Int32), q.2.2.2.2.2.2.2.2.2.2.2.2.2.2.1, q.2.2.2.2.2.2.2.2.2.2.2.2.2.2.2.1, q.2.2.2.2.2.2.2.2.2.2.2.2.2.2.2.2.1, q.2.2.2.2.2.2.2.2.2.2.2.2.2.2.2.2.2.1, q.2.2.2.2.2.2.2.2.2.2.2.2.2.2.2.2.2.2 + 1) q.2.1  (by first | omega | (dsimp only; omega))) gX4_statement_X4_wrong rfl (by decide +kernel) (rm_ok (by omega) (by decide)) 0 rfl rfl rfl (Nat.le_of_ble_eq_true rfl) rfl dX4_statement_129 ?_
          have w60 : wrF q.1 q.2.1 < 1000 := wrF_b (by first | omega | (dsimp only; omega)) (by first | omega | (dsimp only; omega))
          refine Z.aload_n C dX4_statement_132 1 rfl rfl ?_
          refine Z.dup C dX4_statement_133 rfl ?_
          refine Z.get C in4 0 rfl rfl 28 (by decide) (by decide +kernel) rfl rfl dX4_statement_134 ?_
          refine Z.iconst C (v := (nI 1)) dX4_statement_137 (by decide) ?_
          refine Z.iadd C (v := (nI (q.2.1 + 1))) dX4_statement_138 (nI_add q.2.1 1) ?_
          refine Z.put C in4 0 rfl rfl 28 (by decide) tyX4 tyX4_ok nmX4 (by decide +kernel) rfl rfl rfl rfl (Nat.le_of_ble_eq_true rfl) dX4_statement_139 (w' := (wN a cI cZ o (wrF q.1 q.2.1, q.2.1 + 1, q.2.2.1, q.2.2.2.1, q.2.2.2.2.1, q.2.2.2.2.2.1, q.2.2.2.2.2.2.1, q.2.2.2.2.2.2.2.1, q.2.2.2.2.2.2.2.2.1, q.2.2.2.2.2.2.2.2.2.1, q.2.2.2.2.2.2.2.2.2.2.1, q.2.2.2.2.2.2.2.2.2.2.2.1, q.2.2.2.2.2.2.2.2.2.2.2.2.1, (hereN o.2.1 o.2.2.1 q.2.1) - (97 : Int32), q.2.2.2.2.2.2.2.2.2.2.2.2.2.2.1, q.2.2.2.2.2.2.2.2.2.2.2.2.2.2.2.1, q.2.2.2.2.2.2.2.2.2.2.2.2.2.2.2.2.1, q.2.2.2.2.2.2.2.2.2.2.2.2.2.2.2.2.2.1, q.2.2.2.2.2.2.2.2.2.2.2.2.2.2.2.2.2.2 + 1))) rfl ?_
          refine Z.aload_n C dX4_statement_142 1 rfl rfl ?_
          refine Z.bipush C (v := (nI 61)) dX4_statement_143 (by decide) ?_
          refine Z.callVv C (nA := 1) (As := [.int (61 : Int32)]) (st := []) (c_want o (wrF q.1 q.2.1, q.2.1 + 1, q.2.2.1, q.2.2.2.1, q.2.2.2.2.1, q.2.2.2.2.2.1, q.2.2.2.2.2.2.1, q.2.2.2.2.2.2.2.1, q.2.2.2.2.2.2.2.2.1, q.2.2.2.2.2.2.2.2.2.1, q.2.2.2.2.2.2.2.2.2.2.1, q.2.2.2.2.2.2.2.2.2.2.2.1, q.2.2.2.2.2.2.2.2.2.2.2.2.1, (hereN o.2.1 o.2.2.1 q.2.1) - (97 : Int32), q.2.2.2.2.2.2.2.2.2.2.2.2.2.2.1, q.2.2.2.2.2.2.2.2.2.2.2.2.2.2.2.1, q.2.2.2.2.2.2.2.2.2.2.2.2.2.2.2.2.1, q.2.2.2.2.2.2.2.2.2.2.2.2.2.2.2.2.2.1, q.2.2.2.2.2.2.2.2.2.2.2.2.2.2.2.2.2.2 + 1) (61 : Int32)  (by first | omega | (dsimp only; omega)) (by first | omega | (dsimp only; omega)) (by first | omega | (dsimp only; omega))) gX4_statement_X4_want rfl (by decide +kernel) (rm_ok (by omega) (by decide)) 0 rfl rfl rfl (Nat.le_of_ble_eq_true rfl) rfl dX4_statement_145 ?_
          have w61 : wanF o.2.1 o.2.2.1 (61 : Int32) (q.2.1 + 1) (wrF q.1 q.2.1) < 1000 := wanF_b (by first | omega | (dsimp only; omega)) (by first | omega | (dsimp only; omega))
          refine Z.aload_n C dX4_statement_148 1 rfl rfl ?_
          refine Z.iconst C (v := (nI 0)) dX4_statement_149 (by decide) ?_
          refine Z.callVv C (nA := 1) (As := [.int (0 : Int32)]) (st := []) (c_pushN o (wanF o.2.1 o.2.2.1 (61 : Int32) (q.2.1 + 1) (wrF q.1 q.2.1), q.2.1 + 1 + 1, q.2.2.1, q.2.2.2.1, q.2.2.2.2.1, q.2.2.2.2.2.1, q.2.2.2.2.2.2.1, q.2.2.2.2.2.2.2.1, q.2.2.2.2.2.2.2.2.1, q.2.2.2.2.2.2.2.2.2.1, q.2.2.2.2.2.2.2.2.2.2.1, q.2.2.2.2.2.2.2.2.2.2.2.1, q.2.2.2.2.2.2.2.2.2.2.2.2.1, (hereN o.2.1 o.2.2.1 q.2.1) - (97 : Int32), q.2.2.2.2.2.2.2.2.2.2.2.2.2.2.1, q.2.2.2.2.2.2.2.2.2.2.2.2.2.2.2.1, q.2.2.2.2.2.2.2.2.2.2.2.2.2.2.2.2.1, q.2.2.2.2.2.2.2.2.2.2.2.2.2.2.2.2.2.1, q.2.2.2.2.2.2.2.2.2.2.2.2.2.2.2.2.2.2 + 1) (0 : Int32)  (by first | omega | (dsimp only; omega))) gX4_statement_X4_push rfl (by decide +kernel) (rm_ok (by omega) (by decide)) 0 rfl rfl rfl (Nat.le_of_ble_eq_true rfl) rfl dX4_statement_150 ?_
          refine Z.iconst C (v := (nI 1)) dX4_statement_153 (by decide) ?_
          refine Z.iret C hr hA dX4_statement_154 ?_ ?_
          · first | (simp [qStmt, qStmt2, qLoopStmt, qStep, qAt1, qWr, qWant, qPush, qSettle, qBlock, qWork, qNest, (eq_true c1), (eq_false c52), c53, c58]; done) | (simp_all [qStmt, qStmt2, qLoopStmt, qStep, qAt1, qWr, qWant, qPush, qSettle, qBlock, qWork, qNest]; done)
          · (refine congrArg (wN a cI cZ o) ?_; first | (simp [qStmt, qStmt2, qLoopStmt, qStep, qAt1, qWr, qWant, qPush, qSettle, qBlock, qWork, qNest, (eq_true c1), (eq_false c52), c53, c58]; done) | (simp_all [qStmt, qStmt2, qLoopStmt, qStep, qAt1, qWr, qWant, qPush, qSettle, qBlock, qWork, qNest]; done))
    · skip
      replace c52 : 0 < q.2.2.2.2.2.2.2.2.2.2.2.2.2.2.2.2.2.1 := Nat.not_le.mp (mt (nI_leI (by omega) (by omega)).mpr c52)
      refine Z.aload_n C dX4_statement_18 1 rfl rfl ?_
      refine Z.dup C dX4_statement_19 rfl ?_
      refine Z.get C in4 0 rfl rfl 28 (by decide) (by decide +kernel) rfl rfl dX4_statement_20 ?_
      refine Z.iconst C (v := (nI 1)) dX4_statement_23 (by decide) ?_
      refine Z.iadd C (v := (nI (q.2.1 + 1))) dX4_statement_24 (nI_add q.2.1 1) ?_
      refine Z.put C in4 0 rfl rfl 28 (by decide) tyX4 tyX4_ok nmX4 (by decide +kernel) rfl rfl rfl rfl (Nat.le_of_ble_eq_true rfl) dX4_statement_25 (w' := (wN a cI cZ o (q.1, q.2.1 + 1, q.2.2))) rfl ?_
      refine Z.aload_n C dX4_statement_28 1 rfl rfl ?_
      refine Z.dup C dX4_statement_29 rfl ?_
      refine Z.get C in4 0 rfl rfl 27 (by decide) (by decide +kernel) rfl rfl dX4_statement_30 ?_
      refine Z.iconst C (v := (nI 1)) dX4_statement_33 (by decide) ?_
      refine Z.isub C (v := (nI (q.2.2.2.2.2.2.2.2.2.2.2.2.2.2.2.2.2.1 - 1))) dX4_statement_34 (pk_sub (a := q.2.2.2.2.2.2.2.2.2.2.2.2.2.2.2.2.2.1) (b := 1) (by omega)) ?_
      refine Z.put C in4 0 rfl rfl 27 (by decide) tyX4 tyX4_ok nmX4 (by decide +kernel) rfl rfl rfl rfl (Nat.le_of_ble_eq_true rfl) dX4_statement_35 (w' := (wN a cI cZ o (q.1, q.2.1 + 1, q.2.2.1, q.2.2.2.1, q.2.2.2.2.1, q.2.2.2.2.2.1, q.2.2.2.2.2.2.1, q.2.2.2.2.2.2.2.1, q.2.2.2.2.2.2.2.2.1, q.2.2.2.2.2.2.2.2.2.1, q.2.2.2.2.2.2.2.2.2.2.1, q.2.2.2.2.2.2.2.2.2.2.2.1, q.2.2.2.2.2.2.2.2.2.2.2.2.1, q.2.2.2.2.2.2.2.2.2.2.2.2.2.1, q.2.2.2.2.2.2.2.2.2.2.2.2.2.2.1, q.2.2.2.2.2.2.2.2.2.2.2.2.2.2.2.1, q.2.2.2.2.2.2.2.2.2.2.2.2.2.2.2.2.1, q.2.2.2.2.2.2.2.2.2.2.2.2.2.2.2.2.2.1 - 1, q.2.2.2.2.2.2.2.2.2.2.2.2.2.2.2.2.2.2))) rfl ?_
      refine Z.aload_n C dX4_statement_38 1 rfl rfl ?_
      refine Z.get C in4 0 rfl rfl 24 (by decide) (by decide +kernel) rfl rfl dX4_statement_39 ?_
      refine Z.aload_n C dX4_statement_42 1 rfl rfl ?_
      refine Z.get C in4 0 rfl rfl 27 (by decide) (by decide +kernel) rfl rfl dX4_statement_43 ?_
      refine Z.iald C 13 0 rfl rfl (q.2.2.2.2.2.2.2.2.2.2.2.2.2.2.2.2.2.1 - 1) rfl (by omega) (by decide) dX4_statement_46 (v := (q.2.2.2.2.2.2.2.2.2.2.2.2.2.2.1 (q.2.2.2.2.2.2.2.2.2.2.2.2.2.2.2.2.2.1 - 1))) rfl ?_
      refine Z.if_lt C 68 dX4_statement_47 (by decide) (fun c62 => ?_) (fun c62 => ?_)
      · skip
        replace c62 : ¬ (0 : Int32) ≤ (q.2.2.2.2.2.2.2.2.2.2.2.2.2.2.1 (q.2.2.2.2.2.2.2.2.2.2.2.2.2.2.2.2.2.1 - 1)) := Int32.not_le.mpr c62
        refine Z.aload_n C dX4_statement_68 1 rfl rfl ?_
        refine Z.get C in4 0 rfl rfl 9 (by decide) (by decide +kernel) rfl rfl dX4_statement_69 ?_
        refine Z.aload_n C dX4_statement_72 1 rfl rfl ?_
        refine Z.get C in4 0 rfl rfl 25 (by decide) (by decide +kernel) rfl rfl dX4_statement_73 ?_
        refine Z.aload_n C dX4_statement_76 1 rfl rfl ?_
        refine Z.get C in4 0 rfl rfl 27 (by decide) (by decide +kernel) rfl rfl dX4_statement_77 ?_
        refine Z.iald C 14 0 rfl rfl (q.2.2.2.2.2.2.2.2.2.2.2.2.2.2.2.2.2.1 - 1) rfl (by omega) (by decide) dX4_statement_80 (v := (q.2.2.2.2.2.2.2.2.2.2.2.2.2.2.2.1 (q.2.2.2.2.2.2.2.2.2.2.2.2.2.2.2.2.2.1 - 1))) rfl ?_
        refine Z.aload_n C dX4_statement_81 1 rfl rfl ?_
        refine Z.get C in4 0 rfl rfl 10 (by decide) (by decide +kernel) rfl rfl dX4_statement_82 ?_
        refine Z.iast C 7 0 rfl rfl ((q.2.2.2.2.2.2.2.2.2.2.2.2.2.2.2.1 (q.2.2.2.2.2.2.2.2.2.2.2.2.2.2.2.2.2.1 - 1)).toNatClampNeg) (nI_cl (hbs _ (by omega)).1) (nI_clb (hbs _ (by omega)).1 (by omega) (hbs _ (by omega)).2) (by decide) dX4_statement_85 (v := (nI q.2.2.2.2.2.1)) rfl (w' := (wN a cI cZ o (q.1, q.2.1 + 1, q.2.2.1, q.2.2.2.1, (upd q.2.2.2.2.1 ((q.2.2.2.2.2.2.2.2.2.2.2.2.2.2.2.1 (q.2.2.2.2.2.2.2.2.2.2.2.2.2.2.2.2.2.1 - 1)).toNatClampNeg) (nI q.2.2.2.2.2.1)), q.2.2.2.2.2.1, q.2.2.2.2.2.2.1, q.2.2.2.2.2.2.2.1, q.2.2.2.2.2.2.2.2.1, q.2.2.2.2.2.2.2.2.2.1, q.2.2.2.2.2.2.2.2.2.2.1, q.2.2.2.2.2.2.2.2.2.2.2.1, q.2.2.2.2.2.2.2.2.2.2.2.2.1, q.2.2.2.2.2.2.2.2.2.2.2.2.2.1, q.2.2.2.2.2.2.2.2.2.2.2.2.2.2.1, q.2.2.2.2.2.2.2.2.2.2.2.2.2.2.2.1, q.2.2.2.2.2.2.2.2.2.2.2.2.2.2.2.2.1, q.2.2.2.2.2.2.2.2.2.2.2.2.2.2.2.2.2.1 - 1, q.2.2.2.2.2.2.2.2.2.2.2.2.2.2.2.2.2.2))) rfl ?_
        refine Z.iconst C (v := (nI 0)) dX4_statement_86 (by decide) ?_
        refine Z.iret C hr hA dX4_statement_87 ?_ ?_
        · first | (simp [qStmt, qStmt2, qLoopStmt, qStep, qAt1, qWr, qWant, qPush, qSettle, qBlock, qWork, qNest, (eq_true c1), (eq_true c52), (eq_false c62)]; done) | (simp_all [qStmt, qStmt2, qLoopStmt, qStep, qAt1, qWr, qWant, qPush, qSettle, qBlock, qWork, qNest]; done)
        · (refine congrArg (wN a cI cZ o) ?_; first | (simp [qStmt, qStmt2, qLoopStmt, qStep, qAt1, qWr, qWant, qPush, qSettle, qBlock, qWork, qNest, (eq_true c1), (eq_true c52), (eq_false c62)]; done) | (simp_all [qStmt, qStmt2, qLoopStmt, qStep, qAt1, qWr, qWant, qPush, qSettle, qBlock, qWork, qNest]; done))
      · skip
        replace c62 : (0 : Int32) ≤ (q.2.2.2.2.2.2.2.2.2.2.2.2.2.2.1 (q.2.2.2.2.2.2.2.2.2.2.2.2.2.2.2.2.2.1 - 1)) := Int32.not_lt.mp c62
        refine Z.aload_n C dX4_statement_50 1 rfl rfl ?_
        refine Z.bipush C (v := (nI 11)) dX4_statement_51 (by decide) ?_
        refine Z.aload_n C dX4_statement_53 1 rfl rfl ?_
        refine Z.get C in4 0 rfl rfl 25 (by decide) (by decide +kernel) rfl rfl dX4_statement_54 ?_
        refine Z.aload_n C dX4_statement_57 1 rfl rfl ?_
        refine Z.get C in4 0 rfl rfl 27 (by decide) (by decide +kernel) rfl rfl dX4_statement_58 ?_
        refine Z.iald C 14 0 rfl rfl (q.2.2.2.2.2.2.2.2.2.2.2.2.2.2.2.2.2.1 - 1) rfl (by omega) (by decide) dX4_statement_61 (v := (q.2.2.2.2.2.2.2.2.2.2.2.2.2.2.2.1 (q.2.2.2.2.2.2.2.2.2.2.2.2.2.2.2.2.2.1 - 1))) rfl ?_
        refine Z.callVv C (nA := 2) (As := [.int (11 : Int32), .int (q.2.2.2.2.2.2.2.2.2.2.2.2.2.2.2.1 (q.2.2.2.2.2.2.2.2.2.2.2.2.2.2.2.2.2.1 - 1))]) (st := []) (c_step o (q.1, q.2.1 + 1, q.2.2.1, q.2.2.2.1, q.2.2.2.2.1, q.2.2.2.2.2.1, q.2.2.2.2.2.2.1, q.2.2.2.2.2.2.2.1, q.2.2.2.2.2.2.2.2.1, q.2.2.2.2.2.2.2.2.2.1, q.2.2.2.2.2.2.2.2.2.2.1, q.2.2.2.2.2.2.2.2.2.2.2.1, q.2.2.2.2.2.2.2.2.2.2.2.2.1, q.2.2.2.2.2.2.2.2.2.2.2.2.2.1, q.2.2.2.2.2.2.2.2.2.2.2.2.2.2.1, q.2.2.2.2.2.2.2.2.2.2.2.2.2.2.2.1, q.2.2.2.2.2.2.2.2.2.2.2.2.2.2.2.2.1, q.2.2.2.2.2.2.2.2.2.2.2.2.2.2.2.2.2.1 - 1, q.2.2.2.2.2.2.2.2.2.2.2.2.2.2.2.2.2.2) (11 : Int32) (q.2.2.2.2.2.2.2.2.2.2.2.2.2.2.2.1 (q.2.2.2.2.2.2.2.2.2.2.2.2.2.2.2.2.2.1 - 1))  (by first | omega | (dsimp only; omega))) gX4_statement_X4_step rfl (by decide +kernel) (rm_ok (by omega) (by decide)) 0 rfl rfl rfl (Nat.le_of_ble_eq_true rfl) rfl dX4_statement_62 ?_
        refine Z.goto C 86 dX4_statement_65 (by decide) ?_
        refine Z.iconst C (v := (nI 0)) dX4_statement_86 (by decide) ?_
        refine Z.iret C hr hA dX4_statement_87 ?_ ?_
        · first | (simp [qStmt, qStmt2, qLoopStmt, qStep, qAt1, qWr, qWant, qPush, qSettle, qBlock, qWork, qNest, (eq_true c1), (eq_true c52), (eq_true c62)]; done) | (simp_all [qStmt, qStmt2, qLoopStmt, qStep, qAt1, qWr, qWant, qPush, qSettle, qBlock, qWork, qNest]; done)
        · (refine congrArg (wN a cI cZ o) ?_; first | (simp [qStmt, qStmt2, qLoopStmt, qStep, qAt1, qWr, qWant, qPush, qSettle, qBlock, qWork, qNest, (eq_true c1), (eq_true c52), (eq_true c62)]; done) | (simp_all [qStmt, qStmt2, qLoopStmt, qStep, qAt1, qWr, qWant, qPush, qSettle, qBlock, qWork, qNest]; done))
