def StT (tx : Nat → Int32) (len d : Nat) : Prop :=
  ∀ (lp : Int32) (tu : Nat) (bn bs pr : Nat → Int32) (bl at0 num num0 : Nat) (c0 : CS) (dop dva : Nat → Int32) (dsz : Nat) (opn pnd stl : Nat → Int32) (asg : Int32) (stm : Nat), GoodS len d at0 c0 dsz lp tu bn bs pr bl → c0.2.2.2.2.1 = stm + 1 → at0 < len → ¬ hereN tx len at0 = 125 →
    PR tx len at0 c0 lp tu dop dva dsz bn bs pr bl (0, (0, at0, num0, dop, dva, dsz, c0.2.2.2.2.2, opn, pnd, 0, 0, stl, 0, asg, bn, bs, pr, bl, stm)) (mSt tx len d (at0, 0, num, lp, tu, c0)) (fun a => at0 < a)
theorem stm_0 {tx : Nat → Int32} {len : Nat} (hL : len ≤ 480) : StT tx len 0 := by
  intro lp tu bn bs pr bl at0 num num0 c0 dop dva dsz opn pnd stl asg stm G hst hlt h125
  have G' := G
  obtain ⟨ga, gc, gd, gbd, gb, gl, gp, gt1, gt⟩ := G
  rw [mSt]; unfold mStmt; dsimp only
  have bad : hereN tx len at0 = 35 ∨ hereN tx len at0 = 63 → PR tx len at0 c0 lp tu dop dva dsz bn bs pr bl (0, (0, at0, num0, dop, dva, dsz, c0.2.2.2.2.2, opn, pnd, 0, 0, stl, 0, asg, bn, bs, pr, bl, stm)) (gRef (at0, 0, num, lp, tu, c0)) (fun a => at0 < a) := by
    intro h
    refine Or.inr ⟨_, 1, _, rfl, Nat.succ_pos at0, by show at0 + 1 ≤ len + 1; omega, QQ_1 (qgo0 hlt) (qpre0 (by omega) (by omega) (by omega) (by omega) gb) rfl, ?_⟩
    show QEnd (at0 + 1) (qStmt tx len _)
    unfold qStmt; dsimp only; rw [if_neg (fun q => h125 q.1)]
    unfold qStmt2; dsimp only
    rw [if_neg (by rcases h with q | q <;> rw [q] <;> decide), if_neg (by rcases h with q | q <;> rw [q] <;> decide), if_pos h, if_pos (by omega)]
    exact ⟨Nat.zero_le 2, rfl, by show at0 ≤ 490; omega, gb.1, by show dsz ≤ 1000; omega⟩
  rw [hereF_in hlt, ← hereN_in (tx := tx) hlt]
  by_cases h35 : hereN tx len at0 = 35
  · rw [if_pos h35]; exact bad (Or.inl h35)
  · rw [if_neg h35]
    by_cases h63 : hereN tx len at0 = 63
    · rw [if_pos h63]; exact bad (Or.inr h63)
    · rw [if_neg h63]
      by_cases h64 : hereN tx len at0 = 64
      · rw [if_pos h64]; exact sto_q hL G' hst h64
      · rw [if_neg h64]; exact set_q hL G' hst hlt h125 h64 (fun q => q.elim h35 h63)
theorem stm_s {tx : Nat → Int32} {len d : Nat} (hL : len ≤ 480) (H : ProT tx len d) : StT tx len (d + 1) := by
  intro lp tu bn bs pr bl at0 num num0 c0 dop dva dsz opn pnd stl asg stm G hst hlt h125
  rw [mSt]; unfold mStmt; dsimp only
  rw [hereF_in hlt, ← hereN_in (tx := tx) hlt]
  by_cases h35 : hereN tx len at0 = 35
  · rw [if_pos h35]; exact loo_q hL H G hst h35
  · rw [if_neg h35]
    by_cases h63 : hereN tx len at0 = 63
    · rw [if_pos h63]; exact bra_q hL H G hst h63
    · rw [if_neg h63]
      by_cases h64 : hereN tx len at0 = 64
      · rw [if_pos h64]; exact sto_q hL G hst h64
      · rw [if_neg h64]; exact set_q hL G hst hlt h125 h64 (fun q => q.elim h35 h63)
theorem pl_q {tx : Nat → Int32} {len d : Nat} (hL : len ≤ 480) (htx : ∀ i, i < len → ¬ tx i = 0) (H : StT tx len d) {lp : Int32} {tu : Nat} {bn bs pr : Nat → Int32} {bl at0 : Nat} {c0 : CS} {dop dva : Nat → Int32} {dsz : Nat} {start : Nat × QS} (G : GoodS len d at0 c0 dsz lp tu bn bs pr bl) :
    ∀ (n at1 num num1 : Nat) (lp1 : Int32) (c : CS) (dop1 dva1 : Nat → Int32) (dsz1 : Nat) (opn1 pnd1 stl1 : Nat → Int32) (asg1 : Int32) (bn1 bs1 pr1 : Nat → Int32) (P : ST → Bool × ST) (k : Nat), len ≤ at1 + n →
     (∀ j, j < 26 → (LB lp1 j ↔ LB lp j)) → at0 ≤ at1 → at1 ≤ len → csz c0 ≤ csz c → csz c + at0 ≤ csz c0 + at1 →
     (∀ i, i < csz c0 → c.1 i = c0.1 i ∧ c.2.1 i = c0.2.1 i ∧ c.2.2.1 i = c0.2.2.1 i) → dsz ≤ dsz1 → dsz1 + at0 ≤ dsz + at1 → (∀ i, i < dsz → dop1 i = dop i ∧ dva1 i = dva i) →
     CSt c.1 c.2.1 c.2.2.1 (csz c0) (csz c) tu P → RSt dop1 dva1 dsz dsz1 P → (∀ j, j < 26 → ¬ LB lp j → Keep P j) →
     (∀ i, i < bl → bn1 i = bn i ∧ bs1 i = bs i) → (∀ i, i ≤ bl → pr1 i = pr i) →
     QQ tx len k start (0, (0, at1, num1, dop1, dva1, dsz1, c.2.2.2.2.2, opn1, pnd1, 0, 0, stl1, 0, asg1, bn1, bs1, pr1, bl, c.2.2.2.2.1)) →
     PR tx len at0 c0 lp tu dop dva dsz bn bs pr bl start (pLoop tx len (mSt tx len d) n (at1, 0, num, lp1, tu, c)) (fun a => ¬ a < len ∨ hereN tx len a = 125) := by
  obtain ⟨ga, gc, gd, gbd, gb, gl, gp, gt1, gt⟩ := G
  intro n
  induction n with
  | zero =>
    intro at1 num num1 lp1 c dop1 dva1 dsz1 opn1 pnd1 stl1 asg1 bn1 bs1 pr1 P k hn p1 p2 p3 p5 p6 p7 p8 p9 p10 p11 p12 p13 p14 p15 pQ
    exact Or.inl ⟨at1, num, num1, lp1, c, dop1, dva1, dsz1, opn1, pnd1, stl1, asg1, bn1, bs1, pr1, P, k, rfl, p1, p2, p3, Or.inl (by omega), p5, p6, p7, p8, p9, p10, p11, p12, p13, p14, p15, pQ⟩
  | succ n ih =>
    intro at1 num num1 lp1 c dop1 dva1 dsz1 opn1 pnd1 stl1 asg1 bn1 bs1 pr1 P k hn p1 p2 p3 p5 p6 p7 p8 p9 p10 p11 p12 p13 p14 p15 pQ
    rw [pLoop]; dsimp only
    by_cases hlt : at1 < len
    · rw [hereF_in hlt, if_neg (htx at1 hlt), ← hereN_in (tx := tx) hlt]
      by_cases h125 : hereN tx len at1 = 125
      · rw [if_pos h125]
        exact Or.inl ⟨at1, num, num1, lp1, c, dop1, dva1, dsz1, opn1, pnd1, stl1, asg1, bn1, bs1, pr1, P, k, rfl, p1, p2, p3, Or.inr h125, p5, p6, p7, p8, p9, p10, p11, p12, p13, p14, p15, pQ⟩
      · rw [if_neg h125]
        have G2 : GoodS len d at1 (c.1, c.2.1, c.2.2.1, c.2.2.2.1, c.2.2.2.2.1 + 1, c.2.2.2.2.2) dsz1 lp1 tu bn1 bs1 pr1 bl :=
          ⟨p3, by show csz c ≤ at1; omega, by omega, gbd, ⟨gb.1, fun b hb => by rw [(p14 b hb).2]; exact gb.2 b hb⟩, fun j hj => (p1 j hj).trans ((gl j hj).trans (by rw [isLoop_ag (fun i hi => (p14 i hi).1)])), (p15 bl (Nat.le_refl bl)).trans gp, gt1, gt⟩
        rcases H lp1 tu bn1 bs1 pr1 bl at1 num num1 (c.1, c.2.1, c.2.2.1, c.2.2.2.1, c.2.2.2.2.1 + 1, c.2.2.2.2.2) dop1 dva1 dsz1 opn1 pnd1 stl1 asg1 c.2.2.2.2.1 G2 rfl hlt h125 with ⟨at2, num3, num4, lp2, b, dop2, dva2, dsz2, opn2, pnd2, stl2, asg2, bn2, bs2, pr2, P2, k2, e, r1, r2, r3, r4, r5, r6, r7, r8, r9, r10, r11, r12, r13, r14, r15, rQ⟩ | ⟨r', k2, y, e, g1, g2, g3, g4⟩
        · rw [e, bnd_t]
          have r5' : csz c ≤ csz b := r5
          have r6' : csz b + at1 ≤ csz c + at2 := r6
          have r7' : ∀ i, i < csz c → b.1 i = c.1 i ∧ b.2.1 i = c.2.1 i ∧ b.2.2.1 i = c.2.2.1 i := r7
          refine ih at2 num3 num4 lp2 b dop2 dva2 dsz2 opn2 pnd2 stl2 asg2 bn2 bs2 pr2 (seqF P P2) (k2 + k) ?_ (fun j hj => (r1 j hj).trans (p1 j hj)) (by omega) r3 (by omega) (by omega) (fun i hi => ⟨(r7' i (by omega)).1.trans (p7 i hi).1, (r7' i (by omega)).2.1.trans (p7 i hi).2.1, (r7' i (by omega)).2.2.trans (p7 i hi).2.2⟩) (by omega) (by omega) (fun i hi => ⟨(r10 i (by omega)).1.trans (p10 i hi).1, (r10 i (by omega)).2.trans (p10 i hi).2⟩) ?_ ?_ ?_ (fun i hi => ⟨(r14 i hi).1.trans (p14 i hi).1, (r14 i hi).2.trans (p14 i hi).2⟩) (fun i hi => (r15 i hi).trans (p15 i hi)) (QQ_trans pQ rQ)
          · have : at1 < at2 := r4
            omega
          · exact CSt_seq p5 r5' (CSt_ag p11 (fun i _ i2 => r7' i i2)) r11
          · exact RSt_seq p8 r8 (RSt_ag p12 (fun i _ i2 => r10 i i2)) r12
          · exact fun j hj hj2 => keep_seq (p13 j hj hj2) (r13 j hj (fun q => hj2 ((p1 j hj).mp q)))
        · rw [e, bnd_f]
          exact Or.inr ⟨r', k2 + k, y, rfl, g1, g2, QQ_trans pQ g3, g4⟩
    · rw [hereF_out hlt, if_pos rfl]
      exact Or.inl ⟨at1, num, num1, lp1, c, dop1, dva1, dsz1, opn1, pnd1, stl1, asg1, bn1, bs1, pr1, P, k, rfl, p1, p2, p3, Or.inl hlt, p5, p6, p7, p8, p9, p10, p11, p12, p13, p14, p15, pQ⟩
theorem pro_q {tx : Nat → Int32} {len d : Nat} (hL : len ≤ 480) (htx : ∀ i, i < len → ¬ tx i = 0) (H : StT tx len d) : ProT tx len d := by
  intro lp tu bn bs pr bl at0 num num0 c0 dop dva dsz opn pnd stl asg G
  exact pl_q hL htx H G 480 at0 num num0 lp c0 dop dva dsz opn pnd stl asg bn bs pr nilF 0 (by omega) (fun _ _ => Iff.rfl) (Nat.le_refl _) G.1 (Nat.le_refl _) (Nat.le_refl _) (fun _ _ => ⟨rfl, rfl, rfl⟩) (Nat.le_refl _) (Nat.le_refl _) (fun _ _ => ⟨rfl, rfl⟩) CSt_nil RSt_nil (fun _ _ _ => keep_nil) (fun _ _ => ⟨rfl, rfl⟩) (fun _ _ => rfl) rfl
theorem prog_q {tx : Nat → Int32} {len : Nat} (hL : len ≤ 480) (htx : ∀ i, i < len → ¬ tx i = 0) : ∀ d, ProT tx len d
  | 0 => pro_q hL htx (stm_0 hL)
  | d + 1 => pro_q hL htx (stm_s hL (prog_q hL htx d))
/-- a text, read by both -/
theorem text_q {tx : Nat → Int32} {len : Nat} (hL : len ≤ 480) (htx : ∀ i, i < len → ¬ tx i = 0) (r : RS) (q : QS) :
    ∃ N, qRuns tx len N (0, qInit q) ∧
      ((∃ (at1 num : Nat) (lp1 : Int32) (c : CS) (P : ST → Bool × ST), mText tx len r = (true, (at1, 0, num, lp1, 1, c)) ∧ at1 ≤ len + 1 ∧ (qIter tx len N (0, qInit q)).2.1 = 0 ∧ csz c ≤ 480 ∧ c.2.2.2.2.1 ≤ 480 + 0 * at1 + c.2.2.2.2.1 ∧ (qIter tx len N (0, qInit q)).2.2.2.2.2.2.1 ≤ 480 ∧
          (qIter tx len N (0, qInit q)).2.2.2.2.2.2.2.1 = c.2.2.2.2.2 ∧ (qIter tx len N (0, qInit q)).2.2.2.2.2.2.2.2.2.2.2.2.2.2.2.2.2.2.2 = c.2.2.2.2.1 ∧
          CSt c.1 c.2.1 c.2.2.1 0 (csz c) 1 P ∧ RSt (qIter tx len N (0, qInit q)).2.2.2.2.1 (qIter tx len N (0, qInit q)).2.2.2.2.2.1 0 (qIter tx len N (0, qInit q)).2.2.2.2.2.2.1 P) ∨
       (∃ r' : RS, mText tx len r = (false, r') ∧ 1 ≤ r'.2.1 ∧ r'.2.1 ≤ len + 1 ∧ (qIter tx len N (0, qInit q)).2.1 = r'.2.1)) := by
  obtain ⟨qf, qa, num0, dop, dva, qd, qw, opn, pnd, qo, qn, stl, qs, asg, bn, bs, pr, qb, qm⟩ := q
  obtain ⟨ra, rf, num, rl, rt, K, F, S, rz, rs, ro⟩ := r
  have G : GoodS len 8 0 (K, F, S, 0, 0, 0) 0 0 1 bn bs (upd pr 0 1) 0 :=
    ⟨Nat.zero_le _, Nat.le_refl _, Nat.le_refl _, rfl, ⟨Nat.zero_le _, fun b hb => absurd hb (Nat.not_lt_zero b)⟩, fun k hk => ⟨fun _ => rfl, fun _ => (LB_iff hk).mpr (by show (0#32).getLsbD k = false; exact BitVec.getLsbD_zero)⟩, upd_at, Nat.le_refl 1, by omega⟩
  unfold mText
  show ∃ N, qRuns tx len N (0, (0, 0, num0, dop, dva, 0, 0, opn, pnd, 0, 0, stl, 0, asg, bn, bs, upd pr 0 1, 0, 0)) ∧ _
  rcases prog_q hL htx 8 0 1 bn bs (upd pr 0 1) 0 0 num num0 (K, F, S, 0, 0, 0) dop dva 0 opn pnd stl asg G with ⟨at1, num3, num4, lp1, c, dop1, dva1, dsz1, opn1, pnd1, stl1, asg1, bn1, bs1, pr1, P, k, e, p1, p2, p3, p4, p5, p6, p7, p8, p9, p10, p11, p12, p13, p14, p15, pQ⟩ | ⟨r', k, y, e, g1, g2, g3, g4⟩
  · dsimp only
    have p6' : csz c + 0 ≤ 0 + at1 := p6
    rcases p4 with hout | h125
    · have hx : mExpect tx len 0 (at1, 0, num3, lp1, 1, c) = (true, (at1 + 1, 0, num3, lp1, 1, c)) := if_pos (hereF_out hout)
      rw [e, bnd_t, hx]
      refine ⟨0 + k, QQ_runs pQ ⟨Or.inr ⟨rfl, rfl, by show len ≤ at1; omega⟩, Nat.zero_le 2, by show 0 < 1000; omega, by show at1 ≤ 490; omega, Nat.zero_le 8, by show dsz1 ≤ 1000; omega⟩, Or.inl ⟨at1 + 1, num3, lp1, c, P, rfl, by omega, ?_⟩⟩
      show (qIter tx len (0 + k) (0, (0, 0, num0, dop, dva, 0, 0, opn, pnd, 0, 0, stl, 0, asg, bn, bs, upd pr 0 1, 0, 0))).2.1 = 0 ∧ _
      have eI := QQ_iter (m := 0) pQ
      have eI' : qIter tx len (0 + k) (0, qInit (qf, qa, num0, dop, dva, qd, qw, opn, pnd, qo, qn, stl, qs, asg, bn, bs, pr, qb, qm)) = (0, (0, at1, num4, dop1, dva1, dsz1, c.2.2.2.2.2, opn1, pnd1, 0, 0, stl1, 0, asg1, bn1, bs1, pr1, 0, c.2.2.2.2.1)) := eI
      rw [eI']
      exact ⟨congrArg (fun x => x.2.1) eI, by omega, by omega, by show dsz1 ≤ 480; omega, rfl, rfl, p11, p12⟩
    · have hlt : at1 < len := hereN_lt h125 (by decide)
      have hx : mExpect tx len 0 (at1, 0, num3, lp1, 1, c) = (false, (at1, at1 + 1, num3, lp1, 1, c)) := if_neg (by rw [hereF_in hlt]; exact htx at1 hlt)
      rw [e, bnd_t, hx]
      have hBS : BSt bs1 0 := ⟨Nat.zero_le _, fun b hb => absurd hb (Nat.not_lt_zero b)⟩
      have stp : QQ tx len 1 (0, (0, at1, num4, dop1, dva1, dsz1, c.2.2.2.2.2, opn1, pnd1, 0, 0, stl1, 0, asg1, bn1, bs1, pr1, 0, c.2.2.2.2.1)) (0, (at1 + 1, at1, num4, dop1, dva1, dsz1, c.2.2.2.2.2, opn1, pnd1, 0, 0, stl1, 0, asg1, bn1, bs1, pr1, 0, c.2.2.2.2.1 + 1)) := by
        refine QQ_1 (qgo0 hlt) (qpre0 (by omega) (by omega) (by omega) (by omega) hBS) ?_
        show qStmt tx len _ = _
        unfold qStmt; dsimp only
        rw [if_neg (fun q => absurd q.2 (Nat.not_lt_zero 0))]
        unfold qStmt2; rw [h125, if_neg (by decide), if_neg (by decide), if_neg (by decide)]; rfl
      have pQ2 := QQ_trans pQ stp
      refine ⟨0 + (1 + k), QQ_runs pQ2 ⟨Or.inl (Nat.succ_ne_zero at1), Nat.zero_le 2, by show at1 + 1 < 1000; omega, by show at1 ≤ 490; omega, Nat.zero_le 8, by show dsz1 ≤ 1000; omega⟩, Or.inr ⟨_, rfl, Nat.succ_pos at1, by show at1 + 1 ≤ len + 1; omega, ?_⟩⟩
      exact congrArg (fun x => x.2.1) (QQ_iter (m := 0) pQ2)
  · dsimp only
    rw [e, bnd_f]
    obtain ⟨y1, y2, y3, y4, y5⟩ := g4
    refine ⟨0 + k, QQ_runs g3 ⟨Or.inl (by rw [y2]; omega), y1, by rw [y2]; omega, y3, y4, y5⟩, Or.inr ⟨r', rfl, g1, g2, ?_⟩⟩
    exact (congrArg (fun x => x.2.1) (QQ_iter (m := 0) g3)).trans y2
