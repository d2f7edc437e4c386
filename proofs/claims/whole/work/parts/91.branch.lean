theorem cAdd_f {k f s : Int32} {c : CS} (hz : csz c < 480) : csz (cAdd k f s c) = csz c + 1 ∧ (cAdd k f s c).1 (csz c) = k ∧ (cAdd k f s c).2.1 (csz c) = f ∧ (cAdd k f s c).2.2.1 (csz c) = s ∧ (cAdd k f s c).2.2.2.2 = c.2.2.2.2 ∧
    (∀ i, i < csz c → (cAdd k f s c).1 i = c.1 i ∧ (cAdd k f s c).2.1 i = c.2.1 i ∧ (cAdd k f s c).2.2.1 i = c.2.2.1 i) := by
  obtain ⟨K, F, S, sz, st, op⟩ := c
  rw [cAdd_t hz]
  exact ⟨rfl, upd_at, upd_at, upd_at, rfl, fun i hi => ⟨upd_ne (Nat.ne_of_lt hi), upd_ne (Nat.ne_of_lt hi), upd_ne (Nat.ne_of_lt hi)⟩⟩
theorem cSet_f {a : Nat} {v : Int32} {c : CS} (h : a < csz c) : cSet a v c = (c.1, upd c.2.1 a v, c.2.2) := if_pos h
def ProT (tx : Nat → Int32) (len d : Nat) : Prop :=
  ∀ (lp : Int32) (tu : Nat) (bn bs pr : Nat → Int32) (bl at0 num num0 : Nat) (c0 : CS) (dop dva : Nat → Int32) (dsz : Nat) (opn pnd stl : Nat → Int32) (asg : Int32), GoodS len d at0 c0 dsz lp tu bn bs pr bl →
    PR tx len at0 c0 lp tu dop dva dsz bn bs pr bl (0, (0, at0, num0, dop, dva, dsz, c0.2.2.2.2.2, opn, pnd, 0, 0, stl, 0, asg, bn, bs, pr, bl, c0.2.2.2.2.1)) (mProg tx len (mSt tx len d) (at0, 0, num, lp, tu, c0)) (fun a => ¬ a < len ∨ hereN tx len a = 125)
section
variable {tx : Nat → Int32} {len : Nat} {lp : Int32} {tu : Nat} {bn bs pr : Nat → Int32} {bl : Nat}
theorem qgo1 {at_ num dsz wk osz ssz stm : Nat} {dop dva opn pnd stl : Nat → Int32} {nst asg : Int32} : ¬ qStop len (0, (0, at_, num, dop, dva, dsz, wk, opn, pnd, osz, nst, stl, ssz, asg, bn, bs, pr, bl + 1, stm)) := by
  rintro (q | q)
  · exact q rfl
  · exact absurd q.2.1 (Nat.succ_ne_zero bl)
/-- the } of a branch -/
theorem clo_b (hL : len ≤ 480) {a num dsz wk stm z : Nat} {dop dva opn pnd stl : Nat → Int32} {asg : Int32} (hb : BSt bs (bl + 1)) (ha : a ≤ len) (hd : dsz ≤ 480) (h : hereN tx len a = 125) (hn : bn bl = -1) (hs : bs bl = nI z) (hz : z < 1000) :
    QQ tx len 1 (0, (0, a, num, dop, dva, dsz, wk, opn, pnd, 0, 0, stl, 0, asg, bn, bs, pr, bl + 1, stm)) (0, (0, a + 1, num, dop, upd dva z (nI dsz), dsz, wk, opn, pnd, 0, 0, stl, 0, asg, bn, bs, pr, bl, stm)) := by
  refine QQ_1 qgo1 (qpre0 (by omega) (by omega) (by omega) hd hb) ?_
  show qStmt tx len _ = _
  unfold qStmt; dsimp only
  rw [if_pos ⟨h, Nat.succ_pos bl⟩, show bl + 1 - 1 = bl from rfl, if_neg (by rw [hn]; decide), hs, nI_clamp (by omega)]
/-- the } of a loop -/
theorem clo_l (hL : len ≤ 480) {a num dsz wk stm z k : Nat} {dop dva opn pnd stl : Nat → Int32} {asg : Int32} (hb : BSt bs (bl + 1)) (ha : a ≤ len) (hd : dsz ≤ 480) (h : hereN tx len a = 125) (hn : bn bl = nI k) (hk : k < 26) (hs : bs bl = nI z) :
    QQ tx len 1 (0, (0, a, num, dop, dva, dsz, wk, opn, pnd, 0, 0, stl, 0, asg, bn, bs, pr, bl + 1, stm)) (0, (0, a + 1, num, upd dop dsz 11, upd dva dsz (nI z), dsz + 1, wk, opn, pnd, 0, 0, stl, 0, asg, bn, bs, pr, bl, stm)) := by
  refine QQ_1 qgo1 (qpre0 (by omega) (by omega) (by omega) hd hb) ?_
  show qStmt tx len _ = _
  unfold qStmt; dsimp only
  rw [if_pos ⟨h, Nat.succ_pos bl⟩, show bl + 1 - 1 = bl from rfl, if_pos (by rw [hn]; exact nI_pos' (by omega)), hs]; rfl
/-- the text ends inside of a block -/
theorem clo_n (hL : len ≤ 480) {a num dsz wk stm : Nat} {dop dva opn pnd stl : Nat → Int32} {asg : Int32} (hb : BSt bs (bl + 1)) (ha : a ≤ len) (hd : dsz ≤ 480) (h : ¬ a < len) :
    ∃ y, QQ tx len 1 (0, (0, a, num, dop, dva, dsz, wk, opn, pnd, 0, 0, stl, 0, asg, bn, bs, pr, bl + 1, stm)) y ∧ QEnd (a + 1) y := by
  refine ⟨_, QQ_1 qgo1 (qpre0 (by omega) (by omega) (by omega) hd hb) rfl, ?_⟩
  show QEnd (a + 1) (qStmt tx len _)
  unfold qStmt; dsimp only
  rw [if_neg (fun q => absurd ((hereN_out h).symm.trans q.1) (by decide))]
  unfold qStmt2; rw [hereN_out h, if_neg (by decide), if_neg (by decide), if_neg (by decide)]
  exact ⟨Nat.le_of_ble_eq_true rfl, rfl, by show a ≤ 490; omega, hb.1, by show dsz ≤ 1000; omega⟩
theorem neg1_ne {k : Nat} (h : k < 26) : ¬ (-1 : Int32) = nI k := fun q => absurd (nI_pos' (n := k) (by omega)) (by rw [← q]; decide)
theorem bra_q (hL : len ≤ 480) {d : Nat} (H : ProT tx len d) {at0 num num0 dsz stm : Nat} {c0 : CS} {dop dva opn pnd stl : Nat → Int32} {asg : Int32} (G : GoodS len (d + 1) at0 c0 dsz lp tu bn bs pr bl) (hst : c0.2.2.2.2.1 = stm + 1) (h63 : hereN tx len at0 = 63) :
    PR tx len at0 c0 lp tu dop dva dsz bn bs pr bl (0, (0, at0, num0, dop, dva, dsz, c0.2.2.2.2.2, opn, pnd, 0, 0, stl, 0, asg, bn, bs, pr, bl, stm)) (mBranch tx len (mBlock tx len (mProg tx len (mSt tx len d))) (at0, 0, num, lp, tu, c0)) (fun a => at0 < a) := by
  obtain ⟨ga, gc, gd, gbd, gb, gl, gp, gt1, gt⟩ := G
  have hlt : at0 < len := hereN_lt h63 (by decide)
  have hpre : qPre (0, (0, at0, num0, dop, dva, dsz, c0.2.2.2.2.2, opn, pnd, 0, 0, stl, 0, asg, bn, bs, pr, bl, stm)) := qpre0 (by omega) (by omega) (by omega) (by omega) gb
  unfold mBranch
  have stp : QQ tx len 1 (0, (0, at0, num0, dop, dva, dsz, c0.2.2.2.2.2, opn, pnd, 0, 0, stl, 0, asg, bn, bs, pr, bl, stm)) (1, (0, at0 + 1, num0, dop, dva, dsz, c0.2.2.2.2.2, upd opn 0 3, upd pnd 0 0, 1, 0, stl, 0, asg, bn, bs, pr, bl, stm + 1)) := by
    refine QQ_1 (qgo0 hlt) hpre ?_
    show qStmt tx len _ = _
    unfold qStmt; dsimp only; rw [if_neg (fun q => absurd (h63.symm.trans q.1) (by decide))]
    unfold qStmt2; dsimp only
    rw [if_neg (by rw [h63]; decide), if_neg (by rw [h63]; decide), if_pos (Or.inr h63), if_neg (by omega), if_pos h63]; rfl
  dsimp only
  rcases sum_1 (tx := tx) (lp := lp) (tu := tu) (bn := bn) (pr := pr) hL gb (a := at0 + 1) (num := num) (num0 := num0) (dsz := dsz) (stm := stm + 1) (c := c0) (asg := asg) (dop := dop) (dva := dva) (opn := opn) (pnd := pnd) (stl := stl) (wh := 3) (fun _ => by omega) (by decide) (by omega) (by omega) (by omega) with ⟨at1, num1, num2, c, dop1, dva1, dsz1, opn1, pnd1, stl1, D, s, k1, y, e, f1, f2, f3, f4, f5, f6, f7, f8, f9, fQ, q', eF, eF1, eF2, eF3, eF4, eF5, eF6, eF7⟩ | ⟨r', k1, y, e, f1, f2, f3, f4⟩
  · rw [e, bnd_t]
    subst eF
    have hwh : opn1 0 = 3 := (f7 0 (by omega)).1.trans upd_at
    have stp2 := stp_beh eF1 eF2 eF3 eF4 eF6 eF7
    have l1 := f4.1
    have l2 := f6.1
    unfold mBlock
    show PR tx len at0 c0 lp tu dop dva dsz bn bs pr bl _ (bnd (bnd (mExpect tx len 123 (at1, 0, num1, lp, tu, cAdd 8 0 0 c)) _) _) _
    by_cases h123 : hereN tx len at1 = 123
    · have hlt2 : at1 < len := hereN_lt h123 (by decide)
      rw [exp_t (by decide) (by decide) h123, bnd_t]
      have hz : csz c < 480 := by omega
      obtain ⟨a1, a2, a3, a4, a5, a6⟩ := cAdd_f (k := 8) (f := 0) (s := 0) hz
      have a5a : (cAdd 8 0 0 c).2.2.2.2.2 = c.2.2.2.2.2 := congrArg (fun x => x.2) a5
      have a5b : (cAdd 8 0 0 c).2.2.2.2.1 = stm + 1 := (congrArg (fun x => x.1) a5).trans (f4.2.1.trans hst)
      rw [beh_close eF5 hwh (show hereN tx len at1 = closeF 3 from h123)] at stp2
      have hbs1 : BSt (upd bs bl (nI dsz1)) (bl + 1) := ⟨by omega, fun b hb2 => by
        by_cases q : b = bl
        · subst q; rw [upd_at]; exact rPlace_t (by omega)
        · rw [upd_ne q]; exact gb.2 b (by omega)⟩
      have G2 : GoodS len d (at1 + 1) (cAdd 8 0 0 c) (dsz1 + 1) lp tu (upd bn bl (-1)) (upd bs bl (nI dsz1)) (upd pr (bl + 1) (pr bl)) (bl + 1) :=
        ⟨by omega, by omega, by omega, by omega, hbs1, fun k hk => (gl k hk).trans ⟨fun q => isLoop_push.mpr ⟨q, neg1_ne hk⟩, fun q => (isLoop_push.mp q).1⟩, upd_at.trans gp, gt1, gt⟩
      have stp3 : QQ tx len 1 (2, q') (0, (0, at1 + 1, num2, upd dop1 dsz1 9, upd dva1 dsz1 0, dsz1 + 1, (cAdd 8 0 0 c).2.2.2.2.2, opn1, pnd1, 0, 0, stl1, 0, asg, upd bn bl (-1), upd bs bl (nI dsz1), upd pr (bl + 1) (pr bl), bl + 1, (cAdd 8 0 0 c).2.2.2.2.1)) := by
        rw [a5a, a5b]; exact stp2
      rcases H lp tu (upd bn bl (-1)) (upd bs bl (nI dsz1)) (upd pr (bl + 1) (pr bl)) (bl + 1) (at1 + 1) num1 num2 (cAdd 8 0 0 c) (upd dop1 dsz1 9) (upd dva1 dsz1 0) (dsz1 + 1) opn1 pnd1 stl1 asg G2 with ⟨at2, num3, num4, lp2, b, dop2, dva2, dsz2, opn2, pnd2, stl2, asg2, bn2, bs2, pr2, P, k2, e, p1, p2, p3, p4, p5, p6, p7, p8, p9, p10, p11, p12, p13, p14, p15, pQ⟩ | ⟨r', k2, y, e, g1, g2, g3, g4⟩
      · rw [e, bnd_t]
        have hbn2 : bn2 bl = -1 := (p14 bl (by omega)).1.trans upd_at
        have hbs2 : bs2 bl = nI dsz1 := (p14 bl (by omega)).2.trans upd_at
        have hBS : BSt bs2 (bl + 1) := ⟨hbs1.1, fun b hb2 => by rw [(p14 b hb2).2]; exact hbs1.2 b hb2⟩
        by_cases h125 : hereN tx len at2 = 125
        · have hlt3 : at2 < len := hereN_lt h125 (by decide)
          rw [exp_t (by decide) (by decide) h125, bnd_t]
          have hcs : csz c < csz b := by omega
          rw [cSet_f hcs]
          refine Or.inl ⟨at2 + 1, num3, num4, lp2, (b.1, upd b.2.1 (csz c) (nI (csz b)), b.2.2), dop2, upd dva2 dsz1 (nI dsz2), dsz2, opn2, pnd2, stl2, asg2, bn2, bs2, pr2, braF D P, 1 + (k2 + (1 + k1 + 1)), rfl, p1, by omega, by omega, by show at0 < at2 + 1; omega, by show csz c0 ≤ csz b; omega, by show csz b + at0 ≤ csz c0 + (at2 + 1); omega, fun i hi => ⟨?_, ?_, ?_⟩, by omega, by omega, fun i hi => ⟨?_, ?_⟩, ?_, ?_, fun j hj hj2 => keep_bra (p13 j hj hj2), fun i hi => ⟨(p14 i (by omega)).1.trans (upd_ne (by omega)), (p14 i (by omega)).2.trans (upd_ne (by omega))⟩, fun i hi => (p15 i (by omega)).trans (upd_ne (by omega)), ?_⟩
          · exact (p7 i (by omega)).1.trans ((a6 i (by omega)).1.trans (f4.2.2.1 i hi).1)
          · exact (upd_ne (by omega)).trans ((p7 i (by omega)).2.1.trans ((a6 i (by omega)).2.1.trans (f4.2.2.1 i hi).2.1))
          · exact (p7 i (by omega)).2.2.trans ((a6 i (by omega)).2.2.trans (f4.2.2.1 i hi).2.2)
          · exact (p10 i (by omega)).1.trans ((upd_ne (by omega)).trans (f6.2.1 i hi).1)
          · exact (upd_ne (by omega)).trans ((p10 i (by omega)).2.trans ((upd_ne (by omega)).trans (f6.2.1 i hi).2))
          · refine CSt_bra (m := csz c) (h := 14) (by omega) (by show csz c + 1 ≤ csz b; omega) (by omega) gt (CEx_ag f4.2.2.2.2.2 (fun i _ h2 => ⟨(p7 i (by omega)).1.trans (a6 i h2).1, (upd_ne (by omega)).trans ((p7 i (by omega)).2.1.trans (a6 i h2).2.1)⟩)) ((p7 (csz c) (by omega)).1.trans a2) upd_at ?_
            have p11' := p11
            rw [a1] at p11'
            exact CSt_ag p11' (fun i i1 _ => ⟨rfl, upd_ne (by omega), rfl⟩)
          · refine RSt_bra (m := dsz1) (h := 14) (by omega) (by omega) (by omega) (REx_ag f6.2.2 (fun i _ h2 => ⟨(p10 i (by omega)).1.trans (upd_ne (by omega)), (upd_ne (by omega)).trans ((p10 i (by omega)).2.trans (upd_ne (by omega)))⟩)) ((p10 dsz1 (by omega)).1.trans upd_at) upd_at ?_
            exact RSt_ag p12 (fun i i1 _ => ⟨rfl, upd_ne (by omega)⟩)
          · refine QQ_trans (QQ_trans (QQ_trans stp (QQ_trans fQ stp3)) pQ) ?_
            exact clo_b hL hBS (by omega) (by omega) h125 hbn2 hbs2 (by omega)
        · rw [exp_f (by decide) (by decide) h125, bnd_f]
          have hout : ¬ at2 < len := by rcases p4 with q | q <;> first | exact q | exact absurd q h125
          obtain ⟨y, y1, y2⟩ := clo_n (tx := tx) (bn := bn2) (bs := bs2) (pr := pr2) (bl := bl) hL (a := at2) (num := num4) (dsz := dsz2) (wk := b.2.2.2.2.2) (stm := b.2.2.2.2.1) (dop := dop2) (dva := dva2) (opn := opn2) (pnd := pnd2) (stl := stl2) (asg := asg2) hBS (by omega) (by omega) hout
          exact Or.inr ⟨_, 1 + (k2 + (1 + k1 + 1)), y, rfl, Nat.succ_pos at2, by show at2 + 1 ≤ len + 1; omega, QQ_trans (QQ_trans (QQ_trans stp (QQ_trans fQ stp3)) pQ) y1, y2⟩
      · rw [e, bnd_f, bnd_f]
        exact Or.inr ⟨r', k2 + (1 + k1 + 1), y, rfl, g1, g2, QQ_trans (QQ_trans stp (QQ_trans fQ stp3)) g3, g4⟩
    · rw [exp_f (by decide) (by decide) h123, bnd_f, bnd_f]
      rw [beh_bad eF5 hwh (show ¬ hereN tx len at1 = closeF 3 from h123)] at stp2
      exact Or.inr ⟨_, 1 + k1 + 1, _, rfl, Nat.succ_pos at1, by show at1 + 1 ≤ len + 1; omega, QQ_trans stp (QQ_trans fQ stp2), Nat.le_refl 2, rfl, by show at1 ≤ 490; omega, gb.1, by show dsz1 ≤ 1000; omega⟩
  · rw [e, bnd_f]
    exact Or.inr ⟨r', k1 + 1, y, rfl, f1, f2, QQ_trans stp f3, f4⟩
end
