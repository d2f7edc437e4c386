theorem nLoop_fk {tx : Nat → Int32} {len lo hi start md : Nat} {hex : Bool} : ∀ (n dg : Nat) (q : QS), 1 ≤ q.1 → (nLoop tx len lo hi start md hex n dg q).1 = q.1 := by
  have hE : ∀ (dg : Nat) (q : QS), 1 ≤ q.1 → (nEnd lo hi start md dg q).1 = q.1 := by
    intro dg q h
    have hw : ∀ i, wrF q.1 i = q.1 := fun i => if_neg (by omega)
    unfold nEnd; split
    · exact hw _
    · split
      · exact hw _
      · rfl
  intro n
  induction n with
  | zero => intro dg q h; exact hE dg q h
  | succ n ih =>
    intro dg q h
    rw [nLoop]; split
    · rw [ih]
      · split <;> rfl
      · split <;> exact h
    · split
      · rw [ih]
        · split <;> rfl
        · split <;> exact h
      · exact hE dg q h
theorem qNum_f {tx : Nat → Int32} {len lo hi : Nat} {q : QS} (h : 1 ≤ q.1) : (qNumber tx len lo hi q).1 = q.1 := by
  unfold qNumber; split
  · rw [nLoop_fk]; rfl; exact h
  · rw [nLoop_fk]; exact h
theorem qNum_at {tx : Nat → Int32} {len lo hi N : Nat} {q : QS} (hN : len ≤ N) (h : q.2.1 ≤ N) : (qNumber tx len lo hi q).2.1 ≤ N ∧ (qNumber tx len lo hi q).2.2.2 = q.2.2.2 := by
  unfold qNumber; split
  · rename_i e
    have := hereN_lt e (by decide)
    exact nLoop_at hN _ _ _ (by show q.2.1 + 1 ≤ N; omega)
  · exact nLoop_at hN _ _ _ h
def qL2 (tx : Nat → Int32) (len : Nat) (nm : Int32) (a : Nat) (q5 : QS) : Nat × QS :=
  let q6 := if q5.1 = 0 then (if q5.2.2.2.2.2.2.2.2.2.2.2.2.2.2.2.2.1 q5.2.2.2.2.2.2.2.2.2.2.2.2.2.2.2.2.2.1 * nI q5.2.2.1 ≤ 640 then q5 else qWr (a + 1) q5) else q5
  let q7 := qWant tx len 123 q6
  if q7.1 = 0 then (0, qBlock nm (nI (q7.2.2.2.2.2.1 + 1 + 1)) (q7.2.2.2.2.2.2.2.2.2.2.2.2.2.2.2.2.1 q7.2.2.2.2.2.2.2.2.2.2.2.2.2.2.2.2.2.1 * nI q7.2.2.1) (qStep (nI q7.2.2.1) 0 (qStep 10 nm q7))) else (0, q7)
theorem qLoop_eq {tx : Nat → Int32} {len : Nat} {q : QS} : qLoopStmt tx len q = qL2 tx len (hereN tx len q.2.1 - 97) q.2.1 (qNumber tx len 1 64 (qAt1 (if isLetF (hereN tx len q.2.1) = true then (if isLoopF q.2.2.2.2.2.2.2.2.2.2.2.2.2.2.1 q.2.2.2.2.2.2.2.2.2.2.2.2.2.2.2.2.2.1 (hereN tx len q.2.1 - 97) = true then qWr q.2.1 q else q) else qWr q.2.1 q))) := rfl
theorem qL2_f {tx : Nat → Int32} {len a : Nat} {nm : Int32} {q5 : QS} (h : 1 ≤ q5.1) : qL2 tx len nm a q5 = (0, qWant tx len 123 q5) := by
  unfold qL2; dsimp only
  rw [if_neg (show ¬ q5.1 = 0 by omega)]
  have : (qWant tx len 123 q5).1 = q5.1 := wan_k h
  rw [if_neg (by rw [this]; omega)]
theorem qL2_end {tx : Nat → Int32} {len a flt : Nat} {nm : Int32} {q5 : QS} (h : q5.1 = flt) (h0 : 1 ≤ flt) (h1 : q5.2.1 ≤ 489) (h2 : q5.2.2.2.2.2.2.2.2.2.2.2.2.2.2.2.2.2.1 ≤ 8) (h3 : q5.2.2.2.2.2.1 ≤ 1000) : QEnd flt (qL2 tx len nm a q5) := by
  rw [qL2_f (by omega)]
  refine ⟨Nat.zero_le 2, ?_, ?_, h2, h3⟩
  · show wanF tx len 123 q5.2.1 q5.1 = flt; rw [wan_k (by omega), h]
  · show q5.2.1 + 1 ≤ 490; omega
section
variable {tx : Nat → Int32} {len : Nat} {lp : Int32} {tu : Nat} {bn bs pr : Nat → Int32} {bl : Nat}
theorem stp_35 {at0 num0 dsz wk stm : Nat} {dop dva opn pnd stl : Nat → Int32} {asg : Int32} (hb : BSt bs bl) (hL : len ≤ 480) (h35 : hereN tx len at0 = 35) (hb8 : bl < 8) (hd : dsz ≤ 480) :
    QQ tx len 1 (0, (0, at0, num0, dop, dva, dsz, wk, opn, pnd, 0, 0, stl, 0, asg, bn, bs, pr, bl, stm)) (qLoopStmt tx len (0, at0 + 1, num0, dop, dva, dsz, wk, opn, pnd, 0, 0, stl, 0, asg, bn, bs, pr, bl, stm + 1)) := by
  have hlt : at0 < len := hereN_lt h35 (by decide)
  refine QQ_1 (qgo0 hlt) (qpre0 (by omega) (by omega) (by omega) hd hb) ?_
  show qStmt tx len _ = _
  unfold qStmt; dsimp only; rw [if_neg (fun q => absurd (h35.symm.trans q.1) (by decide))]
  unfold qStmt2; dsimp only
  rw [if_neg (by rw [h35]; decide), if_neg (by rw [h35]; decide), if_pos (Or.inl h35), if_neg (by omega), if_neg (by rw [h35]; decide)]; rfl
theorem loo_q (hL : len ≤ 480) {d : Nat} (H : ProT tx len d) {at0 num num0 dsz stm : Nat} {c0 : CS} {dop dva opn pnd stl : Nat → Int32} {asg : Int32} (G : GoodS len (d + 1) at0 c0 dsz lp tu bn bs pr bl) (hst : c0.2.2.2.2.1 = stm + 1) (h35 : hereN tx len at0 = 35) :
    PR tx len at0 c0 lp tu dop dva dsz bn bs pr bl (0, (0, at0, num0, dop, dva, dsz, c0.2.2.2.2.2, opn, pnd, 0, 0, stl, 0, asg, bn, bs, pr, bl, stm)) (mLoop tx len (mBlock tx len (mProg tx len (mSt tx len d))) (at0, 0, num, lp, tu, c0)) (fun a => at0 < a) := by
  obtain ⟨ga, gc, gd, gbd, gb, gl, gp, gt1, gt⟩ := G
  have hlt : at0 < len := hereN_lt h35 (by decide)
  have stp := stp_35 (pr := pr) (num0 := num0) (wk := c0.2.2.2.2.2) (stm := stm) (dop := dop) (dva := dva) (opn := opn) (pnd := pnd) (stl := stl) (asg := asg) (bn := bn) gb hL h35 (by omega) (show dsz ≤ 480 by omega)
  unfold mLoop
  have bad : freeF tx len (at0 + 1, 0, num, lp, tu, c0) = -1 → (∀ q : QS, (if isLetF (hereN tx len (at0 + 1)) = true then (if isLoopF bn bl (hereN tx len (at0 + 1) - 97) = true then qWr (at0 + 1) q else q) else qWr (at0 + 1) q) = qWr (at0 + 1) q) →
      PR tx len at0 c0 lp tu dop dva dsz bn bs pr bl (0, (0, at0, num0, dop, dva, dsz, c0.2.2.2.2.2, opn, pnd, 0, 0, stl, 0, asg, bn, bs, pr, bl, stm)) (false, (at0 + 1, at0 + 1 + 1, num, lp, tu, c0)) (fun a => at0 < a) := by
    intro _ h2
    refine Or.inr ⟨_, 1, _, rfl, Nat.succ_pos (at0 + 1), by show at0 + 1 + 1 ≤ len + 1; omega, stp, ?_⟩
    rw [qLoop_eq]; dsimp only; rw [h2]
    have hat := qNum_at (tx := tx) (lo := 1) (hi := 64) (len := len) (N := 485) (q := qAt1 (qWr (at0 + 1) (0, at0 + 1, num0, dop, dva, dsz, c0.2.2.2.2.2, opn, pnd, 0, 0, stl, 0, asg, bn, bs, pr, bl, stm + 1))) (by omega) (by show at0 + 1 + 1 ≤ 485; omega)
    refine qL2_end (qNum_f (Nat.succ_pos _)) (Nat.succ_pos (at0 + 1)) (by have := hat.1; omega) ?_ ?_
    · have := congrArg (fun x => x.2.2.2.2.2.2.2.2.2.2.2.2.2.2.1) hat.2
      exact Nat.le_trans (Nat.le_of_eq this) gb.1
    · have := congrArg (fun x => x.2.2.1) hat.2
      exact Nat.le_trans (Nat.le_of_eq this) (by show dsz ≤ 1000; omega)
  dsimp only
  by_cases hl : isLetF (hereN tx len (at0 + 1)) = true
  · obtain ⟨hlt1, k, hk, e1, e2⟩ := let_name hl
    by_cases hf : LB lp k
    · have hfree : freeF tx len (at0 + 1, 0, num, lp, tu, c0) = nI k := by
        unfold freeF; dsimp only; rw [e1, if_pos ⟨nI_pos' (by omega), hf⟩]
      have hlo : isLoopF bn bl (nI k) = false := (gl k hk).mp hf
      rw [hfree, if_pos (nI_pos' (by omega))]
      rw [qLoop_eq] at stp; dsimp only at stp
      rw [if_pos hl, e2, hlo, if_neg (by decide)] at stp
      rcases numT (tx := tx) (len := len) (lo := 1) (hi := 64) hL (rest := (lp, tu, c0)) (0, at0 + 1 + 1, num0, dop, dva, dsz, c0.2.2.2.2.2, opn, pnd, 0, 0, stl, 0, asg, bn, bs, pr, bl, stm + 1) (at_ := at0 + 1 + 1) (f := 0) (n := num) (n' := num0) (by omega) with ⟨at1, v, n1, n2, n3, n4⟩ | ⟨at2, at3, v, v', flt, n1, n2, n3, n4, n5⟩
      · have hv := mNumber_le (tx := tx) (len := len) (lo := 1) (hi := 64) (r := (at0 + 1 + 1, 0, num, lp, tu, c0)) (by decide) (by rw [n1])
        rw [n1] at hv
        have hv1 : 1 ≤ v := hv.1
        have hv2 : v ≤ 64 := hv.2
        rw [n1, bnd_t]; dsimp only
        have n2' : qNumber tx len 1 64 (qAt1 (0, at0 + 1, num0, dop, dva, dsz, c0.2.2.2.2.2, opn, pnd, 0, 0, stl, 0, asg, bn, bs, pr, bl, stm + 1)) = (0, at1, v, dop, dva, dsz, c0.2.2.2.2.2, opn, pnd, 0, 0, stl, 0, asg, bn, bs, pr, bl, stm + 1) := n2
        rw [n2'] at stp
        have hprod : pr bl * nI v = nI (tu * v) := by rw [gp]; exact (Int32.ofNat_mul tu v).symm
        have htv : tu * v ≤ 640 * 64 := Nat.mul_le_mul gt hv2
        by_cases h640 : 640 < tu * v
        · rw [if_pos h640]
          have e5 : qL2 tx len (nI k) (at0 + 1) (0, at1, v, dop, dva, dsz, c0.2.2.2.2.2, opn, pnd, 0, 0, stl, 0, asg, bn, bs, pr, bl, stm + 1) = qL2 tx len (nI k) (at0 + 1) (qWr (at0 + 1 + 1) (0, at1, v, dop, dva, dsz, c0.2.2.2.2.2, opn, pnd, 0, 0, stl, 0, asg, bn, bs, pr, bl, stm + 1)) := by
            have hno : ¬ pr bl * nI v ≤ 640 := by rw [hprod]; exact nI_ge (b := tu * v) (a := 640) h640 (by omega)
            rw [qL2_f (q5 := qWr (at0 + 1 + 1) (0, at1, v, dop, dva, dsz, c0.2.2.2.2.2, opn, pnd, 0, 0, stl, 0, asg, bn, bs, pr, bl, stm + 1)) (show 1 ≤ at0 + 1 + 1 + 1 by omega)]
            unfold qL2; dsimp only
            rw [if_pos rfl, if_neg hno]
            have hw : (qWant tx len 123 (qWr (at0 + 1 + 1) (0, at1, v, dop, dva, dsz, c0.2.2.2.2.2, opn, pnd, 0, 0, stl, 0, asg, bn, bs, pr, bl, stm + 1))).1 = at0 + 1 + 1 + 1 := wan_k (Nat.succ_pos _)
            rw [if_neg (by rw [hw]; omega)]
          refine Or.inr ⟨_, 1, _, rfl, Nat.succ_pos (at0 + 1 + 1), by show at0 + 1 + 1 + 1 ≤ len + 1; omega, stp, ?_⟩
          rw [e5]
          exact qL2_end rfl (Nat.succ_pos _) (by show at1 ≤ 489; omega) gb.1 (by show dsz ≤ 1000; omega)
        · rw [if_neg h640]
          have hyes : pr bl * nI v ≤ 640 := by rw [hprod]; exact nI_le (b := 640) (by omega) (by omega)
          unfold mBlock
          show PR tx len at0 c0 lp tu dop dva dsz bn bs pr bl _ (bnd (bnd (mExpect tx len 123 (at1, 0, v, lp ||| (1 : Int32) <<< (nI k &&& 31), tu * v, cAdd 6 (nI k) (nI v) c0)) _) _) _
          by_cases h123 : hereN tx len at1 = 123
          · have hlt2 : at1 < len := hereN_lt h123 (by decide)
            rw [exp_t (by decide) (by decide) h123, bnd_t]
            have hz : csz c0 < 480 := by omega
            obtain ⟨a1, a2, a3, a4, a5, a6⟩ := cAdd_f (k := 6) (f := nI k) (s := nI v) hz
            have a5a : (cAdd 6 (nI k) (nI v) c0).2.2.2.2.2 = c0.2.2.2.2.2 := congrArg (fun x => x.2) a5
            have a5b : (cAdd 6 (nI k) (nI v) c0).2.2.2.2.1 = stm + 1 := (congrArg (fun x => x.1) a5).trans hst
            have stp3 : QQ tx len 1 (0, (0, at0, num0, dop, dva, dsz, c0.2.2.2.2.2, opn, pnd, 0, 0, stl, 0, asg, bn, bs, pr, bl, stm)) (0, (0, at1 + 1, v, upd (upd dop dsz 10) (dsz + 1) (nI v), upd (upd dva dsz (nI k)) (dsz + 1) 0, dsz + 1 + 1, (cAdd 6 (nI k) (nI v) c0).2.2.2.2.2, opn, pnd, 0, 0, stl, 0, asg, upd bn bl (nI k), upd bs bl (nI (dsz + 1 + 1)), upd pr (bl + 1) (nI (tu * v)), bl + 1, (cAdd 6 (nI k) (nI v) c0).2.2.2.2.1)) := by
              have e5 : qL2 tx len (nI k) (at0 + 1) (0, at1, v, dop, dva, dsz, c0.2.2.2.2.2, opn, pnd, 0, 0, stl, 0, asg, bn, bs, pr, bl, stm + 1) = (0, (0, at1 + 1, v, upd (upd dop dsz 10) (dsz + 1) (nI v), upd (upd dva dsz (nI k)) (dsz + 1) 0, dsz + 1 + 1, (cAdd 6 (nI k) (nI v) c0).2.2.2.2.2, opn, pnd, 0, 0, stl, 0, asg, upd bn bl (nI k), upd bs bl (nI (dsz + 1 + 1)), upd pr (bl + 1) (nI (tu * v)), bl + 1, (cAdd 6 (nI k) (nI v) c0).2.2.2.2.1)) := by
                have hw : qWant tx len 123 (0, at1, v, dop, dva, dsz, c0.2.2.2.2.2, opn, pnd, 0, 0, stl, 0, asg, bn, bs, pr, bl, stm + 1) = (0, at1 + 1, v, dop, dva, dsz, c0.2.2.2.2.2, opn, pnd, 0, 0, stl, 0, asg, bn, bs, pr, bl, stm + 1) := by
                  unfold qWant; dsimp only; rw [wan_t h123]
                unfold qL2; dsimp only
                rw [if_pos rfl, if_pos hyes, hw, if_pos rfl]; dsimp only
                rw [hprod, a5a, a5b]; rfl
              rw [← e5]; exact stp
            have hbs1 : BSt (upd bs bl (nI (dsz + 1 + 1))) (bl + 1) := ⟨by omega, fun b hb2 => by
              by_cases q : b = bl
              · subst q; rw [upd_at]; exact rPlace_t (by omega)
              · rw [upd_ne q]; exact gb.2 b (by omega)⟩
            have htv1 : 1 ≤ tu * v := Nat.mul_pos gt1 hv1
            have G2 : GoodS len d (at1 + 1) (cAdd 6 (nI k) (nI v) c0) (dsz + 1 + 1) (lp ||| (1 : Int32) <<< (nI k &&& 31)) (tu * v) (upd bn bl (nI k)) (upd bs bl (nI (dsz + 1 + 1))) (upd pr (bl + 1) (nI (tu * v))) (bl + 1) := by
              refine ⟨by omega, by omega, by omega, by omega, hbs1, fun j hj => ?_, upd_at, htv1, by omega⟩
              rw [LB_or hj hk, isLoop_push, gl j hj]
              refine and_congr Iff.rfl ⟨fun q w => q ((nI_eq (by omega) (by omega)).mp w).symm, fun q w => q (by rw [w])⟩
            rcases H (lp ||| (1 : Int32) <<< (nI k &&& 31)) (tu * v) (upd bn bl (nI k)) (upd bs bl (nI (dsz + 1 + 1))) (upd pr (bl + 1) (nI (tu * v))) (bl + 1) (at1 + 1) v v (cAdd 6 (nI k) (nI v) c0) (upd (upd dop dsz 10) (dsz + 1) (nI v)) (upd (upd dva dsz (nI k)) (dsz + 1) 0) (dsz + 1 + 1) opn pnd stl asg G2 with ⟨at2, num3, num4, lp2, b, dop2, dva2, dsz2, opn2, pnd2, stl2, asg2, bn2, bs2, pr2, P, k2, e, p1, p2, p3, p4, p5, p6, p7, p8, p9, p10, p11, p12, p13, p14, p15, pQ⟩ | ⟨r', k2, y, e, g1, g2, g3, g4⟩
            · rw [e, bnd_t]
              have hbn2 : bn2 bl = nI k := (p14 bl (by omega)).1.trans upd_at
              have hbs2 : bs2 bl = nI (dsz + 1 + 1) := (p14 bl (by omega)).2.trans upd_at
              have hBS : BSt bs2 (bl + 1) := ⟨hbs1.1, fun b hb2 => by rw [(p14 b hb2).2]; exact hbs1.2 b hb2⟩
              by_cases h125 : hereN tx len at2 = 125
              · have hlt3 : at2 < len := hereN_lt h125 (by decide)
                rw [exp_t (by decide) (by decide) h125, bnd_t]; dsimp only
                have hzb : csz b < 480 := by omega
                obtain ⟨c1, c2, c3, c4, c5, c6⟩ := cAdd_f (k := 7) (f := nI (csz c0)) (s := 0) hzb
                have c5a : (cAdd 7 (nI (csz c0)) 0 b).2.2.2.2.2 = b.2.2.2.2.2 := congrArg (fun x => x.2) c5
                have c5b : (cAdd 7 (nI (csz c0)) 0 b).2.2.2.2.1 = b.2.2.2.2.1 := congrArg (fun x => x.1) c5
                have kpk : Keep P k := p13 k hk (by rw [LB_or hk hk]; exact fun q => q.2 rfl)
                refine Or.inl ⟨at2 + 1, num3, num4, lp2 &&& (((1 : Int32) <<< (nI k &&& 31)) ^^^ (-1)), cAdd 7 (nI (csz c0)) 0 b, upd dop2 dsz2 11, upd dva2 dsz2 (nI (dsz + 1 + 1)), dsz2 + 1, opn2, pnd2, stl2, asg2, bn2, bs2, pr2, looF P k v, 1 + (k2 + 1), rfl, fun j hj => ?_, by omega, by omega, by show at0 < at2 + 1; omega, by omega, by omega, fun i hi => ⟨?_, ?_, ?_⟩, by omega, by omega, fun i hi => ⟨?_, ?_⟩, ?_, ?_, fun j hj hj2 => keep_loo (fun q => hj2 (by rw [q]; exact hf)) (p13 j hj (by rw [LB_or hj hk]; exact fun q => hj2 q.1)), fun i hi => ⟨(p14 i (by omega)).1.trans (upd_ne (by omega)), (p14 i (by omega)).2.trans (upd_ne (by omega))⟩, fun i hi => (p15 i (by omega)).trans (upd_ne (by omega)), ?_⟩
                · rw [LB_an hj hk, p1 j hj, LB_or hj hk]
                  by_cases hjk : j = k
                  · subst hjk; exact ⟨fun _ => hf, fun _ => Or.inr rfl⟩
                  · exact ⟨fun q => q.elim (fun w => w.1) (fun w => absurd w hjk), fun q => Or.inl ⟨q, hjk⟩⟩
                · exact (c6 i (by omega)).1.trans ((p7 i (by omega)).1.trans (a6 i hi).1)
                · exact (c6 i (by omega)).2.1.trans ((p7 i (by omega)).2.1.trans (a6 i hi).2.1)
                · exact (c6 i (by omega)).2.2.trans ((p7 i (by omega)).2.2.trans (a6 i hi).2.2)
                · exact (upd_ne (by omega)).trans ((p10 i (by omega)).1.trans ((upd_ne (by omega)).trans (upd_ne (by omega))))
                · exact (upd_ne (by omega)).trans ((p10 i (by omega)).2.trans ((upd_ne (by omega)).trans (upd_ne (by omega))))
                · have p11' := p11
                  rw [a1] at p11'
                  rw [c1]
                  exact CSt_loo (nm := k) (many := v) (by omega) hk hv1 hv2 gt1 (by omega) (CSt_ag p11' (fun i _ i2 => c6 i i2)) kpk ((c6 (csz c0) (by omega)).1.trans ((p7 (csz c0) (by omega)).1.trans a2)) ((c6 (csz c0) (by omega)).2.1.trans ((p7 (csz c0) (by omega)).2.1.trans a3)) ((c6 (csz c0) (by omega)).2.2.trans ((p7 (csz c0) (by omega)).2.2.trans a4)) c2 c3
                · refine RSt_loo (nm := k) (many := v) (by omega) hk hv1 hv2 (RSt_ag p12 (fun i _ i2 => ⟨upd_ne (by omega), upd_ne (by omega)⟩)) kpk ?_ ?_ ?_ upd_at upd_at
                  · exact (upd_ne (by omega)).trans ((p10 dsz (by omega)).1.trans ((upd_ne (by omega)).trans upd_at))
                  · exact (upd_ne (by omega)).trans ((p10 dsz (by omega)).2.trans ((upd_ne (by omega)).trans upd_at))
                  · exact (upd_ne (by omega)).trans ((p10 (dsz + 1) (by omega)).1.trans upd_at)
                · rw [c5a, c5b]
                  exact QQ_trans (QQ_trans stp3 pQ) (clo_l hL hBS (by omega) (by omega) h125 hbn2 hk hbs2)
              · rw [exp_f (by decide) (by decide) h125, bnd_f]
                have hout : ¬ at2 < len := by rcases p4 with q | q <;> first | exact q | exact absurd q h125
                obtain ⟨y, y1, y2⟩ := clo_n (tx := tx) (bn := bn2) (bs := bs2) (pr := pr2) (bl := bl) hL (a := at2) (num := num4) (dsz := dsz2) (wk := b.2.2.2.2.2) (stm := b.2.2.2.2.1) (dop := dop2) (dva := dva2) (opn := opn2) (pnd := pnd2) (stl := stl2) (asg := asg2) hBS (by omega) (by omega) hout
                exact Or.inr ⟨_, 1 + (k2 + 1), y, rfl, Nat.succ_pos at2, by show at2 + 1 ≤ len + 1; omega, QQ_trans (QQ_trans stp3 pQ) y1, y2⟩
            · rw [e, bnd_f, bnd_f]
              exact Or.inr ⟨r', k2 + 1, y, rfl, g1, g2, QQ_trans stp3 g3, g4⟩
          · rw [exp_f (by decide) (by decide) h123, bnd_f, bnd_f]
            refine Or.inr ⟨_, 1, _, rfl, Nat.succ_pos at1, by show at1 + 1 ≤ len + 1; omega, stp, ?_⟩
            have hw : (qWant tx len 123 (0, at1, v, dop, dva, dsz, c0.2.2.2.2.2, opn, pnd, 0, 0, stl, 0, asg, bn, bs, pr, bl, stm + 1)).1 = at1 + 1 := wan_f h123
            unfold qL2; dsimp only
            rw [if_pos rfl, if_pos hyes, if_neg (by rw [hw]; omega)]
            exact ⟨Nat.zero_le 2, hw, by show at1 + 1 ≤ 490; omega, gb.1, by show dsz ≤ 1000; omega⟩
      · rw [n1, bnd_f]
        have n2' : qNumber tx len 1 64 (qAt1 (0, at0 + 1, num0, dop, dva, dsz, c0.2.2.2.2.2, opn, pnd, 0, 0, stl, 0, asg, bn, bs, pr, bl, stm + 1)) = (flt, at3, v', dop, dva, dsz, c0.2.2.2.2.2, opn, pnd, 0, 0, stl, 0, asg, bn, bs, pr, bl, stm + 1) := n2
        rw [n2'] at stp
        exact Or.inr ⟨_, 1, _, rfl, n3, n4, stp, qL2_end rfl n3 (by show at3 ≤ 489; omega) gb.1 (by show dsz ≤ 1000; omega)⟩
    · have hfree : freeF tx len (at0 + 1, 0, num, lp, tu, c0) = -1 := by
        unfold freeF; dsimp only; rw [e1, if_neg (fun q => hf q.2)]
      have hlo : isLoopF bn bl (nI k) = true := by
        cases h : isLoopF bn bl (nI k) with
        | true => rfl
        | false => exact absurd ((gl k hk).mpr h) hf
      rw [hfree, if_neg (by decide)]
      exact bad hfree (fun q => by rw [if_pos hl, e2, hlo, if_pos rfl])
  · have hfree : freeF tx len (at0 + 1, 0, num, lp, tu, c0) = -1 := by
      unfold freeF; dsimp only; rw [if_neg (fun q => not_name hl q.1)]
    rw [hfree, if_neg (by decide)]
    exact bad hfree (fun q => by rw [if_neg hl])
end
