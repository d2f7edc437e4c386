theorem bnd_t {r : RS} {g : RS → Bool × RS} : bnd (true, r) g = g r := if_pos rfl
theorem bnd_f {r : RS} {g : RS → Bool × RS} : bnd (false, r) g = (false, r) := if_neg (show ¬ (false = true) by decide)
theorem exp_t {tx : Nat → Int32} {len a : Nat} {c : Int32} {rest : Nat × Nat × Int32 × Nat × CS} (h0 : c ≠ 0) (h1 : c ≠ -1) (h : hereN tx len a = c) : mExpect tx len c (a, rest) = (true, (a + 1, rest)) := if_pos ((here_c h0 h1).mpr h)
theorem exp_f {tx : Nat → Int32} {len a : Nat} {c : Int32} {rest : Nat × Nat × Int32 × Nat × CS} (h0 : c ≠ 0) (h1 : c ≠ -1) (h : ¬ hereN tx len a = c) : mExpect tx len c (a, rest) = (false, (a, a + 1, rest.2)) := if_neg (fun q => h ((here_c h0 h1).mp q))
theorem wan_t {tx : Nat → Int32} {len a f : Nat} {c : Int32} (h : hereN tx len a = c) : wanF tx len c a f = f := if_pos h
theorem wan_f {tx : Nat → Int32} {len a : Nat} {c : Int32} (h : ¬ hereN tx len a = c) : wanF tx len c a 0 = a + 1 := if_neg h
theorem wan_k {tx : Nat → Int32} {len a f : Nat} {c : Int32} (h : 1 ≤ f) : wanF tx len c a f = f := by
  unfold wanF wrF; split
  · rfl
  · rw [if_neg (by omega)]
theorem setc {c0 c : CS} {D : DX} {s : Bool} {h t k : Nat} (H : CB c0 c D s h) (h16 : h ≤ 16) (h1 : 1 ≤ h) (ht : t ≤ 640) (hk : k < 26) (hz : csz c < 480) :
    csz (cAdd 4 (nI k) 0 c) = csz c + 1 ∧ (cAdd 4 (nI k) 0 c).2.2.2.2 = c.2.2.2.2 ∧ (∀ i, i < csz c0 → (cAdd 4 (nI k) 0 c).1 i = c0.1 i ∧ (cAdd 4 (nI k) 0 c).2.1 i = c0.2.1 i ∧ (cAdd 4 (nI k) 0 c).2.2.1 i = c0.2.2.1 i) ∧
    CSt (cAdd 4 (nI k) 0 c).1 (cAdd 4 (nI k) 0 c).2.1 (cAdd 4 (nI k) 0 c).2.2.1 (csz c0) (csz (cAdd 4 (nI k) 0 c)) t (setF D k) := by
  obtain ⟨K, F, S, sz, st, op⟩ := c
  obtain ⟨hlt, hst, hag, _, _, hE⟩ := H
  have hlt' : csz c0 < sz := hlt
  rw [cAdd_t hz]
  refine ⟨rfl, rfl, fun i hi => ⟨(upd_ne (by omega)).trans (hag i hi).1, (upd_ne (by omega)).trans (hag i hi).2.1, (upd_ne (by omega)).trans (hag i hi).2.2⟩, ?_⟩
  exact CSt_set (Nat.le_of_lt hlt) h16 h1 ht (CEx_ag hE (fun i _ h2 => ⟨upd_ne (Nat.ne_of_lt h2), upd_ne (Nat.ne_of_lt h2)⟩)) upd_at upd_at hk
theorem stoc {c0 c1 c : CS} {D1 D2 : DX} {s1 s2 : Bool} {h t : Nat} (H1 : CB c0 c1 D1 s1 h) (H2 : CB c1 c D2 s2 h) (h16 : h + 1 ≤ 16) (h1 : 1 ≤ h) (ht : t ≤ 640) (hz : csz c < 480) :
    csz (cAdd 5 0 0 c) = csz c + 1 ∧ (cAdd 5 0 0 c).2.2.2.2 = c.2.2.2.2 ∧ (∀ i, i < csz c0 → (cAdd 5 0 0 c).1 i = c0.1 i ∧ (cAdd 5 0 0 c).2.1 i = c0.2.1 i ∧ (cAdd 5 0 0 c).2.2.1 i = c0.2.2.1 i) ∧
    CSt (cAdd 5 0 0 c).1 (cAdd 5 0 0 c).2.1 (cAdd 5 0 0 c).2.2.1 (csz c0) (csz (cAdd 5 0 0 c)) t (stoF D1 D2) := by
  obtain ⟨K, F, S, sz, st, op⟩ := c
  obtain ⟨glt, gst, gag, _, _, gE⟩ := H1
  obtain ⟨hlt, hst, hag, _, _, hE⟩ := H2
  have hlt' : csz c1 < sz := hlt
  rw [cAdd_t hz]
  refine ⟨rfl, rfl, fun i hi => ⟨(upd_ne (by omega)).trans ((hag i (by omega)).1.trans (gag i hi).1), (upd_ne (by omega)).trans ((hag i (by omega)).2.1.trans (gag i hi).2.1), (upd_ne (by omega)).trans ((hag i (by omega)).2.2.trans (gag i hi).2.2)⟩, ?_⟩
  exact CSt_sto (Nat.le_of_lt glt) (Nat.le_of_lt hlt) h16 h1 ht (CEx_ag gE (fun i _ h2 => ⟨(upd_ne (by omega)).trans (hag i h2).1, (upd_ne (by omega)).trans (hag i h2).2.1⟩)) (CEx_ag hE (fun i _ h2 => ⟨upd_ne (Nat.ne_of_lt h2), upd_ne (Nat.ne_of_lt h2)⟩)) upd_at
section
variable {tx : Nat → Int32} {len : Nat} {lp : Int32} {tu : Nat} {bn bs pr : Nat → Int32} {bl : Nat}
theorem sum_1 (hL : len ≤ 480) (hb : BSt bs bl) {a num num0 dsz stm : Nat} {c : CS} {asg : Int32} {dop dva opn pnd stl : Nat → Int32} {wh : Int32} (h3 : wh = 3 → bl < 8) (h6 : wh ≠ 6) (h1 : a ≤ len) (h2 : csz c ≤ a) (h4 : dsz ≤ a) :
    XR tx len 14 a c lp tu dop dva dsz (upd opn 0 wh) (upd pnd 0 0) 1 0 stl 0 asg bn bs pr bl stm (1, (0, a, num0, dop, dva, dsz, c.2.2.2.2.2, upd opn 0 wh, upd pnd 0 0, 1, 0, stl, 0, asg, bn, bs, pr, bl, stm)) (mS tx len (a, 0, num, lp, tu, c)) (FinS tx len) :=
  exp_q hL hb a num num0 c dop dva dsz (upd opn 0 wh) (upd pnd 0 0) 1 0 stl 0 ⟨h1, h2, h4, Nat.zero_le _, Nat.le_refl 1, Nat.le_refl 13, rfl, Nat.le_refl 12, fun q => absurd (show upd pnd 0 0 0 = 0 from upd_at) q, fun i hi q => h3 (by
    have hi0 : i = 0 := by omega
    rw [hi0, upd_at] at q; exact q)⟩ (show ¬ upd opn 0 wh 0 = 6 by rw [upd_at]; exact h6) (show upd pnd 0 0 0 = 0 from upd_at)
theorem qgo0 {at_ num dsz wk osz ssz stm : Nat} {dop dva opn pnd stl : Nat → Int32} {nst asg : Int32} (h : at_ < len) : ¬ qStop len (0, (0, at_, num, dop, dva, dsz, wk, opn, pnd, osz, nst, stl, ssz, asg, bn, bs, pr, bl, stm)) := by
  rintro (q | q)
  · exact q rfl
  · exact absurd (show len ≤ at_ from q.2.2) (by omega)
/-- the step behind a sum -/
theorem stp_beh {q' T : QS} {a : Nat} (h1 : qPend q' = T) (h2 : q'.2.1 = a) (h3 : ¬ hereN tx len a = 60) (h4 : ¬ hereN tx len a = 62) (h5 : ¬ qStop len (2, q')) (h6 : qPre (2, q')) : QQ tx len 1 (2, q') (qBeh2 tx len (hereN tx len a) T) := by
  refine QQ_1 h5 h6 ?_
  show qBehind tx len q' = _
  unfold qBehind; rw [h2, if_neg h3, if_neg h4, h1]
theorem set_q (hL : len ≤ 480) {d at0 num num0 dsz stm : Nat} {c0 : CS} {dop dva opn pnd stl : Nat → Int32} {asg : Int32} (G : GoodS len d at0 c0 dsz lp tu bn bs pr bl) (hst : c0.2.2.2.2.1 = stm + 1) (hlt : at0 < len)
    (h125 : ¬ hereN tx len at0 = 125) (h64 : ¬ hereN tx len at0 = 64) (h35 : ¬ (hereN tx len at0 = 35 ∨ hereN tx len at0 = 63)) :
    PR tx len at0 c0 lp tu dop dva dsz bn bs pr bl (0, (0, at0, num0, dop, dva, dsz, c0.2.2.2.2.2, opn, pnd, 0, 0, stl, 0, asg, bn, bs, pr, bl, stm)) (mSet tx len (at0, 0, num, lp, tu, c0)) (fun a => at0 < a) := by
  obtain ⟨ga, gc, gd, gbd, gb, gl, gp, gt1, gt⟩ := G
  have hpre : qPre (0, (0, at0, num0, dop, dva, dsz, c0.2.2.2.2.2, opn, pnd, 0, 0, stl, 0, asg, bn, bs, pr, bl, stm)) := qpre0 (by omega) (by omega) (by omega) (by omega) gb
  unfold mSet
  by_cases hl : isLetF (hereN tx len at0) = true
  · obtain ⟨_, k, hk, e1, e2⟩ := let_name hl
    by_cases hf : LB lp k
    · have hfree : freeF tx len (at0, 0, num, lp, tu, c0) = nI k := by
        unfold freeF; dsimp only; rw [e1, if_pos ⟨nI_pos' (by omega), hf⟩]
      rw [hfree, if_pos (nI_pos' (by omega))]
      have hlo : isLoopF bn bl (nI k) = false := (gl k hk).mp hf
      have stp : ∀ y, y = (1, (wanF tx len 61 (at0 + 1) 0, at0 + 1 + 1, num0, dop, dva, dsz, c0.2.2.2.2.2, upd opn 0 0, upd pnd 0 0, 1, 0, stl, 0, nI k, bn, bs, pr, bl, stm + 1)) → QQ tx len 1 (0, (0, at0, num0, dop, dva, dsz, c0.2.2.2.2.2, opn, pnd, 0, 0, stl, 0, asg, bn, bs, pr, bl, stm)) y := by
        rintro y rfl
        refine QQ_1 (qgo0 hlt) hpre ?_
        show qStmt tx len _ = _
        unfold qStmt; dsimp only; rw [if_neg (fun q => h125 q.1)]
        unfold qStmt2; dsimp only
        rw [if_pos hl, e2, hlo, if_neg (by decide)]; rfl
      dsimp only
      by_cases h61 : hereN tx len (at0 + 1) = 61
      · have hlt1 : at0 + 1 < len := hereN_lt h61 (by decide)
        rw [exp_t (by decide) (by decide) h61, bnd_t]
        have stp := stp _ (by rw [wan_t h61])
        rcases sum_1 (tx := tx) (lp := lp) (tu := tu) (bn := bn) (pr := pr) hL gb (a := at0 + 1 + 1) (num := num) (num0 := num0) (dsz := dsz) (stm := stm + 1) (c := c0) (asg := nI k) (dop := dop) (dva := dva) (opn := opn) (pnd := pnd) (stl := stl) (wh := 0) (fun q => absurd q (by decide)) (by decide) (by omega) (by omega) (by omega) with ⟨at1, num1, num2, c, dop1, dva1, dsz1, opn1, pnd1, stl1, D, s, k1, y, e, f1, f2, f3, f4, f5, f6, f7, f8, f9, fQ, q', eF, eF1, eF2, eF3, eF4, eF5, eF6, eF7⟩ | ⟨r', k1, y, e, f1, f2, f3, f4⟩
        · rw [e, bnd_t]
          subst eF
          have hwh : opn1 0 = 0 := (f7 0 (by omega)).1.trans upd_at
          have stp2 := stp_beh eF1 eF2 eF3 eF4 eF6 eF7
          by_cases h59 : hereN tx len at1 = 59
          · have hlt2 : at1 < len := hereN_lt h59 (by decide)
            rw [exp_t (by decide) (by decide) h59, bnd_t]
            have hz : csz c < 480 := by omega
            obtain ⟨b1, b2, b3, b4⟩ := setc (t := tu) f4 (by omega) (by omega) gt hk hz
            have b2a : (cAdd 4 (nI k) 0 c).2.2.2.2.2 = c.2.2.2.2.2 := congrArg (fun x => x.2) b2
            have b2b : (cAdd 4 (nI k) 0 c).2.2.2.2.1 = stm + 1 := (congrArg (fun x => x.1) b2).trans (f4.2.1.trans hst)
            rw [beh_close eF5 hwh (show hereN tx len at1 = closeF 0 from h59)] at stp2
            refine Or.inl ⟨at1 + 1, num1, num2, lp, cAdd 4 (nI k) 0 c, upd dop1 dsz1 7, upd dva1 dsz1 (nI k), dsz1 + 1, opn1, pnd1, stl1, nI k, bn, bs, pr, setF D k, 1 + k1 + 1, rfl, fun _ _ => Iff.rfl, by omega, by omega, by show at0 < at1 + 1; omega, by have := f4.1; omega, by omega, b3, by have := f6.1; omega, by omega, fun i hi => ⟨(upd_ne (by have := f6.1; omega)).trans (f6.2.1 i hi).1, (upd_ne (by have := f6.1; omega)).trans (f6.2.1 i hi).2⟩, b4, ?_, fun j hj hj2 => keep_set (fun q => hj2 (by rw [q]; exact hf)), fun i _ => ⟨rfl, rfl⟩, fun i _ => rfl, ?_⟩
            · exact RSt_set (Nat.le_of_lt f6.1) (by omega) (REx_ag f6.2.2 (fun i _ h2 => ⟨upd_ne (Nat.ne_of_lt h2), upd_ne (Nat.ne_of_lt h2)⟩)) upd_at upd_at hk
            · rw [b2a, b2b]
              exact QQ_trans stp (QQ_trans fQ stp2)
          · rw [exp_f (by decide) (by decide) h59, bnd_f]
            rw [beh_bad eF5 hwh (show ¬ hereN tx len at1 = closeF 0 from h59)] at stp2
            exact Or.inr ⟨_, 1 + k1 + 1, _, rfl, Nat.succ_pos at1, by show at1 + 1 ≤ len + 1; omega, QQ_trans stp (QQ_trans fQ stp2), Nat.le_refl 2, rfl, by show at1 ≤ 490; omega, gb.1, by show dsz1 ≤ 1000; omega⟩
        · rw [e, bnd_f]
          exact Or.inr ⟨r', k1 + 1, y, rfl, f1, f2, QQ_trans stp f3, f4⟩
      · rw [exp_f (by decide) (by decide) h61, bnd_f]
        exact Or.inr ⟨_, 1, _, rfl, Nat.succ_pos (at0 + 1), by show at0 + 1 + 1 ≤ len + 1; omega, stp _ rfl, Nat.le_of_ble_eq_true rfl, wan_f h61, by show at0 + 1 + 1 ≤ 490; omega, gb.1, by show dsz ≤ 1000; omega⟩
    · have hfree : freeF tx len (at0, 0, num, lp, tu, c0) = -1 := by
        unfold freeF; dsimp only; rw [e1, if_neg (fun q => hf q.2)]
      rw [hfree, if_neg (by decide)]
      have hlo : isLoopF bn bl (nI k) = true := by
        cases h : isLoopF bn bl (nI k) with
        | true => rfl
        | false => exact absurd ((gl k hk).mpr h) hf
      refine Or.inr ⟨_, 1, _, rfl, Nat.succ_pos at0, by show at0 + 1 ≤ len + 1; omega, QQ_1 (qgo0 hlt) hpre rfl, ?_⟩
      show QEnd (at0 + 1) (qStmt tx len _)
      unfold qStmt; dsimp only; rw [if_neg (fun q => h125 q.1)]
      unfold qStmt2; dsimp only
      rw [if_pos hl, e2, hlo, if_pos rfl]
      exact ⟨Nat.le_of_ble_eq_true rfl, wan_k (by show 1 ≤ at0 + 1; omega), by show at0 + 1 + 1 ≤ 490; omega, gb.1, by show dsz ≤ 1000; omega⟩
  · have hfree : freeF tx len (at0, 0, num, lp, tu, c0) = -1 := by
      unfold freeF; dsimp only; rw [if_neg (fun q => not_name hl q.1)]
    rw [hfree, if_neg (by decide)]
    refine Or.inr ⟨_, 1, _, rfl, Nat.succ_pos at0, by show at0 + 1 ≤ len + 1; omega, QQ_1 (qgo0 hlt) hpre rfl, ?_⟩
    show QEnd (at0 + 1) (qStmt tx len _)
    unfold qStmt; dsimp only; rw [if_neg (fun q => h125 q.1)]
    unfold qStmt2; dsimp only
    rw [if_neg hl, if_neg h64, if_neg h35]
    exact ⟨Nat.le_of_ble_eq_true rfl, rfl, by show at0 ≤ 490; omega, gb.1, by show dsz ≤ 1000; omega⟩
theorem sto_q (hL : len ≤ 480) {d at0 num num0 dsz stm : Nat} {c0 : CS} {dop dva opn pnd stl : Nat → Int32} {asg : Int32} (G : GoodS len d at0 c0 dsz lp tu bn bs pr bl) (hst : c0.2.2.2.2.1 = stm + 1) (h64 : hereN tx len at0 = 64) :
    PR tx len at0 c0 lp tu dop dva dsz bn bs pr bl (0, (0, at0, num0, dop, dva, dsz, c0.2.2.2.2.2, opn, pnd, 0, 0, stl, 0, asg, bn, bs, pr, bl, stm)) (mStore tx len (at0, 0, num, lp, tu, c0)) (fun a => at0 < a) := by
  obtain ⟨ga, gc, gd, gbd, gb, gl, gp, gt1, gt⟩ := G
  have hlt : at0 < len := hereN_lt h64 (by decide)
  have hpre : qPre (0, (0, at0, num0, dop, dva, dsz, c0.2.2.2.2.2, opn, pnd, 0, 0, stl, 0, asg, bn, bs, pr, bl, stm)) := qpre0 (by omega) (by omega) (by omega) (by omega) gb
  unfold mStore
  have stp : ∀ y, y = (1, (wanF tx len 91 (at0 + 1) 0, at0 + 1 + 1, num0, dop, dva, dsz, c0.2.2.2.2.2, upd opn 0 1, upd pnd 0 0, 1, 0, stl, 0, asg, bn, bs, pr, bl, stm + 1)) → QQ tx len 1 (0, (0, at0, num0, dop, dva, dsz, c0.2.2.2.2.2, opn, pnd, 0, 0, stl, 0, asg, bn, bs, pr, bl, stm)) y := by
    rintro y rfl
    refine QQ_1 (qgo0 hlt) hpre ?_
    show qStmt tx len _ = _
    unfold qStmt; dsimp only; rw [if_neg (fun q => absurd (h64.symm.trans q.1) (by decide))]
    unfold qStmt2; dsimp only
    rw [if_neg (by rw [h64]; decide), if_pos h64]; rfl
  dsimp only
  by_cases h91 : hereN tx len (at0 + 1) = 91
  · have hlt1 : at0 + 1 < len := hereN_lt h91 (by decide)
    rw [exp_t (by decide) (by decide) h91, bnd_t]
    have stp := stp _ (by rw [wan_t h91])
    rcases sum_1 (tx := tx) (lp := lp) (tu := tu) (bn := bn) (pr := pr) hL gb (a := at0 + 1 + 1) (num := num) (num0 := num0) (dsz := dsz) (stm := stm + 1) (c := c0) (asg := asg) (dop := dop) (dva := dva) (opn := opn) (pnd := pnd) (stl := stl) (wh := 1) (fun q => absurd q (by decide)) (by decide) (by omega) (by omega) (by omega) with ⟨at1, num1, num2, c, dop1, dva1, dsz1, opn1, pnd1, stl1, D, s, k1, y, e, f1, f2, f3, f4, f5, f6, f7, f8, f9, fQ, q', eF, eF1, eF2, eF3, eF4, eF5, eF6, eF7⟩ | ⟨r', k1, y, e, f1, f2, f3, f4⟩
    · rw [e, bnd_t]
      subst eF
      have hwh : opn1 0 = 1 := (f7 0 (by omega)).1.trans upd_at
      have stp2 := stp_beh eF1 eF2 eF3 eF4 eF6 eF7
      by_cases h93 : hereN tx len at1 = 93
      · have hlt2 : at1 < len := hereN_lt h93 (by decide)
        rw [exp_t (by decide) (by decide) h93, bnd_t]
        rw [beh_close eF5 hwh (show hereN tx len at1 = closeF 1 from h93)] at stp2
        by_cases h61 : hereN tx len (at1 + 1) = 61
        · have hlt3 : at1 + 1 < len := hereN_lt h61 (by decide)
          rw [exp_t (by decide) (by decide) h61, bnd_t]
          have stp3 : QQ tx len 1 (2, q') (1, (0, at1 + 1 + 1, num2, dop1, dva1, dsz1, c.2.2.2.2.2, upd opn1 0 2, upd pnd1 0 0, 1, 0, stl1, 0, asg, bn, bs, pr, bl, stm + 1)) := by
            have e5 : qCls tx len 1 (0, at1 + 1, num2, dop1, dva1, dsz1, c.2.2.2.2.2, opn1, pnd1, 0, 0, stl1, 0 + 1, asg, bn, bs, pr, bl, stm + 1) = (1, (wanF tx len 61 (at1 + 1) 0, at1 + 1 + 1, num2, dop1, dva1, dsz1, c.2.2.2.2.2, upd opn1 0 2, upd pnd1 0 0, 1, 0, stl1, 0, asg, bn, bs, pr, bl, stm + 1)) := rfl
            rw [wan_t h61] at e5
            rw [← e5]; exact stp2
          rcases sum_1 (tx := tx) (lp := lp) (tu := tu) (bn := bn) (pr := pr) hL gb (a := at1 + 1 + 1) (num := num1) (num0 := num2) (dsz := dsz1) (stm := stm + 1) (c := c) (asg := asg) (dop := dop1) (dva := dva1) (opn := opn1) (pnd := pnd1) (stl := stl1) (wh := 2) (fun q => absurd q (by decide)) (by decide) (by omega) (by omega) (by omega) with ⟨at2, num3, num4, c2, dop2, dva2, dsz2, opn2, pnd2, stl2, D2, s2, k2, y, e, g1, g2, g3, g4, g5, g6, g7, g8, g9, gQ, q2, eG, eG1, eG2, eG3, eG4, eG5, eG6, eG7⟩ | ⟨r', k2, y, e, g1, g2, g3, g4⟩
          · rw [e, bnd_t]
            subst eG
            have hwh2 : opn2 0 = 2 := (g7 0 (by omega)).1.trans upd_at
            have stp4 := stp_beh eG1 eG2 eG3 eG4 eG6 eG7
            by_cases h59 : hereN tx len at2 = 59
            · have hlt4 : at2 < len := hereN_lt h59 (by decide)
              rw [exp_t (by decide) (by decide) h59, bnd_t]
              have hz : csz c2 < 480 := by omega
              obtain ⟨b1, b2, b3, b4⟩ := stoc (t := tu) f4 g4 (by omega) (by omega) gt hz
              have b2a : (cAdd 5 0 0 c2).2.2.2.2.2 = c2.2.2.2.2.2 := congrArg (fun x => x.2) b2
              have b2b : (cAdd 5 0 0 c2).2.2.2.2.1 = stm + 1 := (congrArg (fun x => x.1) b2).trans (g4.2.1.trans (f4.2.1.trans hst))
              rw [beh_close eG5 hwh2 (show hereN tx len at2 = closeF 2 from h59)] at stp4
              have l1 := f4.1
              have l2 := g4.1
              have l3 := f6.1
              have l4 := g6.1
              refine Or.inl ⟨at2 + 1, num3, num4, lp, cAdd 5 0 0 c2, upd dop2 dsz2 8, upd dva2 dsz2 asg, dsz2 + 1, opn2, pnd2, stl2, asg, bn, bs, pr, stoF D D2, 1 + k2 + (1 + k1 + 1), rfl, fun _ _ => Iff.rfl, by omega, by omega, by show at0 < at2 + 1; omega, by omega, by omega, b3, by omega, by omega, fun i hi => ⟨(upd_ne (by omega)).trans ((g6.2.1 i (by omega)).1.trans (f6.2.1 i hi).1), (upd_ne (by omega)).trans ((g6.2.1 i (by omega)).2.trans (f6.2.1 i hi).2)⟩, b4, ?_, fun j hj hj2 => keep_sto, fun i _ => ⟨rfl, rfl⟩, fun i _ => rfl, ?_⟩
              · exact RSt_sto (Nat.le_of_lt l3) (Nat.le_of_lt l4) (by omega) (REx_ag f6.2.2 (fun i _ h2 => ⟨(upd_ne (by omega)).trans (g6.2.1 i h2).1, (upd_ne (by omega)).trans (g6.2.1 i h2).2⟩)) (REx_ag g6.2.2 (fun i _ h2 => ⟨upd_ne (Nat.ne_of_lt h2), upd_ne (Nat.ne_of_lt h2)⟩)) upd_at
              · rw [b2a, b2b]
                exact QQ_trans (QQ_trans stp (QQ_trans fQ stp3)) (QQ_trans gQ stp4)
            · rw [exp_f (by decide) (by decide) h59, bnd_f]
              rw [beh_bad eG5 hwh2 (show ¬ hereN tx len at2 = closeF 2 from h59)] at stp4
              exact Or.inr ⟨_, 1 + k2 + (1 + k1 + 1), _, rfl, Nat.succ_pos at2, by show at2 + 1 ≤ len + 1; omega, QQ_trans (QQ_trans stp (QQ_trans fQ stp3)) (QQ_trans gQ stp4), Nat.le_refl 2, rfl, by show at2 ≤ 490; omega, gb.1, by show dsz2 ≤ 1000; omega⟩
          · rw [e, bnd_f]
            exact Or.inr ⟨r', k2 + (1 + k1 + 1), y, rfl, g1, g2, QQ_trans (QQ_trans stp (QQ_trans fQ stp3)) g3, g4⟩
        · rw [exp_f (by decide) (by decide) h61, bnd_f]
          exact Or.inr ⟨_, 1 + k1 + 1, _, rfl, Nat.succ_pos (at1 + 1), by show at1 + 1 + 1 ≤ len + 1; omega, QQ_trans stp (QQ_trans fQ stp2), Nat.le_of_ble_eq_true rfl, wan_f h61, by show at1 + 1 + 1 ≤ 490; omega, gb.1, by show dsz1 ≤ 1000; omega⟩
      · rw [exp_f (by decide) (by decide) h93, bnd_f]
        rw [beh_bad eF5 hwh (show ¬ hereN tx len at1 = closeF 1 from h93)] at stp2
        exact Or.inr ⟨_, 1 + k1 + 1, _, rfl, Nat.succ_pos at1, by show at1 + 1 ≤ len + 1; omega, QQ_trans stp (QQ_trans fQ stp2), Nat.le_refl 2, rfl, by show at1 ≤ 490; omega, gb.1, by show dsz1 ≤ 1000; omega⟩
    · rw [e, bnd_f]
      exact Or.inr ⟨r', k1 + 1, y, rfl, f1, f2, QQ_trans stp f3, f4⟩
  · rw [exp_f (by decide) (by decide) h91, bnd_f]
    exact Or.inr ⟨_, 1, _, rfl, Nat.succ_pos (at0 + 1), by show at0 + 1 + 1 ≤ len + 1; omega, stp _ rfl, Nat.le_of_ble_eq_true rfl, wan_f h91, by show at0 + 1 + 1 ≤ 490; omega, gb.1, by show dsz ≤ 1000; omega⟩
end
