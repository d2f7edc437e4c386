section
variable {tx : Nat → Int32} {len : Nat} {lp : Int32} {tu : Nat} {asg : Int32} {bn bs pr : Nat → Int32} {bl stm : Nat}
theorem fac_leaf (hL : len ≤ 480) (hb : BSt bs bl) {d : Nat} {g : RS → Bool × RS} {at0 num num0 : Nat} {c0 : CS} {dop dva : Nat → Int32} {dsz : Nat} {opn pnd : Nat → Int32} {osz : Nat} {nst : Int32} {stl : Nat → Int32} {ssz : Nat} (G : GoodX len d at0 c0 dsz opn pnd osz nst ssz bl)
    (hno : ¬ (hereN tx len at0 = 40 ∨ hereN tx len at0 = 126 ∨ hereN tx len at0 = 64)) :
    XR tx len (d + 1) at0 c0 lp tu dop dva dsz opn pnd osz nst stl ssz asg bn bs pr bl stm (1, (0, at0, num0, dop, dva, dsz, c0.2.2.2.2.2, opn, pnd, osz, nst, stl, ssz, asg, bn, bs, pr, bl, stm)) (mFac tx len g (at0, 0, num, lp, tu, c0)) FinF := by
  obtain ⟨ga, gc, gd, gs, go, god, gn, g12, gp, gr⟩ := G
  have hpre : qPre (1, (0, at0, num0, dop, dva, dsz, c0.2.2.2.2.2, opn, pnd, osz, nst, stl, ssz, asg, bn, bs, pr, bl, stm)) := qpre1 (by omega) (by omega) (by omega) (by omega) hb
  have hnoF : ¬ (hereF tx len at0 = 126 ∨ hereF tx len at0 = 40 ∨ hereF tx len at0 = 64) := by
    rintro (q | q | q)
    · exact hno (Or.inr (Or.inl ((here_c (by decide) (by decide)).mp q)))
    · exact hno (Or.inl ((here_c (by decide) (by decide)).mp q))
    · exact hno (Or.inr (Or.inr ((here_c (by decide) (by decide)).mp q)))
  unfold mFac; dsimp only
  by_cases hl : isLetF (hereN tx len at0) = true
  · obtain ⟨hlt, k, hk, e1, e2⟩ := let_name hl
    have hz : csz c0 < 480 := by omega
    obtain ⟨b1, b2, b3⟩ := CB_name (c0 := c0) hk hz
    rw [e1, if_pos (nI_pos' (by omega))]
    refine Or.inl ⟨at0 + 1, num, num0, cAdd 2 (nI k) 0 c0, upd dop dsz 1, upd dva dsz (nI k), dsz + 1, opn, pnd, upd stl ssz (b2i false), _, false, 1, _, rfl, by omega, by omega, by omega, CB_h (by omega) b1, by omega, RB_h (by omega) (RB_name hk), fun i _ => ⟨rfl, rfl⟩, fun i hi => upd_ne (by omega), upd_at, QQ_1 (qgo rfl (by decide)) hpre rfl, ?_⟩
    show qFactor tx len _ = _
    unfold qFactor; dsimp only
    rw [if_neg hno, if_pos hl, e2, b3]; rfl
  · rw [if_neg (not_name hl), if_neg hnoF]
    by_cases hd : isDigF (hereN tx len at0) = true ∨ hereN tx len at0 = 36
    · have hlt : at0 < len := by
        rcases hd with q | q
        · exact digN_lt q
        · exact hereN_lt q (by decide)
      rcases numT (tx := tx) (len := len) (lo := 0) (hi := 4294967295) hL (rest := (lp, tu, c0)) (0, at0, num0, dop, dva, dsz, c0.2.2.2.2.2, opn, pnd, osz, nst, stl, ssz, asg, bn, bs, pr, bl, stm) (at_ := at0) (f := 0) (n := num) (n' := num0) ga with ⟨at2, v, e1, e2, e3, e4⟩ | ⟨at2, at3, v, v', flt, e1, e2, e3, e4, e5⟩
      · have e2' : qNumber tx len 0 4294967295 (0, at0, num0, dop, dva, dsz, c0.2.2.2.2.2, opn, pnd, osz, nst, stl, ssz, asg, bn, bs, pr, bl, stm) = (0, at2, v, dop, dva, dsz, c0.2.2.2.2.2, opn, pnd, osz, nst, stl, ssz, asg, bn, bs, pr, bl, stm) := e2
        rw [e1]; dsimp only; rw [if_pos rfl]
        have hz : csz c0 < 480 := by omega
        obtain ⟨b1, b2, b3⟩ := CB_num (c0 := c0) (v := nI v) hz
        refine Or.inl ⟨at2, v, v, cAdd 1 (nI v) 0 c0, upd dop dsz 0, upd dva dsz (nI v), dsz + 1, opn, pnd, upd stl ssz (b2i true), _, true, 1, _, rfl, e3, e4, by omega, CB_h (by omega) b1, by omega, RB_h (by omega) RB_num, fun i _ => ⟨rfl, rfl⟩, fun i hi => upd_ne (by omega), upd_at, QQ_1 (qgo rfl (by decide)) hpre rfl, ?_⟩
        show qFactor tx len _ = _
        unfold qFactor; dsimp only
        rw [if_neg hno, if_neg hl, if_pos hd, e2', b3]; rfl
      · have e2' : qNumber tx len 0 4294967295 (0, at0, num0, dop, dva, dsz, c0.2.2.2.2.2, opn, pnd, osz, nst, stl, ssz, asg, bn, bs, pr, bl, stm) = (flt, at3, v', dop, dva, dsz, c0.2.2.2.2.2, opn, pnd, osz, nst, stl, ssz, asg, bn, bs, pr, bl, stm) := e2
        rw [e1]; dsimp only; rw [if_neg (by decide)]
        refine Or.inr ⟨_, 1, _, rfl, e3, e4, QQ_1 (qgo rfl (by decide)) hpre rfl, ?_⟩
        show QEnd flt (qFactor tx len _)
        unfold qFactor; dsimp only
        rw [if_neg hno, if_neg hl, if_pos hd, e2']
        exact whole_end (Nat.le_refl 2) rfl (by show at3 ≤ 490; omega) hb.1 (by show dsz + 1 + osz ≤ 1000; omega)
    · rw [num_no (r := (at0, 0, num, lp, tu, c0)) (fun q => hd (Or.inr q)) (fun q => hd (Or.inl q))]; dsimp only; rw [if_neg (by decide)]
      refine Or.inr ⟨_, 1, _, rfl, Nat.succ_pos at0, by show at0 + 1 ≤ len + 1; omega, QQ_1 (qgo rfl (by decide)) hpre rfl, ?_⟩
      show QEnd (at0 + 1) (qFactor tx len _)
      unfold qFactor; dsimp only
      rw [if_neg hno, if_neg hl, if_neg hd]
      exact ⟨Nat.le_refl 2, rfl, by show at0 ≤ 490; omega, hb.1, by show dsz ≤ 1000; omega⟩
theorem beh_close {c wh nst : Int32} {f at_ num dsz wk osz ssz : Nat} {dop dva opn pnd stl : Nat → Int32} (hno : ¬ isOpF c = true) (hwh : opn osz = wh) (hc : c = closeF wh) :
    qBeh2 tx len c (f, at_, num, dop, dva, dsz, wk, opn, pnd, osz + 1, nst, stl, ssz, asg, bn, bs, pr, bl, stm) = qCls tx len wh (f, at_ + 1, num, dop, dva, dsz, wk, opn, pnd, osz, nst, stl, ssz, asg, bn, bs, pr, bl, stm) := by
  subst hwh
  unfold qBeh2; rw [if_neg hno]; exact if_pos hc
theorem beh_bad {c wh nst : Int32} {f at_ num dsz wk osz ssz : Nat} {dop dva opn pnd stl : Nat → Int32} (hno : ¬ isOpF c = true) (hwh : opn osz = wh) (hc : ¬ c = closeF wh) :
    qBeh2 tx len c (f, at_, num, dop, dva, dsz, wk, opn, pnd, osz + 1, nst, stl, ssz, asg, bn, bs, pr, bl, stm) = (2, qWr at_ (f, at_, num, dop, dva, dsz, wk, opn, pnd, osz + 1, nst, stl, ssz, asg, bn, bs, pr, bl, stm)) := by
  subst hwh
  unfold qBeh2; rw [if_neg hno]; exact if_neg hc
theorem nest_no {a : Nat} (h : hereN tx len a = 40 ∨ hereN tx len a = 126 ∨ hereN tx len a = 64) : ¬ isLetF (hereN tx len a) = true := by
  rcases h with q | q | q <;> rw [q] <;> decide
theorem nest_F {a : Nat} (h : hereN tx len a = 40 ∨ hereN tx len a = 126 ∨ hereN tx len a = 64) : hereF tx len a = 126 ∨ hereF tx len a = 40 ∨ hereF tx len a = 64 := by
  rcases h with q | q | q
  · exact Or.inr (Or.inl ((here_c (by decide) (by decide)).mpr q))
  · exact Or.inl ((here_c (by decide) (by decide)).mpr q)
  · exact Or.inr (Or.inr ((here_c (by decide) (by decide)).mpr q))
theorem fac_0 (hL : len ≤ 480) (hb : BSt bs bl) : FacT tx len lp tu asg bn bs pr bl stm 0 := by
  intro at0 num num0 c0 dop dva dsz opn pnd osz nst stl ssz G
  by_cases hn : hereN tx len at0 = 40 ∨ hereN tx len at0 = 126 ∨ hereN tx len at0 = 64
  · obtain ⟨ga, gc, gd, gs, go, god, gn, g12, gp, gr⟩ := G
    have hpre : qPre (1, (0, at0, num0, dop, dva, dsz, c0.2.2.2.2.2, opn, pnd, osz, nst, stl, ssz, asg, bn, bs, pr, bl, stm)) := qpre1 (by omega) (by omega) (by omega) (by omega) hb
    rw [mF]; unfold mFac; dsimp only
    rw [if_neg (not_name (nest_no hn)), if_pos (nest_F hn)]
    refine Or.inr ⟨_, 1, _, rfl, Nat.succ_pos at0, by show at0 + 1 ≤ len + 1; omega, QQ_1 (qgo rfl (by decide)) hpre rfl, ?_⟩
    show QEnd (at0 + 1) (qFactor tx len _)
    unfold qFactor; dsimp only
    rw [if_pos hn, if_pos (show nst = 12 from gn)]
    have hw : wanF tx len 91 (at0 + 1) (at0 + 1) = at0 + 1 := by
      unfold wanF wrF; split
      · rfl
      · rw [if_neg (by omega)]
    by_cases h64 : hereN tx len at0 = 64
    · rw [if_pos h64]
      exact ⟨Nat.le_of_ble_eq_true rfl, hw, by show at0 + 1 + 1 ≤ 490; omega, hb.1, by show dsz ≤ 1000; omega⟩
    · rw [if_neg h64]; split
      · exact ⟨Nat.le_of_ble_eq_true rfl, rfl, by show at0 + 1 ≤ 490; omega, hb.1, by show dsz ≤ 1000; omega⟩
      · exact ⟨Nat.le_of_ble_eq_true rfl, rfl, by show at0 + 1 ≤ 490; omega, hb.1, by show dsz ≤ 1000; omega⟩
  · rw [mF]; exact fac_leaf hL hb G hn
theorem nst_back {x : Int32} : x + 1 - 1 = x := Int32.add_sub_cancel x 1
theorem fac_s (hL : len ≤ 480) (hb : BSt bs bl) {d : Nat} (H : FacT tx len lp tu asg bn bs pr bl stm d) : FacT tx len lp tu asg bn bs pr bl stm (d + 1) := by
  have HS := sum_q hL hb (tur_q hL hb H)
  intro at0 num num0 c0 dop dva dsz opn pnd osz nst stl ssz G
  by_cases hn : hereN tx len at0 = 40 ∨ hereN tx len at0 = 126 ∨ hereN tx len at0 = 64
  · obtain ⟨ga, gc, gd, gs, go, god, gn, g12, gp, gr⟩ := G
    have hpre : qPre (1, (0, at0, num0, dop, dva, dsz, c0.2.2.2.2.2, opn, pnd, osz, nst, stl, ssz, asg, bn, bs, pr, bl, stm)) := qpre1 (by omega) (by omega) (by omega) (by omega) hb
    have hlt : at0 < len := by rcases hn with q | q | q <;> exact hereN_lt q (by decide)
    have hFN : hereF tx len at0 = hereN tx len at0 := by rw [hereF_in hlt, hereN_in hlt]
    have n12 : ¬ nst = 12 := by
      rw [gn]; intro q
      have := (nI_eq (a := 12 - (d + 1)) (b := 12) (by omega) (by omega)).mp q
      omega
    have n1 : nst + 1 = nI (12 - d) := by rw [gn, nI_1]; congr 1; omega
    have G2 : ∀ (a : Nat) (wh : Int32), a ≤ len → at0 < a → wh ≠ 3 → GoodX len d a c0 dsz (upd opn osz wh) (upd pnd osz 0) (osz + 1) (nst + 1) ssz bl := fun a wh h1 h2 h3 =>
      ⟨h1, by omega, by omega, by omega, by omega, by omega, n1, by omega, fun q => absurd (show upd pnd osz 0 (osz + 1 - 1) = 0 from upd_at) q, fun i hi q => by
        by_cases hi2 : i = osz
        · subst hi2; rw [upd_at] at q; exact absurd q h3
        · rw [upd_ne hi2] at q; exact gr i (by omega) q⟩
    rw [mF]; unfold mFac; dsimp only
    rw [if_neg (not_name (nest_no hn)), if_pos (nest_F hn)]
    unfold mNest; dsimp only
    rw [hFN]
    rcases hn with h40 | h126 | h64
    · rw [if_pos h40]
      have stp : QQ tx len 1 (1, (0, at0, num0, dop, dva, dsz, c0.2.2.2.2.2, opn, pnd, osz, nst, stl, ssz, asg, bn, bs, pr, bl, stm)) (1, (0, at0 + 1, num0, dop, dva, dsz, c0.2.2.2.2.2, upd opn osz 4, upd pnd osz 0, osz + 1, nst + 1, stl, ssz, asg, bn, bs, pr, bl, stm)) := by
        refine QQ_1 (qgo rfl (by decide)) hpre ?_
        show qFactor tx len _ = _
        unfold qFactor; dsimp only
        rw [if_pos (Or.inl h40), if_neg (by rw [h40]; decide), if_pos h40, if_neg n12]; rfl
      rcases HS (at0 + 1) num num0 c0 dop dva dsz (upd opn osz 4) (upd pnd osz 0) (osz + 1) (nst + 1) stl ssz (G2 _ 4 (by omega) (by omega) (by decide)) (show ¬ upd opn osz 4 osz = 6 by rw [upd_at]; decide) (show upd pnd osz 0 osz = 0 from upd_at) with ⟨at1, num1, num2, c, dop1, dva1, dsz1, opn1, pnd1, stl1, D, s, k, y, e, e1, e2, e3, e4, e5, e6, e7, e8, e9, eQ, q', eF, eF1, eF2, eF3, eF4, eF5, eF6, eF7⟩ | ⟨r', k, y, e, e1, e2, e3, e4⟩
      · rw [e]; dsimp only; rw [if_pos rfl]
        subst eF
        have eF2' : q'.2.1 = at1 := eF2
        have hwh : opn1 osz = 4 := (e7 osz (by omega)).1.trans upd_at
        have stp2 : QQ tx len 1 (2, q') (qBeh2 tx len (hereN tx len at1) (0, at1, num2, dop1, dva1, dsz1, c.2.2.2.2.2, opn1, pnd1, osz + 1, nst + 1, stl1, ssz + 1, asg, bn, bs, pr, bl, stm)) := by
          refine QQ_1 eF6 eF7 ?_
          show qBehind tx len q' = _
          unfold qBehind; rw [eF2', if_neg eF3, if_neg eF4, eF1]
        unfold mExpect; dsimp only
        by_cases h41 : hereN tx len at1 = 41
        · rw [if_pos ((here_c (by decide) (by decide)).mpr h41)]
          have hlt1 : at1 < len := hereN_lt h41 (by decide)
          refine Or.inl ⟨at1 + 1, num1, num2, c, dop1, dva1, dsz1, opn1, pnd1, stl1, D, s, 1 + k + 1, _, rfl, by omega, by omega, by omega, e4, by omega, e6, fun i hi => ⟨(e7 i (by omega)).1.trans (upd_ne (by omega)), (e7 i (by omega)).2.trans (upd_ne (by omega))⟩, e8, e9, QQ_trans stp (QQ_trans eQ stp2), ?_⟩
          rw [beh_close eF5 hwh (show hereN tx len at1 = closeF 4 from h41)]
          unfold qCls; rw [if_pos rfl]; dsimp only; rw [nst_back]; rfl
        · rw [if_neg (fun q => h41 ((here_c (by decide) (by decide)).mp q))]
          refine Or.inr ⟨_, 1 + k + 1, _, rfl, Nat.succ_pos at1, by show at1 + 1 ≤ len + 1; omega, QQ_trans stp (QQ_trans eQ stp2), ?_⟩
          rw [beh_bad eF5 hwh (show ¬ hereN tx len at1 = closeF 4 from h41)]
          exact ⟨Nat.le_refl 2, rfl, by show at1 ≤ 490; omega, hb.1, by show dsz1 ≤ 1000; omega⟩
      · rw [e]; dsimp only; rw [if_neg (by decide)]
        exact Or.inr ⟨r', k + 1, y, rfl, e1, e2, QQ_trans stp e3, e4⟩
    · rw [if_neg (by rw [h126]; decide), if_pos h126]
      have stp : QQ tx len 1 (1, (0, at0, num0, dop, dva, dsz, c0.2.2.2.2.2, opn, pnd, osz, nst, stl, ssz, asg, bn, bs, pr, bl, stm)) (1, (0, at0 + 1, num0, dop, dva, dsz, c0.2.2.2.2.2, upd opn osz 6, upd pnd osz 0, osz + 1, nst + 1, stl, ssz, asg, bn, bs, pr, bl, stm)) := by
        refine QQ_1 (qgo rfl (by decide)) hpre ?_
        show qFactor tx len _ = _
        unfold qFactor; dsimp only
        rw [if_pos (Or.inr (Or.inl h126)), if_neg (by rw [h126]; decide), if_neg (by rw [h126]; decide), if_neg n12]; rfl
      rcases H (at0 + 1) num num0 c0 dop dva dsz (upd opn osz 6) (upd pnd osz 0) (osz + 1) (nst + 1) stl ssz (G2 _ 6 (by omega) (by omega) (by decide)) with ⟨at1, num1, num2, c, dop1, dva1, dsz1, opn1, pnd1, stl1, D, s, k, y, e, e1, e2, e3, e4, e5, e6, e7, e8, e9, eQ, eF⟩ | ⟨r', k, y, e, e1, e2, e3, e4⟩
      · rw [e]; dsimp only; rw [if_pos rfl, h126]
        have hwh : opn1 osz = 6 := (e7 osz (by omega)).1.trans upd_at
        have hz : csz c < 480 := by omega
        obtain ⟨b1, b2, b3⟩ := CB_one (op := 126) (bits := 0) e4 (by omega) hz (Or.inr (Or.inr rfl))
        refine Or.inl ⟨at1, num1, num2, cOne 126 0 c, upd dop1 dsz1 3, upd dva1 dsz1 0, dsz1 + 1, opn1, pnd1, stl1, _, s, k + 1, y, rfl, by omega, e2, by omega, CB_h (by omega) b1, by omega, RB_h (by omega) (RB_one e6 (by omega) (Or.inl ⟨rfl, rfl⟩)), fun i hi => ⟨(e7 i (by omega)).1.trans (upd_ne (by omega)), (e7 i (by omega)).2.trans (upd_ne (by omega))⟩, e8, e9, QQ_trans stp eQ, ?_⟩
        unfold FinF at eF ⊢
        rw [eF]
        have hw : qWhole (0, at1, num2, dop1, dva1, dsz1, c.2.2.2.2.2, opn1, pnd1, osz + 1, nst + 1, stl1, ssz + 1, asg, bn, bs, pr, bl, stm) = qWhole (0, at1, num2, upd dop1 dsz1 3, upd dva1 dsz1 0, dsz1 + 1, (if stl1 ssz = 0 then c.2.2.2.2.2 + 1 else c.2.2.2.2.2), opn1, pnd1, osz, nst + 1 - 1, stl1, ssz + 1, asg, bn, bs, pr, bl, stm) := by
          unfold qWhole; dsimp only
          rw [wLoop, if_pos (show opn1 (osz + 1 - 1) = 6 from hwh)]; rfl
        rw [hw, e9, ← b3, nst_back]
      · rw [e]; dsimp only; rw [if_neg (by decide)]
        exact Or.inr ⟨r', k + 1, y, rfl, e1, e2, QQ_trans stp e3, e4⟩
    · rw [if_neg (by rw [h64]; decide), if_neg (by rw [h64]; decide)]
      have stp : ∀ y, y = (1, (wanF tx len 91 (at0 + 1) 0, at0 + 1 + 1, num0, dop, dva, dsz, c0.2.2.2.2.2, upd opn osz 5, upd pnd osz 0, osz + 1, nst + 1, stl, ssz, asg, bn, bs, pr, bl, stm)) → QQ tx len 1 (1, (0, at0, num0, dop, dva, dsz, c0.2.2.2.2.2, opn, pnd, osz, nst, stl, ssz, asg, bn, bs, pr, bl, stm)) y := by
        rintro y rfl
        refine QQ_1 (qgo rfl (by decide)) hpre ?_
        show qFactor tx len _ = _
        unfold qFactor; dsimp only
        rw [if_pos (Or.inr (Or.inr h64)), if_pos h64, if_neg n12]; rfl
      unfold mExpect; dsimp only
      by_cases h91 : hereN tx len (at0 + 1) = 91
      · have hlt1 : at0 + 1 < len := hereN_lt h91 (by decide)
        rw [if_pos ((here_c (by decide) (by decide)).mpr h91)]; dsimp only; rw [if_pos rfl]
        have stp := stp _ (by rw [show wanF tx len 91 (at0 + 1) 0 = 0 from if_pos h91])
        rcases HS (at0 + 1 + 1) num num0 c0 dop dva dsz (upd opn osz 5) (upd pnd osz 0) (osz + 1) (nst + 1) stl ssz (G2 _ 5 (by omega) (by omega) (by decide)) (show ¬ upd opn osz 5 osz = 6 by rw [upd_at]; decide) (show upd pnd osz 0 osz = 0 from upd_at) with ⟨at1, num1, num2, c, dop1, dva1, dsz1, opn1, pnd1, stl1, D, s, k, y, e, e1, e2, e3, e4, e5, e6, e7, e8, e9, eQ, q', eF, eF1, eF2, eF3, eF4, eF5, eF6, eF7⟩ | ⟨r', k, y, e, e1, e2, e3, e4⟩
        · rw [e]; dsimp only; rw [if_pos rfl]
          subst eF
          have eF2' : q'.2.1 = at1 := eF2
          have hwh : opn1 osz = 5 := (e7 osz (by omega)).1.trans upd_at
          have stp2 : QQ tx len 1 (2, q') (qBeh2 tx len (hereN tx len at1) (0, at1, num2, dop1, dva1, dsz1, c.2.2.2.2.2, opn1, pnd1, osz + 1, nst + 1, stl1, ssz + 1, asg, bn, bs, pr, bl, stm)) := by
            refine QQ_1 eF6 eF7 ?_
            show qBehind tx len q' = _
            unfold qBehind; rw [eF2', if_neg eF3, if_neg eF4, eF1]
          by_cases h93 : hereN tx len at1 = 93
          · rw [if_pos ((here_c (by decide) (by decide)).mpr h93)]; dsimp only; rw [if_pos rfl]
            have hlt2 : at1 < len := hereN_lt h93 (by decide)
            have hz : csz c < 480 := by omega
            obtain ⟨b1, b2, b3⟩ := CB_load e4 (by omega) hz
            refine Or.inl ⟨at1 + 1, num1, num2, cAdd 3 0 0 c, upd dop1 dsz1 2, upd dva1 dsz1 0, dsz1 + 1, opn1, pnd1, upd stl1 ssz (b2i false), _, false, 1 + k + 1, _, rfl, by omega, by omega, by omega, b1, by omega, RB_load e6 (by omega), fun i hi => ⟨(e7 i (by omega)).1.trans (upd_ne (by omega)), (e7 i (by omega)).2.trans (upd_ne (by omega))⟩, fun i hi => (upd_ne (by omega)).trans (e8 i hi), upd_at, QQ_trans stp (QQ_trans eQ stp2), ?_⟩
            rw [beh_close eF5 hwh (show hereN tx len at1 = closeF 5 from h93)]
            unfold qCls; rw [if_neg (by decide), if_pos rfl]; dsimp only; rw [nst_back, b3]; rfl
          · rw [if_neg (fun q => h93 ((here_c (by decide) (by decide)).mp q))]; dsimp only; rw [if_neg (by decide)]
            refine Or.inr ⟨_, 1 + k + 1, _, rfl, Nat.succ_pos at1, by show at1 + 1 ≤ len + 1; omega, QQ_trans stp (QQ_trans eQ stp2), ?_⟩
            rw [beh_bad eF5 hwh (show ¬ hereN tx len at1 = closeF 5 from h93)]
            exact ⟨Nat.le_refl 2, rfl, by show at1 ≤ 490; omega, hb.1, by show dsz1 ≤ 1000; omega⟩
        · rw [e]; dsimp only; rw [if_neg (by decide)]
          exact Or.inr ⟨r', k + 1, y, rfl, e1, e2, QQ_trans stp e3, e4⟩
      · rw [if_neg (fun q => h91 ((here_c (by decide) (by decide)).mp q))]; dsimp only; rw [if_neg (by decide)]
        refine Or.inr ⟨_, 1, _, rfl, Nat.succ_pos (at0 + 1), by show at0 + 1 + 1 ≤ len + 1; omega, stp _ rfl, ?_⟩
        exact ⟨Nat.le_of_ble_eq_true rfl, show wanF tx len 91 (at0 + 1) 0 = at0 + 1 + 1 from if_neg h91, by show at0 + 1 + 1 ≤ 490; omega, hb.1, by show dsz ≤ 1000; omega⟩
  · rw [mF]; exact fac_leaf hL hb G hn
theorem fac_q (hL : len ≤ 480) (hb : BSt bs bl) : ∀ d, FacT tx len lp tu asg bn bs pr bl stm d
  | 0 => fac_0 hL hb
  | d + 1 => fac_s hL hb (fac_q hL hb d)
theorem exp_q (hL : len ≤ 480) (hb : BSt bs bl) : SumT tx len lp tu asg bn bs pr bl stm 12 := sum_q hL hb (tur_q hL hb (fac_q hL hb 12))
end
