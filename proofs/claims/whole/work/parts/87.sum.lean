def FacT (tx : Nat → Int32) (len : Nat) (lp : Int32) (tu : Nat) (asg : Int32) (bn bs pr : Nat → Int32) (bl stm d : Nat) : Prop :=
  ∀ (at0 num num0 : Nat) (c0 : CS) (dop dva : Nat → Int32) (dsz : Nat) (opn pnd : Nat → Int32) (osz : Nat) (nst : Int32) (stl : Nat → Int32) (ssz : Nat), GoodX len d at0 c0 dsz opn pnd osz nst ssz bl →
    XR tx len (d + 1) at0 c0 lp tu dop dva dsz opn pnd osz nst stl ssz asg bn bs pr bl stm (1, (0, at0, num0, dop, dva, dsz, c0.2.2.2.2.2, opn, pnd, osz, nst, stl, ssz, asg, bn, bs, pr, bl, stm)) (mF tx len d (at0, 0, num, lp, tu, c0)) FinF
def TurT (tx : Nat → Int32) (len : Nat) (lp : Int32) (tu : Nat) (asg : Int32) (bn bs pr : Nat → Int32) (bl stm d : Nat) : Prop :=
  ∀ (at0 num num0 : Nat) (c0 : CS) (dop dva : Nat → Int32) (dsz : Nat) (opn pnd : Nat → Int32) (osz : Nat) (nst : Int32) (stl : Nat → Int32) (ssz : Nat), GoodX len d at0 c0 dsz opn pnd osz nst ssz bl → ¬ opn (osz - 1) = 6 →
    XR tx len (d + 1) at0 c0 lp tu dop dva dsz opn pnd osz nst stl ssz asg bn bs pr bl stm (1, (0, at0, num0, dop, dva, dsz, c0.2.2.2.2.2, opn, pnd, osz, nst, stl, ssz, asg, bn, bs, pr, bl, stm)) (mTurned tx len (mF tx len d) (at0, 0, num, lp, tu, c0)) (FinT tx len)
def SumT (tx : Nat → Int32) (len : Nat) (lp : Int32) (tu : Nat) (asg : Int32) (bn bs pr : Nat → Int32) (bl stm d : Nat) : Prop :=
  ∀ (at0 num num0 : Nat) (c0 : CS) (dop dva : Nat → Int32) (dsz : Nat) (opn pnd : Nat → Int32) (osz : Nat) (nst : Int32) (stl : Nat → Int32) (ssz : Nat), GoodX len d at0 c0 dsz opn pnd osz nst ssz bl → ¬ opn (osz - 1) = 6 → pnd (osz - 1) = 0 →
    XR tx len (d + 2) at0 c0 lp tu dop dva dsz opn pnd osz nst stl ssz asg bn bs pr bl stm (1, (0, at0, num0, dop, dva, dsz, c0.2.2.2.2.2, opn, pnd, osz, nst, stl, ssz, asg, bn, bs, pr, bl, stm)) (mSum tx len (mF tx len d) (at0, 0, num, lp, tu, c0)) (FinS tx len)
section
variable {tx : Nat → Int32} {len : Nat} {lp : Int32} {tu : Nat} {asg : Int32} {bn bs pr : Nat → Int32} {bl stm : Nat}
theorem tur_q (hL : len ≤ 480) (hb : BSt bs bl) {d : Nat} (H : FacT tx len lp tu asg bn bs pr bl stm d) : TurT tx len lp tu asg bn bs pr bl stm d := by
  intro at0 num num0 c0 dop dva dsz opn pnd osz nst stl ssz G h6
  have G' := G
  obtain ⟨ga, gc, gd, gs, go, god, gn, g12, gp, gr⟩ := G
  unfold mTurned
  rcases H at0 num num0 c0 dop dva dsz opn pnd osz nst stl ssz G' with ⟨at1, num1, num2, c, dop1, dva1, dsz1, opn1, pnd1, stl1, D, s, k, y, e, e1, e2, e3, e4, e5, e6, e7, e8, e9, eQ, eF⟩ | ⟨r', k, y, e, e1, e2, e3, e4⟩
  · rw [e]; dsimp only; rw [if_pos rfl]
    have hw : qWhole (0, at1, num2, dop1, dva1, dsz1, c.2.2.2.2.2, opn1, pnd1, osz, nst, stl1, ssz + 1, asg, bn, bs, pr, bl, stm) = (0, at1, num2, dop1, dva1, dsz1, c.2.2.2.2.2, opn1, pnd1, osz, nst, stl1, ssz + 1, asg, bn, bs, pr, bl, stm) := by
      refine whole_no ?_
      show ¬ opn1 (osz - 1) = 6
      rw [(e7 (osz - 1) (by omega)).1]; exact h6
    unfold FinF at eF
    rw [hw] at eF; subst eF
    exact tl_q hL hb (Nat.succ_pos d) gc gd gs go (by omega) gp gr 480 at1 num1 num2 c dop1 dva1 dsz1 opn1 pnd1 stl1 D s k (by omega) e1 e2 e3 e4 e5 e6 e7 e8 e9 eQ
  · rw [e]; dsimp only; rw [if_neg (by decide)]
    exact Or.inr ⟨r', k, y, rfl, e1, e2, e3, e4⟩
theorem isOp_F {a : Nat} : isOpF (hereF tx len a) = isOpF (hereN tx len a) := by
  by_cases h : a < len
  · rw [hereF_in h, hereN_in h]
  · rw [hereF_out h, hereN_out h]; decide
theorem isOp_0 {c : Int32} (h : isOpF c = true) : ¬ c = 0 := fun q => absurd h (by rw [q]; decide)
theorem both_q {s s2 : Bool} : decide (¬ b2i s2 = 0 ∧ ¬ b2i s = 0) = (s && s2) := by cases s <;> cases s2 <;> decide
theorem sl_q (hL : len ≤ 480) (hb : BSt bs bl) {d : Nat} (H : TurT tx len lp tu asg bn bs pr bl stm d) {at0 : Nat} {c0 : CS} {dop dva : Nat → Int32} {dsz : Nat} {opn pnd : Nat → Int32} {osz : Nat} {nst : Int32} {stl : Nat → Int32} {ssz : Nat} {start : Nat × QS}
    (G : GoodX len d at0 c0 dsz opn pnd osz nst ssz bl) (h6 : ¬ opn (osz - 1) = 6) (hp0 : pnd (osz - 1) = 0) :
    ∀ (n at1 num num1 : Nat) (c : CS) (dop1 dva1 : Nat → Int32) (dsz1 : Nat) (opn1 pnd1 stl1 : Nat → Int32) (D : DX) (s : Bool) (k : Nat) (q' : QS), len ≤ at1 + n →
      at0 < at1 → at1 ≤ len → csz c + at0 ≤ csz c0 + at1 → CB c0 c D s (d + 2) → dsz1 + at0 ≤ dsz + at1 → RB dop dva dsz dop1 dva1 dsz1 D (d + 2) →
      (∀ i, i < osz → opn1 i = opn i ∧ pnd1 i = pnd i) → (∀ i, i < ssz → stl1 i = stl i) → stl1 ssz = b2i s →
      qPend q' = (0, at1, num1, dop1, dva1, dsz1, c.2.2.2.2.2, opn1, pnd1, osz, nst, stl1, ssz + 1, asg, bn, bs, pr, bl, stm) → q'.2.1 = at1 → ¬ hereN tx len at1 = 60 → ¬ hereN tx len at1 = 62 → ¬ qStop len (2, q') → qPre (2, q') → QQ tx len k start (2, q') →
      XR tx len (d + 2) at0 c0 lp tu dop dva dsz opn pnd osz nst stl ssz asg bn bs pr bl stm start (sLoop tx len (mF tx len d) n (at1, 0, num, lp, tu, c)) (FinS tx len) := by
  obtain ⟨ga, gc, gd, gs, go, god, gn, g12, gp, gr⟩ := G
  intro n
  induction n with
  | zero =>
    intro at1 num num1 c dop1 dva1 dsz1 opn1 pnd1 stl1 D s k q' hn g1 g2 g3 g4 g5 g6 g7 g8 g9 gP gA h60 h62 gS gQp gQ
    have hout : ¬ at1 < len := by omega
    refine Or.inl ⟨at1, num, num1, c, dop1, dva1, dsz1, opn1, pnd1, stl1, D, s, k, _, rfl, g1, g2, g3, g4, g5, g6, g7, g8, g9, gQ, q', rfl, gP, gA, h60, h62, ?_, gS, gQp⟩
    show ¬ isOpF (hereN tx len at1) = true; rw [hereN_out hout]; decide
  | succ n ih =>
    intro at1 num num1 c dop1 dva1 dsz1 opn1 pnd1 stl1 D s k q' hn g1 g2 g3 g4 g5 g6 g7 g8 g9 gP gA h60 h62 gS gQp gQ
    rw [sLoop]; dsimp only; rw [isOp_F]
    by_cases hop : isOpF (hereN tx len at1) = true
    · rw [if_pos hop]
      have hlt : at1 < len := isOp_lt (tx := tx) (by rw [isOp_F]; exact hop)
      have hFN : hereF tx len at1 = hereN tx len at1 := by rw [hereF_in hlt, hereN_in hlt]
      rw [hFN]
      have stp : QQ tx len 1 (2, q') (1, (0, at1 + 1, num1, dop1, dva1, dsz1, c.2.2.2.2.2, opn1, upd pnd1 (osz - 1) (hereN tx len at1), osz, nst, stl1, ssz + 1, asg, bn, bs, pr, bl, stm)) := by
        refine QQ_1 gS gQp ?_
        show qBehind tx len q' = _
        unfold qBehind; rw [gA, if_neg h60, if_neg h62, gP]
        unfold qBeh2; rw [if_pos hop]
      have G2 : GoodX len d (at1 + 1) c dsz1 opn1 (upd pnd1 (osz - 1) (hereN tx len at1)) osz nst (ssz + 1) bl :=
        ⟨by omega, by omega, by omega, by omega, go, god, gn, g12, fun _ => by omega, fun i hi q => gr i hi (by rw [← (g7 i hi).1]; exact q)⟩
      rcases H (at1 + 1) num num1 c dop1 dva1 dsz1 opn1 (upd pnd1 (osz - 1) (hereN tx len at1)) osz nst stl1 (ssz + 1) G2 (by rw [(g7 (osz - 1) (by omega)).1]; exact h6) with ⟨at2, num2, num3, c2, dop2, dva2, dsz2, opn2, pnd2, stl2, D2, s2, k2, y, e, e1, e2, e3, e4, e5, e6, e7, e8, e9, eQ, eF, eF1, eF2⟩ | ⟨r', k2, y, e, e1, e2, e3, e4⟩
      · rw [e]; dsimp only; rw [if_pos rfl]
        subst eF
        have hz : csz c2 < 480 := by omega
        obtain ⟨b1, b2, b3⟩ := CB_two (op := hereN tx len at1) (h := d + 2) g4 e4 (by omega) (by omega) (Nat.le_refl _) (by omega) hz hop
        have hpn : pnd2 (osz - 1) = hereN tx len at1 := (e7 (osz - 1) (by omega)).2.trans upd_at
        have hst : stl2 ssz = b2i s := (e8 ssz (by omega)).trans g9
        have hbo : qBoth (0, at2, num3, dop2, dva2, dsz2, c2.2.2.2.2.2, opn2, pnd2, osz, nst, stl2, ssz + 1 + 1, asg, bn, bs, pr, bl, stm) = (s && s2) := by
          show decide (¬ stl2 (ssz + 1) = 0 ∧ ¬ stl2 ssz = 0) = _
          rw [e9, hst]; exact both_q
        have hpe : qPend (0, at2, num3, dop2, dva2, dsz2, c2.2.2.2.2.2, opn2, pnd2, osz, nst, stl2, ssz + 1 + 1, asg, bn, bs, pr, bl, stm) = (0, at2, num3, upd dop2 dsz2 6, upd dva2 dsz2 (hereN tx len at1), dsz2 + 1, (cTwo (hereN tx len at1) c2).2.2.2.2.2, opn2, upd pnd2 (osz - 1) 0, osz, nst, upd stl2 ssz (b2i (s && s2)), ssz + 1, asg, bn, bs, pr, bl, stm) := by
          unfold qPend; dsimp only
          rw [if_neg (by rw [hpn]; exact isOp_0 hop), hbo, hpn, b3]; rfl
        have hpre : qPre (2, (0, at2, num3, dop2, dva2, dsz2, c2.2.2.2.2.2, opn2, pnd2, osz, nst, stl2, ssz + 1 + 1, asg, bn, bs, pr, bl, stm)) :=
          qpre2 (by omega) (by omega) (by omega) (by omega) hb go (by omega) (fun _ => by omega) (fun q => gr (osz - 1) (by omega) (by rw [← (g7 (osz - 1) (by omega)).1, ← (e7 (osz - 1) (by omega)).1]; exact q))
        refine ih at2 num2 num3 (cTwo (hereN tx len at1) c2) (upd dop2 dsz2 6) (upd dva2 dsz2 (hereN tx len at1)) (dsz2 + 1) opn2 (upd pnd2 (osz - 1) 0) (upd stl2 ssz (b2i (s && s2))) _ (s && s2) (k2 + 1 + k) _ (by omega) (by omega) e2 (by omega) b1 (by omega) ?_ ?_ ?_ upd_at hpe rfl eF1 eF2 (qgo rfl (by decide)) hpre (QQ_trans gQ (QQ_trans stp eQ))
        · exact RB_two g6 e6 (by omega) (by omega) (Nat.le_refl _) (by omega)
        · intro i hi
          refine ⟨(e7 i hi).1.trans (g7 i hi).1, ?_⟩
          by_cases hi2 : i = osz - 1
          · subst hi2; rw [upd_at, hp0]
          · rw [upd_ne hi2, (e7 i hi).2, upd_ne hi2, (g7 i hi).2]
        · intro i hi
          rw [upd_ne (by omega), e8 i (by omega)]; exact g8 i hi
      · rw [e]; dsimp only; rw [if_neg (by decide)]
        exact Or.inr ⟨r', k2 + 1 + k, y, rfl, e1, e2, QQ_trans gQ (QQ_trans stp e3), e4⟩
    · rw [if_neg hop]
      exact Or.inl ⟨at1, num, num1, c, dop1, dva1, dsz1, opn1, pnd1, stl1, D, s, k, _, rfl, g1, g2, g3, g4, g5, g6, g7, g8, g9, gQ, q', rfl, gP, gA, h60, h62, hop, gS, gQp⟩
theorem sum_q (hL : len ≤ 480) (hb : BSt bs bl) {d : Nat} (H : TurT tx len lp tu asg bn bs pr bl stm d) : SumT tx len lp tu asg bn bs pr bl stm d := by
  intro at0 num num0 c0 dop dva dsz opn pnd osz nst stl ssz G h6 hp0
  have G' := G
  obtain ⟨ga, gc, gd, gs, go, god, gn, g12, gp, gr⟩ := G
  unfold mSum
  rcases H at0 num num0 c0 dop dva dsz opn pnd osz nst stl ssz G' h6 with ⟨at1, num1, num2, c, dop1, dva1, dsz1, opn1, pnd1, stl1, D, s, k, y, e, e1, e2, e3, e4, e5, e6, e7, e8, e9, eQ, eF, eF1, eF2⟩ | ⟨r', k, y, e, e1, e2, e3, e4⟩
  · rw [e]; dsimp only; rw [if_pos rfl]
    subst eF
    have hpn : pnd1 (osz - 1) = 0 := (e7 (osz - 1) (by omega)).2.trans hp0
    have hpe : qPend (0, at1, num2, dop1, dva1, dsz1, c.2.2.2.2.2, opn1, pnd1, osz, nst, stl1, ssz + 1, asg, bn, bs, pr, bl, stm) = (0, at1, num2, dop1, dva1, dsz1, c.2.2.2.2.2, opn1, pnd1, osz, nst, stl1, ssz + 1, asg, bn, bs, pr, bl, stm) := if_pos hpn
    have hpre : qPre (2, (0, at1, num2, dop1, dva1, dsz1, c.2.2.2.2.2, opn1, pnd1, osz, nst, stl1, ssz + 1, asg, bn, bs, pr, bl, stm)) :=
      qpre2 (by omega) (by omega) (by omega) (by omega) hb go (by omega) (fun q => absurd hpn q) (fun q => gr (osz - 1) (by omega) (by rw [← (e7 (osz - 1) (by omega)).1]; exact q))
    exact sl_q hL hb H G' h6 hp0 480 at1 num1 num2 c dop1 dva1 dsz1 opn1 pnd1 stl1 D s k _ (by omega) e1 e2 e3 (CB_h (by omega) e4) e5 (RB_h (by omega) e6) e7 e8 e9 hpe rfl eF1 eF2 (qgo rfl (by decide)) hpre eQ
  · rw [e]; dsimp only; rw [if_neg (by decide)]
    exact Or.inr ⟨r', k, y, rfl, e1, e2, e3, e4⟩
end
