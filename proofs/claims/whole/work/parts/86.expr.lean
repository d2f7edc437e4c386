def QEnd (flt : Nat) (y : Nat × QS) : Prop := y.1 ≤ 2 ∧ y.2.1 = flt ∧ y.2.2.1 ≤ 490 ∧ y.2.2.2.2.2.2.2.2.2.2.2.2.2.2.2.2.2.2.1 ≤ 8 ∧ y.2.2.2.2.2.2.1 ≤ 1000
theorem qgo {len st : Nat} {q : QS} (h1 : q.1 = 0) (hs : st ≠ 0) : ¬ qStop len (st, q) := by
  rintro (h | h)
  · exact h h1
  · exact hs h.1
/-- one operand more: what both readers have done -/
def XR (tx : Nat → Int32) (len h at0 : Nat) (c0 : CS) (lp : Int32) (tu : Nat) (dop dva : Nat → Int32) (dsz : Nat) (opn pnd : Nat → Int32) (osz : Nat) (nst : Int32) (stl : Nat → Int32) (ssz : Nat) (asg : Int32) (bn bs pr : Nat → Int32) (bl stm : Nat) (start : Nat × QS) (out : Bool × RS) (Fin : QS → Nat × QS → Prop) : Prop :=
  (∃ (at1 num num1 : Nat) (c : CS) (dop1 dva1 : Nat → Int32) (dsz1 : Nat) (opn1 pnd1 stl1 : Nat → Int32) (D : DX) (s : Bool) (k : Nat) (y : Nat × QS),
     out = (true, (at1, 0, num, lp, tu, c)) ∧ at0 < at1 ∧ at1 ≤ len ∧ csz c + at0 ≤ csz c0 + at1 ∧ CB c0 c D s h ∧ dsz1 + at0 ≤ dsz + at1 ∧ RB dop dva dsz dop1 dva1 dsz1 D h ∧
     (∀ i, i < osz → opn1 i = opn i ∧ pnd1 i = pnd i) ∧ (∀ i, i < ssz → stl1 i = stl i) ∧ stl1 ssz = b2i s ∧
     QQ tx len k start y ∧ Fin (0, at1, num1, dop1, dva1, dsz1, c.2.2.2.2.2, opn1, pnd1, osz, nst, stl1, ssz + 1, asg, bn, bs, pr, bl, stm) y) ∨
  (∃ (r' : RS) (k : Nat) (y : Nat × QS), out = (false, r') ∧ 1 ≤ r'.2.1 ∧ r'.2.1 ≤ len + 1 ∧ QQ tx len k start y ∧ QEnd r'.2.1 y)
def GoodX (len d at0 : Nat) (c0 : CS) (dsz : Nat) (opn pnd : Nat → Int32) (osz : Nat) (nst : Int32) (ssz bl : Nat) : Prop :=
  at0 ≤ len ∧ csz c0 ≤ at0 ∧ dsz ≤ at0 ∧ ssz ≤ at0 ∧ 1 ≤ osz ∧ osz + d ≤ 13 ∧ nst = nI (12 - d) ∧ d ≤ 12 ∧ (¬ pnd (osz - 1) = 0 → 1 ≤ ssz) ∧ (∀ i, i < osz → opn i = 3 → bl < 8)
def FinF (T : QS) (y : Nat × QS) : Prop := y = (2, qWhole T)
def FinT (tx : Nat → Int32) (len : Nat) (T : QS) (y : Nat × QS) : Prop := y = (2, T) ∧ ¬ hereN tx len T.2.1 = 60 ∧ ¬ hereN tx len T.2.1 = 62
def FinS (tx : Nat → Int32) (len : Nat) (T : QS) (y : Nat × QS) : Prop := ∃ q' : QS, y = (2, q') ∧ qPend q' = T ∧ q'.2.1 = T.2.1 ∧ ¬ hereN tx len T.2.1 = 60 ∧ ¬ hereN tx len T.2.1 = 62 ∧ ¬ isOpF (hereN tx len T.2.1) = true ∧ ¬ qStop len (2, q') ∧ qPre (2, q')
def BSt (bs : Nat → Int32) (bl : Nat) : Prop := bl ≤ 8 ∧ ∀ b, b < bl → 0 ≤ bs b ∧ ¬ (1000 : Int32) ≤ bs b
section
variable {tx : Nat → Int32} {len : Nat} {lp : Int32} {tu : Nat} {asg : Int32} {bn bs pr : Nat → Int32} {bl stm : Nat}
theorem qpre1 {at_ num dsz wk osz ssz : Nat} {dop dva opn pnd stl : Nat → Int32} {nst : Int32} (h1 : at_ ≤ 480) (h2 : osz ≤ 20) (h3 : ssz ≤ 480) (h4 : dsz ≤ 480) (hb : BSt bs bl) : qPre (1, (0, at_, num, dop, dva, dsz, wk, opn, pnd, osz, nst, stl, ssz, asg, bn, bs, pr, bl, stm)) :=
  ⟨Nat.le_of_ble_eq_true rfl, Nat.le_of_ble_eq_true rfl, h1, by show osz + 2 ≤ 520; omega, by show ssz + 2 ≤ 520; omega, by show dsz + osz + 4 ≤ 1000; omega, hb.1, hb.2, fun q => absurd (show (1 : Nat) = 2 from q) (by decide)⟩
theorem qpre2 {at_ num dsz wk osz ssz : Nat} {dop dva opn pnd stl : Nat → Int32} {nst : Int32} (h1 : at_ ≤ 480) (h2 : osz ≤ 20) (h3 : ssz ≤ 480) (h4 : dsz ≤ 480) (hb : BSt bs bl) (ho : 1 ≤ osz) (hs : 1 ≤ ssz) (hp : ¬ pnd (osz - 1) = 0 → 2 ≤ ssz) (hr : opn (osz - 1) = 3 → bl < 8) : qPre (2, (0, at_, num, dop, dva, dsz, wk, opn, pnd, osz, nst, stl, ssz, asg, bn, bs, pr, bl, stm)) :=
  ⟨Nat.le_of_ble_eq_true rfl, Nat.le_of_ble_eq_true rfl, h1, by show osz + 2 ≤ 520; omega, by show ssz + 2 ≤ 520; omega, by show dsz + osz + 4 ≤ 1000; omega, hb.1, hb.2, fun _ => ⟨ho, hs, hp, hr⟩⟩
theorem qpre0 {at_ num dsz wk osz ssz : Nat} {dop dva opn pnd stl : Nat → Int32} {nst : Int32} (h1 : at_ ≤ 480) (h2 : osz ≤ 20) (h3 : ssz ≤ 480) (h4 : dsz ≤ 480) (hb : BSt bs bl) : qPre (0, (0, at_, num, dop, dva, dsz, wk, opn, pnd, osz, nst, stl, ssz, asg, bn, bs, pr, bl, stm)) :=
  ⟨Nat.le_of_ble_eq_true rfl, Nat.le_of_ble_eq_true rfl, h1, by show osz + 2 ≤ 520; omega, by show ssz + 2 ≤ 520; omega, by show dsz + osz + 4 ≤ 1000; omega, hb.1, hb.2, fun q => absurd (show (0 : Nat) = 2 from q) (by decide)⟩
theorem CB_h {c0 c : CS} {D : DX} {s : Bool} {h h' : Nat} (hh : h ≤ h') (H : CB c0 c D s h) : CB c0 c D s h' := ⟨H.1, H.2.1, H.2.2.1, H.2.2.2.1, H.2.2.2.2.1, CEx_h hh H.2.2.2.2.2⟩
theorem RB_h {O V O' V' : Nat → Int32} {z z' h h' : Nat} {D : DX} (hh : h ≤ h') (H : RB O V z O' V' z' D h) : RB O V z O' V' z' D h' := ⟨H.1, H.2.1, REx_h hh H.2.2⟩
theorem let_name {a : Nat} (h : isLetF (hereN tx len a) = true) : a < len ∧ ∃ k, k < 26 ∧ nameF (hereF tx len a) = nI k ∧ hereN tx len a - 97 = nI k := by
  have q := of_decide_eq_true h
  have hlt : a < len := geN_lt q.1
  rw [hereN_in hlt] at q ⊢; rw [hereF_in hlt]
  obtain ⟨j, hj, e⟩ := nI_of2 (M := 122) (n := 122) (by decide) (Int32.not_lt.mpr (Int32.le_trans (by decide) q.1)) q.2
  have h97 : 97 ≤ j := (nI_leI (a := 97) (b := j) (by omega) (by omega)).mp (by rw [← e]; exact q.1)
  have e2 : tx a - 97 = nI (j - 97) := by rw [e]; exact pk_sub (b := 97) h97
  refine ⟨hlt, j - 97, by omega, ?_, e2⟩
  unfold nameF; rw [if_pos q]; exact e2
theorem not_name {a : Nat} (h : ¬ isLetF (hereN tx len a) = true) : ¬ 0 ≤ nameF (hereF tx len a) := by
  by_cases hlt : a < len
  · rw [hereN_in hlt] at h; rw [hereF_in hlt]; unfold nameF
    rw [if_neg (fun q => h (decide_eq_true q))]; decide
  · rw [hereF_out hlt]; decide
theorem wLoop_k : ∀ (n : Nat) (q : QS), (wLoop n q).1 = q.1 ∧ (wLoop n q).2.1 = q.2.1 ∧ (wLoop n q).2.2.2.2.2.1 ≤ q.2.2.2.2.2.1 + n ∧ (wLoop n q).2.2.2.2.2.2.2.2.2.2.2.2.2.2.2.2.2.1 = q.2.2.2.2.2.2.2.2.2.2.2.2.2.2.2.2.2.1
  | 0, q => ⟨rfl, rfl, Nat.le_refl _, rfl⟩
  | n + 1, q => by
    rw [wLoop]; split
    · obtain ⟨h1, h2, h3, h4⟩ := wLoop_k n (qWork (qStep 3 0 (q.1, q.2.1, q.2.2.1, q.2.2.2.1, q.2.2.2.2.1, q.2.2.2.2.2.1, q.2.2.2.2.2.2.1, q.2.2.2.2.2.2.2.1, q.2.2.2.2.2.2.2.2.1, q.2.2.2.2.2.2.2.2.2.1 - 1, q.2.2.2.2.2.2.2.2.2.2.1 - 1, q.2.2.2.2.2.2.2.2.2.2.2)))
      have h3' : _ ≤ q.2.2.2.2.2.1 + 1 + n := h3
      exact ⟨h1, h2, by omega, h4⟩
    · exact ⟨rfl, rfl, Nat.le_add_right _ _, rfl⟩
theorem whole_end {st flt : Nat} {q : QS} (hst : st ≤ 2) (h1 : q.1 = flt) (h2 : q.2.1 ≤ 490) (h3 : q.2.2.2.2.2.2.2.2.2.2.2.2.2.2.2.2.2.1 ≤ 8) (h4 : q.2.2.2.2.2.1 + q.2.2.2.2.2.2.2.2.2.1 ≤ 1000) : QEnd flt (st, qWhole q) := by
  obtain ⟨a1, a2, a3, a4⟩ := wLoop_k q.2.2.2.2.2.2.2.2.2.1 q
  exact ⟨hst, a1.trans h1, by show (wLoop _ q).2.1 ≤ 490; rw [a2]; exact h2, by show (wLoop _ q).2.2.2.2.2.2.2.2.2.2.2.2.2.2.2.2.2.1 ≤ 8; rw [a4]; exact h3, Nat.le_trans a3 h4⟩
theorem whole_no {q : QS} (h : ¬ q.2.2.2.2.2.2.2.1 (q.2.2.2.2.2.2.2.2.2.1 - 1) = 6) : qWhole q = q := by
  unfold qWhole
  cases q.2.2.2.2.2.2.2.2.2.1 with
  | zero => rfl
  | succ n => rw [wLoop, if_neg h]
/-- < and > behind an operand -/
theorem tl_q (hL : len ≤ 480) (hb : BSt bs bl) {at0 : Nat} {c0 : CS} {dop dva : Nat → Int32} {dsz : Nat} {opn pnd : Nat → Int32} {osz : Nat} {nst : Int32} {stl : Nat → Int32} {ssz h : Nat} {start : Nat × QS} (hh : 1 ≤ h)
    (hcz : csz c0 ≤ at0) (hdz : dsz ≤ at0) (hsz : ssz ≤ at0) (ho1 : 1 ≤ osz) (ho : osz ≤ 20) (hp : ¬ pnd (osz - 1) = 0 → 1 ≤ ssz) (hr : ∀ i, i < osz → opn i = 3 → bl < 8) :
    ∀ (n at1 num num1 : Nat) (c : CS) (dop1 dva1 : Nat → Int32) (dsz1 : Nat) (opn1 pnd1 stl1 : Nat → Int32) (D : DX) (s : Bool) (k : Nat), len ≤ at1 + n →
      at0 < at1 → at1 ≤ len → csz c + at0 ≤ csz c0 + at1 → CB c0 c D s h → dsz1 + at0 ≤ dsz + at1 → RB dop dva dsz dop1 dva1 dsz1 D h →
      (∀ i, i < osz → opn1 i = opn i ∧ pnd1 i = pnd i) → (∀ i, i < ssz → stl1 i = stl i) → stl1 ssz = b2i s →
      QQ tx len k start (2, (0, at1, num1, dop1, dva1, dsz1, c.2.2.2.2.2, opn1, pnd1, osz, nst, stl1, ssz + 1, asg, bn, bs, pr, bl, stm)) →
      XR tx len h at0 c0 lp tu dop dva dsz opn pnd osz nst stl ssz asg bn bs pr bl stm start (tLoop tx len n (at1, 0, num, lp, tu, c)) (FinT tx len) := by
  intro n
  induction n with
  | zero =>
    intro at1 num num1 c dop1 dva1 dsz1 opn1 pnd1 stl1 D s k hn g1 g2 g3 g4 g5 g6 g7 g8 g9 gQ
    have hout : ¬ at1 < len := by omega
    refine Or.inl ⟨at1, num, num1, c, dop1, dva1, dsz1, opn1, pnd1, stl1, D, s, k, _, rfl, g1, g2, g3, g4, g5, g6, g7, g8, g9, gQ, rfl, ?_, ?_⟩
    · show ¬ hereN tx len at1 = 60; rw [hereN_out hout]; decide
    · show ¬ hereN tx len at1 = 62; rw [hereN_out hout]; decide
  | succ n ih =>
    intro at1 num num1 c dop1 dva1 dsz1 opn1 pnd1 stl1 D s k hn g1 g2 g3 g4 g5 g6 g7 g8 g9 gQ
    rw [tLoop]; dsimp only
    by_cases h60 : hereN tx len at1 = 60 ∨ hereN tx len at1 = 62
    · have hF : hereF tx len at1 = 60 ∨ hereF tx len at1 = 62 := h60.imp (here_c (by decide) (by decide)).mpr (here_c (by decide) (by decide)).mpr
      have hlt : at1 < len := by rcases h60 with q | q <;> exact hereN_lt q (by decide)
      have hFN : hereF tx len at1 = hereN tx len at1 := by rw [hereF_in hlt, hereN_in hlt]
      rw [if_pos hF]
      have hpre : qPre (2, (0, at1, num1, dop1, dva1, dsz1, c.2.2.2.2.2, opn1, pnd1, osz, nst, stl1, ssz + 1, asg, bn, bs, pr, bl, stm)) :=
        qpre2 (by omega) ho (by omega) (by omega) hb ho1 (by omega) (fun q => by have := hp (by rw [← (g7 (osz - 1) (by omega)).2]; exact q); omega) (fun q => hr (osz - 1) (by omega) (by rw [← (g7 (osz - 1) (by omega)).1]; exact q))
      rcases numT (tx := tx) (len := len) (lo := 1) (hi := 31) hL (rest := (lp, tu, c)) (0, at1 + 1, num1, dop1, dva1, dsz1, c.2.2.2.2.2, opn1, pnd1, osz, nst, stl1, ssz + 1, asg, bn, bs, pr, bl, stm) (at_ := at1 + 1) (f := 0) (n := num) (n' := num1) (by omega) with ⟨at2, v, e1, e2, e3, e4⟩ | ⟨at2, at3, v, v', flt, e1, e2, e3, e4, e5⟩
      · rw [e1]; dsimp only; rw [if_pos rfl, hFN]
        have hz : csz c < 480 := by omega
        obtain ⟨b1, b2, b3⟩ := CB_one (op := hereN tx len at1) (bits := nI v) g4 hh hz (h60.imp id Or.inl)
        have stp : ∀ op, (hereN tx len at1 = 60 ∧ op = 4) ∨ (hereN tx len at1 = 62 ∧ op = 5) → QQ tx len 1 (2, (0, at1, num1, dop1, dva1, dsz1, c.2.2.2.2.2, opn1, pnd1, osz, nst, stl1, ssz + 1, asg, bn, bs, pr, bl, stm)) (2, (0, at2, v, upd dop1 dsz1 op, upd dva1 dsz1 (nI v), dsz1 + 1, (cOne (hereN tx len at1) (nI v) c).2.2.2.2.2, opn1, pnd1, osz, nst, stl1, ssz + 1, asg, bn, bs, pr, bl, stm)) := by
          intro op hop
          refine QQ_1 (qgo rfl (by decide)) hpre ?_
          have e2' : qNumber tx len 1 31 (qAt1 (0, at1, num1, dop1, dva1, dsz1, c.2.2.2.2.2, opn1, pnd1, osz, nst, stl1, ssz + 1, asg, bn, bs, pr, bl, stm)) = (0, at2, v, dop1, dva1, dsz1, c.2.2.2.2.2, opn1, pnd1, osz, nst, stl1, ssz + 1, asg, bn, bs, pr, bl, stm) := e2
          show qBehind tx len _ = _
          have hw : (if stl1 (ssz + 1 - 1) = 0 then c.2.2.2.2.2 + 1 else c.2.2.2.2.2) = (cOne (hereN tx len at1) (nI v) c).2.2.2.2.2 := by
            rw [b3, show ssz + 1 - 1 = ssz from rfl, g9]
          unfold qBehind; dsimp only
          rcases hop with ⟨q, rfl⟩ | ⟨q, rfl⟩
          · rw [if_pos q, e2', ← hw]; rfl
          · rw [if_neg (by rw [q]; decide), if_pos q, e2', ← hw]; rfl
        rcases h60 with q | q
        · refine ih at2 v v (cOne (hereN tx len at1) (nI v) c) (upd dop1 dsz1 4) (upd dva1 dsz1 (nI v)) (dsz1 + 1) opn1 pnd1 stl1 _ s (1 + k) (by omega) (by omega) e4 (by omega) b1 (by omega) ?_ g7 g8 g9 (QQ_trans gQ (stp 4 (Or.inl ⟨q, rfl⟩)))
          exact RB_one g6 hh (Or.inr (Or.inl ⟨rfl, q⟩))
        · refine ih at2 v v (cOne (hereN tx len at1) (nI v) c) (upd dop1 dsz1 5) (upd dva1 dsz1 (nI v)) (dsz1 + 1) opn1 pnd1 stl1 _ s (1 + k) (by omega) (by omega) e4 (by omega) b1 (by omega) ?_ g7 g8 g9 (QQ_trans gQ (stp 5 (Or.inr ⟨q, rfl⟩)))
          exact RB_one g6 hh (Or.inr (Or.inr ⟨rfl, q⟩))
      · rw [e1]; dsimp only; rw [if_neg (by decide)]
        have e2' : qNumber tx len 1 31 (qAt1 (0, at1, num1, dop1, dva1, dsz1, c.2.2.2.2.2, opn1, pnd1, osz, nst, stl1, ssz + 1, asg, bn, bs, pr, bl, stm)) = (flt, at3, v', dop1, dva1, dsz1, c.2.2.2.2.2, opn1, pnd1, osz, nst, stl1, ssz + 1, asg, bn, bs, pr, bl, stm) := e2
        refine Or.inr ⟨_, 1 + k, _, rfl, e3, e4, QQ_trans gQ (QQ_1 (qgo rfl (by decide)) hpre rfl), ?_⟩
        show QEnd flt (qBehind tx len _)
        unfold qBehind; dsimp only
        have fin : ∀ op, QEnd flt (2, qWork (qStep op (nI v') (flt, at3, v', dop1, dva1, dsz1, c.2.2.2.2.2, opn1, pnd1, osz, nst, stl1, ssz + 1, asg, bn, bs, pr, bl, stm))) := fun op => ⟨Nat.le_of_ble_eq_true rfl, rfl, by show at3 ≤ 490; omega, hb.1, by show dsz1 + 1 ≤ 1000; omega⟩
        rcases h60 with q | q
        · rw [if_pos q, e2']; exact fin 4
        · rw [if_neg (by rw [q]; decide), if_pos q, e2']; exact fin 5
    · have hF : ¬ (hereF tx len at1 = 60 ∨ hereF tx len at1 = 62) := fun q => h60 (q.imp (here_c (by decide) (by decide)).mp (here_c (by decide) (by decide)).mp)
      rw [if_neg hF]
      exact Or.inl ⟨at1, num, num1, c, dop1, dva1, dsz1, opn1, pnd1, stl1, D, s, k, _, rfl, g1, g2, g3, g4, g5, g6, g7, g8, g9, gQ, rfl, fun q => h60 (Or.inl q), fun q => h60 (Or.inr q)⟩
end
