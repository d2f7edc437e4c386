def RR : Nat → RX → RX → Prop
  | 0, x, y => x = y
  | k + 1, x, y => ¬ rStop x ∧ rPre x ∧ RR k (rStep x) y
theorem RR_trans : ∀ {k m : Nat} {x y z : RX}, RR k x y → RR m y z → RR (m + k) x z
  | 0, _, _, _, _, h1, h2 => by cases h1; exact h2
  | _ + 1, _, _, _, _, h1, h2 => ⟨h1.1, h1.2.1, RR_trans h1.2.2 h2⟩
theorem RR_runs : ∀ {k m : Nat} {x y : RX}, RR k x y → rRuns m y → rRuns (m + k) x
  | 0, _, _, _, h1, h2 => by cases h1; exact h2
  | _ + 1, _, _, _, h1, h2 => ⟨h1.1, h1.2.1, RR_runs h1.2.2 h2⟩
theorem RR_iter : ∀ {k m : Nat} {x y : RX}, RR k x y → rIter (m + k) x = rIter m y
  | 0, _, _, _, h1 => by cases h1; rfl
  | k + 1, m, x, y, h1 => RR_iter (k := k) (m := m) (x := rStep x) h1.2.2
theorem RR_1 {x y : RX} (h1 : ¬ rStop x) (h2 : rPre x) (h3 : rStep x = y) : RR 1 x y := ⟨h1, h2, h3⟩
section
variable {tx me be na en ops vals pl : Nat → Int32} {ln sz wk tp sp a : Nat} {rdy : Bool}
theorem rOp_t (ha : a < 1000) : rOp (nI a, sp, (0, tx, ln, me, be, na, en, ops, vals, sz, wk, rdy, pl, tp)) = ops a := by
  show ops (nI a).toNatClampNeg = ops a; rw [nI_clamp (by omega)]
theorem rVal_t (ha : a < 1000) : rVal (nI a, sp, (0, tx, ln, me, be, na, en, ops, vals, sz, wk, rdy, pl, tp)) = vals a := by
  show vals (nI a).toNatClampNeg = vals a; rw [nI_clamp (by omega)]
theorem rGo_t (ha : a < sz) (hs : sz ≤ 1000) : ¬ rStop (nI a, sp, (0, tx, ln, me, be, na, en, ops, vals, sz, wk, rdy, pl, tp)) := by
  rintro (h | h)
  · exact nI_ge ha (by omega) h
  · exact h rfl
theorem rPlace_t (ha : a < 1000) : rPlace (nI a) := ⟨nI_pos' (by omega), nI_ge (b := 1000) ha (by decide)⟩
theorem rName_t (ha : a < 26) : rName (nI a) := ⟨nI_pos' (by omega), nI_ge (b := 26) ha (by decide)⟩
theorem r_push {v : Int32} (ha : a < sz) (hs : sz ≤ 1000) (ho : ops a = 0) (hv : vals a = v) (ht : tp ≤ 500) : RR 1 (nI a, sp, (0, tx, ln, me, be, na, en, ops, vals, sz, wk, rdy, pl, tp)) (nI (a + 1), sp, (0, tx, ln, me, be, na, en, ops, vals, sz, wk, rdy, upd pl tp v, tp + 1)) := by
  have e := (rOp_t (a := a) (tx := tx) (me := me) (be := be) (na := na) (en := en) (ops := ops) (vals := vals) (pl := pl) (ln := ln) (sz := sz) (wk := wk) (tp := tp) (sp := sp) (rdy := rdy) (by omega)).trans ho
  have e2 := (rVal_t (a := a) (tx := tx) (me := me) (be := be) (na := na) (en := en) (ops := ops) (vals := vals) (pl := pl) (ln := ln) (sz := sz) (wk := wk) (tp := tp) (sp := sp) (rdy := rdy) (by omega)).trans hv
  refine RR_1 (rGo_t ha hs) ?_ ?_
  · refine ⟨Nat.zero_le 2, rPlace_t (by omega), ht, ?_⟩
    rw [e]; refine ⟨?_, ?_, ?_, ?_, ?_, ?_, ?_, ?_⟩ <;> intro q <;> first | exact absurd q (by decide) | exact absurd rfl q
  · unfold rStep; rw [e, e2, if_neg (by decide), if_neg (by decide), if_neg (by decide), if_neg (by decide)]
    unfold rReck; rw [if_pos rfl, nI_1]
theorem r_name {k : Nat} (hk : k < 26) (ha : a < sz) (hs : sz ≤ 1000) (ho : ops a = 1) (hv : vals a = nI k) (ht : tp ≤ 500) : RR 1 (nI a, sp, (0, tx, ln, me, be, na, en, ops, vals, sz, wk, rdy, pl, tp)) (nI (a + 1), sp, (0, tx, ln, me, be, na, en, ops, vals, sz, wk, rdy, upd pl tp (na k), tp + 1)) := by
  have e := (rOp_t (a := a) (tx := tx) (me := me) (be := be) (na := na) (en := en) (ops := ops) (vals := vals) (pl := pl) (ln := ln) (sz := sz) (wk := wk) (tp := tp) (sp := sp) (rdy := rdy) (by omega)).trans ho
  have e2 := (rVal_t (a := a) (tx := tx) (me := me) (be := be) (na := na) (en := en) (ops := ops) (vals := vals) (pl := pl) (ln := ln) (sz := sz) (wk := wk) (tp := tp) (sp := sp) (rdy := rdy) (by omega)).trans hv
  refine RR_1 (rGo_t ha hs) ?_ ?_
  · refine ⟨Nat.zero_le 2, rPlace_t (by omega), ht, ?_⟩
    rw [e, e2]; refine ⟨?_, ?_, ?_, ?_, ?_, ?_, ?_, ?_⟩ <;> intro q <;> first | exact absurd q (by decide) | exact rName_t hk | (intro q; exact absurd rfl q)
  · unfold rStep; rw [e, e2, if_neg (by decide), if_neg (by decide), if_neg (by decide), if_neg (by decide)]
    unfold rReck; rw [if_neg (by decide), if_pos rfl, nI_1, nI_clamp (by omega)]
theorem r_un {op v : Int32} {f : Int32 → Int32} (hop : (op = 3 ∧ f = fun w => ofOneF 126 w v) ∨ (op = 4 ∧ f = fun w => ofOneF 60 w v) ∨ (op = 5 ∧ f = fun w => ofOneF 62 w v)) (ha : a < sz) (hs : sz ≤ 1000) (ho : ops a = op) (hv : vals a = v) (ht : tp + 1 ≤ 500) : RR 1 (nI a, sp, (0, tx, ln, me, be, na, en, ops, vals, sz, wk, rdy, pl, tp + 1)) (nI (a + 1), sp, (0, tx, ln, me, be, na, en, ops, vals, sz, wk, rdy, upd pl tp (f (pl tp)), tp + 1)) := by
  have e := (rOp_t (a := a) (tx := tx) (me := me) (be := be) (na := na) (en := en) (ops := ops) (vals := vals) (pl := pl) (ln := ln) (sz := sz) (wk := wk) (tp := tp + 1) (sp := sp) (rdy := rdy) (by omega)).trans ho
  have e2 := (rVal_t (a := a) (tx := tx) (me := me) (be := be) (na := na) (en := en) (ops := ops) (vals := vals) (pl := pl) (ln := ln) (sz := sz) (wk := wk) (tp := tp + 1) (sp := sp) (rdy := rdy) (by omega)).trans hv
  have hn : op ≠ 10 ∧ op ≠ 11 ∧ op ≠ 9 ∧ op ≠ 7 ∧ op ≠ 8 ∧ op ≠ 1 ∧ op ≠ 6 ∧ op ≠ 0 ∧ ¬ (op = 7 ∨ op = 8) := by rcases hop with ⟨rfl, _⟩ | ⟨rfl, _⟩ | ⟨rfl, _⟩ <;> decide
  refine RR_1 (rGo_t ha hs) ?_ ?_
  · refine ⟨Nat.zero_le 2, rPlace_t (by omega), ht, ?_⟩
    rw [e]
    exact ⟨fun q => absurd q hn.1, fun q => absurd q hn.2.1, fun q => absurd q hn.2.2.1, fun q => absurd q hn.2.2.2.1, fun q => absurd q hn.2.2.2.2.1, fun q => absurd q hn.2.2.2.2.2.1, fun q => absurd q hn.2.2.2.2.2.2.1, fun _ _ _ _ => Nat.succ_pos tp⟩
  · unfold rStep; rw [e, e2, if_neg hn.1, if_neg hn.2.1, if_neg hn.2.2.1, if_neg hn.2.2.2.2.2.2.2.2, nI_1]
    rcases hop with ⟨rfl, rfl⟩ | ⟨rfl, rfl⟩ | ⟨rfl, rfl⟩ <;> rfl
theorem r_two {v : Int32} (ha : a < sz) (hs : sz ≤ 1000) (ho : ops a = 6) (hv : vals a = v) (ht : tp + 1 + 1 ≤ 500) : RR 1 (nI a, sp, (0, tx, ln, me, be, na, en, ops, vals, sz, wk, rdy, pl, tp + 1 + 1)) (nI (a + 1), sp, (0, tx, ln, me, be, na, en, ops, vals, sz, wk, rdy, upd pl tp (ofTwoF v (pl tp) (pl (tp + 1))), tp + 1)) := by
  have e := (rOp_t (a := a) (tx := tx) (me := me) (be := be) (na := na) (en := en) (ops := ops) (vals := vals) (pl := pl) (ln := ln) (sz := sz) (wk := wk) (tp := tp + 1 + 1) (sp := sp) (rdy := rdy) (by omega)).trans ho
  have e2 := (rVal_t (a := a) (tx := tx) (me := me) (be := be) (na := na) (en := en) (ops := ops) (vals := vals) (pl := pl) (ln := ln) (sz := sz) (wk := wk) (tp := tp + 1 + 1) (sp := sp) (rdy := rdy) (by omega)).trans hv
  refine RR_1 (rGo_t ha hs) ?_ ?_
  · refine ⟨Nat.zero_le 2, rPlace_t (by omega), ht, ?_⟩
    rw [e]
    refine ⟨?_, ?_, ?_, ?_, ?_, ?_, ?_, ?_⟩ <;> intro q <;> first | exact absurd q (by decide) | exact Nat.le_add_left 2 tp | exact fun _ _ _ => Nat.le_add_left 1 _
  · unfold rStep; rw [e, e2, if_neg (by decide), if_neg (by decide), if_neg (by decide), if_neg (by decide)]
    unfold rReck; rw [if_neg (by decide), if_neg (by decide), if_pos rfl, nI_1]; rfl
theorem r_fetch {v : Int32} (ha : a < sz) (hs : sz ≤ 1000) (ho : ops a = 2) (ht : tp + 1 ≤ 500) (hv : pl tp = v) (hA : isAddrF v = true) : RR 1 (nI a, sp, (0, tx, ln, me, be, na, en, ops, vals, sz, wk, rdy, pl, tp + 1)) (nI (a + 1), sp, (0, tx, ln, me, be, na, en, ops, vals, sz, wk, rdy, upd pl tp (me v.toNatClampNeg), tp + 1)) := by
  have e := (rOp_t (a := a) (tx := tx) (me := me) (be := be) (na := na) (en := en) (ops := ops) (vals := vals) (pl := pl) (ln := ln) (sz := sz) (wk := wk) (tp := tp + 1) (sp := sp) (rdy := rdy) (by omega)).trans ho
  refine RR_1 (rGo_t ha hs) ?_ ?_
  · refine ⟨Nat.zero_le 2, rPlace_t (by omega), ht, ?_⟩
    rw [e]
    refine ⟨?_, ?_, ?_, ?_, ?_, ?_, ?_, ?_⟩ <;> intro q <;> first | exact absurd q (by decide) | exact fun _ _ _ => Nat.le_add_left 1 _
  · unfold rStep; rw [e, if_neg (by decide), if_neg (by decide), if_neg (by decide), if_neg (by decide)]
    unfold rReck; rw [if_neg (by decide), if_neg (by decide), if_neg (by decide), if_neg (by decide), if_neg (by decide), if_neg (by decide)]
    subst hv; rw [if_pos (show isAddrF (pl (tp + 1 - 1)) = true from hA), nI_1]; rfl
theorem r_fetch2 {v : Int32} (ha : a < sz) (hs : sz ≤ 1000) (ho : ops a = 2) (ht : tp + 1 ≤ 500) (hv : pl tp = v) (hA : ¬ isAddrF v = true) : RR 1 (nI a, sp, (0, tx, ln, me, be, na, en, ops, vals, sz, wk, rdy, pl, tp + 1)) (nI (a + 1), sp, (2, tx, ln, me, be, na, en, ops, vals, sz, wk, rdy, pl, tp + 1)) := by
  have e := (rOp_t (a := a) (tx := tx) (me := me) (be := be) (na := na) (en := en) (ops := ops) (vals := vals) (pl := pl) (ln := ln) (sz := sz) (wk := wk) (tp := tp + 1) (sp := sp) (rdy := rdy) (by omega)).trans ho
  refine RR_1 (rGo_t ha hs) ?_ ?_
  · refine ⟨Nat.zero_le 2, rPlace_t (by omega), ht, ?_⟩
    rw [e]
    refine ⟨?_, ?_, ?_, ?_, ?_, ?_, ?_, ?_⟩ <;> intro q <;> first | exact absurd q (by decide) | exact fun _ _ _ => Nat.le_add_left 1 _
  · unfold rStep; rw [e, if_neg (by decide), if_neg (by decide), if_neg (by decide), if_neg (by decide)]
    unfold rReck; rw [if_neg (by decide), if_neg (by decide), if_neg (by decide), if_neg (by decide), if_neg (by decide), if_neg (by decide)]
    subst hv; rw [if_neg (show ¬ isAddrF (pl (tp + 1 - 1)) = true from hA), nI_1]
end
/-- the reference's code from a to b reckons D -/
def REx (O V : Nat → Int32) (a b : Nat) (D : DX) (h : Nat) : Prop :=
  ∀ (tx : Nat → Int32) (ln : Nat) (me be na en ops vals : Nat → Int32) (sz wk : Nat) (rdy : Bool) (pl : Nat → Int32) (tp sp : Nat), b ≤ sz → sz ≤ 1000 → (∀ i, a ≤ i → i < b → ops i = O i ∧ vals i = V i) → tp + h ≤ 500 →
  ∃ (k : Nat) (pl' : Nat → Int32) (tp' : Nat) (pc' : Int32), (∀ i, i < tp → pl' i = pl i) ∧ (∀ v, D na me = some v → pl' tp = v ∧ tp' = tp + 1 ∧ pc' = nI b) ∧
    RR k (nI a, sp, (0, tx, ln, me, be, na, en, ops, vals, sz, wk, rdy, pl, tp)) (pc', sp, (if (D na me).isNone = true then 2 else 0, tx, ln, me, be, na, en, ops, vals, sz, wk, rdy, pl', tp'))
theorem REx_ag {O V O' V' : Nat → Int32} {a b h : Nat} {D : DX} (H : REx O V a b D h) (ag : ∀ i, a ≤ i → i < b → O' i = O i ∧ V' i = V i) : REx O' V' a b D h :=
  fun tx ln me be na en ops vals sz wk rdy pl tp sp hb hs ag2 => H tx ln me be na en ops vals sz wk rdy pl tp sp hb hs (fun i h1 h2 => ⟨(ag2 i h1 h2).1.trans (ag i h1 h2).1, (ag2 i h1 h2).2.trans (ag i h1 h2).2⟩)
theorem REx_h {O V : Nat → Int32} {a b h h' : Nat} {D : DX} (hh : h ≤ h') (H : REx O V a b D h) : REx O V a b D h' :=
  fun tx ln me be na en ops vals sz wk rdy pl tp sp hb hs ag2 ht => H tx ln me be na en ops vals sz wk rdy pl tp sp hb hs ag2 (by omega)
theorem REx_num {O V : Nat → Int32} {a : Nat} {v : Int32} (hk : O a = 0) (hf : V a = v) : REx O V a (a + 1) (fun _ _ => some v) 1 := by
  intro tx ln me be na en ops vals sz wk rdy pl tp sp hb hs ag ht
  have e := ag a (Nat.le_refl a) (Nat.lt_succ_self a)
  refine ⟨1, upd pl tp v, tp + 1, nI (a + 1), fun i hi => if_neg (by omega), fun u hu => ⟨?_, rfl, rfl⟩, ?_⟩
  · cases hu; exact if_pos rfl
  · exact r_push (by omega) hs (e.1.trans hk) (e.2.trans hf) (by omega)
theorem REx_name {O V : Nat → Int32} {a k : Nat} (hk : O a = 1) (hf : V a = nI k) (h26 : k < 26) : REx O V a (a + 1) (fun na _ => some (na k)) 1 := by
  intro tx ln me be na en ops vals sz wk rdy pl tp sp hb hs ag ht
  have e := ag a (Nat.le_refl a) (Nat.lt_succ_self a)
  refine ⟨1, upd pl tp (na k), tp + 1, nI (a + 1), fun i hi => if_neg (by omega), fun u hu => ⟨?_, rfl, rfl⟩, ?_⟩
  · cases hu; exact if_pos rfl
  · exact r_name h26 (by omega) hs (e.1.trans hk) (e.2.trans hf) (by omega)
theorem REx_one {O V : Nat → Int32} {a b h : Nat} {D : DX} {op cop bits : Int32} (hab : a ≤ b) (h1 : 1 ≤ h) (H : REx O V a b D h) (hk : O b = op) (hf : V b = bits) (ho : (op = 3 ∧ cop = 126) ∨ (op = 4 ∧ cop = 60) ∨ (op = 5 ∧ cop = 62)) : REx O V a (b + 1) (fun na me => (D na me).map (fun v => ofOneF cop v bits)) h := by
  intro tx ln me be na en ops vals sz wk rdy pl tp sp hb hs ag ht
  obtain ⟨k, pl', tp', pc', hst, hv, hg⟩ := H tx ln me be na en ops vals sz wk rdy pl tp sp (by omega) hs (fun i h1 h2 => ag i h1 (by omega)) ht
  have e := ag b hab (Nat.lt_succ_self b)
  cases hD : D na me with
  | none =>
    refine ⟨k, pl', tp', pc', hst, fun v q => by simp [hD] at q, ?_⟩
    rw [hD] at hg; simp only [hD, Option.map_none]; exact hg
  | some u =>
    obtain ⟨e1, rfl, rfl⟩ := hv u hD
    rw [hD] at hg
    refine ⟨1 + k, upd pl' tp (ofOneF cop u bits), tp + 1, nI (b + 1), fun i hi => (if_neg (by omega)).trans (hst i hi), fun v q => ⟨?_, rfl, rfl⟩, ?_⟩
    · simp only [hD, Option.map_some, Option.some.injEq] at q; exact (if_pos rfl).trans q
    · refine RR_trans hg ?_
      simp only [hD, Option.map_some, Option.isNone_some]
      have key := r_un (tx := tx) (me := me) (be := be) (na := na) (en := en) (ops := ops) (vals := vals) (pl := pl') (ln := ln) (sz := sz) (wk := wk) (tp := tp) (sp := sp) (a := b) (rdy := rdy) (op := op) (v := bits) (f := fun w => ofOneF cop w bits) (by rcases ho with ⟨rfl, rfl⟩ | ⟨rfl, rfl⟩ | ⟨rfl, rfl⟩ <;> simp) (by omega) hs (e.1.trans hk) (e.2.trans hf) (by omega)
      rw [e1] at key; exact key
theorem REx_load {O V : Nat → Int32} {a b h : Nat} {D : DX} (hab : a ≤ b) (h1 : 1 ≤ h) (H : REx O V a b D h) (hk : O b = 2) : REx O V a (b + 1) (fun na me => (D na me).bind (fun v => if isAddrF v = true then some (me v.toNatClampNeg) else none)) h := by
  intro tx ln me be na en ops vals sz wk rdy pl tp sp hb hs ag ht
  obtain ⟨k, pl', tp', pc', hst, hv, hg⟩ := H tx ln me be na en ops vals sz wk rdy pl tp sp (by omega) hs (fun i h1 h2 => ag i h1 (by omega)) ht
  have e := ag b hab (Nat.lt_succ_self b)
  cases hD : D na me with
  | none =>
    refine ⟨k, pl', tp', pc', hst, fun v q => by simp [hD] at q, ?_⟩
    rw [hD] at hg; simp only [hD, Option.bind_none]; exact hg
  | some u =>
    obtain ⟨e1, rfl, rfl⟩ := hv u hD
    rw [hD] at hg
    by_cases hA : isAddrF u = true
    · refine ⟨1 + k, upd pl' tp (me u.toNatClampNeg), tp + 1, nI (b + 1), fun i hi => (if_neg (by omega)).trans (hst i hi), fun v q => ⟨?_, rfl, rfl⟩, ?_⟩
      · simp only [hD, Option.bind_some, hA, if_true, Option.some.injEq] at q; exact (if_pos rfl).trans q
      · refine RR_trans hg ?_
        simp only [hD, Option.bind_some, hA, if_true, Option.isNone_some]
        exact r_fetch (by omega) hs (e.1.trans hk) (by omega) e1 hA
    · refine ⟨1 + k, pl', tp + 1, nI (b + 1), hst, fun v q => ?_, ?_⟩
      · simp [hD, hA] at q
      · refine RR_trans hg ?_
        have key := r_fetch2 (tx := tx) (me := me) (be := be) (na := na) (en := en) (ops := ops) (vals := vals) (pl := pl') (ln := ln) (sz := sz) (wk := wk) (tp := tp) (sp := sp) (a := b) (rdy := rdy) (by omega) hs (e.1.trans hk) (by omega) e1 hA
        simp only [hD, Option.bind_some, if_neg hA, Option.isNone_none, Option.isNone_some]
        exact key
theorem REx_two {O V : Nat → Int32} {a m b h1 h2 h : Nat} {D1 D2 : DX} {op : Int32} (ham : a ≤ m) (hmb : m ≤ b) (hh1 : 1 ≤ h1) (hh2 : 1 ≤ h2) (H1 : REx O V a m D1 h1) (H2 : REx O V m b D2 h2) (hk : O b = 6) (ho : V b = op) (hA : h1 ≤ h) (hB : h2 + 1 ≤ h) : REx O V a (b + 1) (fun na me => (D1 na me).bind (fun x => (D2 na me).map (fun y => ofTwoF op x y))) h := by
  intro tx ln me be na en ops vals sz wk rdy pl tp sp hb hs ag ht
  obtain ⟨k, pl', tp', pc', hst, hv, hg⟩ := H1 tx ln me be na en ops vals sz wk rdy pl tp sp (by omega) hs (fun i h1 h2 => ag i h1 (by omega)) (by omega)
  have e := ag b (by omega) (Nat.lt_succ_self b)
  cases hD : D1 na me with
  | none =>
    refine ⟨k, pl', tp', pc', hst, fun v q => by simp [hD] at q, ?_⟩
    rw [hD] at hg; simp only [hD, Option.bind_none]; exact hg
  | some u =>
    obtain ⟨e1, rfl, rfl⟩ := hv u hD
    rw [hD] at hg
    obtain ⟨k2, pl2, tp2, pc2, hst2, hv2, hg2⟩ := H2 tx ln me be na en ops vals sz wk rdy pl' (tp + 1) sp (by omega) hs (fun i h1 h2 => ag i (by omega) (by omega)) (by omega)
    cases hD2 : D2 na me with
    | none =>
      refine ⟨k2 + k, pl2, tp2, pc2, fun i hi => (hst2 i (by omega)).trans (hst i hi), fun v q => by simp [hD, hD2] at q, ?_⟩
      refine RR_trans hg ?_
      rw [hD2] at hg2; simp only [hD, hD2, Option.bind_some, Option.map_none, Option.isNone_none, Option.isNone_some]; exact hg2
    | some w =>
      obtain ⟨e2, rfl, rfl⟩ := hv2 w hD2
      rw [hD2] at hg2
      refine ⟨1 + k2 + k, upd pl2 tp (ofTwoF op u w), tp + 1, nI (b + 1), fun i hi => (if_neg (by omega)).trans ((hst2 i (by omega)).trans (hst i hi)), fun v q => ⟨?_, rfl, rfl⟩, ?_⟩
      · simp only [hD, hD2, Option.bind_some, Option.map_some, Option.some.injEq] at q; exact (if_pos rfl).trans q
      · refine RR_trans hg (RR_trans (m := 1) hg2 ?_)
        have key := r_two (tx := tx) (me := me) (be := be) (na := na) (en := en) (ops := ops) (vals := vals) (pl := pl2) (ln := ln) (sz := sz) (wk := wk) (tp := tp) (sp := sp) (a := b) (rdy := rdy) (v := op) (by omega) hs (e.1.trans hk) (e.2.trans ho) (by omega)
        rw [e2, hst2 tp (by omega), e1] at key
        simp only [hD, hD2, Option.bind_some, Option.map_some, Option.isNone_some]; exact key
