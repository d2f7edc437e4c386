def CSt (K F S : Nat → Int32) (a b t : Nat) (P : ST → Bool × ST) : Prop :=
  ∀ (K' F' S' : Nat → Int32) (sz : Nat), b ≤ sz → sz ≤ 480 → (∀ i, a ≤ i → i < b → K' i = K i ∧ F' i = F i ∧ S' i = S i) →
  ∀ (me be va na st : Nat → Int32) (sp : Nat),
  ∃ (c : Nat) (st' : Nat → Int32) (tp' : Nat), c * t ≤ (b - a) * 640 ∧ ((P (na, me, sp)).1 = false → tp' = 0) ∧
    ∀ n, cGo K' F' S' sz (n + c) (nI a) (me, be, va, na, st, 0, sp, false) = cGo K' F' S' sz n (nI b) ((P (na, me, sp)).2.2.1, be, va, (P (na, me, sp)).2.1, st', tp', (P (na, me, sp)).2.2.2, (P (na, me, sp)).1)
def thF (b : Bool) : Nat := if b = true then 2 else 0
def RSt (O V : Nat → Int32) (a b : Nat) (P : ST → Bool × ST) : Prop :=
  ∀ (tx : Nat → Int32) (ln : Nat) (me be na en ops vals : Nat → Int32) (sz wk : Nat) (rdy : Bool) (pl : Nat → Int32) (sp : Nat), b ≤ sz → sz ≤ 1000 → (∀ i, a ≤ i → i < b → ops i = O i ∧ vals i = V i) →
  ∃ (k : Nat) (pl' : Nat → Int32) (tp' : Nat) (pc' : Int32), ((P (na, me, sp)).1 = false → tp' = 0 ∧ pc' = nI b) ∧
    RR k (nI a, sp, (0, tx, ln, me, be, na, en, ops, vals, sz, wk, rdy, pl, 0)) (pc', (P (na, me, sp)).2.2.2, (thF (P (na, me, sp)).1, tx, ln, (P (na, me, sp)).2.2.1, be, (P (na, me, sp)).2.1, en, ops, vals, sz, wk, rdy, pl', tp'))
theorem CSt_ag {K F S K' F' S' : Nat → Int32} {a b t : Nat} {P : ST → Bool × ST} (H : CSt K F S a b t P) (ag : ∀ i, a ≤ i → i < b → K' i = K i ∧ F' i = F i ∧ S' i = S i) : CSt K' F' S' a b t P :=
  fun K2 F2 S2 sz hb hs ag2 => H K2 F2 S2 sz hb hs (fun i h1 h2 => ⟨(ag2 i h1 h2).1.trans (ag i h1 h2).1, (ag2 i h1 h2).2.1.trans (ag i h1 h2).2.1, (ag2 i h1 h2).2.2.trans (ag i h1 h2).2.2⟩)
theorem RSt_ag {O V O' V' : Nat → Int32} {a b : Nat} {P : ST → Bool × ST} (H : RSt O V a b P) (ag : ∀ i, a ≤ i → i < b → O' i = O i ∧ V' i = V i) : RSt O' V' a b P :=
  fun tx ln me be na en ops vals sz wk rdy pl sp hb hs ag2 => H tx ln me be na en ops vals sz wk rdy pl sp hb hs (fun i h1 h2 => ⟨(ag2 i h1 h2).1.trans (ag i h1 h2).1, (ag2 i h1 h2).2.trans (ag i h1 h2).2⟩)
def nilF (s : ST) : Bool × ST := (false, s)
def seqF (P1 P2 : ST → Bool × ST) (s : ST) : Bool × ST := if (P1 s).1 = true then P1 s else P2 (P1 s).2
def setF (D : DX) (nm : Nat) (s : ST) : Bool × ST := match D s.1 s.2.1 with | none => (true, s) | some v => (false, (upd s.1 nm v, s.2.1, s.2.2 + 1))
def stoF (D1 D2 : DX) (s : ST) : Bool × ST := match D1 s.1 s.2.1 with
  | none => (true, s)
  | some x => match D2 s.1 s.2.1 with
    | none => (true, s)
    | some y => if isAddrF x = true then (false, (s.1, upd s.2.1 x.toNatClampNeg y, s.2.2 + 1)) else (true, (s.1, s.2.1, s.2.2 + 1))
def braF (D : DX) (P : ST → Bool × ST) (s : ST) : Bool × ST := match D s.1 s.2.1 with | none => (true, s) | some v => if v = 0 then (false, s) else P s
def lpF (P : ST → Bool × ST) (nm many : Nat) : Nat → ST → Bool × ST
  | 0, s => (false, s)
  | j + 1, s => if (P s).1 = true then P s else if nI many ≤ (P s).2.1 nm + 1 then (false, (P s).2) else lpF P nm many j (upd (P s).2.1 nm ((P s).2.1 nm + 1), (P s).2.2)
def looF (P : ST → Bool × ST) (nm many : Nat) (s : ST) : Bool × ST := lpF P nm many many (upd s.1 nm 0, s.2)
theorem CSt_nil {K F S : Nat → Int32} {a t : Nat} : CSt K F S a a t nilF :=
  fun _ _ _ _ _ _ _ _ _ _ _ st _ => ⟨0, st, 0, by omega, fun _ => rfl, fun _ => rfl⟩
theorem RSt_nil {O V : Nat → Int32} {a : Nat} : RSt O V a a nilF :=
  fun _ _ _ _ _ _ _ _ _ _ _ pl _ _ _ _ => ⟨0, pl, 0, nI a, fun _ => ⟨rfl, rfl⟩, rfl⟩
theorem CSt_seq {K F S : Nat → Int32} {a m b t : Nat} {P1 P2 : ST → Bool × ST} (ham : a ≤ m) (hmb : m ≤ b) (H1 : CSt K F S a m t P1) (H2 : CSt K F S m b t P2) : CSt K F S a b t (seqF P1 P2) := by
  intro K' F' S' sz hb hs ag me be va na st sp
  obtain ⟨c, st', tp', hc, ht, hg⟩ := H1 K' F' S' sz (by omega) hs (fun i h1 h2 => ag i h1 (by omega)) me be va na st sp
  unfold seqF
  cases hP : (P1 (na, me, sp)).1 with
  | true =>
    rw [if_pos rfl]
    refine ⟨c, st', tp', Nat.le_trans hc (Nat.mul_le_mul_right _ (by omega)), ht, fun n => ?_⟩
    rw [hg n, cGo_fail hP, cGo_fail hP]
  | false =>
    rw [if_neg (by decide)]
    obtain ⟨c2, st2, tp2, hc2, ht2, hg2⟩ := H2 K' F' S' sz (by omega) hs (fun i h1 h2 => ag i (by omega) h2) (P1 (na, me, sp)).2.2.1 be va (P1 (na, me, sp)).2.1 st' (P1 (na, me, sp)).2.2.2
    cases ht hP
    refine ⟨c2 + c, st2, tp2, ?_, ht2, fun n => ?_⟩
    · have e : (b - a) * 640 = (b - m) * 640 + (m - a) * 640 := by rw [← Nat.add_mul]; congr 1; omega
      rw [Nat.add_mul, e]; exact Nat.add_le_add hc2 hc
    · rw [← Nat.add_assoc, hg (n + c2), hP]; exact hg2 n
theorem RSt_seq {O V : Nat → Int32} {a m b : Nat} {P1 P2 : ST → Bool × ST} (ham : a ≤ m) (hmb : m ≤ b) (H1 : RSt O V a m P1) (H2 : RSt O V m b P2) : RSt O V a b (seqF P1 P2) := by
  intro tx ln me be na en ops vals sz wk rdy pl sp hb hs ag
  obtain ⟨k, pl', tp', pc', ht, hg⟩ := H1 tx ln me be na en ops vals sz wk rdy pl sp (by omega) hs (fun i h1 h2 => ag i h1 (by omega))
  unfold seqF
  cases hP : (P1 (na, me, sp)).1 with
  | true =>
    rw [if_pos rfl]
    refine ⟨k, pl', tp', pc', fun q => absurd (hP.symm.trans q) (by decide), hg⟩
  | false =>
    rw [if_neg (by decide)]
    rw [hP] at hg
    obtain ⟨k2, pl2, tp2, pc2, ht2, hg2⟩ := H2 tx ln (P1 (na, me, sp)).2.2.1 be (P1 (na, me, sp)).2.1 en ops vals sz wk rdy pl' (P1 (na, me, sp)).2.2.2 (by omega) hs (fun i h1 h2 => ag i (by omega) h2)
    obtain ⟨rfl, rfl⟩ := ht hP
    exact ⟨k2 + k, pl2, tp2, pc2, ht2, RR_trans hg hg2⟩
theorem CSt_set {K F S : Nat → Int32} {a b t h nm : Nat} {D : DX} (hab : a ≤ b) (h16 : h ≤ 16) (h1 : 1 ≤ h) (ht : t ≤ 640) (H : CEx K F a b D h) (hk : K b = 4) (hf : F b = nI nm) (hn : nm < 26) : CSt K F S a (b + 1) t (setF D nm) := by
  intro K' F' S' sz hb hs ag me be va na st sp
  obtain ⟨c, st', tp', hc, hst, hv, hg⟩ := H K' F' S' sz (by omega) hs (fun i h1 h2 => ⟨(ag i h1 (by omega)).1, (ag i h1 (by omega)).2.1⟩) me be va na st 0 sp (by omega)
  have e := ag b hab (Nat.lt_succ_self b)
  have hcc : ∀ x, x ≤ b + 1 - a → x * t ≤ (b + 1 - a) * 640 := fun x hx => Nat.mul_le_mul hx ht
  unfold setF
  cases hD : D na me with
  | none =>
    simp only [hD]
    refine ⟨c, st', tp', hcc c (by omega), fun q => absurd q (by decide), fun n => ?_⟩
    rw [hg n, hD]; simp only [Option.isNone_none]; rw [cGo_fail rfl, cGo_fail rfl]
  | some u =>
    simp only [hD]
    obtain ⟨e1, rfl⟩ := hv u hD
    refine ⟨c + 1, st', 0, hcc _ (by omega), fun _ => rfl, fun n => ?_⟩
    rw [show n + (c + 1) = (n + 1) + c by omega, hg (n + 1), hD]; simp only [Option.isNone_some]
    rw [cGo_step (by omega) hs rfl, e.1, e.2.1, hk, hf, mDo_4, mPop_t]; dsimp only
    rw [mName_t hn, nI_1, e1]; rfl
theorem r_set {tx me be na en ops vals pl : Nat → Int32} {ln sz wk tp sp a nm : Nat} {rdy : Bool} (hn : nm < 26) (ha : a < sz) (hs : sz ≤ 1000) (ho : ops a = 7) (hv : vals a = nI nm) (ht : tp + 1 ≤ 500) : RR 1 (nI a, sp, (0, tx, ln, me, be, na, en, ops, vals, sz, wk, rdy, pl, tp + 1)) (nI (a + 1), sp + 1, (0, tx, ln, me, be, upd na nm (pl tp), en, ops, vals, sz, wk, rdy, pl, tp)) := by
  have e := (rOp_t (a := a) (tx := tx) (me := me) (be := be) (na := na) (en := en) (ops := ops) (vals := vals) (pl := pl) (ln := ln) (sz := sz) (wk := wk) (tp := tp + 1) (sp := sp) (rdy := rdy) (by omega)).trans ho
  have e2 := (rVal_t (a := a) (tx := tx) (me := me) (be := be) (na := na) (en := en) (ops := ops) (vals := vals) (pl := pl) (ln := ln) (sz := sz) (wk := wk) (tp := tp + 1) (sp := sp) (rdy := rdy) (by omega)).trans hv
  refine RR_1 (rGo_t ha hs) ?_ ?_
  · refine ⟨Nat.zero_le 2, rPlace_t (by omega), ht, ?_⟩
    rw [e, e2]
    refine ⟨?_, ?_, ?_, ?_, ?_, ?_, ?_, ?_⟩ <;> intro q <;> first | exact absurd q (by decide) | exact ⟨Nat.succ_pos tp, rName_t hn⟩ | exact fun _ _ _ => Nat.succ_pos tp
  · unfold rStep; rw [e, e2, if_neg (by decide), if_neg (by decide), if_neg (by decide), if_pos (Or.inl rfl)]
    unfold rEnd; rw [if_pos rfl, nI_1, nI_clamp (by omega)]; rfl
theorem r_sto {tx me be na en ops vals pl : Nat → Int32} {ln sz wk tp sp a : Nat} {rdy : Bool} {x y : Int32} (ha : a < sz) (hs : sz ≤ 1000) (ho : ops a = 8) (ht : tp + 1 + 1 ≤ 500) (hx : pl tp = x) (hy : pl (tp + 1) = y) : RR 1 (nI a, sp, (0, tx, ln, me, be, na, en, ops, vals, sz, wk, rdy, pl, tp + 1 + 1)) (nI (a + 1), sp + 1, (if isAddrF x = true then 0 else 2, tx, ln, if isAddrF x = true then upd me x.toNatClampNeg y else me, be, na, en, ops, vals, sz, wk, rdy, pl, tp)) := by
  have e := (rOp_t (a := a) (tx := tx) (me := me) (be := be) (na := na) (en := en) (ops := ops) (vals := vals) (pl := pl) (ln := ln) (sz := sz) (wk := wk) (tp := tp + 1 + 1) (sp := sp) (rdy := rdy) (by omega)).trans ho
  refine RR_1 (rGo_t ha hs) ?_ ?_
  · refine ⟨Nat.zero_le 2, rPlace_t (by omega), ht, ?_⟩
    rw [e]
    refine ⟨?_, ?_, ?_, ?_, ?_, ?_, ?_, ?_⟩ <;> intro q <;> first | exact absurd q (by decide) | exact Nat.le_add_left 2 tp | exact fun _ _ _ => Nat.succ_pos _
  · unfold rStep; rw [e, if_neg (by decide), if_neg (by decide), if_neg (by decide), if_pos (Or.inr rfl)]
    unfold rEnd; rw [if_neg (by decide), nI_1]
    subst hx hy
    by_cases hA : isAddrF (pl tp) = true
    · rw [if_pos (show isAddrF (pl (tp + 1 + 1 - 1 - 1)) = true from hA), if_pos hA, if_pos hA]; rfl
    · rw [if_neg (show ¬ isAddrF (pl (tp + 1 + 1 - 1 - 1)) = true from hA), if_neg hA, if_neg hA]; rfl
theorem r_skip {tx me be na en ops vals pl : Nat → Int32} {ln sz wk tp sp a b : Nat} {rdy : Bool} (ha : a < sz) (hs : sz ≤ 1000) (ho : ops a = 9) (hv : vals a = nI b) (ht : tp + 1 ≤ 500) : RR 1 (nI a, sp, (0, tx, ln, me, be, na, en, ops, vals, sz, wk, rdy, pl, tp + 1)) (if pl tp = 0 then nI b else nI (a + 1), sp, (0, tx, ln, me, be, na, en, ops, vals, sz, wk, rdy, pl, tp)) := by
  have e := (rOp_t (a := a) (tx := tx) (me := me) (be := be) (na := na) (en := en) (ops := ops) (vals := vals) (pl := pl) (ln := ln) (sz := sz) (wk := wk) (tp := tp + 1) (sp := sp) (rdy := rdy) (by omega)).trans ho
  have e2 := (rVal_t (a := a) (tx := tx) (me := me) (be := be) (na := na) (en := en) (ops := ops) (vals := vals) (pl := pl) (ln := ln) (sz := sz) (wk := wk) (tp := tp + 1) (sp := sp) (rdy := rdy) (by omega)).trans hv
  refine RR_1 (rGo_t ha hs) ?_ ?_
  · refine ⟨Nat.zero_le 2, rPlace_t (by omega), ht, ?_⟩
    rw [e]
    refine ⟨?_, ?_, ?_, ?_, ?_, ?_, ?_, ?_⟩ <;> intro q <;> first | exact absurd q (by decide) | exact Nat.succ_pos _ | exact fun _ _ _ => Nat.succ_pos _
  · unfold rStep; rw [e, e2, if_neg (by decide), if_neg (by decide), if_pos rfl, nI_1]; rfl
theorem r_begin {tx me be na en ops vals pl : Nat → Int32} {ln sz wk tp sp a nm : Nat} {rdy : Bool} (hn : nm < 26) (ha : a < sz) (hs : sz ≤ 1000) (ho : ops a = 10) (hv : vals a = nI nm) (ht : tp ≤ 500) : RR 1 (nI a, sp, (0, tx, ln, me, be, na, en, ops, vals, sz, wk, rdy, pl, tp)) (nI (a + 2), sp, (0, tx, ln, me, be, upd na nm 0, en, ops, vals, sz, wk, rdy, pl, tp)) := by
  have e := (rOp_t (a := a) (tx := tx) (me := me) (be := be) (na := na) (en := en) (ops := ops) (vals := vals) (pl := pl) (ln := ln) (sz := sz) (wk := wk) (tp := tp) (sp := sp) (rdy := rdy) (by omega)).trans ho
  have e2 := (rVal_t (a := a) (tx := tx) (me := me) (be := be) (na := na) (en := en) (ops := ops) (vals := vals) (pl := pl) (ln := ln) (sz := sz) (wk := wk) (tp := tp) (sp := sp) (rdy := rdy) (by omega)).trans hv
  refine RR_1 (rGo_t ha hs) ?_ ?_
  · refine ⟨Nat.zero_le 2, rPlace_t (by omega), ht, ?_⟩
    rw [e, e2]
    refine ⟨?_, ?_, ?_, ?_, ?_, ?_, ?_, ?_⟩ <;> intro q <;> first | exact absurd q (by decide) | exact rName_t hn | (intro _ q; exact absurd rfl q)
  · unfold rStep; rw [e, e2, if_pos rfl, nI_clamp (by omega), nI_1, nI_1]
theorem r_again {tx me be na en ops vals pl : Nat → Int32} {ln sz wk tp sp a s nm many : Nat} {rdy : Bool} (hn : nm < 26) (ha : a < sz) (hs : sz ≤ 1000) (ho : ops a = 11) (hv : vals a = nI (s + 2)) (hsa : s + 2 ≤ a) (h1 : vals s = nI nm) (h2 : ops (s + 1) = nI many) (ht : tp ≤ 500) : RR 1 (nI a, sp, (0, tx, ln, me, be, na, en, ops, vals, sz, wk, rdy, pl, tp)) (if nI many ≤ na nm + 1 then nI (a + 1) else nI (s + 2), sp, (0, tx, ln, me, be, if nI many ≤ na nm + 1 then na else upd na nm (na nm + 1), en, ops, vals, sz, wk, rdy, pl, tp)) := by
  have e := (rOp_t (a := a) (tx := tx) (me := me) (be := be) (na := na) (en := en) (ops := ops) (vals := vals) (pl := pl) (ln := ln) (sz := sz) (wk := wk) (tp := tp) (sp := sp) (rdy := rdy) (by omega)).trans ho
  have e2 := (rVal_t (a := a) (tx := tx) (me := me) (be := be) (na := na) (en := en) (ops := ops) (vals := vals) (pl := pl) (ln := ln) (sz := sz) (wk := wk) (tp := tp) (sp := sp) (rdy := rdy) (by omega)).trans hv
  have e3 : nI (s + 2) - 2 = nI s := pk_sub (a := s + 2) (b := 2) (by omega)
  have e4 : nI (s + 2) - 1 = nI (s + 1) := pk_sub (a := s + 2) (b := 1) (by omega)
  have e5 : rNm (nI a, sp, (0, tx, ln, me, be, na, en, ops, vals, sz, wk, rdy, pl, tp)) = nI nm := by
    unfold rNm; rw [e2, e3, nI_clamp (by omega)]; exact h1
  refine RR_1 (rGo_t ha hs) ?_ ?_
  · refine ⟨Nat.zero_le 2, rPlace_t (by omega), ht, ?_⟩
    rw [e, e2, e3, e4, e5]
    refine ⟨?_, ?_, ?_, ?_, ?_, ?_, ?_, ?_⟩ <;> intro q <;> first | exact absurd q (by decide) | exact ⟨rPlace_t (by omega), rPlace_t (by omega), rName_t hn⟩ | (intro _ _ q; exact absurd rfl q)
  · unfold rStep; rw [e, e2, e4, e5, if_neg (by decide), if_pos rfl, nI_clamp (n := s + 1) (by omega), nI_clamp (n := nm) (by omega), nI_1]
    show (if ops (s + 1) ≤ na nm + 1 then _ else _) = _
    rw [h2]
    by_cases q : nI many ≤ na nm + 1
    · rw [if_pos q, if_pos q, if_pos q]
    · rw [if_neg q, if_neg q, if_neg q]
theorem RSt_set {O V : Nat → Int32} {a b h nm : Nat} {D : DX} (hab : a ≤ b) (h16 : h ≤ 16) (H : REx O V a b D h) (hk : O b = 7) (hf : V b = nI nm) (hn : nm < 26) : RSt O V a (b + 1) (setF D nm) := by
  intro tx ln me be na en ops vals sz wk rdy pl sp hb hs ag
  obtain ⟨k, pl', tp', pc', hst, hv, hg⟩ := H tx ln me be na en ops vals sz wk rdy pl 0 sp (by omega) hs (fun i h1 h2 => ag i h1 (by omega)) (by omega)
  have e := ag b hab (Nat.lt_succ_self b)
  unfold setF
  cases hD : D na me with
  | none => simp only [hD]; rw [hD] at hg; exact ⟨k, pl', tp', pc', fun q => absurd q (by decide), hg⟩
  | some u =>
    simp only [hD]; rw [hD] at hg
    obtain ⟨e1, rfl, rfl⟩ := hv u hD
    refine ⟨1 + k, pl', 0, nI (b + 1), fun _ => ⟨rfl, rfl⟩, RR_trans hg ?_⟩
    have key := r_set (tx := tx) (me := me) (be := be) (na := na) (en := en) (ops := ops) (vals := vals) (pl := pl') (ln := ln) (sz := sz) (wk := wk) (tp := 0) (sp := sp) (a := b) (rdy := rdy) hn (by omega) hs (e.1.trans hk) (e.2.trans hf) (by omega)
    rw [e1] at key; exact key
theorem CSt_sto {K F S : Nat → Int32} {a m b t h : Nat} {D1 D2 : DX} (ham : a ≤ m) (hmb : m ≤ b) (h16 : h + 1 ≤ 16) (h1 : 1 ≤ h) (ht : t ≤ 640) (H1 : CEx K F a m D1 h) (H2 : CEx K F m b D2 h) (hk : K b = 5) : CSt K F S a (b + 1) t (stoF D1 D2) := by
  intro K' F' S' sz hb hs ag me be va na st sp
  obtain ⟨c, st', tp', hc, hst, hv, hg⟩ := H1 K' F' S' sz (by omega) hs (fun i h1 h2 => ⟨(ag i h1 (by omega)).1, (ag i h1 (by omega)).2.1⟩) me be va na st 0 sp (by omega)
  have e := ag b (by omega) (Nat.lt_succ_self b)
  have hcc : ∀ x, x ≤ b + 1 - a → x * t ≤ (b + 1 - a) * 640 := fun x hx => Nat.mul_le_mul hx ht
  unfold stoF
  cases hD : D1 na me with
  | none =>
    simp only [hD]
    refine ⟨c, st', tp', hcc c (by omega), fun q => absurd q (by decide), fun n => ?_⟩
    rw [hg n, hD]; simp only [Option.isNone_none]; rw [cGo_fail rfl, cGo_fail rfl]
  | some u =>
    simp only [hD]
    obtain ⟨e1, rfl⟩ := hv u hD
    obtain ⟨c2, st2, tp2, hc2, hst2, hv2, hg2⟩ := H2 K' F' S' sz (by omega) hs (fun i h1 h2 => ⟨(ag i (by omega) (by omega)).1, (ag i (by omega) (by omega)).2.1⟩) me be va na st' 1 sp (by omega)
    cases hD2 : D2 na me with
    | none =>
      simp only [hD2]
      refine ⟨c2 + c, st2, tp2, hcc _ (by omega), fun q => absurd q (by decide), fun n => ?_⟩
      rw [← Nat.add_assoc, hg (n + c2), hD]; simp only [Option.isNone_some]
      rw [hg2 n, hD2]; simp only [Option.isNone_none]; rw [cGo_fail rfl, cGo_fail rfl]
    | some w =>
      simp only [hD2]
      obtain ⟨e2, rfl⟩ := hv2 w hD2
      refine ⟨1 + c2 + c, st2, 0, hcc _ (by omega), fun _ => rfl, fun n => ?_⟩
      rw [show n + (1 + c2 + c) = (n + 1 + c2) + c by omega, hg (n + 1 + c2), hD]; simp only [Option.isNone_some]
      rw [hg2 (n + 1), hD2]; simp only [Option.isNone_some]
      rw [cGo_step (by omega) hs rfl, e.1, e.2.1, hk, mDo_5, mPop_t]; dsimp only
      rw [mPop_t (tp := 0), nI_1, e2, hst2 0 (by omega), e1]; dsimp only
      by_cases hA : isAddrF u = true
      · rw [if_pos hA]; unfold mStoreM; rw [if_pos hA]; rfl
      · rw [if_neg hA]; unfold mStoreM; rw [if_neg hA]; unfold mStep1; dsimp only
theorem RSt_sto {O V : Nat → Int32} {a m b h : Nat} {D1 D2 : DX} (ham : a ≤ m) (hmb : m ≤ b) (h16 : h ≤ 16) (H1 : REx O V a m D1 h) (H2 : REx O V m b D2 h) (hk : O b = 8) : RSt O V a (b + 1) (stoF D1 D2) := by
  intro tx ln me be na en ops vals sz wk rdy pl sp hb hs ag
  obtain ⟨k, pl', tp', pc', hst, hv, hg⟩ := H1 tx ln me be na en ops vals sz wk rdy pl 0 sp (by omega) hs (fun i h1 h2 => ag i h1 (by omega)) (by omega)
  have e := ag b (by omega) (Nat.lt_succ_self b)
  unfold stoF
  cases hD : D1 na me with
  | none => simp only [hD]; rw [hD] at hg; exact ⟨k, pl', tp', pc', fun q => absurd q (by decide), hg⟩
  | some u =>
    simp only [hD]; rw [hD] at hg
    obtain ⟨e1, rfl, rfl⟩ := hv u hD
    obtain ⟨k2, pl2, tp2, pc2, hst2, hv2, hg2⟩ := H2 tx ln me be na en ops vals sz wk rdy pl' 1 sp (by omega) hs (fun i h1 h2 => ag i (by omega) (by omega)) (by omega)
    cases hD2 : D2 na me with
    | none => simp only [hD2]; rw [hD2] at hg2; exact ⟨k2 + k, pl2, tp2, pc2, fun q => absurd q (by decide), RR_trans hg hg2⟩
    | some w =>
      simp only [hD2]; rw [hD2] at hg2
      obtain ⟨e2, rfl, rfl⟩ := hv2 w hD2
      have key := r_sto (tx := tx) (me := me) (be := be) (na := na) (en := en) (ops := ops) (vals := vals) (pl := pl2) (ln := ln) (sz := sz) (wk := wk) (tp := 0) (sp := sp) (a := b) (rdy := rdy) (x := u) (y := w) (by omega) hs (e.1.trans hk) (by omega) ((hst2 0 (by omega)).trans e1) e2
      refine ⟨1 + k2 + k, pl2, 0, nI (b + 1), fun _ => ⟨rfl, rfl⟩, RR_trans hg (RR_trans (m := 1) hg2 ?_)⟩
      by_cases hA : isAddrF u = true
      · rw [if_pos hA, if_pos hA] at key; rw [if_pos hA]; exact key
      · rw [if_neg hA, if_neg hA] at key; rw [if_neg hA]; exact key
theorem CSt_bra {K F S : Nat → Int32} {a m b t h : Nat} {D : DX} {P : ST → Bool × ST} (ham : a ≤ m) (hmb : m + 1 ≤ b) (h16 : h ≤ 16) (ht : t ≤ 640) (H : CEx K F a m D h) (hk : K m = 8) (hf : F m = nI b) (HP : CSt K F S (m + 1) b t P) : CSt K F S a b t (braF D P) := by
  intro K' F' S' sz hb hs ag me be va na st sp
  obtain ⟨c, st', tp', hc, hst, hv, hg⟩ := H K' F' S' sz (by omega) hs (fun i h1 h2 => ⟨(ag i h1 (by omega)).1, (ag i h1 (by omega)).2.1⟩) me be va na st 0 sp (by omega)
  have e := ag m ham (by omega)
  have hcc : ∀ x, x ≤ b - a → x * t ≤ (b - a) * 640 := fun x hx => Nat.mul_le_mul hx ht
  unfold braF
  cases hD : D na me with
  | none =>
    simp only [hD]
    refine ⟨c, st', tp', hcc c (by omega), fun q => absurd q (by decide), fun n => ?_⟩
    rw [hg n, hD]; simp only [Option.isNone_none]; rw [cGo_fail rfl, cGo_fail rfl]
  | some u =>
    simp only [hD]
    obtain ⟨e1, rfl⟩ := hv u hD
    by_cases hu : u = 0
    · rw [if_pos hu]
      refine ⟨c + 1, st', 0, hcc _ (by omega), fun _ => rfl, fun n => ?_⟩
      rw [show n + (c + 1) = (n + 1) + c by omega, hg (n + 1), hD]; simp only [Option.isNone_some]
      rw [cGo_step (by omega) hs rfl, e.1, e.2.1, hk, hf, mDo_8, mPop_t]; dsimp only
      rw [e1, if_pos hu]
    · rw [if_neg hu]
      obtain ⟨c2, st2, tp2, hc2, ht2, hg2⟩ := HP K' F' S' sz hb hs (fun i h1 h2 => ag i (by omega) h2) me be va na st' sp
      refine ⟨c2 + (1 + c), st2, tp2, ?_, ht2, fun n => ?_⟩
      · have e : (b - a) * 640 = (b - (m + 1)) * 640 + (m + 1 - a) * 640 := by rw [← Nat.add_mul]; congr 1; omega
        rw [Nat.add_mul, e]; exact Nat.add_le_add hc2 (Nat.mul_le_mul (by omega) ht)
      · rw [show n + (c2 + (1 + c)) = (n + c2 + 1) + c by omega, hg (n + c2 + 1), hD]; simp only [Option.isNone_some]
        rw [cGo_step (by omega) hs rfl, e.1, e.2.1, hk, hf, mDo_8, mPop_t]; dsimp only
        rw [e1, if_neg hu, nI_1]; exact hg2 n
theorem RSt_bra {O V : Nat → Int32} {a m b h : Nat} {D : DX} {P : ST → Bool × ST} (ham : a ≤ m) (hmb : m + 1 ≤ b) (h16 : h ≤ 16) (H : REx O V a m D h) (hk : O m = 9) (hf : V m = nI b) (HP : RSt O V (m + 1) b P) : RSt O V a b (braF D P) := by
  intro tx ln me be na en ops vals sz wk rdy pl sp hb hs ag
  obtain ⟨k, pl', tp', pc', hst, hv, hg⟩ := H tx ln me be na en ops vals sz wk rdy pl 0 sp (by omega) hs (fun i h1 h2 => ag i h1 (by omega)) (by omega)
  have e := ag m ham (by omega)
  unfold braF
  cases hD : D na me with
  | none => simp only [hD]; rw [hD] at hg; exact ⟨k, pl', tp', pc', fun q => absurd q (by decide), hg⟩
  | some u =>
    simp only [hD]; rw [hD] at hg
    obtain ⟨e1, rfl, rfl⟩ := hv u hD
    have key := r_skip (tx := tx) (me := me) (be := be) (na := na) (en := en) (ops := ops) (vals := vals) (pl := pl') (ln := ln) (sz := sz) (wk := wk) (tp := 0) (sp := sp) (a := m) (b := b) (rdy := rdy) (by omega) hs (e.1.trans hk) (e.2.trans hf) (by omega)
    rw [e1] at key
    by_cases hu : u = 0
    · rw [if_pos hu] at key; rw [if_pos hu]
      exact ⟨1 + k, pl', 0, nI b, fun _ => ⟨rfl, rfl⟩, RR_trans hg key⟩
    · rw [if_neg hu] at key; rw [if_neg hu]
      obtain ⟨k2, pl2, tp2, pc2, ht2, hg2⟩ := HP tx ln me be na en ops vals sz wk rdy pl' sp hb hs (fun i h1 h2 => ag i (by omega) h2)
      exact ⟨k2 + 1 + k, pl2, tp2, pc2, ht2, RR_trans hg (RR_trans key hg2)⟩
