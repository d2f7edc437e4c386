abbrev DX : Type := (Nat → Int32) → (Nat → Int32) → Option Int32
/-- names, memory, steps -/
abbrev ST : Type := (Nat → Int32) × (Nat → Int32) × Nat
theorem cGo_fail {K F S : Nat → Int32} {sz : Nat} {g : MS} (h : g.2.2.2.2.2.2.2 = true) : ∀ (n : Nat) (x : Int32), cGo K F S sz n x g = g := by
  intro n x
  cases n with
  | zero => rfl
  | succ n =>
    rw [cGo]
    by_cases q : nI sz ≤ x
    · rw [if_pos q]
    · rw [if_neg q, if_pos h]
theorem cGo_step {K F S : Nat → Int32} {sz n a : Nat} {g : MS} (ha : a < sz) (hs : sz ≤ 480) (hf : g.2.2.2.2.2.2.2 = false) : cGo K F S sz (n + 1) (nI a) g = cGo K F S sz n (mDo F S sz (K a) (F a) (nI a) g).1 (mDo F S sz (K a) (F a) (nI a) g).2 := by
  have hlt : ¬ nI sz ≤ nI a := nI_ge ha (by omega)
  have e : mBehind K F S sz (nI a) g = mDo F S sz (K a) (F a) (nI a) g := by
    unfold mBehind; rw [if_pos (nI_pos' (by omega)), if_neg hlt, nI_clamp (by omega)]
  rw [cGo, if_neg hlt, if_neg (by rw [hf]; decide), e]
theorem mPop_t {me be va na st : Nat → Int32} {tp sp : Nat} {fl : Bool} : mPop (me, be, va, na, st, tp + 1, sp, fl) = (st tp, (me, be, va, na, st, tp, sp, fl)) := by
  unfold mPop; rw [if_pos (Nat.succ_pos tp)]; rfl
theorem mPush_t {v : Int32} {me be va na st : Nat → Int32} {tp sp : Nat} {fl : Bool} (h : tp < 16) : mPush v (me, be, va, na, st, tp, sp, fl) = (me, be, va, na, upd st tp v, tp + 1, sp, fl) := by
  unfold mPush; rw [if_pos h]
theorem namedF_t {me be va na st : Nat → Int32} {tp sp k : Nat} {fl : Bool} (h : k < 26) : namedF (me, be, va, na, st, tp, sp, fl) (nI k) = na k := by
  unfold namedF; rw [if_pos ⟨nI_pos' (by omega), nI_ge (b := 26) h (by decide)⟩, nI_clamp (by omega)]
theorem mName_t {v : Int32} {me be va na st : Nat → Int32} {tp sp k : Nat} {fl : Bool} (h : k < 26) : mName (nI k) v (me, be, va, na, st, tp, sp, fl) = (me, be, va, upd na k v, st, tp, sp, fl) := by
  unfold mName; rw [if_pos ⟨nI_pos' (by omega), nI_ge (b := 26) h (by decide)⟩, nI_clamp (by omega)]
theorem mLoad_no {a : Int32} {me be va na st : Nat → Int32} {tp sp : Nat} {fl : Bool} (h : ¬ isAddrF a = true) : mLoad a (me, be, va, na, st, tp, sp, fl) = (0, (me, be, va, na, st, tp, sp, true)) := if_neg h
theorem mDo_1 {F S : Nat → Int32} {sz : Nat} {f x : Int32} {g : MS} : mDo F S sz 1 f x g = (x + 1, mPush f g) := if_pos rfl
theorem mDo_2 {F S : Nat → Int32} {sz : Nat} {f x : Int32} {g : MS} : mDo F S sz 2 f x g = (x + 1, mPush (namedF g f) g) := by
  unfold mDo; rw [if_neg (by decide), if_pos rfl]
theorem mDo_3 {F S : Nat → Int32} {sz : Nat} {f x : Int32} {g : MS} : mDo F S sz 3 f x g = (x + 1, mPush (mLoad (mPop g).1 (mPop g).2).1 (mLoad (mPop g).1 (mPop g).2).2) := by
  unfold mDo; rw [if_neg (by decide), if_neg (by decide), if_pos rfl]
theorem mDo_4 {F S : Nat → Int32} {sz : Nat} {f x : Int32} {g : MS} : mDo F S sz 4 f x g = (x + 1, mStep1 (mName f (mPop g).1 (mPop g).2)) := by
  unfold mDo; rw [if_neg (by decide), if_neg (by decide), if_neg (by decide), if_pos rfl]
theorem mDo_5 {F S : Nat → Int32} {sz : Nat} {f x : Int32} {g : MS} : mDo F S sz 5 f x g = (x + 1, mStep1 (mStoreM (mPop (mPop g).2).1 (mPop g).1 (mPop (mPop g).2).2)) := by
  unfold mDo; rw [if_neg (by decide), if_neg (by decide), if_neg (by decide), if_neg (by decide), if_pos rfl]
theorem mDo_6 {F S : Nat → Int32} {sz : Nat} {f x : Int32} {g : MS} : mDo F S sz 6 f x g = (x + 1, mName f 0 g) := by
  unfold mDo; rw [if_neg (by decide), if_neg (by decide), if_neg (by decide), if_neg (by decide), if_neg (by decide), if_pos rfl]
theorem mDo_7 {F S : Nat → Int32} {sz : Nat} {f x : Int32} {g : MS} : mDo F S sz 7 f x g = (if (mAgain F S sz f g).1 = true then f + 1 else x + 1, (mAgain F S sz f g).2) := by
  unfold mDo; rw [if_neg (by decide), if_neg (by decide), if_neg (by decide), if_neg (by decide), if_neg (by decide), if_neg (by decide), if_pos rfl]
theorem mDo_8 {F S : Nat → Int32} {sz : Nat} {f x : Int32} {g : MS} : mDo F S sz 8 f x g = (if (mPop g).1 = 0 then f else x + 1, (mPop g).2) := by
  unfold mDo; rw [if_neg (by decide), if_neg (by decide), if_neg (by decide), if_neg (by decide), if_neg (by decide), if_neg (by decide), if_neg (by decide), if_pos rfl]
theorem mDo_one {F S : Nat → Int32} {sz : Nat} {k f x : Int32} {g : MS} (hk : k = 60 ∨ k = 62 ∨ k = 126) : mDo F S sz k f x g = (x + 1, mPush (ofOneF k (mPop g).1 f) (mPop g).2) := by
  have e : k ≠ 1 ∧ k ≠ 2 ∧ k ≠ 3 ∧ k ≠ 4 ∧ k ≠ 5 ∧ k ≠ 6 ∧ k ≠ 7 ∧ k ≠ 8 := by rcases hk with rfl | rfl | rfl <;> decide
  unfold mDo; rw [if_neg e.1, if_neg e.2.1, if_neg e.2.2.1, if_neg e.2.2.2.1, if_neg e.2.2.2.2.1, if_neg e.2.2.2.2.2.1, if_neg e.2.2.2.2.2.2.1, if_neg e.2.2.2.2.2.2.2, if_pos hk]
theorem mDo_two {F S : Nat → Int32} {sz : Nat} {k f x : Int32} {g : MS} (hk : isOpF k = true) : mDo F S sz k f x g = (x + 1, mPush (ofTwoF k (mPop (mPop g).2).1 (mPop g).1) (mPop (mPop g).2).2) := by
  have e : k ≠ 1 ∧ k ≠ 2 ∧ k ≠ 3 ∧ k ≠ 4 ∧ k ≠ 5 ∧ k ≠ 6 ∧ k ≠ 7 ∧ k ≠ 8 ∧ ¬ (k = 60 ∨ k = 62 ∨ k = 126) := by
    rcases of_decide_eq_true hk with rfl | rfl | rfl | rfl | rfl | rfl <;> decide
  unfold mDo; rw [if_neg e.1, if_neg e.2.1, if_neg e.2.2.1, if_neg e.2.2.2.1, if_neg e.2.2.2.2.1, if_neg e.2.2.2.2.2.1, if_neg e.2.2.2.2.2.2.1, if_neg e.2.2.2.2.2.2.2.1, if_neg e.2.2.2.2.2.2.2.2]
/-- the class's code from a to b reckons D, with h words of the stack -/
def CEx (K F : Nat → Int32) (a b : Nat) (D : DX) (h : Nat) : Prop :=
  ∀ (K' F' S' : Nat → Int32) (sz : Nat), b ≤ sz → sz ≤ 480 → (∀ i, a ≤ i → i < b → K' i = K i ∧ F' i = F i) →
  ∀ (me be va na st : Nat → Int32) (tp sp : Nat), tp + h ≤ 16 →
  ∃ (c : Nat) (st' : Nat → Int32) (tp' : Nat), c ≤ b - a ∧ (∀ i, i < tp → st' i = st i) ∧ (∀ v, D na me = some v → st' tp = v ∧ tp' = tp + 1) ∧
    ∀ n, cGo K' F' S' sz (n + c) (nI a) (me, be, va, na, st, tp, sp, false) = cGo K' F' S' sz n (nI b) (me, be, va, na, st', tp', sp, (D na me).isNone)
theorem CEx_ag {K F K' F' : Nat → Int32} {a b h : Nat} {D : DX} (H : CEx K F a b D h) (ag : ∀ i, a ≤ i → i < b → K' i = K i ∧ F' i = F i) : CEx K' F' a b D h :=
  fun K2 F2 S2 sz hb hs ag2 => H K2 F2 S2 sz hb hs (fun i h1 h2 => ⟨(ag2 i h1 h2).1.trans (ag i h1 h2).1, (ag2 i h1 h2).2.trans (ag i h1 h2).2⟩)
theorem CEx_h {K F : Nat → Int32} {a b h h' : Nat} {D : DX} (hh : h ≤ h') (H : CEx K F a b D h) : CEx K F a b D h' :=
  fun K2 F2 S2 sz hb hs ag2 me be va na st tp sp ht => H K2 F2 S2 sz hb hs ag2 me be va na st tp sp (by omega)
theorem CEx_num {K F : Nat → Int32} {a : Nat} {v : Int32} (hk : K a = 1) (hf : F a = v) : CEx K F a (a + 1) (fun _ _ => some v) 1 := by
  intro K' F' S' sz hb hs ag me be va na st tp sp ht
  have e := ag a (Nat.le_refl a) (Nat.lt_succ_self a)
  refine ⟨1, upd st tp v, tp + 1, by omega, fun i hi => if_neg (by omega), fun u hu => ⟨?_, rfl⟩, fun n => ?_⟩
  · cases hu; exact if_pos rfl
  · rw [cGo_step (by omega) hs rfl, e.1, e.2, hk, hf, mDo_1, mPush_t (by omega), nI_1]; rfl
theorem CEx_name {K F : Nat → Int32} {a k : Nat} (hk : K a = 2) (hf : F a = nI k) (h26 : k < 26) : CEx K F a (a + 1) (fun na _ => some (na k)) 1 := by
  intro K' F' S' sz hb hs ag me be va na st tp sp ht
  have e := ag a (Nat.le_refl a) (Nat.lt_succ_self a)
  refine ⟨1, upd st tp (na k), tp + 1, by omega, fun i hi => if_neg (by omega), fun u hu => ⟨?_, rfl⟩, fun n => ?_⟩
  · cases hu; exact if_pos rfl
  · rw [cGo_step (by omega) hs rfl, e.1, e.2, hk, hf, mDo_2, namedF_t h26, mPush_t (by omega), nI_1]; rfl
theorem CEx_one {K F : Nat → Int32} {a b h : Nat} {D : DX} {op bits : Int32} (hab : a ≤ b) (h1 : 1 ≤ h) (H : CEx K F a b D h) (hk : K b = op) (hf : F b = bits) (ho : op = 60 ∨ op = 62 ∨ op = 126) : CEx K F a (b + 1) (fun na me => (D na me).map (fun v => ofOneF op v bits)) h := by
  intro K' F' S' sz hb hs ag me be va na st tp sp ht
  obtain ⟨c, st', tp', hc, hst, hv, hg⟩ := H K' F' S' sz (by omega) hs (fun i h1 h2 => ag i h1 (by omega)) me be va na st tp sp ht
  have e := ag b hab (Nat.lt_succ_self b)
  cases hD : D na me with
  | none =>
    refine ⟨c, st', tp', by omega, hst, fun v q => by simp [hD] at q, fun n => ?_⟩
    rw [hg n, hD]; simp only [hD, Option.map_none, Option.isNone_none]; rw [cGo_fail rfl, cGo_fail rfl]
  | some u =>
    obtain ⟨e1, rfl⟩ := hv u hD
    refine ⟨c + 1, upd st' tp (ofOneF op u bits), tp + 1, by omega, fun i hi => (if_neg (by omega)).trans (hst i hi), fun v q => ⟨?_, rfl⟩, fun n => ?_⟩
    · simp only [hD, Option.map_some, Option.some.injEq] at q; exact (if_pos rfl).trans q
    · rw [show n + (c + 1) = (n + 1) + c by omega, hg (n + 1), hD]; simp only [hD, Option.map_some, Option.isNone_some]
      rw [cGo_step (by omega) hs rfl, e.1, e.2, hk, hf, mDo_one ho, mPop_t, mPush_t (by omega), nI_1, e1]
theorem CEx_load {K F : Nat → Int32} {a b h : Nat} {D : DX} (hab : a ≤ b) (h1 : 1 ≤ h) (H : CEx K F a b D h) (hk : K b = 3) : CEx K F a (b + 1) (fun na me => (D na me).bind (fun v => if isAddrF v = true then some (me v.toNatClampNeg) else none)) h := by
  intro K' F' S' sz hb hs ag me be va na st tp sp ht
  obtain ⟨c, st', tp', hc, hst, hv, hg⟩ := H K' F' S' sz (by omega) hs (fun i h1 h2 => ag i h1 (by omega)) me be va na st tp sp ht
  have e := ag b hab (Nat.lt_succ_self b)
  cases hD : D na me with
  | none =>
    refine ⟨c, st', tp', by omega, hst, fun v q => by simp [hD] at q, fun n => ?_⟩
    rw [hg n, hD]; simp only [hD, Option.bind_none, Option.isNone_none]; rw [cGo_fail rfl, cGo_fail rfl]
  | some u =>
    obtain ⟨e1, rfl⟩ := hv u hD
    by_cases hA : isAddrF u = true
    · refine ⟨c + 1, upd st' tp (me u.toNatClampNeg), tp + 1, by omega, fun i hi => (if_neg (by omega)).trans (hst i hi), fun v q => ⟨?_, rfl⟩, fun n => ?_⟩
      · simp only [hD, Option.bind_some, hA, if_true, Option.some.injEq] at q; exact (if_pos rfl).trans q
      · rw [show n + (c + 1) = (n + 1) + c by omega, hg (n + 1), hD]; simp only [hD, Option.bind_some, hA, if_true, Option.isNone_some]
        rw [cGo_step (by omega) hs rfl, e.1, e.2, hk, mDo_3, mPop_t, e1]
        unfold mLoad; rw [if_pos hA, mPush_t (by omega), nI_1]
    · refine ⟨c + 1, upd st' tp 0, tp + 1, by omega, fun i hi => (if_neg (by omega)).trans (hst i hi), fun v q => ?_, fun n => ?_⟩
      · simp [hD, hA] at q
      · rw [show n + (c + 1) = (n + 1) + c by omega, hg (n + 1), hD]; simp only [hD, Option.bind_some, hA, Option.isNone_some]
        rw [cGo_step (by omega) hs rfl, e.1, e.2, hk, mDo_3, mPop_t, e1]
        dsimp only
        rw [mLoad_no hA]; dsimp only
        rw [mPush_t (by omega), cGo_fail rfl, cGo_fail rfl]; rfl
theorem CEx_two {K F : Nat → Int32} {a m b h1 h2 h : Nat} {D1 D2 : DX} {op : Int32} (ham : a ≤ m) (hmb : m ≤ b) (hh1 : 1 ≤ h1) (hh2 : 1 ≤ h2) (H1 : CEx K F a m D1 h1) (H2 : CEx K F m b D2 h2) (hk : K b = op) (ho : isOpF op = true) (hA : h1 ≤ h) (hB : h2 + 1 ≤ h) : CEx K F a (b + 1) (fun na me => (D1 na me).bind (fun x => (D2 na me).map (fun y => ofTwoF op x y))) h := by
  intro K' F' S' sz hb hs ag me be va na st tp sp ht
  obtain ⟨c, st', tp', hc, hst, hv, hg⟩ := H1 K' F' S' sz (by omega) hs (fun i h1 h2 => ag i h1 (by omega)) me be va na st tp sp (by omega)
  have e := ag b (by omega) (Nat.lt_succ_self b)
  cases hD : D1 na me with
  | none =>
    refine ⟨c, st', tp', by omega, hst, fun v q => by simp [hD] at q, fun n => ?_⟩
    rw [hg n, hD]; simp only [hD, Option.bind_none, Option.isNone_none]; rw [cGo_fail rfl, cGo_fail rfl]
  | some u =>
    obtain ⟨e1, rfl⟩ := hv u hD
    obtain ⟨c2, st2, tp2, hc2, hst2, hv2, hg2⟩ := H2 K' F' S' sz (by omega) hs (fun i h1 h2 => ag i (by omega) (by omega)) me be va na st' (tp + 1) sp (by omega)
    cases hD2 : D2 na me with
    | none =>
      refine ⟨c2 + c, st2, tp2, by omega, fun i hi => (hst2 i (by omega)).trans (hst i hi), fun v q => by simp [hD, hD2] at q, fun n => ?_⟩
      rw [← Nat.add_assoc, hg (n + c2), hD]; simp only [hD, hD2, Option.bind_some, Option.map_none, Option.isNone_none, Option.isNone_some]
      rw [hg2 n, hD2]; simp only [Option.isNone_none]; rw [cGo_fail rfl, cGo_fail rfl]
    | some w =>
      obtain ⟨e2, rfl⟩ := hv2 w hD2
      refine ⟨1 + c2 + c, upd st2 tp (ofTwoF op u w), tp + 1, by omega, fun i hi => (if_neg (by omega)).trans ((hst2 i (by omega)).trans (hst i hi)), fun v q => ⟨?_, rfl⟩, fun n => ?_⟩
      · simp only [hD, hD2, Option.bind_some, Option.map_some, Option.some.injEq] at q; exact (if_pos rfl).trans q
      · rw [show n + (1 + c2 + c) = (n + 1 + c2) + c by omega, hg (n + 1 + c2), hD]; simp only [hD, hD2, Option.bind_some, Option.map_some, Option.isNone_some]
        rw [hg2 (n + 1), hD2]; simp only [Option.isNone_some]
        rw [cGo_step (by omega) hs rfl, e.1, e.2, hk, mDo_two ho, mPop_t]
        show cGo _ _ _ _ _ _ (mPush (ofTwoF op (mPop (me, be, va, na, st2, tp + 1, sp, false)).1 (st2 (tp + 1))) (mPop (me, be, va, na, st2, tp + 1, sp, false)).2) = _
        rw [mPop_t, mPush_t (by omega), nI_1, e2, hst2 tp (by omega), e1]
