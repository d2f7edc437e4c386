theorem mAgain_t {F S : Nat → Int32} {sz a nm many : Nat} {me be va na st : Nat → Int32} {tp sp : Nat} {fl : Bool} (ha : a < sz) (hs : sz ≤ 480) (hf : F a = nI nm) (hn : nm < 26) (hS : S a = nI many) :
    mAgain F S sz (nI a) (me, be, va, na, st, tp, sp, fl) = if nI many ≤ na nm + 1 then (false, (me, be, va, na, st, tp, sp, fl)) else (true, (me, be, va, upd na nm (na nm + 1), st, tp, sp, fl)) := by
  unfold mAgain; rw [if_pos (nI_pos' (by omega)), if_neg (nI_ge ha (by omega)), nI_clamp (by omega), hf, namedF_t hn, hS, mName_t hn]
theorem CSt_lp {K F S K' F' S' : Nat → Int32} {a b t nm many sz : Nat} {P : ST → Bool × ST} (hab : a + 1 ≤ b) (hn : nm < 26) (hm : 1 ≤ many) (hm64 : many ≤ 64) (HP : CSt K F S (a + 1) b (t * many) P) (keep : ∀ s : ST, (P s).2.1 nm = s.1 nm)
    (hb : b + 1 ≤ sz) (hs : sz ≤ 480) (ag : ∀ i, a ≤ i → i < b + 1 → K' i = K i ∧ F' i = F i ∧ S' i = S i) (kf : F a = nI nm) (ks : S a = nI many) (kb : K b = 7) (fb : F b = nI a) (be va : Nat → Int32) :
    ∀ (j i : Nat), i + (j + 1) = many → ∀ (me na st : Nat → Int32) (sp : Nat), na nm = nI i →
    ∃ (c : Nat) (st' : Nat → Int32) (tp' : Nat), c * (t * many) ≤ (j + 1) * ((b - (a + 1)) * 640 + t * many) ∧ ((lpF P nm many (j + 1) (na, me, sp)).1 = false → tp' = 0) ∧
      ∀ n, cGo K' F' S' sz (n + c) (nI (a + 1)) (me, be, va, na, st, 0, sp, false) = cGo K' F' S' sz n (nI (b + 1)) ((lpF P nm many (j + 1) (na, me, sp)).2.2.1, be, va, (lpF P nm many (j + 1) (na, me, sp)).2.1, st', tp', (lpF P nm many (j + 1) (na, me, sp)).2.2.2, (lpF P nm many (j + 1) (na, me, sp)).1) := by
  intro j
  induction j with
  | zero =>
    intro i hi me na st sp hna
    obtain ⟨c, st', tp', hc, ht, hg⟩ := HP K' F' S' sz (by omega) hs (fun i h1 h2 => ag i (by omega) (by omega)) me be va na st sp
    have eb := ag b (by omega) (by omega)
    have ea := ag a (by omega) (by omega)
    have kp := (keep (na, me, sp)).trans hna
    rw [lpF]
    cases hP : (P (na, me, sp)).1 with
    | true =>
      rw [if_pos rfl]
      refine ⟨c, st', tp', by omega, ht, fun n => ?_⟩
      rw [hg n, cGo_fail hP, cGo_fail hP]
    | false =>
      cases ht hP
      have hle : nI many ≤ (P (na, me, sp)).2.1 nm + 1 := by rw [kp, nI_1]; exact nI_le (by omega) (by omega)
      rw [if_neg (by decide), if_pos hle]
      refine ⟨1 + c, st', 0, by rw [Nat.add_mul]; omega, fun _ => rfl, fun n => ?_⟩
      rw [← Nat.add_assoc, hg (n + 1), hP, cGo_step (by omega) hs rfl, eb.1, eb.2.1, kb, fb, mDo_7, mAgain_t (by omega) hs (ea.2.1.trans kf) hn (ea.2.2.trans ks), if_pos hle, if_neg (show ¬ (false = true) by decide), nI_1]
  | succ j ih =>
    intro i hi me na st sp hna
    obtain ⟨c, st', tp', hc, ht, hg⟩ := HP K' F' S' sz (by omega) hs (fun i h1 h2 => ag i (by omega) (by omega)) me be va na st sp
    have eb := ag b (by omega) (by omega)
    have ea := ag a (by omega) (by omega)
    have kp := (keep (na, me, sp)).trans hna
    rw [lpF]
    cases hP : (P (na, me, sp)).1 with
    | true =>
      rw [if_pos rfl]
      refine ⟨c, st', tp', Nat.le_trans hc (by rw [Nat.add_mul (j + 1) 1, Nat.one_mul]; omega), ht, fun n => ?_⟩
      rw [hg n, cGo_fail hP, cGo_fail hP]
    | false =>
      cases ht hP
      have hle : ¬ nI many ≤ (P (na, me, sp)).2.1 nm + 1 := by rw [kp, nI_1]; exact nI_ge (by omega) (by omega)
      rw [if_neg (by decide), if_neg hle]
      obtain ⟨c2, st2, tp2, hc2, ht2, hg2⟩ := ih (i + 1) (by omega) (P (na, me, sp)).2.2.1 (upd (P (na, me, sp)).2.1 nm ((P (na, me, sp)).2.1 nm + 1)) st' (P (na, me, sp)).2.2.2 (by show (if nm = nm then _ else _) = _; rw [if_pos rfl, kp, nI_1])
      refine ⟨c2 + (1 + c), st2, tp2, ?_, ht2, fun n => ?_⟩
      · rw [Nat.add_mul c2, Nat.add_mul (j + 1) 1, Nat.one_mul, Nat.add_mul 1 c, Nat.one_mul]
        exact Nat.add_le_add hc2 (by omega)
      · rw [show n + (c2 + (1 + c)) = (n + c2 + 1) + c by omega, hg (n + c2 + 1), hP, cGo_step (by omega) hs rfl, eb.1, eb.2.1, kb, fb, mDo_7, mAgain_t (by omega) hs (ea.2.1.trans kf) hn (ea.2.2.trans ks), if_neg hle, if_pos rfl, nI_1]
        exact hg2 n
theorem CSt_loo {K F S : Nat → Int32} {a b t nm many : Nat} {P : ST → Bool × ST} (hab : a + 1 ≤ b) (hn : nm < 26) (hm : 1 ≤ many) (hm64 : many ≤ 64) (ht : 1 ≤ t) (htm : t * many ≤ 640) (HP : CSt K F S (a + 1) b (t * many) P) (keep : ∀ s : ST, (P s).2.1 nm = s.1 nm)
    (ka : K a = 6) (kf : F a = nI nm) (ks : S a = nI many) (kb : K b = 7) (fb : F b = nI a) : CSt K F S a (b + 1) t (looF P nm many) := by
  intro K' F' S' sz hb hs ag me be va na st sp
  obtain ⟨j, rfl⟩ : ∃ j, many = j + 1 := ⟨many - 1, by omega⟩
  have ea := ag a (by omega) (by omega)
  obtain ⟨c, st', tp', hc, h0, hg⟩ := CSt_lp hab hn hm hm64 HP keep hb hs ag kf ks kb fb be va j 0 (by omega) me (upd na nm 0) st sp (if_pos rfl)
  unfold looF
  refine ⟨c + 1, st', tp', ?_, h0, fun n => ?_⟩
  · have h1 : c * t ≤ (b - (a + 1)) * 640 + t * (j + 1) := by
      refine Nat.le_of_mul_le_mul_left (c := j + 1) ?_ (Nat.succ_pos j)
      rw [← Nat.mul_assoc, Nat.mul_comm (j + 1) c, Nat.mul_assoc, Nat.mul_comm (j + 1) t]; exact hc
    have h2 : t ≤ 640 := Nat.le_trans (Nat.le_mul_of_pos_right t (by omega)) htm
    rw [Nat.add_mul, Nat.one_mul]; omega
  · rw [show n + (c + 1) = (n + c) + 1 by omega, cGo_step (by omega) hs rfl, ea.1, ea.2.1, ka, kf, mDo_6, mName_t hn, nI_1]
    exact hg n
theorem RSt_lp {O V ops vals tx be en : Nat → Int32} {a b nm many sz ln wk : Nat} {rdy : Bool} {P : ST → Bool × ST} (hab : a + 2 ≤ b) (hn : nm < 26) (hm : 1 ≤ many) (hm64 : many ≤ 64) (HP : RSt O V (a + 2) b P) (keep : ∀ s : ST, (P s).2.1 nm = s.1 nm)
    (hb : b + 1 ≤ sz) (hs : sz ≤ 1000) (ag : ∀ i, a ≤ i → i < b + 1 → ops i = O i ∧ vals i = V i) (va : V a = nI nm) (oa : O (a + 1) = nI many) (ob : O b = 11) (vb : V b = nI (a + 2)) :
    ∀ (j i : Nat), i + (j + 1) = many → ∀ (me na pl : Nat → Int32) (sp : Nat), na nm = nI i →
    ∃ (k : Nat) (pl' : Nat → Int32) (tp' : Nat) (pc' : Int32), ((lpF P nm many (j + 1) (na, me, sp)).1 = false → tp' = 0 ∧ pc' = nI (b + 1)) ∧
      RR k (nI (a + 2), sp, (0, tx, ln, me, be, na, en, ops, vals, sz, wk, rdy, pl, 0)) (pc', (lpF P nm many (j + 1) (na, me, sp)).2.2.2, (thF (lpF P nm many (j + 1) (na, me, sp)).1, tx, ln, (lpF P nm many (j + 1) (na, me, sp)).2.2.1, be, (lpF P nm many (j + 1) (na, me, sp)).2.1, en, ops, vals, sz, wk, rdy, pl', tp')) := by
  intro j
  induction j with
  | zero =>
    intro i hi me na pl sp hna
    obtain ⟨k, pl', tp', pc', ht, hg⟩ := HP tx ln me be na en ops vals sz wk rdy pl sp (by omega) hs (fun i h1 h2 => ag i (by omega) (by omega))
    have eb := ag b (by omega) (by omega)
    have ea := ag a (by omega) (by omega)
    have ea1 := ag (a + 1) (by omega) (by omega)
    have kp := (keep (na, me, sp)).trans hna
    rw [lpF]
    cases hP : (P (na, me, sp)).1 with
    | true => rw [if_pos rfl]; exact ⟨k, pl', tp', pc', fun q => absurd (hP.symm.trans q) (by decide), hg⟩
    | false =>
      obtain ⟨rfl, rfl⟩ := ht hP
      have hle : nI many ≤ (P (na, me, sp)).2.1 nm + 1 := by rw [kp, nI_1]; exact nI_le (by omega) (by omega)
      rw [if_neg (by decide), if_pos hle]
      rw [hP] at hg
      have key := r_again (tx := tx) (me := (P (na, me, sp)).2.2.1) (be := be) (na := (P (na, me, sp)).2.1) (en := en) (ops := ops) (vals := vals) (pl := pl') (ln := ln) (sz := sz) (wk := wk) (tp := 0) (sp := (P (na, me, sp)).2.2.2) (a := b) (s := a) (many := many) (rdy := rdy) hn (by omega) hs (eb.1.trans ob) (eb.2.trans vb) hab (ea.2.trans va) (ea1.1.trans oa) (by omega)
      rw [if_pos hle, if_pos hle] at key
      exact ⟨1 + k, pl', 0, nI (b + 1), fun _ => ⟨rfl, rfl⟩, RR_trans hg key⟩
  | succ j ih =>
    intro i hi me na pl sp hna
    obtain ⟨k, pl', tp', pc', ht, hg⟩ := HP tx ln me be na en ops vals sz wk rdy pl sp (by omega) hs (fun i h1 h2 => ag i (by omega) (by omega))
    have eb := ag b (by omega) (by omega)
    have ea := ag a (by omega) (by omega)
    have ea1 := ag (a + 1) (by omega) (by omega)
    have kp := (keep (na, me, sp)).trans hna
    rw [lpF]
    cases hP : (P (na, me, sp)).1 with
    | true => rw [if_pos rfl]; exact ⟨k, pl', tp', pc', fun q => absurd (hP.symm.trans q) (by decide), hg⟩
    | false =>
      obtain ⟨rfl, rfl⟩ := ht hP
      have hle : ¬ nI many ≤ (P (na, me, sp)).2.1 nm + 1 := by rw [kp, nI_1]; exact nI_ge (by omega) (by omega)
      rw [if_neg (by decide), if_neg hle]
      rw [hP] at hg
      have key := r_again (tx := tx) (me := (P (na, me, sp)).2.2.1) (be := be) (na := (P (na, me, sp)).2.1) (en := en) (ops := ops) (vals := vals) (pl := pl') (ln := ln) (sz := sz) (wk := wk) (tp := 0) (sp := (P (na, me, sp)).2.2.2) (a := b) (s := a) (many := many) (rdy := rdy) hn (by omega) hs (eb.1.trans ob) (eb.2.trans vb) hab (ea.2.trans va) (ea1.1.trans oa) (by omega)
      rw [if_neg hle, if_neg hle] at key
      obtain ⟨k2, pl2, tp2, pc2, ht2, hg2⟩ := ih (i + 1) (by omega) (P (na, me, sp)).2.2.1 (upd (P (na, me, sp)).2.1 nm ((P (na, me, sp)).2.1 nm + 1)) pl' (P (na, me, sp)).2.2.2 (by show (if nm = nm then _ else _) = _; rw [if_pos rfl, kp, nI_1])
      exact ⟨k2 + 1 + k, pl2, tp2, pc2, ht2, RR_trans hg (RR_trans key hg2)⟩
theorem RSt_loo {O V : Nat → Int32} {a b nm many : Nat} {P : ST → Bool × ST} (hab : a + 2 ≤ b) (hn : nm < 26) (hm : 1 ≤ many) (hm64 : many ≤ 64) (HP : RSt O V (a + 2) b P) (keep : ∀ s : ST, (P s).2.1 nm = s.1 nm)
    (oa0 : O a = 10) (va : V a = nI nm) (oa : O (a + 1) = nI many) (ob : O b = 11) (vb : V b = nI (a + 2)) : RSt O V a (b + 1) (looF P nm many) := by
  intro tx ln me be na en ops vals sz wk rdy pl sp hb hs ag
  obtain ⟨j, rfl⟩ : ∃ j, many = j + 1 := ⟨many - 1, by omega⟩
  have ea := ag a (by omega) (by omega)
  obtain ⟨k, pl', tp', pc', ht, hg⟩ := RSt_lp (tx := tx) (be := be) (en := en) (ln := ln) (wk := wk) (rdy := rdy) hab hn hm hm64 HP keep hb hs ag va oa ob vb j 0 (by omega) me (upd na nm 0) pl sp (if_pos rfl)
  unfold looF
  refine ⟨k + 1, pl', tp', pc', ht, RR_trans ?_ hg⟩
  exact r_begin hn (by omega) hs (ea.1.trans oa0) (ea.2.trans va) (by omega)
/-- nothing that P does changes the name -/
def Keep (P : ST → Bool × ST) (nm : Nat) : Prop := ∀ s : ST, (P s).2.1 nm = s.1 nm
theorem keep_nil {x : Nat} : Keep nilF x := fun _ => rfl
theorem keep_seq {P1 P2 : ST → Bool × ST} {x : Nat} (h1 : Keep P1 x) (h2 : Keep P2 x) : Keep (seqF P1 P2) x := by
  intro s; unfold seqF; split
  · exact h1 s
  · exact (h2 _).trans (h1 s)
theorem keep_set {D : DX} {nm x : Nat} (h : x ≠ nm) : Keep (setF D nm) x := by
  intro s; unfold setF; split
  · rfl
  · exact if_neg h
theorem keep_sto {D1 D2 : DX} {x : Nat} : Keep (stoF D1 D2) x := by
  intro s; unfold stoF; split
  · rfl
  · split
    · rfl
    · split <;> rfl
theorem keep_bra {D : DX} {P : ST → Bool × ST} {x : Nat} (h : Keep P x) : Keep (braF D P) x := by
  intro s; unfold braF; split
  · rfl
  · split
    · rfl
    · exact h s
theorem keep_lp {P : ST → Bool × ST} {nm many x : Nat} (hx : x ≠ nm) (h : Keep P x) : ∀ (j : Nat) (s : ST), (lpF P nm many j s).2.1 x = s.1 x
  | 0, s => rfl
  | j + 1, s => by
    rw [lpF]; split
    · exact h s
    · split
      · exact h s
      · exact (keep_lp hx h j _).trans ((if_neg hx).trans (h s))
theorem keep_loo {P : ST → Bool × ST} {nm many x : Nat} (hx : x ≠ nm) (h : Keep P x) : Keep (looF P nm many) x := fun s => (keep_lp hx h many _).trans (if_neg hx)
