theorem hereF_in {tx : Nat → Int32} {len a : Nat} (h : a < len) : hereF tx len a = tx a := if_pos h
theorem hereN_in {tx : Nat → Int32} {len a : Nat} (h : a < len) : hereN tx len a = tx a := if_pos h
theorem hereF_out {tx : Nat → Int32} {len a : Nat} (h : ¬ a < len) : hereF tx len a = 0 := if_neg h
theorem hereN_out {tx : Nat → Int32} {len a : Nat} (h : ¬ a < len) : hereN tx len a = (-1) := if_neg h
theorem numEnd_q {lo hi start md dg len : Nat} {at_ f num num' : Nat} {rest : Int32 × Nat × CS} {rq : QS} (ha : at_ ≤ len) (hst : start ≤ len) (hn : dg ≤ md → num = num') :
    (mNumEnd lo hi start md dg (at_, f, num, rest) = (true, (at_, f, num, rest)) ∧ nEnd lo hi start md dg (0, at_, num', rq.2.2.2) = (0, at_, num, rq.2.2.2) ∧ 1 ≤ dg) ∨
    (∃ flt : Nat, mNumEnd lo hi start md dg (at_, f, num, rest) = (false, (at_, flt, num, rest)) ∧ nEnd lo hi start md dg (0, at_, num', rq.2.2.2) = (flt, at_, num', rq.2.2.2) ∧ 1 ≤ flt ∧ flt ≤ len + 1) := by
  unfold mNumEnd nEnd
  by_cases h0 : dg = 0
  · rw [if_pos h0, if_pos h0]
    exact Or.inr ⟨at_ + 1, rfl, rfl, by omega, by omega⟩
  · rw [if_neg h0, if_neg h0]
    by_cases h1 : md < dg
    · rw [if_pos (Or.inl h1), if_pos (Or.inl h1)]
      exact Or.inr ⟨start + 1, rfl, rfl, by omega, by omega⟩
    · cases hn (by omega)
      by_cases h2 : md < dg ∨ lN num < lN lo ∨ lN hi < lN num
      · rw [if_pos h2, if_pos h2]
        exact Or.inr ⟨start + 1, rfl, rfl, by omega, by omega⟩
      · rw [if_neg h2, if_neg h2]
        exact Or.inl ⟨rfl, rfl, by omega⟩
theorem digit_same {tx : Nat → Int32} {len a : Nat} {hex : Bool} {b32 : Int32} (hx : (hex = true ∧ b32 = 16) ∨ (hex = false ∧ b32 = 10)) :
    (a < len ∧ 0 ≤ digitF (hereF tx len a) b32 ∧ isDigF (hereN tx len a) = true ∧ digitF (hereF tx len a) b32 = hereN tx len a - 48) ∨
    (a < len ∧ 0 ≤ digitF (hereF tx len a) b32 ∧ ¬ isDigF (hereN tx len a) = true ∧ (hex = true ∧ (97 : Int32) ≤ hereN tx len a ∧ hereN tx len a ≤ 102) ∧ digitF (hereF tx len a) b32 = hereN tx len a - 97 + 10) ∨
    (¬ 0 ≤ digitF (hereF tx len a) b32 ∧ ¬ isDigF (hereN tx len a) = true ∧ ¬ (hex = true ∧ (97 : Int32) ≤ hereN tx len a ∧ hereN tx len a ≤ 102)) := by
  by_cases h : a < len
  · rw [hereF_in h, hereN_in h]
    by_cases h1 : (48 : Int32) ≤ tx a ∧ tx a ≤ 57
    · have e : digitF (tx a) b32 = tx a - 48 := if_pos h1
      have e2 : isDigF (tx a) = true := decide_eq_true h1
      exact Or.inl ⟨h, by rw [e]; exact digN_ge e2, e2, e⟩
    · have e2 : ¬ isDigF (tx a) = true := fun q => h1 (of_decide_eq_true q)
      by_cases h2 : hex = true ∧ (97 : Int32) ≤ tx a ∧ tx a ≤ 102
      · have hb : b32 = 16 := by
          rcases hx with q | q
          · exact q.2
          · exact absurd (h2.1.symm.trans q.1) (by decide)
        have e : digitF (tx a) b32 = tx a - 97 + 10 := by unfold digitF; rw [if_neg h1, if_pos ⟨hb, h2.2⟩]
        exact Or.inr (Or.inl ⟨h, by rw [e]; exact hexN_ge h2.2.1 h2.2.2, e2, h2, e⟩)
      · have hb : ¬ (b32 = 16 ∧ (97 : Int32) ≤ tx a ∧ tx a ≤ 102) := by
          rintro ⟨q, q2⟩
          rcases hx with w | w
          · exact h2 ⟨w.1, q2⟩
          · exact absurd (w.2.symm.trans q) (by decide)
        have e : digitF (tx a) b32 = (-1) := by unfold digitF; rw [if_neg h1, if_neg hb]
        exact Or.inr (Or.inr ⟨by rw [e]; decide, e2, h2⟩)
  · rw [hereF_out h, hereN_out h]
    refine Or.inr (Or.inr ⟨?_, by decide, fun q => absurd q.2.1 (by decide)⟩)
    rcases hx with w | w <;> rw [w.2] <;> decide
theorem num_q {tx : Nat → Int32} {len lo hi start md base : Nat} {hex : Bool} {b32 : Int32} (hx : (hex = true ∧ b32 = 16) ∨ (hex = false ∧ b32 = 10)) (hB : base = if hex = true then 16 else 10) (hmd : md ≤ 10) (hst : start ≤ len) {rest : Int32 × Nat × CS} {rq : QS} :
    ∀ (n m dg at_ f num num' : Nat), len ≤ at_ + n → len ≤ at_ + m → at_ ≤ len → (dg ≤ md → num = num') →
    (∃ at' v : Nat, mNumLoop tx len lo hi start md base b32 n dg (at_, f, num, rest) = (true, (at', f, v, rest)) ∧ nLoop tx len lo hi start md hex m dg (0, at_, num', rq.2.2.2) = (0, at', v, rq.2.2.2) ∧ at_ ≤ at' ∧ at' ≤ len ∧ (1 ≤ dg ∨ at_ < at')) ∨
    (∃ at' at'' v v' flt : Nat, mNumLoop tx len lo hi start md base b32 n dg (at_, f, num, rest) = (false, (at', flt, v, rest)) ∧ nLoop tx len lo hi start md hex m dg (0, at_, num', rq.2.2.2) = (flt, at'', v', rq.2.2.2) ∧ 1 ≤ flt ∧ flt ≤ len + 1 ∧ at'' ≤ len) := by
  intro n
  induction n with
  | zero =>
    intro m dg at_ f num num' h1 h2 ha hn
    have hout : ¬ at_ < len := by omega
    have eN : nLoop tx len lo hi start md hex m dg (0, at_, num', rq.2.2.2) = nEnd lo hi start md dg (0, at_, num', rq.2.2.2) := by
      cases m with
      | zero => rfl
      | succ m =>
        rw [nLoop]
        rcases digit_same (tx := tx) (len := len) (a := at_) hx with q | q | q
        · exact absurd q.1 hout
        · exact absurd q.1 hout
        · rw [if_neg q.2.1, if_neg q.2.2]
    rw [eN, mNumLoop]
    rcases numEnd_q (lo := lo) (hi := hi) (f := f) (rest := rest) (rq := rq) ha hst hn with ⟨e1, e2, e3⟩ | ⟨flt, e1, e2, e3, e4⟩
    · exact Or.inl ⟨at_, num, e1, e2, Nat.le_refl _, ha, Or.inl e3⟩
    · exact Or.inr ⟨at_, at_, num, num', flt, e1, e2, e3, e4, ha⟩
  | succ n ih =>
    intro m dg at_ f num num' h1 h2 ha hn
    rcases digit_same (tx := tx) (len := len) (a := at_) hx with ⟨hlt, q1, q2, q3⟩ | ⟨hlt, q1, q2, q3, q4⟩ | ⟨q1, q2, q3⟩
    · cases m with
      | zero => omega
      | succ m =>
        rw [mNumLoop, nLoop, if_pos q1, if_pos q2, q3]
        have key := ih m (dg + 1) (at_ + 1) f (if dg < md then num * base + (hereN tx len at_ - 48).toNatClampNeg else num) (if dg < 10 then (if hex = true then 16 else 10) * num' + (hereN tx len at_ - 48).toNatClampNeg else num') (by omega) (by omega) (by omega)
          (fun h => by rw [if_pos (by omega), if_pos (by omega), hn (by omega), hB, Nat.mul_comm])
        have eC : (if dg < md then (at_ + 1, f, num * base + (hereN tx len at_ - 48).toNatClampNeg, rest) else (at_ + 1, f, num, rest)) = ((at_ + 1, f, (if dg < md then num * base + (hereN tx len at_ - 48).toNatClampNeg else num), rest) : RS) := by split <;> rfl
        have eQ : qAt1 (if dg < 10 then (0, at_, (if hex = true then 16 else 10) * num' + (hereN tx len at_ - 48).toNatClampNeg, rq.2.2.2) else (0, at_, num', rq.2.2.2)) = ((0, at_ + 1, (if dg < 10 then (if hex = true then 16 else 10) * num' + (hereN tx len at_ - 48).toNatClampNeg else num'), rq.2.2.2) : QS) := by split <;> rfl
        dsimp only
        rw [eC, eQ]
        rcases key with ⟨at', v, e1, e2, e3, e4, e5⟩ | ⟨at', at'', v, v', flt, e1, e2, e3, e4, e5⟩
        · exact Or.inl ⟨at', v, e1, e2, by omega, e4, Or.inr (by omega)⟩
        · exact Or.inr ⟨at', at'', v, v', flt, e1, e2, e3, e4, e5⟩
    · cases m with
      | zero => omega
      | succ m =>
        rw [mNumLoop, nLoop, if_pos q1, if_neg q2, if_pos q3, q4]
        have key := ih m (dg + 1) (at_ + 1) f (if dg < md then num * base + (hereN tx len at_ - 97 + 10).toNatClampNeg else num) (if dg < 10 then (if hex = true then 16 else 10) * num' + (hereN tx len at_ - 97 + 10).toNatClampNeg else num') (by omega) (by omega) (by omega)
          (fun h => by rw [if_pos (by omega), if_pos (by omega), hn (by omega), hB, Nat.mul_comm])
        have eC : (if dg < md then (at_ + 1, f, num * base + (hereN tx len at_ - 97 + 10).toNatClampNeg, rest) else (at_ + 1, f, num, rest)) = ((at_ + 1, f, (if dg < md then num * base + (hereN tx len at_ - 97 + 10).toNatClampNeg else num), rest) : RS) := by split <;> rfl
        have eQ : qAt1 (if dg < 10 then (0, at_, (if hex = true then 16 else 10) * num' + (hereN tx len at_ - 97 + 10).toNatClampNeg, rq.2.2.2) else (0, at_, num', rq.2.2.2)) = ((0, at_ + 1, (if dg < 10 then (if hex = true then 16 else 10) * num' + (hereN tx len at_ - 97 + 10).toNatClampNeg else num'), rq.2.2.2) : QS) := by split <;> rfl
        dsimp only
        rw [eC, eQ]
        rcases key with ⟨at', v, e1, e2, e3, e4, e5⟩ | ⟨at', at'', v, v', flt, e1, e2, e3, e4, e5⟩
        · exact Or.inl ⟨at', v, e1, e2, by omega, e4, Or.inr (by omega)⟩
        · exact Or.inr ⟨at', at'', v, v', flt, e1, e2, e3, e4, e5⟩
    · have eN : nLoop tx len lo hi start md hex m dg (0, at_, num', rq.2.2.2) = nEnd lo hi start md dg (0, at_, num', rq.2.2.2) := by
        cases m with
        | zero => rfl
        | succ m => rw [nLoop, if_neg q2, if_neg q3]
      rw [eN, mNumLoop, if_neg q1]
      rcases numEnd_q (lo := lo) (hi := hi) (f := f) (rest := rest) (rq := rq) ha hst hn with ⟨e1, e2, e3⟩ | ⟨flt, e1, e2, e3, e4⟩
      · exact Or.inl ⟨at_, num, e1, e2, Nat.le_refl _, ha, Or.inl e3⟩
      · exact Or.inr ⟨at_, at_, num, num', flt, e1, e2, e3, e4, ha⟩
theorem here_c {tx : Nat → Int32} {len a : Nat} {c : Int32} (h0 : c ≠ 0) (h1 : c ≠ -1) : hereF tx len a = c ↔ hereN tx len a = c := by
  by_cases h : a < len
  · rw [hereF_in h, hereN_in h]
  · rw [hereF_out h, hereN_out h]
    exact ⟨fun q => absurd q.symm h0, fun q => absurd q.symm h1⟩
/-- a number, read by both -/
theorem numT {tx : Nat → Int32} {len lo hi : Nat} (hL : len ≤ 480) {rest : Int32 × Nat × CS} (rq : QS) {at_ f n n' : Nat} (ha : at_ ≤ len) :
    (∃ at' v : Nat, mNumber tx len lo hi (at_, f, n, rest) = (true, (at', f, v, rest)) ∧ qNumber tx len lo hi (0, at_, n', rq.2.2.2) = (0, at', v, rq.2.2.2) ∧ at_ < at' ∧ at' ≤ len) ∨
    (∃ at' at'' v v' flt : Nat, mNumber tx len lo hi (at_, f, n, rest) = (false, (at', flt, v, rest)) ∧ qNumber tx len lo hi (0, at_, n', rq.2.2.2) = (flt, at'', v', rq.2.2.2) ∧ 1 ≤ flt ∧ flt ≤ len + 1 ∧ at'' ≤ len) := by
  unfold mNumber qNumber
  by_cases h : hereN tx len at_ = 36
  · have hF : hereF tx len at_ = 36 := (here_c (by decide) (by decide)).mpr h
    have hlt : at_ < len := hereN_lt h (by decide)
    rw [if_pos hF, if_pos h]
    rcases num_q (tx := tx) (len := len) (lo := lo) (hi := hi) (start := at_) (md := 8) (base := 16) (hex := true) (b32 := 16) (Or.inl ⟨rfl, rfl⟩) rfl (by decide) ha (rest := rest) (rq := rq) 480 len 0 (at_ + 1) f 0 0 (by omega) (by omega) (by omega) (fun _ => rfl) with ⟨at', v, e1, e2, e3, e4, e5⟩ | ⟨at', at'', v, v', flt, e1, e2, e3, e4, e5⟩
    · exact Or.inl ⟨at', v, e1, e2, by omega, e4⟩
    · exact Or.inr ⟨at', at'', v, v', flt, e1, e2, e3, e4, e5⟩
  · have hF : ¬ hereF tx len at_ = 36 := fun q => h ((here_c (by decide) (by decide)).mp q)
    rw [if_neg hF, if_neg h]
    rcases num_q (tx := tx) (len := len) (lo := lo) (hi := hi) (start := at_) (md := 10) (base := 10) (hex := false) (b32 := 10) (Or.inr ⟨rfl, rfl⟩) rfl (by decide) ha (rest := rest) (rq := rq) 480 len 0 at_ f 0 0 (by omega) (by omega) ha (fun _ => rfl) with ⟨at', v, e1, e2, e3, e4, e5⟩ | ⟨at', at'', v, v', flt, e1, e2, e3, e4, e5⟩
    · exact Or.inl ⟨at', v, e1, e2, by omega, e4⟩
    · exact Or.inr ⟨at', at'', v, v', flt, e1, e2, e3, e4, e5⟩
/-- no digit and no $: the number is refused where it begins -/
theorem num_no {tx : Nat → Int32} {len lo hi : Nat} {r : RS} (h36 : ¬ hereN tx len r.1 = 36) (hd : ¬ isDigF (hereN tx len r.1) = true) : mNumber tx len lo hi r = (false, (r.1, r.1 + 1, 0, r.2.2.2)) := by
  unfold mNumber
  rw [if_neg (fun q => h36 ((here_c (by decide) (by decide)).mp q)), mNumLoop]
  rcases digit_same (tx := tx) (len := len) (a := r.1) (hex := false) (b32 := 10) (Or.inr ⟨rfl, rfl⟩) with q | q | q
  · exact absurd q.2.2.1 hd
  · exact absurd q.2.2.2.1.1 (by decide)
  · rw [if_neg q.1]; unfold mNumEnd; rw [if_pos rfl]
