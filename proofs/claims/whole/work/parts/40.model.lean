abbrev OS : Type := Nat × (Nat → Int32) × Nat × (Nat → Int32) × (Nat → Int32) × (Nat → Int32) × (Nat → Int32) × (Nat → Int32) × (Nat → Int32) × Nat × Nat × Bool × (Nat → Int32) × Nat
abbrev QS : Type := Nat × Nat × Nat × (Nat → Int32) × (Nat → Int32) × Nat × Nat × (Nat → Int32) × (Nat → Int32) × Nat × Int32 × (Nat → Int32) × Nat × Int32 × (Nat → Int32) × (Nat → Int32) × (Nat → Int32) × Nat × Nat
/-- the reference's object: what stays while a text is read, and what the reading changes -/
abbrev wN (a : Nat → Nat) (cI cZ : ClassId) (o : OS) (q : QS) : va_W := [(a 0, .inr (4, [.int (nI o.1), .ref (a 1), .int (nI o.2.2.1), .int (nI q.1), .ref (a 2), .ref (a 3), .ref (a 4), .ref (a 5), .ref (a 6), .ref (a 7), .int (nI q.2.2.2.2.2.1), .int (nI q.2.2.2.2.2.2.1), .ref (a 8), .ref (a 9), .int (nI o.2.2.2.2.2.2.2.2.2.1), .int (nI o.2.2.2.2.2.2.2.2.2.2.1), .int (b2i o.2.2.2.2.2.2.2.2.2.2.2.1), .ref (a 10), .ref (a 11), .int (nI q.2.2.2.2.2.2.2.2.2.1), .int q.2.2.2.2.2.2.2.2.2.2.1, .ref (a 12), .int (nI q.2.2.2.2.2.2.2.2.2.2.2.2.1), .int q.2.2.2.2.2.2.2.2.2.2.2.2.2.1, .ref (a 13), .ref (a 14), .ref (a 15), .int (nI q.2.2.2.2.2.2.2.2.2.2.2.2.2.2.2.2.2.1), .int (nI q.2.1), .long (lN q.2.2.1), .ref (a 16), .int (nI o.2.2.2.2.2.2.2.2.2.2.2.2.2), .int (nI q.2.2.2.2.2.2.2.2.2.2.2.2.2.2.2.2.2.2)])), (a 1, .inl (cI, 480, .inl o.2.1)), (a 2, .inl (cI, 192, .inl o.2.2.2.1)), (a 3, .inl (cI, 192, .inl o.2.2.2.2.1)), (a 4, .inl (cI, 26, .inl o.2.2.2.2.2.1)), (a 5, .inl (cI, 26, .inl o.2.2.2.2.2.2.1)), (a 6, .inl (cI, 1000, .inl q.2.2.2.1)), (a 7, .inl (cI, 1000, .inl q.2.2.2.2.1)), (a 8, .inl (cI, 1000, .inl o.2.2.2.2.2.2.2.1)), (a 9, .inl (cI, 1000, .inl o.2.2.2.2.2.2.2.2.1)), (a 10, .inl (cI, 520, .inl q.2.2.2.2.2.2.2.1)), (a 11, .inl (cI, 520, .inl q.2.2.2.2.2.2.2.2.1)), (a 12, .inl (cZ, 520, .inl q.2.2.2.2.2.2.2.2.2.2.2.1)), (a 13, .inl (cI, 8, .inl q.2.2.2.2.2.2.2.2.2.2.2.2.2.2.1)), (a 14, .inl (cI, 8, .inl q.2.2.2.2.2.2.2.2.2.2.2.2.2.2.2.1)), (a 15, .inl (cI, 9, .inl q.2.2.2.2.2.2.2.2.2.2.2.2.2.2.2.2.1)), (a 16, .inl (cI, 520, .inl o.2.2.2.2.2.2.2.2.2.2.2.2.1))]
theorem vp_nar_b2i (b : Bool) : vp_nar .boolean (b2i b) = b2i b := by cases b <;> decide
def hereN (tx : Nat → Int32) (len a : Nat) : Int32 := if a < len then tx a else (-1)
def isLetF (c : Int32) : Bool := decide ((97 : Int32) ≤ c ∧ c ≤ 122)
def isDigF (c : Int32) : Bool := decide ((48 : Int32) ≤ c ∧ c ≤ 57)
def wrF (f i : Nat) : Nat := if f = 0 then i + 1 else f
def wanF (tx : Nat → Int32) (len : Nat) (c : Int32) (a f : Nat) : Nat := if hereN tx len a = c then f else wrF f a
theorem wrF_b {f i : Nat} (h1 : f < 1000) (h2 : i ≤ 490) : wrF f i < 1000 := by unfold wrF; split <;> omega
theorem wanF_b {tx : Nat → Int32} {len a f : Nat} {c : Int32} (h1 : f < 1000) (h2 : a ≤ 490) : wanF tx len c a f < 1000 := by
  unfold wanF; split
  · exact h1
  · exact wrF_b h1 h2
theorem hereN_lt {tx : Nat → Int32} {len a : Nat} {c : Int32} (h : hereN tx len a = c) (hc : c ≠ (-1)) : a < len := by
  unfold hereN at h; split at h
  · assumption
  · exact absurd h.symm hc
theorem digN_lt {tx : Nat → Int32} {len a : Nat} (h : isDigF (hereN tx len a) = true) : a < len := by
  unfold hereN at h; split at h
  · assumption
  · exact absurd h (by decide)
theorem geN_lt {tx : Nat → Int32} {len a : Nat} (h : (97 : Int32) ≤ hereN tx len a) : a < len := by
  unfold hereN at h; split at h
  · assumption
  · exact absurd h (by decide)
theorem digN_ge {c : Int32} (h : isDigF c = true) : 0 ≤ c - 48 := by
  have q := of_decide_eq_true h
  obtain ⟨j, hj, rfl⟩ := nI_of2 (M := 57) (n := 57) (by decide) (Int32.not_lt.mpr (Int32.le_trans (by decide) q.1)) q.2
  have h48 : 48 ≤ j := (nI_leI (a := 48) (b := j) (by omega) (by omega)).mp q.1
  have e : nI j - 48 = nI (j - 48) := pk_sub (b := 48) h48
  rw [e]; exact nI_pos' (by omega)
theorem hexN_ge {c : Int32} (h1 : (97 : Int32) ≤ c) (h2 : c ≤ 102) : 0 ≤ c - 97 + 10 := by
  obtain ⟨j, hj, rfl⟩ := nI_of2 (M := 102) (n := 102) (by decide) (Int32.not_lt.mpr (Int32.le_trans (by decide) h1)) h2
  have h97 : 97 ≤ j := (nI_leI (a := 97) (b := j) (by omega) (by omega)).mp h1
  have e : nI j - 97 = nI (j - 97) := pk_sub (b := 97) h97
  have e2 : nI (j - 97) + 10 = nI (j - 97 + 10) := nI_add (j - 97) 10
  rw [e, e2]; exact nI_pos' (by omega)
def isLoopL (bn : Nat → Int32) (nm : Int32) : Nat → Nat → Bool → Bool
  | 0, _, is => is
  | n + 1, b, is => isLoopL bn nm n (b + 1) (if is = true then true else if bn b = nm then true else false)
def isLoopF (bn : Nat → Int32) (blocks : Nat) (nm : Int32) : Bool := isLoopL bn nm blocks 0 false
def qAt1 (q : QS) : QS := (q.1, q.2.1 + 1, q.2.2)
def qWr (i : Nat) (q : QS) : QS := (wrF q.1 i, q.2)
def qWant (tx : Nat → Int32) (len : Nat) (c : Int32) (q : QS) : QS := (wanF tx len c q.2.1 q.1, q.2.1 + 1, q.2.2)
def qStep (op v : Int32) (q : QS) : QS := (q.1, q.2.1, q.2.2.1, upd q.2.2.2.1 q.2.2.2.2.2.1 op, upd q.2.2.2.2.1 q.2.2.2.2.2.1 v, q.2.2.2.2.2.1 + 1, q.2.2.2.2.2.2)
def qPush (wh : Int32) (q : QS) : QS := (q.1, q.2.1, q.2.2.1, q.2.2.2.1, q.2.2.2.2.1, q.2.2.2.2.2.1, q.2.2.2.2.2.2.1, upd q.2.2.2.2.2.2.2.1 q.2.2.2.2.2.2.2.2.2.1 wh, upd q.2.2.2.2.2.2.2.2.1 q.2.2.2.2.2.2.2.2.2.1 0, q.2.2.2.2.2.2.2.2.2.1 + 1, q.2.2.2.2.2.2.2.2.2.2)
def qSettle (b : Bool) (q : QS) : QS := (q.1, q.2.1, q.2.2.1, q.2.2.2.1, q.2.2.2.2.1, q.2.2.2.2.2.1, q.2.2.2.2.2.2.1, q.2.2.2.2.2.2.2.1, q.2.2.2.2.2.2.2.2.1, q.2.2.2.2.2.2.2.2.2.1, q.2.2.2.2.2.2.2.2.2.2.1, upd q.2.2.2.2.2.2.2.2.2.2.2.1 q.2.2.2.2.2.2.2.2.2.2.2.2.1 (b2i b), q.2.2.2.2.2.2.2.2.2.2.2.2.1 + 1, q.2.2.2.2.2.2.2.2.2.2.2.2.2)
def qBlock (nm start product : Int32) (q : QS) : QS := (q.1, q.2.1, q.2.2.1, q.2.2.2.1, q.2.2.2.2.1, q.2.2.2.2.2.1, q.2.2.2.2.2.2.1, q.2.2.2.2.2.2.2.1, q.2.2.2.2.2.2.2.2.1, q.2.2.2.2.2.2.2.2.2.1, q.2.2.2.2.2.2.2.2.2.2.1, q.2.2.2.2.2.2.2.2.2.2.2.1, q.2.2.2.2.2.2.2.2.2.2.2.2.1, q.2.2.2.2.2.2.2.2.2.2.2.2.2.1, upd q.2.2.2.2.2.2.2.2.2.2.2.2.2.2.1 q.2.2.2.2.2.2.2.2.2.2.2.2.2.2.2.2.2.1 nm, upd q.2.2.2.2.2.2.2.2.2.2.2.2.2.2.2.1 q.2.2.2.2.2.2.2.2.2.2.2.2.2.2.2.2.2.1 start, upd q.2.2.2.2.2.2.2.2.2.2.2.2.2.2.2.2.1 (q.2.2.2.2.2.2.2.2.2.2.2.2.2.2.2.2.2.1 + 1) product, q.2.2.2.2.2.2.2.2.2.2.2.2.2.2.2.2.2.1 + 1, q.2.2.2.2.2.2.2.2.2.2.2.2.2.2.2.2.2.2)
def nEnd (lo hi start md dg : Nat) (q : QS) : QS := if dg = 0 then qWr q.2.1 q else if md < dg ∨ lN q.2.2.1 < lN lo ∨ lN hi < lN q.2.2.1 then qWr start q else q
def nLoop (tx : Nat → Int32) (len lo hi start md : Nat) (hex : Bool) : Nat → Nat → QS → QS
  | 0, dg, q => nEnd lo hi start md dg q
  | n + 1, dg, q => if isDigF (hereN tx len q.2.1) = true then nLoop tx len lo hi start md hex n (dg + 1) (qAt1 (if dg < 10 then (q.1, q.2.1, (if hex = true then 16 else 10) * q.2.2.1 + (hereN tx len q.2.1 - 48).toNatClampNeg, q.2.2.2) else q))
    else if hex = true ∧ (97 : Int32) ≤ hereN tx len q.2.1 ∧ hereN tx len q.2.1 ≤ 102 then nLoop tx len lo hi start md hex n (dg + 1) (qAt1 (if dg < 10 then (q.1, q.2.1, (if hex = true then 16 else 10) * q.2.2.1 + (hereN tx len q.2.1 - 97 + 10).toNatClampNeg, q.2.2.2) else q))
    else nEnd lo hi start md dg q
def qNumber (tx : Nat → Int32) (len lo hi : Nat) (q : QS) : QS := if hereN tx len q.2.1 = 36 then nLoop tx len lo hi q.2.1 8 true len 0 (qAt1 (q.1, q.2.1, 0, q.2.2.2)) else nLoop tx len lo hi q.2.1 10 false len 0 (q.1, q.2.1, 0, q.2.2.2)
theorem nEnd_at {lo hi start md dg : Nat} {q : QS} : (nEnd lo hi start md dg q).2.1 = q.2.1 ∧ (nEnd lo hi start md dg q).2.2.2 = q.2.2.2 := by
  unfold nEnd; split
  · exact ⟨rfl, rfl⟩
  · split <;> exact ⟨rfl, rfl⟩
theorem nLoop_at {tx : Nat → Int32} {len lo hi start md N : Nat} {hex : Bool} (hN : len ≤ N) : ∀ (n dg : Nat) (q : QS), q.2.1 ≤ N → (nLoop tx len lo hi start md hex n dg q).2.1 ≤ N ∧ (nLoop tx len lo hi start md hex n dg q).2.2.2 = q.2.2.2 := by
  intro n
  induction n with
  | zero => intro dg q h; rw [nLoop, nEnd_at.1, nEnd_at.2]; exact ⟨h, rfl⟩
  | succ n ih =>
    intro dg q h
    rw [nLoop]; split
    · rename_i z
      have hl := digN_lt z
      refine ⟨(ih _ _ ?_).1, (ih _ _ ?_).2.trans ?_⟩ <;> split <;> first | rfl | (show q.2.1 + 1 ≤ N; omega)
    · split
      · rename_i z1 z
        have hl := geN_lt z.2.1
        refine ⟨(ih _ _ ?_).1, (ih _ _ ?_).2.trans ?_⟩ <;> split <;> first | rfl | (show q.2.1 + 1 ≤ N; omega)
      · rw [nEnd_at.1, nEnd_at.2]; exact ⟨h, rfl⟩
theorem qNumber_at {tx : Nat → Int32} {len lo hi N : Nat} {q : QS} (hN : len ≤ N) (h : q.2.1 ≤ N) : (qNumber tx len lo hi q).2.1 ≤ N + 1 ∧ (qNumber tx len lo hi q).2.2.2 = q.2.2.2 := by
  unfold qNumber; split
  · have := nLoop_at (tx := tx) (lo := lo) (hi := hi) (start := q.2.1) (md := 8) (hex := true) (N := N + 1) (len := len) (by omega) len 0 (qAt1 (q.1, q.2.1, 0, q.2.2.2)) (by show q.2.1 + 1 ≤ N + 1; omega)
    exact ⟨this.1, this.2⟩
  · have := nLoop_at (tx := tx) (lo := lo) (hi := hi) (start := q.2.1) (md := 10) (hex := false) (N := N + 1) (len := len) (by omega) len 0 (q.1, q.2.1, 0, q.2.2.2) (by show q.2.1 ≤ N + 1; omega)
    exact ⟨this.1, this.2⟩
theorem nLoop_f {tx : Nat → Int32} {len lo hi start md : Nat} {hex : Bool} (hL : len ≤ 480) (hs : start ≤ 490) : ∀ (n dg : Nat) (q : QS), q.2.1 ≤ 490 → q.1 < 1000 → (nLoop tx len lo hi start md hex n dg q).1 < 1000 := by
  have hw : ∀ f i : Nat, f < 1000 → i ≤ 490 → wrF f i < 1000 := fun f i h1 h2 => by unfold wrF; split <;> omega
  have he : ∀ (dg : Nat) (q : QS), q.2.1 ≤ 490 → q.1 < 1000 → (nEnd lo hi start md dg q).1 < 1000 := by
    intro dg q h1 h2
    unfold nEnd; split
    · exact hw _ _ h2 h1
    · split
      · exact hw _ _ h2 hs
      · exact h2
  intro n
  induction n with
  | zero => intro dg q h1 h2; exact he dg q h1 h2
  | succ n ih =>
    intro dg q h1 h2
    rw [nLoop]; split
    · rename_i z
      have hl := digN_lt z
      refine ih _ _ ?_ ?_ <;> split <;> first | exact h2 | (show q.2.1 + 1 ≤ 490; omega)
    · split
      · rename_i z1 z
        have hl := geN_lt z.2.1
        refine ih _ _ ?_ ?_ <;> split <;> first | exact h2 | (show q.2.1 + 1 ≤ 490; omega)
      · exact he dg q h1 h2
theorem qNumber_f {tx : Nat → Int32} {len lo hi : Nat} {q : QS} (hL : len ≤ 480) (ha : q.2.1 ≤ 488) (hf : q.1 < 1000) : (qNumber tx len lo hi q).1 < 1000 := by
  unfold qNumber; split
  · exact nLoop_f hL (by omega) _ _ _ (by show q.2.1 + 1 ≤ 490; omega) hf
  · exact nLoop_f hL (by omega) _ _ _ (by show q.2.1 ≤ 490; omega) hf

