def tLoop (tx : Nat → Int32) (len : Nat) : Nat → RS → Bool × RS
  | 0, r => (true, r)
  | n + 1, r => if hereF tx len r.1 = 60 ∨ hereF tx len r.1 = 62 then (if (mNumber tx len 1 31 (r.1 + 1, r.2)).1 = true then tLoop tx len n (rC (mNumber tx len 1 31 (r.1 + 1, r.2)).2 (cOne (hereF tx len r.1) (nI (mNumber tx len 1 31 (r.1 + 1, r.2)).2.2.2.1) (mNumber tx len 1 31 (r.1 + 1, r.2)).2.2.2.2.2.2)) else (false, (mNumber tx len 1 31 (r.1 + 1, r.2)).2)) else (true, r)
def mTurned (tx : Nat → Int32) (len : Nat) (f : RS → Bool × RS) (r : RS) : Bool × RS := if (f r).1 = true then tLoop tx len 480 (f r).2 else (false, (f r).2)
def sLoop (tx : Nat → Int32) (len : Nat) (f : RS → Bool × RS) : Nat → RS → Bool × RS
  | 0, r => (true, r)
  | n + 1, r => if isOpF (hereF tx len r.1) = true then (if (mTurned tx len f (r.1 + 1, r.2)).1 = true then sLoop tx len f n (rC (mTurned tx len f (r.1 + 1, r.2)).2 (cTwo (hereF tx len r.1) (mTurned tx len f (r.1 + 1, r.2)).2.2.2.2.2.2)) else (false, (mTurned tx len f (r.1 + 1, r.2)).2)) else (true, r)
def mSum (tx : Nat → Int32) (len : Nat) (f : RS → Bool × RS) (r : RS) : Bool × RS := if (mTurned tx len f r).1 = true then sLoop tx len f 480 (mTurned tx len f r).2 else (false, (mTurned tx len f r).2)
def mNest (tx : Nat → Int32) (len : Nat) (f : RS → Bool × RS) (r : RS) : Bool × RS :=
  if hereF tx len r.1 = 40 then (if (mSum tx len f (r.1 + 1, r.2)).1 = true then mExpect tx len 41 (mSum tx len f (r.1 + 1, r.2)).2 else (false, (mSum tx len f (r.1 + 1, r.2)).2))
  else if hereF tx len r.1 = 126 then (if (f (r.1 + 1, r.2)).1 = true then (true, rC (f (r.1 + 1, r.2)).2 (cOne (hereF tx len r.1) 0 (f (r.1 + 1, r.2)).2.2.2.2.2.2)) else (false, (f (r.1 + 1, r.2)).2))
  else if (mExpect tx len 91 (r.1 + 1, r.2)).1 = true then (if (mSum tx len f (mExpect tx len 91 (r.1 + 1, r.2)).2).1 = true then (if (mExpect tx len 93 (mSum tx len f (mExpect tx len 91 (r.1 + 1, r.2)).2).2).1 = true then (true, rC (mExpect tx len 93 (mSum tx len f (mExpect tx len 91 (r.1 + 1, r.2)).2).2).2 (cAdd 3 0 0 (mExpect tx len 93 (mSum tx len f (mExpect tx len 91 (r.1 + 1, r.2)).2).2).2.2.2.2.2.2)) else (false, (mExpect tx len 93 (mSum tx len f (mExpect tx len 91 (r.1 + 1, r.2)).2).2).2)) else (false, (mSum tx len f (mExpect tx len 91 (r.1 + 1, r.2)).2).2)) else (false, (mExpect tx len 91 (r.1 + 1, r.2)).2)
def gRef (r : RS) : Bool × RS := (false, (r.1, r.1 + 1, r.2.2))
def mFac (tx : Nat → Int32) (len : Nat) (g : RS → Bool × RS) (r : RS) : Bool × RS :=
  if 0 ≤ nameF (hereF tx len r.1) then (true, rC (r.1 + 1, r.2) (cAdd 2 (nameF (hereF tx len r.1)) 0 r.2.2.2.2.2))
  else if hereF tx len r.1 = 126 ∨ hereF tx len r.1 = 40 ∨ hereF tx len r.1 = 64 then g r
  else if (mNumber tx len 0 4294967295 r).1 = true then (true, rC (mNumber tx len 0 4294967295 r).2 (cAdd 1 (nI (mNumber tx len 0 4294967295 r).2.2.2.1) 0 (mNumber tx len 0 4294967295 r).2.2.2.2.2.2)) else (false, (mNumber tx len 0 4294967295 r).2)
/-- a factor inside of 12 - d others -/
def mF (tx : Nat → Int32) (len : Nat) : Nat → RS → Bool × RS
  | 0 => mFac tx len gRef
  | d + 1 => mFac tx len (mNest tx len (mF tx len d))
theorem name_lt {tx : Nat → Int32} {len a : Nat} (h : 0 ≤ nameF (hereF tx len a)) : a < len := by
  unfold hereF at h; split at h
  · assumption
  · exact absurd h (by decide)
theorem rC_inv {len : Nat} {r : RS} {c : CS} (h : InvR len r) (hc : csz c ≤ 480) : InvR len (rC r c) := ⟨h.1, h.2.1, hc, h.2.2.2⟩
theorem at_inv {len : Nat} {r : RS} (h : InvR len r) (ha : r.1 < len) : InvR len (r.1 + 1, r.2) := ⟨ha, h.2.1, h.2.2.1, h.2.2.2⟩
theorem mExpect_inv {tx : Nat → Int32} {len : Nat} {c : Int32} {r : RS} (hc : c ≠ 0) (h : InvR len r) : InvR len (mExpect tx len c r).2 := by
  unfold mExpect; split
  · rename_i q; exact at_inv h (here_lt q hc)
  · exact h
theorem mNumEnd_inv {len lo hi start md dg : Nat} {r : RS} (h : InvR len r) : InvR len (mNumEnd lo hi start md dg r).2 := by
  unfold mNumEnd; split
  · exact h
  · split <;> exact h
theorem mNumLoop_inv {tx : Nat → Int32} {len lo hi start md base : Nat} {b32 : Int32} : ∀ (n dg : Nat) (r : RS), InvR len r → InvR len (mNumLoop tx len lo hi start md base b32 n dg r).2 := by
  intro n
  induction n with
  | zero => intro dg r h; exact mNumEnd_inv h
  | succ n ih =>
    intro dg r h
    rw [mNumLoop]; split
    · rename_i q
      refine ih _ _ ?_
      have := dig_lt q
      split
      · exact ⟨this, h.2.1, h.2.2.1, h.2.2.2⟩
      · exact at_inv h this
    · exact mNumEnd_inv h
theorem mNumber_inv {tx : Nat → Int32} {len lo hi : Nat} {r : RS} (h : InvR len r) : InvR len (mNumber tx len lo hi r).2 := by
  unfold mNumber; split
  · rename_i q; exact mNumLoop_inv _ _ _ ⟨here_lt q (by decide), h.2.1, h.2.2.1, h.2.2.2⟩
  · exact mNumLoop_inv _ _ _ ⟨h.1, h.2.1, h.2.2.1, h.2.2.2⟩
theorem tLoop_inv {tx : Nat → Int32} {len : Nat} : ∀ (n : Nat) (r : RS), InvR len r → InvR len (tLoop tx len n r).2 := by
  intro n
  induction n with
  | zero => intro r h; exact h
  | succ n ih =>
    intro r h
    rw [tLoop]; split
    · rename_i q
      have ha : r.1 < len := q.elim (fun z => here_lt z (by decide)) (fun z => here_lt z (by decide))
      have h1 := mNumber_inv (tx := tx) (lo := 1) (hi := 31) (at_inv h ha)
      split
      · exact ih _ (rC_inv h1 (cOne_sz h1.2.2.1))
      · exact h1
    · exact h
theorem mTurned_inv {tx : Nat → Int32} {len : Nat} {f : RS → Bool × RS} (hf : ∀ r, InvR len r → InvR len (f r).2) {r : RS} (h : InvR len r) : InvR len (mTurned tx len f r).2 := by
  unfold mTurned; split
  · exact tLoop_inv _ _ (hf r h)
  · exact hf r h
theorem sLoop_inv {tx : Nat → Int32} {len : Nat} {f : RS → Bool × RS} (hf : ∀ r, InvR len r → InvR len (f r).2) : ∀ (n : Nat) (r : RS), InvR len r → InvR len (sLoop tx len f n r).2 := by
  intro n
  induction n with
  | zero => intro r h; exact h
  | succ n ih =>
    intro r h
    rw [sLoop]; split
    · rename_i q
      have h1 := mTurned_inv (tx := tx) hf (at_inv h (isOp_lt q))
      split
      · exact ih _ (rC_inv h1 (cTwo_sz h1.2.2.1))
      · exact h1
    · exact h
theorem mSum_inv {tx : Nat → Int32} {len : Nat} {f : RS → Bool × RS} (hf : ∀ r, InvR len r → InvR len (f r).2) {r : RS} (h : InvR len r) : InvR len (mSum tx len f r).2 := by
  unfold mSum; split
  · exact sLoop_inv hf _ _ (mTurned_inv hf h)
  · exact mTurned_inv hf h
theorem mNest_inv {tx : Nat → Int32} {len : Nat} {f : RS → Bool × RS} (hf : ∀ r, InvR len r → InvR len (f r).2) {r : RS} (h : InvR len r) (ha : r.1 < len) : InvR len (mNest tx len f r).2 := by
  have h0 := at_inv h ha
  have h1 := mSum_inv (tx := tx) hf h0
  have h2 := hf _ h0
  have h3 := mExpect_inv (tx := tx) (c := 91) (by decide) h0
  have h4 := mSum_inv (tx := tx) hf h3
  have h5 := mExpect_inv (tx := tx) (c := 93) (by decide) h4
  unfold mNest; split
  · split
    · exact mExpect_inv (by decide) h1
    · exact h1
  · split
    · split
      · exact rC_inv h2 (cOne_sz h2.2.2.1)
      · exact h2
    · split
      · split
        · split
          · exact rC_inv h5 (cAdd_sz h5.2.2.1)
          · exact h5
        · exact h4
      · exact h3
theorem mFac_inv {tx : Nat → Int32} {len : Nat} {g : RS → Bool × RS} (hg : ∀ r, InvR len r → r.1 < len → InvR len (g r).2) {r : RS} (h : InvR len r) : InvR len (mFac tx len g r).2 := by
  have h1 := mNumber_inv (tx := tx) (lo := 0) (hi := 4294967295) h
  unfold mFac; split
  · rename_i q; exact rC_inv (at_inv h (name_lt q)) (cAdd_sz h.2.2.1)
  · split
    · rename_i q; exact hg r h (q.elim (fun z => here_lt z (by decide)) (fun z => z.elim (fun z => here_lt z (by decide)) (fun z => here_lt z (by decide))))
    · split
      · exact rC_inv h1 (cAdd_sz h1.2.2.1)
      · exact h1
theorem mF_inv {tx : Nat → Int32} {len : Nat} : ∀ (d : Nat) (r : RS), InvR len r → InvR len (mF tx len d r).2 := by
  intro d
  induction d with
  | zero => intro r h; exact mFac_inv (fun _ h _ => h) h
  | succ d ih => intro r h; exact mFac_inv (fun _ h ha => mNest_inv ih h ha) h

