abbrev CS : Type := (Nat → Int32) × (Nat → Int32) × (Nat → Int32) × Nat × Nat × Nat
/-- the reader's state: at, fault, number, loops, turns, and the code: kinds, firsts, seconds, size, statements, operators -/
abbrev RS : Type := Nat × Nat × Nat × Int32 × Nat × CS
abbrev wR (aR aT aC aK aF aS : Nat) (cC cI : ClassId) (tx : Nat → Int32) (len : Nat) (r : RS) : va_W :=
  [(aR, .inr (2, [.ref aT, .int (nI len), .ref aC, .int (nI r.1), .int (nI r.2.1), .long (lN r.2.2.1), .int r.2.2.2.1, .int (nI r.2.2.2.2.1)])), (aT, .inl (cC, 480, .inl tx)),
   (aC, .inr (0, [.ref aK, .ref aF, .ref aS, .int (nI r.2.2.2.2.2.2.2.2.1), .int (nI r.2.2.2.2.2.2.2.2.2.1), .int (nI r.2.2.2.2.2.2.2.2.2.2)])), (aK, .inl (cI, 480, .inl r.2.2.2.2.2.1)), (aF, .inl (cI, 480, .inl r.2.2.2.2.2.2.1)), (aS, .inl (cI, 480, .inl r.2.2.2.2.2.2.2.1))]
theorem b2i_fit (b : Bool) : fits .boolean (.int (b2i b)) = true := by cases b <;> decide
/-- the reader's state with another code -/
def rC (r : RS) (c : CS) : RS := (r.1, r.2.1, r.2.2.1, r.2.2.2.1, r.2.2.2.2.1, c)
abbrev csz (c : CS) : Nat := c.2.2.2.1
def ofOneF (op wd bits : Int32) : Int32 := if op = 60 then (wd <<< (bits &&& 31)) ||| (wd.toUInt32 >>> (((32 : Int32) - bits).toUInt32 &&& Int32.toUInt32 31)).toInt32 else if op = 62 then (wd.toUInt32 >>> (bits.toUInt32 &&& Int32.toUInt32 31)).toInt32 else wd ^^^ (-1)
def ofTwoF (op a b : Int32) : Int32 := if op = 43 then a + b else if op = 45 then a - b else if op = 42 then a * b else if op = 38 then a &&& b else if op = 124 then a ||| b else a ^^^ b
def cAdd (k f s : Int32) (c : CS) : CS := if csz c < 480 then (upd c.1 (csz c) k, upd c.2.1 (csz c) f, upd c.2.2.1 (csz c) s, csz c + 1, c.2.2.2.2) else c
def cEnds (many : Nat) (c : CS) : Bool := decide (many ≤ csz c ∧ c.1 (csz c - 1) = 1 ∧ (many = 2 → c.1 (csz c - 2) = 1))
def cOne (op bits : Int32) (c : CS) : CS := if cEnds 1 c = true then (c.1, upd c.2.1 (csz c - 1) (ofOneF op (c.2.1 (csz c - 1)) bits), c.2.2) else ((cAdd op bits 0 c).1, (cAdd op bits 0 c).2.1, (cAdd op bits 0 c).2.2.1, (cAdd op bits 0 c).2.2.2.1, (cAdd op bits 0 c).2.2.2.2.1, (cAdd op bits 0 c).2.2.2.2.2 + 1)
def cTwo (op : Int32) (c : CS) : CS := if cEnds 2 c = true then (c.1, upd c.2.1 (csz c - 1 - 1) (ofTwoF op (c.2.1 (csz c - 1 - 1)) (c.2.1 (csz c - 1))), c.2.2.1, csz c - 1, c.2.2.2.2) else ((cAdd op 0 0 c).1, (cAdd op 0 0 c).2.1, (cAdd op 0 0 c).2.2.1, (cAdd op 0 0 c).2.2.2.1, (cAdd op 0 0 c).2.2.2.2.1, (cAdd op 0 0 c).2.2.2.2.2 + 1)
def cSet (at_ : Nat) (v : Int32) (c : CS) : CS := if at_ < csz c then (c.1, upd c.2.1 at_ v, c.2.2) else c
theorem cAdd_sz {k f s : Int32} {c : CS} (h : csz c ≤ 480) : csz (cAdd k f s c) ≤ 480 := by
  unfold cAdd; split
  · show csz c + 1 ≤ 480; omega
  · exact h
theorem cOne_sz {k f : Int32} {c : CS} (h : csz c ≤ 480) : csz (cOne k f c) ≤ 480 := by
  unfold cOne; split
  · exact h
  · exact cAdd_sz (k := k) (f := f) (s := 0) h
theorem cTwo_sz {k : Int32} {c : CS} (h : csz c ≤ 480) : csz (cTwo k c) ≤ 480 := by
  unfold cTwo; split
  · show csz c - 1 ≤ 480; omega
  · exact cAdd_sz (k := k) (f := 0) (s := 0) h
theorem cSet_sz {k : Nat} {f : Int32} {c : CS} (h : csz c ≤ 480) : csz (cSet k f c) ≤ 480 := by
  unfold cSet; split <;> exact h
def hereF (tx : Nat → Int32) (len a : Nat) : Int32 := if a < len then tx a else 0
def nameF (c : Int32) : Int32 := if (97 : Int32) ≤ c ∧ c ≤ 122 then c - 97 else (-1)
/-- what the reader's numbers keep to -/
def InvR (len : Nat) (r : RS) : Prop := r.1 ≤ len ∧ len ≤ 480 ∧ csz r.2.2.2.2.2 ≤ 480 ∧ r.2.2.2.2.1 ≤ 640

