abbrev QI (below : List Frame) (D : va_G) (tys : List (ClassId × FieldType)) (av : List Value) (w : va_W) (rv : Int32) (w1 : va_W) (s : State) : State → Prop := MQ below (qI D tys w rv w1 s.heap.size) av.toArray s 0 0 (va_A w s.heap.size)
abbrev QV (below : List Frame) (D : va_G) (tys : List (ClassId × FieldType)) (av : List Value) (w : va_W) (w1 : va_W) (s : State) : State → Prop := MQ below (qV D tys w w1 s.heap.size) av.toArray s 0 0 (va_A w s.heap.size)
theorem Z.sub {p : Program} {l : Launch} {e : Env} {R : Room} {s : State} {m : MethodId} {args : Array Value} {below : List Frame} {meth : Method} {c : Code} {nL : Nat} {D : va_G} {A : Nat → Prop} {Q : State → Prop} {w : va_W} {lv lv' : List (Nat × Value)} {pc : Nat} {st : List Value} (ks : List Nat) (h : lv_pick lv ks = lv') (k : Z p l e R s m args below meth c nL D A Q w lv' pc st) : Z p l e R s m args below meth c nL D A Q w lv pc st :=
  fun H locs ls hP hD hS hl => k H locs ls hP hD hS (lv_sub hl ks h)
theorem rm_ok {n k maxL : Nat} (h : n + 1 ≤ k) (hm : maxL ≤ 13) : n + 1 ≤ (rmN k).frames ∧ 8 + (maxL + 11) + 32 * n ≤ (rmN k).locals := ⟨h, by show _ ≤ 32 * k; omega⟩
theorem lgc_lt {x y : Int64} : lg_cmp x y < 0 ↔ x < y := by
  rw [← Int32.not_le, lg_cmp_ge, Int64.not_le]
theorem lgc_le {x y : Int64} : lg_cmp x y ≤ 0 ↔ ¬ y < x := by
  unfold lg_cmp; split
  · rename_i h; exact ⟨fun q => absurd q (by decide), fun q => absurd h q⟩
  · rename_i h; split <;> exact ⟨fun _ => h, fun _ => by decide⟩
theorem i64_of {x : Int32} (h : 0 ≤ x) : x.toInt64 = lN x.toNatClampNeg := by
  obtain ⟨j, hj, rfl⟩ := nI_of (Int32.not_lt.mpr h)
  rw [nI_l hj, nI_clamp hj]
abbrev CS : Type := (Nat → Int32) × (Nat → Int32) × (Nat → Int32) × Nat × Nat × Nat
/-- the reader's state: at, fault, number, loops, turns, and the code: kinds, firsts, seconds, size, statements, operators -/
abbrev RS : Type := Nat × Nat × Nat × Int32 × Nat × CS
abbrev wR (aR aT aC aK aF aS : Nat) (cC cI : ClassId) (tx : Nat → Int32) (len : Nat) (r : RS) : va_W :=
  [(aR, .inr (2, [.ref aT, .int (nI len), .ref aC, .int (nI r.1), .int (nI r.2.1), .long (lN r.2.2.1), .int r.2.2.2.1, .int (nI r.2.2.2.2.1)])), (aT, .inl (cC, 480, .inl tx)),
   (aC, .inr (0, [.ref aK, .ref aF, .ref aS, .int (nI r.2.2.2.2.2.2.2.2.1), .int (nI r.2.2.2.2.2.2.2.2.2.1), .int (nI r.2.2.2.2.2.2.2.2.2.2)])), (aK, .inl (cI, 480, .inl r.2.2.2.2.2.1)), (aF, .inl (cI, 480, .inl r.2.2.2.2.2.2.1)), (aS, .inl (cI, 480, .inl r.2.2.2.2.2.2.2.1))]
theorem b2i_fit (b : Bool) : fits .boolean (.int (b2i b)) = true := by cases b <;> decide
/-- the reader's state with another code -/
def rC (r : RS) (c : CS) : RS := (r.1, r.2.1, r.2.2.1, r.2.2.2.1, r.2.2.2.2.1, c)
abbrev csz (c : CS) : Nat := c.2.2.2.1
def ofOneF (op wd bits : Int32) : Int32 := if op = 60 then (wd <<< (bits &&& 31)) ||| (wd.toUInt32 >>> (((32 : Int32) - bits).toUInt32 &&& Int32.toUInt32 31)).toInt32 else if op = 62 then (wd.toUInt32 >>> (bits.toUInt32 &&& Int32.toUInt32 31)).toInt32 else wd ^^^ (-1)
def ofTwoF (op a b : Int32) : Int32 := if op = 43 then a + b else if op = 45 then a - b else if op = 42 then a * b else if op = 38 then a &&& b else if op = 124 then a ||| b else a ^^^ b
def cAdd (k f s : Int32) (c : CS) : CS := if csz c < 480 then (upd c.1 (csz c) k, upd c.2.1 (csz c) f, upd c.2.2.1 (csz c) s, csz c + 1, c.2.2.2.2) else c
def cEnds (many : Nat) (c : CS) : Bool := decide (many ≤ csz c ∧ c.1 (csz c - 1) = 1 ∧ (many = 2 → c.1 (csz c - 2) = 1))
def cOne (op bits : Int32) (c : CS) : CS := if cEnds 1 c = true then (c.1, upd c.2.1 (csz c - 1) (ofOneF op (c.2.1 (csz c - 1)) bits), c.2.2) else ((cAdd op bits 0 c).1, (cAdd op bits 0 c).2.1, (cAdd op bits 0 c).2.2.1, (cAdd op bits 0 c).2.2.2.1, (cAdd op bits 0 c).2.2.2.2.1, (cAdd op bits 0 c).2.2.2.2.2 + 1)
def cTwo (op : Int32) (c : CS) : CS := if cEnds 2 c = true then (c.1, upd c.2.1 (csz c - 1 - 1) (ofTwoF op (c.2.1 (csz c - 1 - 1)) (c.2.1 (csz c - 1))), c.2.2.1, csz c - 1, c.2.2.2.2) else ((cAdd op 0 0 c).1, (cAdd op 0 0 c).2.1, (cAdd op 0 0 c).2.2.1, (cAdd op 0 0 c).2.2.2.1, (cAdd op 0 0 c).2.2.2.2.1, (cAdd op 0 0 c).2.2.2.2.2 + 1)
def cSet (at_ : Nat) (v : Int32) (c : CS) : CS := if at_ < csz c then (c.1, upd c.2.1 at_ v, c.2.2) else c
theorem cAdd_sz {k f s : Int32} {c : CS} (h : csz c ≤ 480) : csz (cAdd k f s c) ≤ 480 := by
  unfold cAdd; split
  · show csz c + 1 ≤ 480; omega
  · exact h
theorem cOne_sz {k f : Int32} {c : CS} (h : csz c ≤ 480) : csz (cOne k f c) ≤ 480 := by
  unfold cOne; split
  · exact h
  · exact cAdd_sz (k := k) (f := f) (s := 0) h
theorem cTwo_sz {k : Int32} {c : CS} (h : csz c ≤ 480) : csz (cTwo k c) ≤ 480 := by
  unfold cTwo; split
  · show csz c - 1 ≤ 480; omega
  · exact cAdd_sz (k := k) (f := 0) (s := 0) h
theorem cSet_sz {k : Nat} {f : Int32} {c : CS} (h : csz c ≤ 480) : csz (cSet k f c) ≤ 480 := by
  unfold cSet; split <;> exact h
def hereF (tx : Nat → Int32) (len a : Nat) : Int32 := if a < len then tx a else 0
theorem here_lt {tx : Nat → Int32} {len a : Nat} {c : Int32} (h : hereF tx len a = c) (hc : c ≠ 0) : a < len := by
  unfold hereF at h; split at h
  · assumption
  · exact absurd h.symm hc
def digitF (c base : Int32) : Int32 := if (48 : Int32) ≤ c ∧ c ≤ 57 then c - 48 else if base = 16 ∧ (97 : Int32) ≤ c ∧ c ≤ 102 then c - 97 + 10 else (-1)
theorem dig_lt {tx : Nat → Int32} {len a : Nat} {b : Int32} (h : 0 ≤ digitF (hereF tx len a) b) : a < len := by
  unfold hereF at h; split at h
  · assumption
  · exfalso; revert h; unfold digitF
    rw [if_neg (by decide), if_neg (fun q => absurd q.2.1 (by decide))]; decide
def isOpF (c : Int32) : Bool := decide (c = 38 ∨ c = 42 ∨ c = 43 ∨ c = 45 ∨ c = 94 ∨ c = 124)
theorem isOp_lt {tx : Nat → Int32} {len a : Nat} (h : isOpF (hereF tx len a) = true) : a < len := by
  unfold hereF at h; split at h
  · assumption
  · exact absurd h (by decide)
def nameF (c : Int32) : Int32 := if (97 : Int32) ≤ c ∧ c ≤ 122 then c - 97 else (-1)
def mExpect (tx : Nat → Int32) (len : Nat) (c : Int32) (r : RS) : Bool × RS := if hereF tx len r.1 = c then (true, (r.1 + 1, r.2)) else (false, (r.1, r.1 + 1, r.2.2))
def freeF (tx : Nat → Int32) (len : Nat) (r : RS) : Int32 := if 0 ≤ nameF (hereF tx len r.1) ∧ r.2.2.2.1 >>> (nameF (hereF tx len r.1) &&& 31) &&& 1 = 0 then nameF (hereF tx len r.1) else (-1)
def mNumEnd (lo hi start md dg : Nat) (r : RS) : Bool × RS := if dg = 0 then (false, (r.1, r.1 + 1, r.2.2)) else if md < dg ∨ lN r.2.2.1 < lN lo ∨ lN hi < lN r.2.2.1 then (false, (r.1, start + 1, r.2.2)) else (true, r)
def mNumLoop (tx : Nat → Int32) (len lo hi start md base : Nat) (b32 : Int32) : Nat → Nat → RS → Bool × RS
  | 0, dg, r => mNumEnd lo hi start md dg r
  | n + 1, dg, r => if 0 ≤ digitF (hereF tx len r.1) b32 then mNumLoop tx len lo hi start md base b32 n (dg + 1) (if dg < md then (r.1 + 1, r.2.1, r.2.2.1 * base + (digitF (hereF tx len r.1) b32).toNatClampNeg, r.2.2.2) else (r.1 + 1, r.2)) else mNumEnd lo hi start md dg r
def mNumber (tx : Nat → Int32) (len lo hi : Nat) (r : RS) : Bool × RS := if hereF tx len r.1 = 36 then mNumLoop tx len lo hi r.1 8 16 16 480 0 (r.1 + 1, r.2.1, 0, r.2.2.2) else mNumLoop tx len lo hi r.1 10 10 10 480 0 (r.1, r.2.1, 0, r.2.2.2)
/-- what the reader's numbers keep to -/
def InvR (len : Nat) (r : RS) : Prop := r.1 ≤ len ∧ len ≤ 480 ∧ csz r.2.2.2.2.2 ≤ 480 ∧ r.2.2.2.2.1 ≤ 640

