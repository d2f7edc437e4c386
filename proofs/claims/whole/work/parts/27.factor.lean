/-- the level of a factor inside of 12 - d others -/
def lF : Nat → Nat
  | 0 => 8
  | d + 1 => lF d + 4
theorem lF_ge : ∀ d, 8 ≤ lF d
  | 0 => Nat.le_refl 8
  | d + 1 => Nat.le_trans (lF_ge d) (Nat.le_add_right _ 4)
theorem c_F {l : Launch} {D : va_G} {aR aT aC aK aF aS : Nat} {cC cI : ClassId} {tx : Nat → Int32} {len : Nat}  : ∀ (d ins : Nat), ins + d = 12 → ∀ r : RS, InvR len r → Mi l yX2_readFactor wsX2_readFactor (lF d) D [(cC, .char), (cI, .int)] [.ref aR, .int (nI ins)] (wR aR aT aC aK aF aS cC cI tx len r) (b2i (mF tx len d r).1) (wR aR aT aC aK aF aS cC cI tx len (mF tx len d r).2) := by
  intro d
  induction d with
  | zero =>
    intro ins h r hI
    have h12 : ins = 12 := by omega
    subst h12
    exact c_factor0 r hI
  | succ d ih =>
    intro ins h r hI
    have hF := ih (ins + 1) (by omega)
    have hT := fun r hI => c_turned (l := l) (D := D) (aR := aR) (aT := aT) (aC := aC) (aK := aK) (aF := aF) (aS := aS) (cC := cC) (cI := cI) (tx := tx) (len := len) r hI (mF tx len d) (ins + 1) (lF d) (lF_ge d) hF (mF_inv d)
    have hS := fun r hI => c_sum (l := l) (D := D) (aR := aR) (aT := aT) (aC := aC) (aK := aK) (aF := aF) (aS := aS) (cC := cC) (cI := cI) (tx := tx) (len := len) r hI (mF tx len d) (ins + 1) (lF d + 1) (Nat.le_trans (lF_ge d) (Nat.le_add_right _ 1)) hT (mF_inv d)
    exact c_factor r hI (mNest tx len (mF tx len d)) ins (lF d + 3) (Nat.le_trans (lF_ge d) (Nat.le_add_right _ 3)) (by omega) (fun r h ha => c_nested r h (mF tx len d) (ins + 1) (lF d) (lF_ge d) hF hS (mF_inv d) ha)
/-- a sum that stands in no other -/
def mS (tx : Nat → Int32) (len : Nat) : RS → Bool × RS := mSum tx len (mF tx len 12)
theorem c_S0 {l : Launch} {D : va_G} {aR aT aC aK aF aS : Nat} {cC cI : ClassId} {tx : Nat → Int32} {len : Nat}  (r : RS) (hI : InvR len r) : Mi l yX2_readSum wsX2_readSum 58 D [(cC, .char), (cI, .int)] [.ref aR, .int (nI 0)] (wR aR aT aC aK aF aS cC cI tx len r) (b2i (mS tx len r).1) (wR aR aT aC aK aF aS cC cI tx len (mS tx len r).2) :=
  c_sum r hI (mF tx len 12) 0 57 (by decide) (fun r hI => c_turned r hI (mF tx len 12) 0 56 (by decide) (c_F 12 0 rfl) (mF_inv 12)) (mF_inv 12)
theorem mS_inv {tx : Nat → Int32} {len : Nat} {r : RS} (h : InvR len r) : InvR len (mS tx len r).2 := mSum_inv (mF_inv 12) h

def bnd (x : Bool × RS) (g : RS → Bool × RS) : Bool × RS := if x.1 = true then g x.2 else (false, x.2)
def mSet (tx : Nat → Int32) (len : Nat) (r : RS) : Bool × RS := if 0 ≤ freeF tx len r then bnd (mExpect tx len 61 (r.1 + 1, r.2)) (fun a => bnd (mS tx len a) (fun b => bnd (mExpect tx len 59 b) (fun c => (true, rC c (cAdd 4 (freeF tx len r) 0 c.2.2.2.2.2))))) else (false, (r.1, r.1 + 1, r.2.2))
def mStore (tx : Nat → Int32) (len : Nat) (r : RS) : Bool × RS := bnd (mExpect tx len 91 (r.1 + 1, r.2)) (fun a => bnd (mS tx len a) (fun b => bnd (mExpect tx len 93 b) (fun c => bnd (mExpect tx len 61 c) (fun d => bnd (mS tx len d) (fun e => bnd (mExpect tx len 59 e) (fun f => (true, rC f (cAdd 5 0 0 f.2.2.2.2.2))))))))
def mBlock (tx : Nat → Int32) (len : Nat) (P : RS → Bool × RS) (r : RS) : Bool × RS := bnd (mExpect tx len 123 r) (fun a => bnd (P a) (fun b => mExpect tx len 125 b))
def mBranch (tx : Nat → Int32) (len : Nat) (B : RS → Bool × RS) (r : RS) : Bool × RS := bnd (mS tx len (r.1 + 1, r.2)) (fun a => bnd (B (rC a (cAdd 8 0 0 a.2.2.2.2.2))) (fun b => (true, rC b (cSet (csz a.2.2.2.2.2) (nI (csz b.2.2.2.2.2)) b.2.2.2.2.2))))
def mLoop (tx : Nat → Int32) (len : Nat) (B : RS → Bool × RS) (r : RS) : Bool × RS :=
  if 0 ≤ freeF tx len (r.1 + 1, r.2) then bnd (mNumber tx len 1 64 (r.1 + 1 + 1, r.2)) (fun a =>
    if 640 < a.2.2.2.2.1 * a.2.2.1 then (false, (a.1, r.1 + 1 + 1 + 1, a.2.2)) else
    bnd (B (a.1, a.2.1, a.2.2.1, a.2.2.2.1 ||| ((1 : Int32) <<< (freeF tx len (r.1 + 1, r.2) &&& 31)), a.2.2.2.2.1 * a.2.2.1, cAdd 6 (freeF tx len (r.1 + 1, r.2)) (nI a.2.2.1) a.2.2.2.2.2)) (fun b =>
      (true, (b.1, b.2.1, b.2.2.1, b.2.2.2.1 &&& (((1 : Int32) <<< (freeF tx len (r.1 + 1, r.2) &&& 31)) ^^^ (-1)), a.2.2.2.2.1, cAdd 7 (nI (csz a.2.2.2.2.2)) 0 b.2.2.2.2.2))))
  else (false, (r.1 + 1, r.1 + 1 + 1, r.2.2))
def mStmt (tx : Nat → Int32) (len : Nat) (L Br : RS → Bool × RS) (r : RS) : Bool × RS := if hereF tx len r.1 = 35 then L r else if hereF tx len r.1 = 63 then Br r else if hereF tx len r.1 = 64 then mStore tx len r else mSet tx len r
def pLoop (tx : Nat → Int32) (len : Nat) (G : RS → Bool × RS) : Nat → RS → Bool × RS
  | 0, r => (true, r)
  | n + 1, r => if hereF tx len r.1 = 0 then (true, r) else if hereF tx len r.1 = 125 then (true, r) else bnd (G (r.1, r.2.1, r.2.2.1, r.2.2.2.1, r.2.2.2.2.1, r.2.2.2.2.2.1, r.2.2.2.2.2.2.1, r.2.2.2.2.2.2.2.1, r.2.2.2.2.2.2.2.2.1, r.2.2.2.2.2.2.2.2.2.1 + 1, r.2.2.2.2.2.2.2.2.2.2)) (fun a => pLoop tx len G n a)
def mProg (tx : Nat → Int32) (len : Nat) (G : RS → Bool × RS) (r : RS) : Bool × RS := pLoop tx len G 480 r
/-- a statement inside of 8 - d loops or branches -/
def mSt (tx : Nat → Int32) (len : Nat) : Nat → RS → Bool × RS
  | 0 => mStmt tx len gRef gRef
  | d + 1 => mStmt tx len (mLoop tx len (mBlock tx len (mProg tx len (mSt tx len d)))) (mBranch tx len (mBlock tx len (mProg tx len (mSt tx len d))))
def mText (tx : Nat → Int32) (len : Nat) (r : RS) : Bool × RS := bnd (mProg tx len (mSt tx len 8) (0, 0, r.2.2.1, 0, 1, r.2.2.2.2.2.1, r.2.2.2.2.2.2.1, r.2.2.2.2.2.2.2.1, 0, 0, 0)) (fun a => mExpect tx len 0 a)
def lS : Nat → Nat
  | 0 => 62
  | d + 1 => lS d + 4
theorem lS_ge : ∀ d, 62 ≤ lS d
  | 0 => Nat.le_refl 62
  | d + 1 => Nat.le_trans (lS_ge d) (Nat.le_add_right _ 4)
theorem free_lt {tx : Nat → Int32} {len : Nat} {r : RS} (h : 0 ≤ freeF tx len r) : r.1 < len := by
  unfold freeF at h; split at h
  · rename_i q; exact name_lt q.1
  · exact absurd h (by decide)
theorem bnd_inv {len : Nat} {x : Bool × RS} {g : RS → Bool × RS} (hx : InvR len x.2) (hg : InvR len x.2 → InvR len (g x.2).2) : InvR len (bnd x g).2 := by
  unfold bnd; split
  · exact hg hx
  · exact hx
theorem mSet_inv {tx : Nat → Int32} {len : Nat} {r : RS} (h : InvR len r) : InvR len (mSet tx len r).2 := by
  unfold mSet; split
  · rename_i q
    exact bnd_inv (mExpect_inv (by decide) (at_inv h (free_lt q))) (fun h => bnd_inv (mS_inv h) (fun h => bnd_inv (mExpect_inv (by decide) h) (fun h => rC_inv h (cAdd_sz h.2.2.1))))
  · exact h
theorem mStore_inv {tx : Nat → Int32} {len : Nat} {r : RS} (h : InvR len r) (ha : r.1 < len) : InvR len (mStore tx len r).2 :=
  bnd_inv (mExpect_inv (by decide) (at_inv h ha)) (fun h => bnd_inv (mS_inv h) (fun h => bnd_inv (mExpect_inv (by decide) h) (fun h => bnd_inv (mExpect_inv (by decide) h) (fun h => bnd_inv (mS_inv h) (fun h => bnd_inv (mExpect_inv (by decide) h) (fun h => rC_inv h (cAdd_sz h.2.2.1)))))))
theorem mBlock_inv {tx : Nat → Int32} {len : Nat} {P : RS → Bool × RS} (hP : ∀ r, InvR len r → InvR len (P r).2) {r : RS} (h : InvR len r) : InvR len (mBlock tx len P r).2 :=
  bnd_inv (mExpect_inv (by decide) h) (fun h => bnd_inv (hP _ h) (fun h => mExpect_inv (by decide) h))
theorem mBranch_inv {tx : Nat → Int32} {len : Nat} {B : RS → Bool × RS} (hB : ∀ r, InvR len r → InvR len (B r).2) {r : RS} (h : InvR len r) (ha : r.1 < len) : InvR len (mBranch tx len B r).2 :=
  bnd_inv (mS_inv (at_inv h ha)) (fun h => bnd_inv (hB _ (rC_inv h (cAdd_sz h.2.2.1))) (fun h => rC_inv h (cSet_sz h.2.2.1)))
theorem mLoop_inv {tx : Nat → Int32} {len : Nat} {B : RS → Bool × RS} (hB : ∀ r, InvR len r → InvR len (B r).2) {r : RS} (h : InvR len r) (ha : r.1 < len) : InvR len (mLoop tx len B r).2 := by
  unfold mLoop; split
  · rename_i q
    have h1 : r.1 + 1 < len := free_lt q
    refine bnd_inv (mNumber_inv ⟨h1, h.2.1, h.2.2.1, h.2.2.2⟩) (fun h => ?_)
    split
    · exact h
    · rename_i z
      exact bnd_inv (hB _ ⟨h.1, h.2.1, cAdd_sz h.2.2.1, Nat.not_lt.mp z⟩) (fun h2 => ⟨h2.1, h2.2.1, cAdd_sz h2.2.2.1, h.2.2.2⟩)
  · exact ⟨ha, h.2.1, h.2.2.1, h.2.2.2⟩
theorem mStmt_inv {tx : Nat → Int32} {len : Nat} {L Br : RS → Bool × RS} (hL : ∀ r, InvR len r → r.1 < len → InvR len (L r).2) (hBr : ∀ r, InvR len r → r.1 < len → InvR len (Br r).2) {r : RS} (h : InvR len r) : InvR len (mStmt tx len L Br r).2 := by
  unfold mStmt; split
  · rename_i q; exact hL r h (here_lt q (by decide))
  · split
    · rename_i q; exact hBr r h (here_lt q (by decide))
    · split
      · rename_i q; exact mStore_inv h (here_lt q (by decide))
      · exact mSet_inv h
theorem pLoop_inv {tx : Nat → Int32} {len : Nat} {G : RS → Bool × RS} (hG : ∀ r, InvR len r → InvR len (G r).2) : ∀ (n : Nat) (r : RS), InvR len r → InvR len (pLoop tx len G n r).2 := by
  intro n
  induction n with
  | zero => intro r h; exact h
  | succ n ih =>
    intro r h
    rw [pLoop]; split
    · exact h
    · split
      · exact h
      · exact bnd_inv (hG _ h) (fun h => ih _ h)
theorem mProg_inv {tx : Nat → Int32} {len : Nat} {G : RS → Bool × RS} (hG : ∀ r, InvR len r → InvR len (G r).2) {r : RS} (h : InvR len r) : InvR len (mProg tx len G r).2 := pLoop_inv hG 480 r h
theorem mSt_inv {tx : Nat → Int32} {len : Nat} : ∀ (d : Nat) (r : RS), InvR len r → InvR len (mSt tx len d r).2 := by
  intro d
  induction d with
  | zero => intro r h; exact mStmt_inv (fun _ h _ => h) (fun _ h _ => h) h
  | succ d ih =>
    intro r h
    have hB := fun r (h : InvR len r) => mBlock_inv (tx := tx) (P := mProg tx len (mSt tx len d)) (fun r h => mProg_inv ih h) h
    exact mStmt_inv (fun _ h ha => mLoop_inv hB h ha) (fun _ h ha => mBranch_inv hB h ha) h
theorem dig_bd {c b : Int32} (h : 0 ≤ digitF c b) : (digitF c b).toNatClampNeg < 16 ∧ (¬ b = 16 → (digitF c b).toNatClampNeg < 10) := by
  unfold digitF at h ⊢
  split
  · rename_i q
    obtain ⟨j, hj, rfl⟩ := nI_of2 (M := 57) (n := 57) (by decide) (Int32.not_lt.mpr (Int32.le_trans (by decide) q.1)) q.2
    have h48 : 48 ≤ j := (nI_leI (a := 48) (b := j) (by omega) (by omega)).mp q.1
    have e : nI j - 48 = nI (j - 48) := pk_sub (b := 48) h48
    rw [e, nI_clamp (by omega)]
    omega
  · split
    · rename_i q1 q
      obtain ⟨j, hj, rfl⟩ := nI_of2 (M := 102) (n := 102) (by decide) (Int32.not_lt.mpr (Int32.le_trans (by decide) q.2.1)) q.2.2
      have h97 : 97 ≤ j := (nI_leI (a := 97) (b := j) (by omega) (by omega)).mp q.2.1
      have e : nI j - 97 = nI (j - 97) := pk_sub (b := 97) h97
      have e2 : nI (j - 97) + 10 = nI (j - 97 + 10) := nI_add (j - 97) 10
      rw [e, e2, nI_clamp (by omega)]
      exact ⟨by omega, fun z => absurd q.1 z⟩
    · rename_i q1 q2
      rw [if_neg q1, if_neg q2] at h
      exact absurd h (by decide)
theorem mNumLoop_bd {tx : Nat → Int32} {len lo hi start md base : Nat} {b32 : Int32} (hb : (base = 10 ∧ b32 = 10 ∧ md = 10) ∨ (base = 16 ∧ b32 = 16 ∧ md = 8)) (hl : lo < 2 ^ 63) (hh : hi < 2 ^ 63) : ∀ (n dg : Nat) (r : RS), r.2.2.1 < base ^ (min dg md) → (mNumLoop tx len lo hi start md base b32 n dg r).1 = true → lo ≤ (mNumLoop tx len lo hi start md base b32 n dg r).2.2.2.1 ∧ (mNumLoop tx len lo hi start md base b32 n dg r).2.2.2.1 ≤ hi := by
  have hend : ∀ (dg : Nat) (r : RS), r.2.2.1 < base ^ (min dg md) → (mNumEnd lo hi start md dg r).1 = true → lo ≤ (mNumEnd lo hi start md dg r).2.2.2.1 ∧ (mNumEnd lo hi start md dg r).2.2.2.1 ≤ hi := by
    intro dg r hr h
    have h63 : r.2.2.1 < 2 ^ 63 := by
      have h1 : base ^ (min dg md) ≤ base ^ md := Nat.pow_le_pow_right (by rcases hb with q | q <;> omega) (Nat.min_le_right _ _)
      have h2 : base ^ md ≤ 10 ^ 10 := by rcases hb with ⟨rfl, -, rfl⟩ | ⟨rfl, -, rfl⟩ <;> decide
      omega
    unfold mNumEnd at h ⊢
    split
    · rename_i q; rw [if_pos q] at h; cases h
    · rename_i q
      rw [if_neg q] at h
      split
      · rename_i z; rw [if_pos z] at h; cases h
      · rename_i z
        have z1 : ¬ lN r.2.2.1 < lN lo := fun w => z (Or.inr (Or.inl w))
        have z2 : ¬ lN hi < lN r.2.2.1 := fun w => z (Or.inr (Or.inr w))
        rw [pk_lLT h63 hl] at z1
        rw [pk_lLT hh h63] at z2
        exact ⟨Nat.not_lt.mp z1, Nat.not_lt.mp z2⟩
  intro n
  induction n with
  | zero => intro dg r hr h; exact hend dg r hr h
  | succ n ih =>
    intro dg r hr h
    rw [mNumLoop] at h ⊢
    split
    · rename_i q
      rw [if_pos q] at h
      refine ih _ _ ?_ h
      have hd : (digitF (hereF tx len r.1) b32).toNatClampNeg < base := by
        have := dig_bd q
        rcases hb with ⟨rfl, rfl, rfl⟩ | ⟨rfl, rfl, rfl⟩
        · exact this.2 (by decide)
        · exact this.1
      split
      · rename_i z
        show r.2.2.1 * base + (digitF (hereF tx len r.1) b32).toNatClampNeg < base ^ (min (dg + 1) md)
        have e1 : min dg md = dg := by omega
        have e2 : min (dg + 1) md = dg + 1 := by omega
        rw [e1] at hr
        rw [e2, Nat.pow_succ]
        calc r.2.2.1 * base + (digitF (hereF tx len r.1) b32).toNatClampNeg < r.2.2.1 * base + base := by omega
          _ = (r.2.2.1 + 1) * base := by rw [Nat.add_mul, Nat.one_mul]
          _ ≤ base ^ dg * base := Nat.mul_le_mul_right _ hr
      · rename_i z
        have e1 : min dg md = md := by omega
        have e2 : min (dg + 1) md = md := by omega
        rw [e1] at hr
        rw [e2]
        exact hr
    · rename_i q
      rw [if_neg q] at h
      exact hend dg r hr h
theorem mNumber_le {tx : Nat → Int32} {len lo hi : Nat} {r : RS} (hh : lo < 2 ^ 63 ∧ hi < 2 ^ 63) (h : (mNumber tx len lo hi r).1 = true) : lo ≤ (mNumber tx len lo hi r).2.2.2.1 ∧ (mNumber tx len lo hi r).2.2.2.1 ≤ hi := by
  unfold mNumber at h ⊢
  split
  · rename_i q; rw [if_pos q] at h; exact mNumLoop_bd (Or.inr ⟨rfl, rfl, rfl⟩) hh.1 hh.2 _ _ _ (by show 0 < _; decide) h
  · rename_i q; rw [if_neg q] at h; exact mNumLoop_bd (Or.inl ⟨rfl, rfl, rfl⟩) hh.1 hh.2 _ _ _ (by show 0 < _; decide) h

