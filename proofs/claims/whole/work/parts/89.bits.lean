/-- no loop around has the name k -/
def LB (lp : Int32) (k : Nat) : Prop := lp >>> (nI k &&& 31) &&& 1 = 0
theorem lb_k : ∀ j : Fin 26, ((nI j.1 &&& 31).toBitVec.smod 32).toNat = j.1 := by decide +kernel
theorem LB_iff {x : Int32} {j : Nat} (hj : j < 26) : LB x j ↔ x.toBitVec.getLsbD j = false := by
  have e := lb_k ⟨j, hj⟩
  have e2 : ((x >>> (nI j &&& 31)) &&& 1).toBitVec = x.toBitVec.sshiftRight j &&& 1#32 := by
    rw [Int32.toBitVec_and, Int32.toBitVec_shiftRight, BitVec.sshiftRight_eq', e]; rfl
  constructor
  · intro h
    have h2 : x.toBitVec.sshiftRight j &&& 1#32 = 0#32 := by rw [← e2, h]; rfl
    have h3 := congrArg (fun b => b.getLsbD 0) h2
    simp only [BitVec.getLsbD_and, BitVec.getLsbD_sshiftRight] at h3
    simpa [show j < 32 by omega] using h3
  · intro h
    refine Int32.toBitVec_inj.mp ?_
    rw [e2]
    show _ = 0#32
    refine BitVec.eq_of_getLsbD_eq (fun i hi => ?_)
    rw [BitVec.getLsbD_and, BitVec.getLsbD_sshiftRight]
    by_cases h0 : i = 0
    · subst h0; rw [BitVec.getLsbD_eq_getElem (by omega)] at h; simp [show j < 32 by omega, h]
    · simp [h0]
theorem bit_k : ∀ k : Fin 26, ((1 : Int32) <<< (nI k.1 &&& 31)).toBitVec = BitVec.twoPow 32 k.1 := by decide +kernel
theorem LB_or {x : Int32} {j k : Nat} (hj : j < 26) (hk : k < 26) : LB (x ||| ((1 : Int32) <<< (nI k &&& 31))) j ↔ LB x j ∧ j ≠ k := by
  rw [LB_iff hj, LB_iff hj, Int32.toBitVec_or, bit_k ⟨k, hk⟩, BitVec.getLsbD_or, BitVec.getLsbD_twoPow]
  have h32 : k < 32 := by omega
  cases x.toBitVec.getLsbD j <;> simp [h32] <;> omega
theorem LB_an {x : Int32} {j k : Nat} (hj : j < 26) (hk : k < 26) : LB (x &&& (((1 : Int32) <<< (nI k &&& 31)) ^^^ (-1))) j ↔ LB x j ∨ j = k := by
  have h1 : (-1 : Int32).toBitVec = BitVec.allOnes 32 := by decide
  rw [LB_iff hj, LB_iff hj, Int32.toBitVec_and, Int32.toBitVec_xor, bit_k ⟨k, hk⟩, h1, BitVec.getLsbD_and, BitVec.getLsbD_xor, BitVec.getLsbD_twoPow, BitVec.getLsbD_allOnes]
  have h32 : k < 32 := by omega
  have h33 : j < 32 := by omega
  cases x.toBitVec.getLsbD j <;> simp [h32, h33] <;> omega
theorem isLoopL_ag {bn bn' : Nat → Int32} {nm : Int32} : ∀ (n b : Nat) (is : Bool), (∀ i, b ≤ i → i < b + n → bn' i = bn i) → isLoopL bn' nm n b is = isLoopL bn nm n b is
  | 0, _, _, _ => rfl
  | n + 1, b, is, h => by rw [isLoopL, isLoopL, h b (Nat.le_refl b) (by omega)]; exact isLoopL_ag n (b + 1) _ (fun i h1 h2 => h i (by omega) (by omega))
theorem isLoopL_snoc {bn : Nat → Int32} {nm : Int32} : ∀ (n b : Nat) (is : Bool), isLoopL bn nm (n + 1) b is = (if isLoopL bn nm n b is = true then true else if bn (b + n) = nm then true else false)
  | 0, b, is => by rw [isLoopL, isLoopL, isLoopL]; rfl
  | n + 1, b, is => by
    rw [isLoopL, isLoopL_snoc n (b + 1), isLoopL, show b + 1 + n = b + (n + 1) by omega]
theorem isLoop_ag {bn bn' : Nat → Int32} {nm : Int32} {bl : Nat} (h : ∀ i, i < bl → bn' i = bn i) : isLoopF bn' bl nm = isLoopF bn bl nm := isLoopL_ag bl 0 false (fun i _ h2 => h i (by omega))
theorem isLoop_push {bn : Nat → Int32} {nm x : Int32} {bl : Nat} : isLoopF (upd bn bl x) (bl + 1) nm = false ↔ isLoopF bn bl nm = false ∧ ¬ x = nm := by
  have e : isLoopL (upd bn bl x) nm bl 0 false = isLoopF bn bl nm := isLoop_ag (fun i hi => upd_ne (by omega))
  have e2 : upd bn bl x (0 + bl) = x := by rw [Nat.zero_add, upd_at]
  unfold isLoopF at e ⊢
  rw [isLoopL_snoc, e, e2]
  cases isLoopL bn nm bl 0 false <;> simp
def GoodS (len d at0 : Nat) (c0 : CS) (dsz : Nat) (lp : Int32) (tu : Nat) (bn bs pr : Nat → Int32) (bl : Nat) : Prop :=
  at0 ≤ len ∧ csz c0 ≤ at0 ∧ dsz ≤ at0 ∧ bl + d = 8 ∧ BSt bs bl ∧ (∀ k, k < 26 → (LB lp k ↔ isLoopF bn bl (nI k) = false)) ∧ pr bl = nI tu ∧ 1 ≤ tu ∧ tu ≤ 640
/-- statements read: what both readers have done -/
def PR (tx : Nat → Int32) (len at0 : Nat) (c0 : CS) (lp : Int32) (tu : Nat) (dop dva : Nat → Int32) (dsz : Nat) (bn bs pr : Nat → Int32) (bl : Nat) (start : Nat × QS) (out : Bool × RS) (Q : Nat → Prop) : Prop :=
  (∃ (at1 num num1 : Nat) (lp1 : Int32) (c : CS) (dop1 dva1 : Nat → Int32) (dsz1 : Nat) (opn1 pnd1 stl1 : Nat → Int32) (asg1 : Int32) (bn1 bs1 pr1 : Nat → Int32) (P : ST → Bool × ST) (k : Nat),
     out = (true, (at1, 0, num, lp1, tu, c)) ∧ (∀ j, j < 26 → (LB lp1 j ↔ LB lp j)) ∧ at0 ≤ at1 ∧ at1 ≤ len ∧ Q at1 ∧ csz c0 ≤ csz c ∧ csz c + at0 ≤ csz c0 + at1 ∧
     (∀ i, i < csz c0 → c.1 i = c0.1 i ∧ c.2.1 i = c0.2.1 i ∧ c.2.2.1 i = c0.2.2.1 i) ∧ dsz ≤ dsz1 ∧ dsz1 + at0 ≤ dsz + at1 ∧ (∀ i, i < dsz → dop1 i = dop i ∧ dva1 i = dva i) ∧
     CSt c.1 c.2.1 c.2.2.1 (csz c0) (csz c) tu P ∧ RSt dop1 dva1 dsz dsz1 P ∧ (∀ j, j < 26 → ¬ LB lp j → Keep P j) ∧
     (∀ i, i < bl → bn1 i = bn i ∧ bs1 i = bs i) ∧ (∀ i, i ≤ bl → pr1 i = pr i) ∧
     QQ tx len k start (0, (0, at1, num1, dop1, dva1, dsz1, c.2.2.2.2.2, opn1, pnd1, 0, 0, stl1, 0, asg1, bn1, bs1, pr1, bl, c.2.2.2.2.1))) ∨
  (∃ (r' : RS) (k : Nat) (y : Nat × QS), out = (false, r') ∧ 1 ≤ r'.2.1 ∧ r'.2.1 ≤ len + 1 ∧ QQ tx len k start y ∧ QEnd r'.2.1 y)
