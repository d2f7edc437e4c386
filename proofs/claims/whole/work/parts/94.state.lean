/-- f, with v in the places from i to i + n -/
def updR (f v : Nat → Int32) (i n : Nat) : Nat → Int32 := fun j => if i ≤ j ∧ j < i + n then v j else f j
theorem updR_0 {f v : Nat → Int32} {i : Nat} : updR f v i 0 = f := funext fun j => if_neg (by omega)
theorem updR_s {f v : Nat → Int32} {i n : Nat} : updR (upd f i (v i)) v (i + 1) n = updR f v i (n + 1) := by
  funext j
  unfold updR
  by_cases h : j = i
  · subst h
    rw [if_neg (by omega), if_pos (by omega), upd_at]
  · by_cases h2 : i + 1 ≤ j ∧ j < i + 1 + n
    · rw [if_pos h2, if_pos (by omega)]
    · rw [if_neg h2, if_neg (by omega), upd_ne h]
theorem updR_c {f v w : Nat → Int32} {i n : Nat} (h : ∀ j, i ≤ j → j < i + n → v j = w j) : updR f v i n = updR f w i n := by
  funext j; unfold updR; split
  · rename_i q; exact h j q.1 q.2
  · rfl
theorem updR_in {f v : Nat → Int32} {i n j : Nat} (h : i ≤ j) (h2 : j < i + n) : updR f v i n j = v j := if_pos ⟨h, h2⟩
theorem cpy_R {f g : Nat → Int32} {n : Nat} : va_cpy f g 0 0 n = updR g f 0 n := by
  funext j; unfold va_cpy updR
  by_cases h : 0 ≤ j ∧ j < 0 + n
  · rw [if_pos h, if_pos h]; congr 1; omega
  · rw [if_neg h, if_neg h]
theorem zL_R : ∀ (n i : Nat) (o : OS), zL n i o = (o.1, o.2.1, o.2.2.1, o.2.2.2.1, o.2.2.2.2.1, updR o.2.2.2.2.2.1 (fun _ => 0) i n, o.2.2.2.2.2.2)
  | 0, i, o => by rw [zL, updR_0]
  | n + 1, i, o => by rw [zL, zL_R n (i + 1), ← updR_s]
theorem bcL_R : ∀ (n i : Nat) (o : OS), bcL n i o = (o.1, o.2.1, o.2.2.1, o.2.2.2.1, updR o.2.2.2.2.1 o.2.2.2.1 i n, o.2.2.2.2.2)
  | 0, i, o => by rw [bcL, updR_0]
  | n + 1, i, o => by rw [bcL, bcL_R n (i + 1), ← updR_s]
theorem rsL_R : ∀ (n i : Nat) (o : OS), rsL n i o = (o.1, o.2.1, o.2.2.1, updR o.2.2.2.1 o.2.2.2.2.1 i n, o.2.2.2.2)
  | 0, i, o => by rw [rsL, updR_0]
  | n + 1, i, o => by rw [rsL, rsL_R n (i + 1), ← updR_s]
theorem enL_R : ∀ (n i : Nat) (o : OS), enL n i o = (o.1, o.2.1, o.2.2.1, o.2.2.2.1, o.2.2.2.2.1, o.2.2.2.2.2.1, updR o.2.2.2.2.2.2.1 o.2.2.2.2.2.1 i n, o.2.2.2.2.2.2.2)
  | 0, i, o => by rw [enL, updR_0]
  | n + 1, i, o => by rw [enL, enL_R n (i + 1), ← updR_s]
theorem cpL_R (q : QS) : ∀ (n i : Nat) (o : OS), cpL q n i o = (o.1, o.2.1, o.2.2.1, o.2.2.2.1, o.2.2.2.2.1, o.2.2.2.2.2.1, o.2.2.2.2.2.2.1, updR o.2.2.2.2.2.2.2.1 q.2.2.2.1 i n, updR o.2.2.2.2.2.2.2.2.1 q.2.2.2.2.1 i n, o.2.2.2.2.2.2.2.2.2)
  | 0, i, o => by rw [cpL, updR_0, updR_0]
  | n + 1, i, o => by rw [cpL, cpL_R q n (i + 1), ← updR_s, ← updR_s]
theorem fLoop_R : ∀ (n i : Nat) (g : MS), fLoop n i g = (g.1, g.2.1, g.2.2.1, updR g.2.2.2.1 (fun _ => 0) i n, g.2.2.2.2)
  | 0, i, g => by rw [fLoop, updR_0]
  | n + 1, i, g => by rw [fLoop, fLoop_R n (i + 1), ← updR_s]
theorem flL_R {first by_ : Int32} : ∀ (n i : Nat) (o : OS), flL first by_ n i o = (o.1, o.2.1, o.2.2.1, fillM first by_ n i o.2.2.2.1, o.2.2.2.2)
  | 0, i, o => rfl
  | n + 1, i, o => by rw [flL, flL_R n (i + 1), fillM]
theorem cGo_inv {K F S : Nat → Int32} {sz : Nat} : ∀ (n : Nat) (x : Int32) (g : MS), InvM sz g → InvM sz (cGo K F S sz n x g)
  | 0, _, _, h => h
  | n + 1, x, g, h => by
    rw [cGo]; split
    · exact h
    · split
      · exact h
      · exact cGo_inv n _ _ (mBehind_inv h)
theorem cGo_end {K F S : Nat → Int32} {sz : Nat} {g : MS} (hs : sz ≤ 480) : ∀ (n : Nat), cGo K F S sz n (nI sz) g = g
  | 0 => rfl
  | n + 1 => by rw [cGo, if_pos (nI_le (Nat.le_refl sz) (by omega))]
/-- the class and the reference, held side by side -/
def LR (rdy : Bool) (tx : Nat → Int32) (len : Nat) (r : RS) (K F S : Nat → Int32) (sz ops : Nat) (g : MS) (o : OS) (q : QS) : Prop :=
  o.2.1 = tx ∧ o.2.2.1 = len ∧ len ≤ 480 ∧ (∀ i, i < len → ¬ tx i = 0) ∧ o.2.2.2.1 = g.1 ∧ o.2.2.2.2.2.1 = g.2.2.2.1 ∧ o.2.2.2.2.2.2.1 = g.2.2.1 ∧ g.2.2.2.2.2.1 ≤ 16 ∧ o.2.2.2.2.2.2.2.2.2.2.2.1 = rdy ∧ q.1 = r.2.1 ∧
  (if o.2.2.2.2.2.2.2.2.2.2.2.1 = true then o.2.2.2.2.2.2.2.2.2.2.1 else 0) = ops ∧ sz ≤ 480 ∧ (rdy = true → ∃ P : ST → Bool × ST, CSt K F S 0 sz 1 P ∧ RSt o.2.2.2.2.2.2.2.1 o.2.2.2.2.2.2.2.2.1 0 o.2.2.2.2.2.2.2.2.2.1 P ∧ o.2.2.2.2.2.2.2.2.2.1 ≤ 480)
theorem mStart_R {me be va na st : Nat → Int32} {tp sp : Nat} {fl : Bool} : mStart (me, be, va, na, st, tp, sp, fl) = (me, updR be me 0 192, va, updR na (fun _ => 0) 0 26, st, 0, 0, false) := by
  unfold mStart mFill; rw [fLoop_R, cpy_R]
theorem rStart_R {th ln sz wk tp : Nat} {tx me be na en ops vals pl : Nat → Int32} {rdy : Bool} : rStart (th, tx, ln, me, be, na, en, ops, vals, sz, wk, rdy, pl, tp) = (0, tx, ln, me, updR be me 0 192, updR na (fun _ => 0) 0 26, en, ops, vals, sz, wk, rdy, pl, 0) := by
  unfold rStart rS2; rw [bcL_R, zL_R]
theorem run_q {tx : Nat → Int32} {len : Nat} {r : RS} {K F S : Nat → Int32} {sz ops : Nat} {g : MS} {o : OS} {q : QS} (H : LR true tx len r K F S sz ops g o q) :
    ∃ N, rRuns N (nI 0, 0, rStart o) ∧
      ((mRunC K F S sz g).1 = true → (rRun N o).1 = nI (mRunC K F S sz g).2.2.2.2.2.2.2.1 ∧ (rRun N o).2.1 = 0) ∧ ((mRunC K F S sz g).1 = false → (rRun N o).2.1 = 2) ∧
      LR true tx len r K F S sz ops (mRunC K F S sz g).2 (rRun N o).2 q := by
  obtain ⟨me, be, va, na, st, tp, sp, fl⟩ := g
  obtain ⟨th, otx, ln, ome, obe, ona, oen, oops, ovals, osz, owk, ordy, pl, otp⟩ := o
  obtain ⟨h1, h2, h3, h4, h5, h6, h7, h8, h9, h10, h11, h12, h13⟩ := H
  obtain ⟨P, hC, hR, hz⟩ := h13 rfl
  dsimp only at h1 h2 h5 h6 h7 h8 h9 h11 hR hz
  subst h1 h2 h5 h6 h7 h9
  have h480 : sz ≤ 480 := h12
  have hT : InvM sz (cGo K F S sz 307200 (nI 0) (mStart (ome, be, oen, ona, st, tp, sp, fl))) := by
    refine cGo_inv _ _ _ ?_
    rw [mStart_R]; exact ⟨Nat.zero_le 16, h480⟩
  obtain ⟨c, st', tp', hc, ht, hg⟩ := hC K F S sz (Nat.le_refl _) h480 (fun _ _ _ => ⟨rfl, rfl, rfl⟩) ome (updR be ome 0 192) oen (updR ona (fun _ => 0) 0 26) st 0
  obtain ⟨k, pl', tp2, pc', ht2, hg2⟩ := hR otx ln ome (updR obe ome 0 192) (updR ona (fun _ => 0) 0 26) oen oops ovals osz owk true pl 0 (Nat.le_refl _) (by omega) (fun _ _ _ => ⟨rfl, rfl⟩)
  have hgo : cGo K F S sz 307200 (nI 0) (mStart (ome, be, oen, ona, st, tp, sp, fl)) = ((P (updR ona (fun _ => 0) 0 26, ome, 0)).2.2.1, updR be ome 0 192, oen, (P (updR ona (fun _ => 0) 0 26, ome, 0)).2.1, st', tp', (P (updR ona (fun _ => 0) 0 26, ome, 0)).2.2.2, (P (updR ona (fun _ => 0) 0 26, ome, 0)).1) := by
    rw [mStart_R]
    have := hg (307200 - c)
    rw [show 307200 - c + c = 307200 by omega] at this
    rw [this, cGo_end h480]
  rw [hgo] at hT
  have hT1 : tp' ≤ 16 := hT.1
  have hst : rStart (th, otx, ln, ome, obe, ona, oen, oops, ovals, osz, owk, true, pl, otp) = (0, otx, ln, ome, updR obe ome 0 192, updR ona (fun _ => 0) 0 26, oen, oops, ovals, osz, owk, true, pl, 0) := rStart_R
  refine ⟨0 + k, ?_, ?_⟩
  · rw [hst]
    refine RR_runs hg2 ⟨?_, ?_⟩
    · cases hP : (P (updR ona (fun _ => 0) 0 26, ome, 0)).1 with
      | true => right; show ¬ (2 : Nat) = 0; decide
      | false => left; show nI osz ≤ pc'; rw [(ht2 hP).2]; exact nI_le (Nat.le_refl _) (by omega)
    · show thF _ ≤ 2
      unfold thF; split <;> decide
  · have eI : rIter (0 + k) (nI 0, 0, rStart (th, otx, ln, ome, obe, ona, oen, oops, ovals, osz, owk, true, pl, otp)) = (pc', (P (updR ona (fun _ => 0) 0 26, ome, 0)).2.2.2, (thF (P (updR ona (fun _ => 0) 0 26, ome, 0)).1, otx, ln, (P (updR ona (fun _ => 0) 0 26, ome, 0)).2.2.1, updR obe ome 0 192, (P (updR ona (fun _ => 0) 0 26, ome, 0)).2.1, oen, oops, ovals, osz, owk, true, pl', tp2)) := by rw [hst]; exact RR_iter (m := 0) hg2
    have eR : rRun (0 + k) (th, otx, ln, ome, obe, ona, oen, oops, ovals, osz, owk, true, pl, otp) = rFin (rIter (0 + k) (nI 0, 0, rStart (th, otx, ln, ome, obe, ona, oen, oops, ovals, osz, owk, true, pl, otp))) := if_pos rfl
    rw [eR, eI]
    have eC : mRunC K F S sz (ome, be, oen, ona, st, tp, sp, fl) = cEnd (cGo K F S sz 307200 (nI 0) (mStart (ome, be, oen, ona, st, tp, sp, fl))) := rfl
    rw [eC, hgo]
    have same : updR (P (updR ona (fun _ => 0) 0 26, ome, 0)).2.2.1 (updR obe ome 0 192) 0 192 = updR (P (updR ona (fun _ => 0) 0 26, ome, 0)).2.2.1 (updR be ome 0 192) 0 192 := updR_c (fun j j1 j2 => by rw [updR_in j1 j2, updR_in j1 j2])
    unfold rFin cEnd
    cases hP : (P (updR ona (fun _ => 0) 0 26, ome, 0)).1 with
    | true =>
      dsimp only
      rw [if_pos rfl, if_pos (show 0 < thF true by decide), rsL_R, cpy_R]; dsimp only
      exact ⟨fun q => absurd q (by decide), fun _ => rfl, rfl, rfl, h3, h4, same, rfl, rfl, hT1, rfl, h10, h11, h12, fun _ => ⟨P, hC, hR, hz⟩⟩
    | false =>
      dsimp only
      rw [if_neg (by decide), if_neg (show ¬ 0 < thF false by decide), enL_R, cpy_R]; dsimp only
      exact ⟨fun _ => ⟨rfl, rfl⟩, fun q => absurd q (by decide), rfl, rfl, h3, h4, rfl, rfl, rfl, hT1, rfl, h10, h11, h12, fun _ => ⟨P, hC, hR, hz⟩⟩
theorem comp_q {rdy : Bool} {tx : Nat → Int32} {len : Nat} {r : RS} {K F S : Nat → Int32} {sz stm ops : Nat} {g : MS} {o : OS} {q : QS} (H : LR rdy tx len r K F S sz ops g o q) :
    ∃ N, qRuns o.2.1 o.2.2.1 N (0, qInit q) ∧
      ((mText tx len r).1 = true → (qComp N o q).1 = nI (mText tx len r).2.2.2.2.2.2.2.2.2.2.1 ∧ (qComp N o q).2.1.1 = 0 ∧
        LR true tx len (rC (mText tx len r).2 (K, F, S, sz, stm, ops)) (mText tx len r).2.2.2.2.2.2.1 (mText tx len r).2.2.2.2.2.2.2.1 (mText tx len r).2.2.2.2.2.2.2.2.1 (mText tx len r).2.2.2.2.2.2.2.2.2.1 (mText tx len r).2.2.2.2.2.2.2.2.2.2.2 g (qComp N o q).2.1 (qComp N o q).2.2) ∧
      ((mText tx len r).1 = false → (qComp N o q).2.1.1 = 1 ∧ LR rdy tx len (mText tx len r).2 K F S sz ops g (qComp N o q).2.1 (qComp N o q).2.2) := by
  obtain ⟨th, otx, ln, ome, obe, ona, oen, oops, ovals, osz, owk, ordy, pl, otp⟩ := o
  obtain ⟨h1, h2, h3, h4, h5, h6, h7, h8, h9, h10, h11, h12, h13⟩ := H
  dsimp only at h1 h2 h5 h6 h7 h8 h9 h11 h13
  subst h1 h2 h9
  obtain ⟨N, hN, hres⟩ := text_q h3 h4 r q
  refine ⟨N, hN, ?_⟩
  rcases hres with ⟨at1, num, lp1, c, P, e, e1, e2, e3, _, e4, e5, e6, e7, e8⟩ | ⟨r', e, e1, e2, e3⟩
  · rw [e]
    refine ⟨fun _ => ?_, fun q => absurd q (show ¬ (true = false) by decide)⟩
    unfold qComp; dsimp only
    rw [if_neg (by rw [e2]; decide), cpL_R, e6]
    refine ⟨rfl, rfl, rfl, rfl, h3, h4, h5, h6, h7, h8, rfl, e2, ?_, e3, fun _ => ⟨P, e7, ?_, e4⟩⟩
    · exact e5
    · have e8' : RSt (updR oops (qIter otx ln N (0, qInit q)).2.2.2.2.1 0 (qIter otx ln N (0, qInit q)).2.2.2.2.2.2.1) (updR ovals (qIter otx ln N (0, qInit q)).2.2.2.2.2.1 0 (qIter otx ln N (0, qInit q)).2.2.2.2.2.2.1) 0 (qIter otx ln N (0, qInit q)).2.2.2.2.2.2.1 P :=
        RSt_ag e8 (fun i i1 i2 => ⟨updR_in i1 (by omega), updR_in i1 (by omega)⟩)
      exact e8'
  · rw [e]
    refine ⟨fun q => absurd q (show ¬ (false = true) by decide), fun _ => ?_⟩
    unfold qComp; dsimp only
    rw [if_pos (by rw [e3]; omega)]
    exact ⟨rfl, rfl, rfl, h3, h4, h5, h6, h7, h8, rfl, e3, h11, h12, h13⟩
