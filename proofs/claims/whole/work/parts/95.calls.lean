theorem by_q (x : Int64) (k : Nat) : byC x k = byN x (8 * k) := by
  unfold byC byN
  rw [Int64.toInt32_and]; rfl
theorem i33 {c : Int32} : (33 : Int32) ≤ c ↔ ¬ c ≤ 32 := by
  rw [Int32.le_iff_toInt_le, Int32.le_iff_toInt_le, show (33 : Int32).toInt = 33 by decide, show (32 : Int32).toInt = 32 by decide]; omega
theorem i126 {c : Int32} : c ≤ (126 : Int32) ↔ ¬ 127 ≤ c := by
  rw [Int32.le_iff_toInt_le, Int32.le_iff_toInt_le, show (126 : Int32).toInt = 126 by decide, show (127 : Int32).toInt = 127 by decide]; omega
theorem i25 {c : Int32} : c ≤ (25 : Int32) ↔ ¬ 26 ≤ c := by
  rw [Int32.le_iff_toInt_le, Int32.le_iff_toInt_le, show (25 : Int32).toInt = 25 by decide, show (26 : Int32).toInt = 26 by decide]; omega
theorem wr1_f {x : Int64} : ∀ (n k more : Nat), (wr1 x n k more false).2 = false
  | 0, _, _ => rfl
  | n + 1, k, more => by rw [wr1, if_neg (show ¬ (false = true) by decide)]; exact wr1_f n (k + 8) _
theorem wr1_c {x : Int64} : ∀ (n k more : Nat) (f : Bool), (wr1 x n k more f).1 = more + cntN x n k
  | 0, _, _, _ => rfl
  | n + 1, k, more, f => by
    rw [wr1, wr1_c n (k + 8), cntN]; split <;> omega
theorem cw1_q {x : Int64} : ∀ (n k a : Nat), (cw1 x n k a).1 = (wr1 x n (8 * k) a true).2 ∧ ((cw1 x n k a).1 = true → (cw1 x n k a).2 = a + cntN x n (8 * k))
  | 0, _, _ => ⟨rfl, fun _ => rfl⟩
  | n + 1, k, a => by
    rw [cw1, wr1, cntN, ← by_q, if_pos rfl]
    have e8 : 8 * k + 8 = 8 * (k + 1) := by omega
    by_cases h0 : byC x k = 0
    · rw [if_pos h0, if_pos h0, if_pos h0, if_pos h0, e8, Nat.zero_add]
      exact cw1_q n (k + 1) a
    · rw [if_neg h0, if_neg h0, if_neg h0, if_neg h0]
      by_cases h33 : (33 : Int32) ≤ byC x k
      · rw [if_pos h33, if_neg (i33.mp h33)]
        by_cases h126 : byC x k ≤ 126
        · rw [if_pos h126, if_neg (i126.mp h126), e8]
          obtain ⟨h1, h2⟩ := cw1_q (x := x) n (k + 1) (a + 1)
          exact ⟨h1, fun q => by rw [h2 q]; omega⟩
        · rw [if_neg h126, if_pos (Classical.byContradiction fun q => h126 (i126.mpr q)), wr1_f]
          exact ⟨rfl, fun q => absurd (show false = true from q) (by decide)⟩
      · rw [if_neg h33, if_pos (Classical.byContradiction fun q => h33 (i33.mpr q)), wr1_f]
        exact ⟨rfl, fun q => absurd (show false = true from q) (by decide)⟩
theorem cw2_q {x : Int64} : ∀ (n k : Nat) (tx : Nat → Int32) (len : Nat) (o : OS), o.2.1 = tx → o.2.2.1 = len → len + cntN x n (8 * k) ≤ 480 → (∀ i, i < len → ¬ tx i = 0) →
    wr2 x n (8 * k) o = (o.1, (cw2 x n k (tx, len)).1, (cw2 x n k (tx, len)).2, o.2.2.2) ∧ (cw2 x n k (tx, len)).2 ≤ 480 ∧ (∀ i, i < (cw2 x n k (tx, len)).2 → ¬ (cw2 x n k (tx, len)).1 i = 0)
  | 0, k, tx, len, o, h1, h2, h3, h4 => by
    subst h1 h2; exact ⟨rfl, by unfold cw2; show o.2.2.1 ≤ 480; omega, h4⟩
  | n + 1, k, tx, len, o, h1, h2, h3, h4 => by
    have e8 : 8 * k + 8 = 8 * (k + 1) := by omega
    rw [cntN, ← by_q, e8] at h3
    rw [wr2, cw2, ← by_q, e8]
    by_cases h0 : byC x k = 0
    · rw [if_pos h0] at h3
      rw [if_pos h0, if_pos h0]
      exact cw2_q n (k + 1) tx len o h1 h2 (by omega) h4
    · rw [if_neg h0] at h3
      have e : apT (byC x k) (tx, len) = (upd tx len (byC x k), len + 1) := if_pos (show len < 480 by omega)
      rw [if_neg h0, if_neg h0, e, h1, h2]
      exact cw2_q n (k + 1) (upd tx len (byC x k)) (len + 1) (o.1, upd tx len (byC x k), len + 1, o.2.2.2) rfl rfl (by omega) (fun i hi => by
        by_cases q : i = len
        · subst q; rw [upd_at]; exact h0
        · rw [upd_ne q]; exact h4 i (by omega))
section
variable {rdy : Bool} {tx : Nat → Int32} {len : Nat} {r : RS} {K F S : Nat → Int32} {sz ops : Nat} {g : MS} {o : OS} {q : QS}
theorem write_q (x : Int64) (H : LR rdy tx len r K F S sz ops g o q) : (mWrite x (tx, len)).1 = (rWrite x o).1 ∧ LR rdy (mWrite x (tx, len)).2.1 (mWrite x (tx, len)).2.2 r K F S sz ops g (rWrite x o).2 q := by
  have H0 := H
  obtain ⟨h1, h2, h3, h4, h5⟩ := H
  obtain ⟨c1, c2⟩ := cw1_q (x := x) 8 0 0
  have w1 := wr1_c (x := x) 8 0 0 true
  unfold mWrite rWrite
  rw [c1]
  by_cases hf : (wr1 x 8 (8 * 0) 0 true).2 = true
  · rw [if_pos hf, if_pos (show (wr1 x 8 0 0 true).2 = true from hf), c2 (c1.trans hf), w1, h2]
    by_cases hl : 480 < len + (0 + cntN x 8 0)
    · rw [if_pos (show 480 - (tx, len).2 < 0 + cntN x 8 (8 * 0) by show 480 - len < 0 + cntN x 8 0; omega), if_pos hl]
      exact ⟨rfl, H0⟩
    · rw [if_neg (show ¬ 480 - (tx, len).2 < 0 + cntN x 8 (8 * 0) by show ¬ 480 - len < 0 + cntN x 8 0; omega), if_neg hl]
      obtain ⟨d1, d2, d3⟩ := cw2_q (x := x) 8 0 tx len (0, o.2) h1 h2 (by show len + cntN x 8 0 ≤ 480; omega) h4
      have d1' : wr2 x 8 0 (0, o.2) = (0, (cw2 x 8 0 (tx, len)).1, (cw2 x 8 0 (tx, len)).2, o.2.2.2) := d1
      rw [d1']
      exact ⟨rfl, rfl, rfl, d2, d3, h5⟩
  · rw [if_neg hf, if_neg (show ¬ (wr1 x 8 0 0 true).2 = true from hf)]
    exact ⟨rfl, H0⟩
theorem wipe_q (H : LR rdy tx len r K F S sz ops g o q) : LR rdy tx 0 r K F S sz ops g (0, o.2.1, 0, o.2.2.2) q :=
  ⟨H.1, rfl, Nat.zero_le _, fun _ h => absurd h (Nat.not_lt_zero _), H.2.2.2.2⟩
theorem poke_q (a : Nat) (v : Int32) (H : LR rdy tx len r K F S sz ops g o q) : LR rdy tx len r K F S sz ops (upd g.1 a v, g.2) (0, o.2.1, o.2.2.1, upd o.2.2.2.1 a v, o.2.2.2.2) q :=
  ⟨H.1, H.2.1, H.2.2.1, H.2.2.2.1, by rw [H.2.2.2.2.1], H.2.2.2.2.2⟩
theorem fill_q (p1 p2 : Int32) (j : Nat) (H : LR rdy tx len r K F S sz ops g o q) : LR rdy tx len r K F S sz ops (fillM p1 p2 j 0 g.1, g.2) (flL p1 p2 j 0 (0, o.2)) q := by
  rw [flL_R]
  exact ⟨H.1, H.2.1, H.2.2.1, H.2.2.2.1, by show fillM p1 p2 j 0 o.2.2.2.1 = _; rw [H.2.2.2.2.1], H.2.2.2.2.2⟩
end
theorem one_60 (w : Int32) : ofOneF 60 w (nI 0) = w := by
  unfold ofOneF; rw [if_pos rfl]
  have e1 : nI 0 &&& 31 = 0 := by decide
  have e2 : ((32 : Int32) - nI 0).toUInt32 &&& Int32.toUInt32 31 = 0 := by decide
  rw [e1, e2]; simp
theorem mix_q {mem : Nat → Int32} : ∀ (n k : Nat) (s : Int32), mixL mem n k s = mxL mem n k s
  | 0, _, _ => rfl
  | n + 1, k, s => by
    rw [mixL, mxL, mix_q n (k + 1)]
    by_cases h : k % 32 = 0
    · rw [if_pos h, h, one_60]
    · rw [if_neg h]; rfl
theorem mixed_q {mem : Nat → Int32} : mixL mem 192 0 (nI 0) = mxL mem 191 1 (mem 0) := by
  rw [mixL, mix_q, show (0 % 32 = 0) from rfl, one_60]
  congr 1
  show (0 : Int32) ^^^ mem 0 = mem 0
  simp
