theorem cmp4 {L k : Nat} (hL : L ≤ 2048) (hk : k ≤ 4096) : nI L - 4 < nI k ↔ L < k + 4 := by
  rw [show (4 : Int32) = nI 4 from by decide, Int32.lt_iff_toInt_lt, pk_sub_toInt (by omega) (by decide), nI_toInt (by omega)]
  omega
section LawLoop
variable {p : Program} {l : Launch} {e : Env} {s : State} {m : MethodId} {args : Array Value} {below : List Frame} {meth : Method} {c : Code} {Q : State → Prop} {D : va_G} {A : Nat → Prop}
variable {b L aL aO aR aT aM aA aB aV aN aX : Nat} {xs : Nat → Int32} {a : Nat → Nat} {cC cI cZ cL : ClassId}
set_option maxHeartbeats 4000000 in
set_option maxRecDepth 100000 in
theorem law_loop (C : CxL p s m args meth c D A cC cI cZ cL) (hlt : l.stackTraces = false) (hzt : zt A s) (hNc : va_Nc IOBN ISEN s) (X : Scr A s b L xs) (hE : ∀ ce sl k : Nat, ce ≤ 601024 → sl ≤ 7293034 → KO p l e s m args below meth c D A Q b aL aO aR aT aM aA aB aV aN aX a cC cI cZ cL ce sl k 517) :
    ∀ (n k ce sl : Nat), L ≤ k + 4 * n → k ≤ 4096 → ce + n ≤ 601024 → sl + 6 * n ≤ 7293034 → KO p l e s m args below meth c D A Q b aL aO aR aT aM aA aB aV aN aX a cC cI cZ cL ce sl k 23 := by
  intro n
  induction n with
  | zero =>
    intro k ce sl hk hk2 hce hsl aC aK aF aS bC bK bF bS rdy tx len r K F S sz stm ops g o q f H
    refine Y.iload C dL_law_23 4 rfl ?_
    refine Y.aload_n C dL_law_25 0 rfl rfl ?_
    refine Y.slen C X dL_law_26 ?_
    refine Y.iconst C (v := (4 : Int32)) dL_law_27 (by decide) ?_
    refine Y.isub C dL_law_28 rfl ?_
    refine Y.icmp_gt C 517 dL_law_29 (by decide) (fun _ => ?_) (fun h => absurd ((cmp4 X.2.2.2 hk2).mpr (by omega)) h)
    exact hE ce sl k (by omega) (by omega) H
  | succ n ih =>
    intro k ce sl hk hk2 hce hsl aC aK aF aS bC bK bF bS rdy tx len r K F S sz stm ops g o q f H
    refine Y.iload C dL_law_23 4 rfl ?_
    refine Y.aload_n C dL_law_25 0 rfl rfl ?_
    refine Y.slen C X dL_law_26 ?_
    refine Y.iconst C (v := (4 : Int32)) dL_law_27 (by decide) ?_
    refine Y.isub C dL_law_28 rfl ?_
    refine Y.icmp_gt C 517 dL_law_29 (by decide) (fun _ => hE ce sl k (by omega) (by omega) H) (fun h => ?_)
    have hk4 : k + 4 ≤ L := Nat.not_lt.mp (fun h2 => h ((cmp4 X.2.2.2 hk2).mpr h2))
    have hL := X.2.2.2
    have hK : KO p l e s m args below meth c D A Q b aL aO aR aT aM aA aB aV aN aX a cC cI cZ cL (ce + 1) (sl + 6) k 511 := by
      intro aC aK aF aS bC bK bF bS rdy tx len r K F S sz stm ops g o q f H
      refine Y.iinc C (v := nI (k + 4)) (lv' := [(4, .int (nI (k + 4))), (0, .ref b), (1, .ref aO), (2, .ref (a 0)), (3, .ref aL)]) dL_law_511 4 rfl (by rw [show Int32.ofInt 4 = nI 4 from by decide]; exact nI_add k 4) (by decide) rfl ?_
      refine Y.goto C 23 dL_law_514 (by decide) ?_
      refine Y.sub (lv' := lvL b aO (a 0) aL (k + 4)) [1, 2, 3, 4, 0] rfl ?_
      exact ih (k + 4) (ce + 1) (sl + 6) (by omega) (by omega) (by omega) (by omega) H
    refine Y.aload_n C dL_law_32 0 rfl rfl ?_
    refine Y.iload C dL_law_33 4 rfl ?_
    refine Y.sld C X k rfl (by omega) rfl dL_law_35 ?_
    refine Y.bipush C (v := (15 : Int32)) dL_law_36 (by decide) ?_
    obtain ⟨j, hj, hx⟩ := pk_andE (xs k) (m := 15) 4 (by decide)
    refine Y.iand C dL_law_38 hx ?_
    have hj : j < 16 := hj
    have hc1 : ce + 1 ≤ 601024 := by omega
    have hs1 : sl + 6 ≤ 7293034 := by omega
    clear hx
    rcases (by omega : j = 0 ∨ j = 1 ∨ j = 2 ∨ j = 3 ∨ j = 4 ∨ j = 5 ∨ j = 6 ∨ j = 7 ∨ j = 8 ∨ j = 9 ∨ j = 10 ∨ 11 ≤ j) with rfl | rfl | rfl | rfl | rfl | rfl | rfl | rfl | rfl | rfl | rfl | h11
    · refine Y.tabIn C (off := 57) 96 dL_law_39 (by decide) (by decide) (by decide +kernel) (by decide) ?_
      exact law_write C hlt hzt hNc X hk4 hc1 hs1 hK H
    · refine Y.tabIn C (off := 114) 153 dL_law_39 (by decide) (by decide) (by decide +kernel) (by decide) ?_
      exact law_wipe C hlt hzt hNc X hk4 hc1 hs1 hK H
    · refine Y.tabIn C (off := 125) 164 dL_law_39 (by decide) (by decide) (by decide +kernel) (by decide) ?_
      exact law_compile C hlt hzt hNc X hk4 hc1 hs1 hK H
    · refine Y.tabIn C (off := 169) 208 dL_law_39 (by decide) (by decide) (by decide +kernel) (by decide) ?_
      exact law_fault C hlt hzt hNc X hk4 hc1 hs1 hK H
    · refine Y.tabIn C (off := 182) 221 dL_law_39 (by decide) (by decide) (by decide +kernel) (by decide) ?_
      exact law_work C hlt hzt hNc X hk4 hc1 hs1 hK H
    · refine Y.tabIn C (off := 195) 234 dL_law_39 (by decide) (by decide) (by decide +kernel) (by decide) ?_
      exact law_run C hlt hzt hNc X hk4 hc1 hs1 hK H
    · refine Y.tabIn C (off := 239) 278 dL_law_39 (by decide) (by decide) (by decide +kernel) (by decide) ?_
      exact law_value C hlt hzt hNc X hk4 hc1 hs1 hK H
    · refine Y.tabIn C (off := 295) 334 dL_law_39 (by decide) (by decide) (by decide +kernel) (by decide) ?_
      exact law_poke C hlt hzt hNc X hk4 hc1 hs1 hK H
    · refine Y.tabIn C (off := 343) 382 dL_law_39 (by decide) (by decide) (by decide +kernel) (by decide) ?_
      exact law_peek C hlt hzt hNc X hk4 hc1 hs1 hK H
    · refine Y.tabIn C (off := 399) 438 dL_law_39 (by decide) (by decide) (by decide +kernel) (by decide) ?_
      exact law_fill C hlt hzt hNc X hk4 hc1 hs1 hK H
    · refine Y.tabIn C (off := 459) 498 dL_law_39 (by decide) (by decide) (by decide +kernel) (by decide) ?_
      exact law_mixed C hlt hzt hNc X hk4 hc1 hs1 hK H
    · refine Y.tabOut C 511 dL_law_39 (Or.inr (by rw [nI_toInt (by omega)]; omega)) (by decide) ?_
      exact Y.widen (Nat.le_succ _) (Nat.le_add_right _ _) (hK H)
end LawLoop
