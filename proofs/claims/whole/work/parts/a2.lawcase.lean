def wArg (x y : Int32) : Int64 := x.toInt64 <<< ((32 : Int32).toInt64 &&& 63) ||| (y.toInt64 &&& 4294967295)
theorem flL_0 {p1 p2 : Int32} {j : Nat} {o : OS} : (flL p1 p2 j 0 (0, o.2)).1 = 0 := by rw [flL_R]
section LawCases
variable {p : Program} {l : Launch} {e : Env} {s : State} {m : MethodId} {args : Array Value} {below : List Frame} {meth : Method} {c : Code} {Q : State → Prop} {D : va_G} {A : Nat → Prop}
variable {b L aL aO aR aT aM aA aB aV aN aX : Nat} {xs : Nat → Int32} {a : Nat → Nat} {cC cI cZ cL : ClassId} {ce sl k : Nat}
abbrev CxL (p : Program) (s : State) (m : MethodId) (args : Array Value) (meth : Method) (c : Code) (D : va_G) (A : Nat → Prop) (cC cI cZ cL : ClassId) : Prop := Cx p room_1 s m args meth c cL_law 7 wsL_law RL D (tyL cC cI cZ cL) A
abbrev lvL (b aO a0 aL : Nat) (k : Nat) : List (Nat × Value) := [(0, .ref b), (1, .ref aO), (2, .ref a0), (3, .ref aL), (4, .int (nI k))]
/-- at pc, with the two sides alike, whatever they hold -/
def KO (p : Program) (l : Launch) (e : Env) (s : State) (m : MethodId) (args : Array Value) (below : List Frame) (meth : Method) (c : Code) (D : va_G) (A : Nat → Prop) (Q : State → Prop) (b aL aO aR aT aM aA aB aV aN aX : Nat) (a : Nat → Nat) (cC cI cZ cL : ClassId) (ce sl k pc : Nat) : Prop :=
  ∀ {aC aK aF aS bC bK bF bS : Nat} {rdy : Bool} {tx : Nat → Int32} {len : Nat} {r : RS} {K F S : Nat → Int32} {sz stm ops : Nat} {g : MS} {o : OS} {q : QS} {f : Nat → Int64}, LR rdy tx len r K F S sz ops g o q →
    Y p l e room_1 s m args below meth c 7 D A Q ce sl (oL aL cL f :: (wX aO aR aT aC aK aF aS aM aA aB aV aN aX bC bK bF bS cC cI rdy tx len r K F S sz stm ops g ++ wN a cI cZ o q)) (lvL b aO (a 0) aL k) pc []
variable {aC aK aF aS bC bK bF bS : Nat} {rdy : Bool} {tx : Nat → Int32} {len : Nat} {r : RS} {K F S : Nat → Int32} {sz stm ops : Nat} {g : MS} {o : OS} {q : QS} {f : Nat → Int64}
set_option maxHeartbeats 4000000 in
set_option maxRecDepth 100000 in
theorem law_write (C : CxL p s m args meth c D A cC cI cZ cL) (hlt : l.stackTraces = false) (hzt : zt A s) (hNc : va_Nc IOBN ISEN s) (X : Scr A s b L xs) (hk : k + 4 ≤ L) (hce : ce + 1 ≤ 601024) (hsl : sl + 6 ≤ 7293034) (hK : KO p l e s m args below meth c D A Q b aL aO aR aT aM aA aB aV aN aX a cC cI cZ cL (ce + 1) (sl + 6) k 511) (H : LR rdy tx len r K F S sz ops g o q) :
    Y p l e room_1 s m args below meth c 7 D A Q ce sl (oL aL cL f :: (wX aO aR aT aC aK aF aS aM aA aB aV aN aX bC bK bF bS cC cI rdy tx len r K F S sz stm ops g ++ wN a cI cZ o q)) (lvL b aO (a 0) aL k) 96 [] := by
  have hce0 : ce ≤ 601024 := Nat.le_of_succ_le hce
  have hsl0 : sl ≤ 7293034 := Nat.le_trans (Nat.le_add_right _ _) hsl
  have hLN : o.2.2.1 ≤ 480 := by rw [H.2.1]; exact H.2.2.1
  obtain ⟨hb, hQ⟩ := write_q (wArg (xs (k + 1)) (xs (k + 2))) H
  refine Y.aload_n C dL_law_96 1 rfl rfl ?_
  refine Y.aload_n C dL_law_97 0 rfl rfl ?_
  refine Y.iload C dL_law_98 4 rfl ?_
  refine Y.iconst C (v := (1 : Int32)) dL_law_100 (by decide) ?_
  refine Y.iadd C (v := nI (k + 1)) dL_law_101 (nI_add k 1) ?_
  refine Y.sld C X (k + 1) rfl (by omega) rfl dL_law_102 ?_
  refine Y.i2l C dL_law_103 rfl ?_
  refine Y.bipush C (v := (32 : Int32)) dL_law_104 (by decide) ?_
  refine Y.lshl C dL_law_106 rfl ?_
  refine Y.aload_n C dL_law_107 0 rfl rfl ?_
  refine Y.iload C dL_law_108 4 rfl ?_
  refine Y.iconst C (v := (2 : Int32)) dL_law_110 (by decide) ?_
  refine Y.iadd C (v := nI (k + 2)) dL_law_111 (nI_add k 2) ?_
  refine Y.sld C X (k + 2) rfl (by omega) rfl dL_law_112 ?_
  refine Y.i2l C dL_law_113 rfl ?_
  refine Y.ldc2 C (v := (4294967295 : Int64)) dL_law_114 (by decide +kernel) ?_
  refine Y.land C dL_law_117 rfl ?_
  refine Y.lor C (v := wArg (xs (k + 1)) (xs (k + 2))) dL_law_118 rfl ?_
  refine Y.callVi C (b := aO) (As := [.long (wArg (xs (k + 1)) (xs (k + 2)))]) (st := []) (nA := 1) (liXi (c_writeX (wArg (xs (k + 1)) (xs (k + 2))) H.2.2.1)) gL_law_X3_write rfl (by decide +kernel) ⟨(Nat.le_of_ble_eq_true rfl), (Nat.le_of_ble_eq_true rfl)⟩ 1 rfl rfl rfl (Nat.le_of_ble_eq_true rfl) rfl hce0 hsl0 dL_law_119 ?_
  refine Y.aload_n C dL_law_122 2 rfl rfl ?_
  refine Y.aload_n C dL_law_123 0 rfl rfl ?_
  refine Y.iload C dL_law_124 4 rfl ?_
  refine Y.iconst C (v := (1 : Int32)) dL_law_126 (by decide) ?_
  refine Y.iadd C (v := nI (k + 1)) dL_law_127 (nI_add k 1) ?_
  refine Y.sld C X (k + 1) rfl (by omega) rfl dL_law_128 ?_
  refine Y.i2l C dL_law_129 rfl ?_
  refine Y.bipush C (v := (32 : Int32)) dL_law_130 (by decide) ?_
  refine Y.lshl C dL_law_132 rfl ?_
  refine Y.aload_n C dL_law_133 0 rfl rfl ?_
  refine Y.iload C dL_law_134 4 rfl ?_
  refine Y.iconst C (v := (2 : Int32)) dL_law_136 (by decide) ?_
  refine Y.iadd C (v := nI (k + 2)) dL_law_137 (nI_add k 2) ?_
  refine Y.sld C X (k + 2) rfl (by omega) rfl dL_law_138 ?_
  refine Y.i2l C dL_law_139 rfl ?_
  refine Y.ldc2 C (v := (4294967295 : Int64)) dL_law_140 (by decide +kernel) ?_
  refine Y.land C dL_law_143 rfl ?_
  refine Y.lor C (v := wArg (xs (k + 1)) (xs (k + 2))) dL_law_144 rfl ?_
  refine Y.callVi C (b := a 0) (As := [.long (wArg (xs (k + 1)) (xs (k + 2)))]) (st := [.int (b2i (mWrite (wArg (xs (k + 1)) (xs (k + 2))) (tx, len)).1)]) (nA := 1) (liNi (c_writeN o q (wArg (xs (k + 1)) (xs (k + 2))) hLN)) gL_law_X4_write rfl (by decide +kernel) ⟨(Nat.le_of_ble_eq_true rfl), (Nat.le_of_ble_eq_true rfl)⟩ 18 rfl rfl rfl (Nat.le_of_ble_eq_true rfl) rfl hce0 hsl0 dL_law_145 ?_
  refine Y.icmp_eq C 511 dL_law_148 (by decide) (fun _ => ?_) (fun h => absurd (congrArg b2i hb) h)
  exact Y.widen (Nat.le_succ _) (Nat.le_add_right _ _) (hK (hQ))
set_option maxHeartbeats 4000000 in
set_option maxRecDepth 100000 in
theorem law_wipe (C : CxL p s m args meth c D A cC cI cZ cL) (hlt : l.stackTraces = false) (hzt : zt A s) (hNc : va_Nc IOBN ISEN s) (X : Scr A s b L xs) (hk : k + 4 ≤ L) (hce : ce + 1 ≤ 601024) (hsl : sl + 6 ≤ 7293034) (hK : KO p l e s m args below meth c D A Q b aL aO aR aT aM aA aB aV aN aX a cC cI cZ cL (ce + 1) (sl + 6) k 511) (H : LR rdy tx len r K F S sz ops g o q) :
    Y p l e room_1 s m args below meth c 7 D A Q ce sl (oL aL cL f :: (wX aO aR aT aC aK aF aS aM aA aB aV aN aX bC bK bF bS cC cI rdy tx len r K F S sz stm ops g ++ wN a cI cZ o q)) (lvL b aO (a 0) aL k) 153 [] := by
  have hce0 : ce ≤ 601024 := Nat.le_of_succ_le hce
  have hsl0 : sl ≤ 7293034 := Nat.le_trans (Nat.le_add_right _ _) hsl
  have hLN : o.2.2.1 ≤ 480 := by rw [H.2.1]; exact H.2.2.1
  refine Y.aload_n C dL_law_153 1 rfl rfl ?_
  refine Y.callVv C (b := aO) (As := []) (st := []) (nA := 0) (liXv c_wipeX) gL_law_X3_wipe rfl (by decide +kernel) ⟨(Nat.le_of_ble_eq_true rfl), (Nat.le_of_ble_eq_true rfl)⟩ 1 rfl rfl rfl (Nat.le_of_ble_eq_true rfl) rfl hce0 hsl0 dL_law_154 ?_
  refine Y.aload_n C dL_law_157 2 rfl rfl ?_
  refine Y.callVv C (b := a 0) (As := []) (st := []) (nA := 0) (liNv (c_wipeN o q)) gL_law_X4_wipe rfl (by decide +kernel) ⟨(Nat.le_of_ble_eq_true rfl), (Nat.le_of_ble_eq_true rfl)⟩ 18 rfl rfl rfl (Nat.le_of_ble_eq_true rfl) rfl hce0 hsl0 dL_law_158 ?_
  refine Y.goto C 511 dL_law_161 (by decide) ?_
  exact Y.widen (Nat.le_succ _) (Nat.le_add_right _ _) (hK (wipe_q H))
set_option maxHeartbeats 4000000 in
set_option maxRecDepth 100000 in
theorem law_fault (C : CxL p s m args meth c D A cC cI cZ cL) (hlt : l.stackTraces = false) (hzt : zt A s) (hNc : va_Nc IOBN ISEN s) (X : Scr A s b L xs) (hk : k + 4 ≤ L) (hce : ce + 1 ≤ 601024) (hsl : sl + 6 ≤ 7293034) (hK : KO p l e s m args below meth c D A Q b aL aO aR aT aM aA aB aV aN aX a cC cI cZ cL (ce + 1) (sl + 6) k 511) (H : LR rdy tx len r K F S sz ops g o q) :
    Y p l e room_1 s m args below meth c 7 D A Q ce sl (oL aL cL f :: (wX aO aR aT aC aK aF aS aM aA aB aV aN aX bC bK bF bS cC cI rdy tx len r K F S sz stm ops g ++ wN a cI cZ o q)) (lvL b aO (a 0) aL k) 208 [] := by
  have hce0 : ce ≤ 601024 := Nat.le_of_succ_le hce
  have hsl0 : sl ≤ 7293034 := Nat.le_trans (Nat.le_add_right _ _) hsl
  have hLN : o.2.2.1 ≤ 480 := by rw [H.2.1]; exact H.2.2.1
  refine Y.aload_n C dL_law_208 1 rfl rfl ?_
  refine Y.callVi C (b := aO) (As := []) (st := []) (nA := 0) (liXi c_faultX) gL_law_X3_fault rfl (by decide +kernel) ⟨(Nat.le_of_ble_eq_true rfl), (Nat.le_of_ble_eq_true rfl)⟩ 1 rfl rfl rfl (Nat.le_of_ble_eq_true rfl) rfl hce0 hsl0 dL_law_209 ?_
  refine Y.aload_n C dL_law_212 2 rfl rfl ?_
  refine Y.callVi C (b := a 0) (As := []) (st := [.int (nI r.2.1)]) (nA := 0) (liNi (c_faultN o q)) gL_law_X4_fault rfl (by decide +kernel) ⟨(Nat.le_of_ble_eq_true rfl), (Nat.le_of_ble_eq_true rfl)⟩ 18 rfl rfl rfl (Nat.le_of_ble_eq_true rfl) rfl hce0 hsl0 dL_law_213 ?_
  refine Y.icmp_eq C 511 dL_law_216 (by decide) (fun _ => ?_) (fun h => absurd (congrArg nI H.2.2.2.2.2.2.2.2.2.1.symm) h)
  exact Y.widen (Nat.le_succ _) (Nat.le_add_right _ _) (hK (H))
set_option maxHeartbeats 4000000 in
set_option maxRecDepth 100000 in
theorem law_work (C : CxL p s m args meth c D A cC cI cZ cL) (hlt : l.stackTraces = false) (hzt : zt A s) (hNc : va_Nc IOBN ISEN s) (X : Scr A s b L xs) (hk : k + 4 ≤ L) (hce : ce + 1 ≤ 601024) (hsl : sl + 6 ≤ 7293034) (hK : KO p l e s m args below meth c D A Q b aL aO aR aT aM aA aB aV aN aX a cC cI cZ cL (ce + 1) (sl + 6) k 511) (H : LR rdy tx len r K F S sz ops g o q) :
    Y p l e room_1 s m args below meth c 7 D A Q ce sl (oL aL cL f :: (wX aO aR aT aC aK aF aS aM aA aB aV aN aX bC bK bF bS cC cI rdy tx len r K F S sz stm ops g ++ wN a cI cZ o q)) (lvL b aO (a 0) aL k) 221 [] := by
  have hce0 : ce ≤ 601024 := Nat.le_of_succ_le hce
  have hsl0 : sl ≤ 7293034 := Nat.le_trans (Nat.le_add_right _ _) hsl
  have hLN : o.2.2.1 ≤ 480 := by rw [H.2.1]; exact H.2.2.1
  refine Y.aload_n C dL_law_221 1 rfl rfl ?_
  refine Y.callVi C (b := aO) (As := []) (st := []) (nA := 0) (liXi c_workX) gL_law_X3_work rfl (by decide +kernel) ⟨(Nat.le_of_ble_eq_true rfl), (Nat.le_of_ble_eq_true rfl)⟩ 1 rfl rfl rfl (Nat.le_of_ble_eq_true rfl) rfl hce0 hsl0 dL_law_222 ?_
  refine Y.aload_n C dL_law_225 2 rfl rfl ?_
  refine Y.callVi C (b := a 0) (As := []) (st := [.int (nI ops)]) (nA := 0) (liNi (c_workN o q)) gL_law_X4_work rfl (by decide +kernel) ⟨(Nat.le_of_ble_eq_true rfl), (Nat.le_of_ble_eq_true rfl)⟩ 18 rfl rfl rfl (Nat.le_of_ble_eq_true rfl) rfl hce0 hsl0 dL_law_226 ?_
  refine Y.icmp_eq C 511 dL_law_229 (by decide) (fun _ => ?_) (fun h => absurd (congrArg nI H.2.2.2.2.2.2.2.2.2.2.1.symm) h)
  exact Y.widen (Nat.le_succ _) (Nat.le_add_right _ _) (hK (H))
set_option maxHeartbeats 4000000 in
set_option maxRecDepth 100000 in
theorem law_mixed (C : CxL p s m args meth c D A cC cI cZ cL) (hlt : l.stackTraces = false) (hzt : zt A s) (hNc : va_Nc IOBN ISEN s) (X : Scr A s b L xs) (hk : k + 4 ≤ L) (hce : ce + 1 ≤ 601024) (hsl : sl + 6 ≤ 7293034) (hK : KO p l e s m args below meth c D A Q b aL aO aR aT aM aA aB aV aN aX a cC cI cZ cL (ce + 1) (sl + 6) k 511) (H : LR rdy tx len r K F S sz ops g o q) :
    Y p l e room_1 s m args below meth c 7 D A Q ce sl (oL aL cL f :: (wX aO aR aT aC aK aF aS aM aA aB aV aN aX bC bK bF bS cC cI rdy tx len r K F S sz stm ops g ++ wN a cI cZ o q)) (lvL b aO (a 0) aL k) 498 [] := by
  have hce0 : ce ≤ 601024 := Nat.le_of_succ_le hce
  have hsl0 : sl ≤ 7293034 := Nat.le_trans (Nat.le_add_right _ _) hsl
  have hLN : o.2.2.1 ≤ 480 := by rw [H.2.1]; exact H.2.2.1
  refine Y.aload_n C dL_law_498 1 rfl rfl ?_
  refine Y.callVi C (b := aO) (As := []) (st := []) (nA := 0) (liXi c_mixedX) gL_law_X3_mixed rfl (by decide +kernel) ⟨(Nat.le_of_ble_eq_true rfl), (Nat.le_of_ble_eq_true rfl)⟩ 1 rfl rfl rfl (Nat.le_of_ble_eq_true rfl) rfl hce0 hsl0 dL_law_499 ?_
  refine Y.aload_n C dL_law_502 2 rfl rfl ?_
  refine Y.callVi C (b := a 0) (As := []) (st := [.int (mixL g.1 192 0 (nI 0))]) (nA := 0) (liNi (c_mixedN o q)) gL_law_X4_mixed rfl (by decide +kernel) ⟨(Nat.le_of_ble_eq_true rfl), (Nat.le_of_ble_eq_true rfl)⟩ 18 rfl rfl rfl (Nat.le_of_ble_eq_true rfl) rfl hce0 hsl0 dL_law_503 ?_
  refine Y.icmp_eq C 511 dL_law_506 (by decide) (fun _ => ?_) (fun h => absurd (mixed_q.trans (by rw [H.2.2.2.2.1])) h)
  exact Y.widen (Nat.le_succ _) (Nat.le_add_right _ _) (hK (H))
set_option maxHeartbeats 4000000 in
set_option maxRecDepth 100000 in
theorem law_compile (C : CxL p s m args meth c D A cC cI cZ cL) (hlt : l.stackTraces = false) (hzt : zt A s) (hNc : va_Nc IOBN ISEN s) (X : Scr A s b L xs) (hk : k + 4 ≤ L) (hce : ce + 1 ≤ 601024) (hsl : sl + 6 ≤ 7293034) (hK : KO p l e s m args below meth c D A Q b aL aO aR aT aM aA aB aV aN aX a cC cI cZ cL (ce + 1) (sl + 6) k 511) (H : LR rdy tx len r K F S sz ops g o q) :
    Y p l e room_1 s m args below meth c 7 D A Q ce sl (oL aL cL f :: (wX aO aR aT aC aK aF aS aM aA aB aV aN aX bC bK bF bS cC cI rdy tx len r K F S sz stm ops g ++ wN a cI cZ o q)) (lvL b aO (a 0) aL k) 164 [] := by
  have hce0 : ce ≤ 601024 := Nat.le_of_succ_le hce
  have hsl0 : sl ≤ 7293034 := Nat.le_trans (Nat.le_add_right _ _) hsl
  have hLN : o.2.2.1 ≤ 480 := by rw [H.2.1]; exact H.2.2.1
  obtain ⟨N, hgo, hT, hF⟩ := comp_q (stm := stm) H
  rcases Bool.eq_false_or_eq_true (mText tx len r).1 with hb | hb
  · refine Y.aload_n C dL_law_164 1 rfl rfl ?_
    refine Y.aload_n C dL_law_165 3 rfl rfl ?_
    refine Y.callSW C hzt hNc (As := [.ref aO, .ref aL]) (st := []) (nA := 2) (liW (c_LcompileT hlt H.2.2.1 hb)) gL_law_L_compile rfl (by decide +kernel) ⟨(Nat.le_of_ble_eq_true rfl), (Nat.le_of_ble_eq_true rfl)⟩ rfl (Nat.le_of_ble_eq_true rfl) rfl hce hsl dL_law_166 ?_
    clear hce0 hsl0
    have hce0 : ce + 1 ≤ 601024 := hce
    have hsl0 : sl + 6 ≤ 7293034 := hsl
    refine Y.istore C (lv' := [(5, .int 0), (0, .ref b), (1, .ref aO), (2, .ref (a 0)), (3, .ref aL), (4, .int (nI k))]) dL_law_169 (by decide) rfl ?_
    refine Y.aload_n C dL_law_171 3 rfl rfl ?_
    refine Y.callVi C (b := a 0) (As := []) (st := []) (nA := 0) (liNi (c_compileN o q hLN N hgo)) gL_law_X4_compile rfl (by decide +kernel) ⟨(Nat.le_of_ble_eq_true rfl), (Nat.le_of_ble_eq_true rfl)⟩ 18 rfl rfl rfl (Nat.le_of_ble_eq_true rfl) rfl hce0 hsl0 dL_law_172 ?_
    refine Y.istore C (lv' := [(6, .int (qComp N o q).1), (5, .int 0), (0, .ref b), (1, .ref aO), (2, .ref (a 0)), (3, .ref aL), (4, .int (nI k))]) dL_law_175 (by decide) rfl ?_
    refine Y.aload_n C dL_law_177 4 rfl rfl ?_
    refine Y.callVi C (b := a 0) (As := []) (st := []) (nA := 0) (liNi (c_thrownN ((qComp N o q).2.1) ((qComp N o q).2.2))) gL_law_X4_thrown rfl (by decide +kernel) ⟨(Nat.le_of_ble_eq_true rfl), (Nat.le_of_ble_eq_true rfl)⟩ 18 rfl rfl rfl (Nat.le_of_ble_eq_true rfl) rfl hce0 hsl0 dL_law_178 ?_
    refine Y.iload C dL_law_181 1 rfl ?_
    refine Y.icmp_eq C 188 dL_law_183 (by decide) (fun _ => ?_) (fun h => absurd (by rw [(hT hb).2.1]; exact nI_0) h)
    refine Y.iload C dL_law_188 1 rfl ?_
    refine Y.if_ne C 205 dL_law_190 (by decide) (fun h => absurd rfl h) (fun _ => ?_)
    refine Y.aload_n C dL_law_193 5 rfl rfl ?_
    refine Y.iconst C (v := (0 : Int32)) dL_law_194 (by decide) ?_
    refine Y.lald C 0 3 rfl rfl in01 (v := (nI (mText tx len r).2.2.2.2.2.2.2.2.2.2.1).toInt64) rfl dL_law_195 ?_
    refine Y.iload C dL_law_196 0 rfl ?_
    refine Y.i2l C dL_law_198 rfl ?_
    refine Y.lcmp C dL_law_199 rfl ?_
    refine Y.if_eq C 205 dL_law_200 (by decide) (fun _ => ?_) (fun h => absurd ((lg_cmp_eq _ _).mpr (by rw [(hT hb).1])) h)
    refine Y.goto C 511 dL_law_205 (by decide) ?_
    refine Y.sub (lv' := lvL b aO (a 0) aL k) [2, 3, 4, 5, 6] rfl ?_
    exact hK ((hT hb).2.2)
  · refine Y.aload_n C dL_law_164 1 rfl rfl ?_
    refine Y.aload_n C dL_law_165 3 rfl rfl ?_
    refine Y.callSW C hzt hNc (As := [.ref aO, .ref aL]) (st := []) (nA := 2) (liW (c_LcompileF hlt H.2.2.1 (by rw [hb]; decide))) gL_law_L_compile rfl (by decide +kernel) ⟨(Nat.le_of_ble_eq_true rfl), (Nat.le_of_ble_eq_true rfl)⟩ rfl (Nat.le_of_ble_eq_true rfl) rfl hce hsl dL_law_166 ?_
    clear hce0 hsl0
    have hce0 : ce + 1 ≤ 601024 := hce
    have hsl0 : sl + 6 ≤ 7293034 := hsl
    refine Y.istore C (lv' := [(5, .int 1), (0, .ref b), (1, .ref aO), (2, .ref (a 0)), (3, .ref aL), (4, .int (nI k))]) dL_law_169 (by decide) rfl ?_
    refine Y.aload_n C dL_law_171 3 rfl rfl ?_
    refine Y.callVi C (b := a 0) (As := []) (st := []) (nA := 0) (liNi (c_compileN o q hLN N hgo)) gL_law_X4_compile rfl (by decide +kernel) ⟨(Nat.le_of_ble_eq_true rfl), (Nat.le_of_ble_eq_true rfl)⟩ 18 rfl rfl rfl (Nat.le_of_ble_eq_true rfl) rfl hce0 hsl0 dL_law_172 ?_
    refine Y.istore C (lv' := [(6, .int (qComp N o q).1), (5, .int 1), (0, .ref b), (1, .ref aO), (2, .ref (a 0)), (3, .ref aL), (4, .int (nI k))]) dL_law_175 (by decide) rfl ?_
    refine Y.aload_n C dL_law_177 4 rfl rfl ?_
    refine Y.callVi C (b := a 0) (As := []) (st := []) (nA := 0) (liNi (c_thrownN ((qComp N o q).2.1) ((qComp N o q).2.2))) gL_law_X4_thrown rfl (by decide +kernel) ⟨(Nat.le_of_ble_eq_true rfl), (Nat.le_of_ble_eq_true rfl)⟩ 18 rfl rfl rfl (Nat.le_of_ble_eq_true rfl) rfl hce0 hsl0 dL_law_178 ?_
    refine Y.iload C dL_law_181 1 rfl ?_
    refine Y.icmp_eq C 188 dL_law_183 (by decide) (fun _ => ?_) (fun h => absurd (by rw [(hF hb).1]; rfl) h)
    refine Y.iload C dL_law_188 1 rfl ?_
    refine Y.if_ne C 205 dL_law_190 (by decide) (fun _ => ?_) (fun h => absurd h (by decide))
    refine Y.goto C 511 dL_law_205 (by decide) ?_
    refine Y.sub (lv' := lvL b aO (a 0) aL k) [2, 3, 4, 5, 6] rfl ?_
    exact hK ((hF hb).2)
set_option maxHeartbeats 4000000 in
set_option maxRecDepth 100000 in
theorem law_run (C : CxL p s m args meth c D A cC cI cZ cL) (hlt : l.stackTraces = false) (hzt : zt A s) (hNc : va_Nc IOBN ISEN s) (X : Scr A s b L xs) (hk : k + 4 ≤ L) (hce : ce + 1 ≤ 601024) (hsl : sl + 6 ≤ 7293034) (hK : KO p l e s m args below meth c D A Q b aL aO aR aT aM aA aB aV aN aX a cC cI cZ cL (ce + 1) (sl + 6) k 511) (H : LR rdy tx len r K F S sz ops g o q) :
    Y p l e room_1 s m args below meth c 7 D A Q ce sl (oL aL cL f :: (wX aO aR aT aC aK aF aS aM aA aB aV aN aX bC bK bF bS cC cI rdy tx len r K F S sz stm ops g ++ wN a cI cZ o q)) (lvL b aO (a 0) aL k) 234 [] := by
  have hce0 : ce ≤ 601024 := Nat.le_of_succ_le hce
  have hsl0 : sl ≤ 7293034 := Nat.le_trans (Nat.le_add_right _ _) hsl
  have hLN : o.2.2.1 ≤ 480 := by rw [H.2.1]; exact H.2.2.1
  cases rdy with
  | false =>
    have hr : rRun 0 o = (0, (1, o.2)) := if_neg (by rw [H.2.2.2.2.2.2.2.2.1]; decide)
    have hN : Mi l yX4_run wsX4_run 3 D [(cI, .int), (cZ, .boolean)] [.ref (a 0)] (wN a cI cZ o q) 0 (wN a cI cZ (1, o.2) q) := by
      have h := c_runN (l := l) (D := D) (a := a) (cI := cI) (cZ := cZ) o q 0 (fun h => absurd (H.2.2.2.2.2.2.2.2.1.symm.trans h) (by decide))
      rw [hr] at h
      exact h
    · refine Y.aload_n C dL_law_234 1 rfl rfl ?_
      refine Y.aload_n C dL_law_235 3 rfl rfl ?_
      refine Y.callSW C hzt hNc (As := [.ref aO, .ref aL]) (st := []) (nA := 2) (liW (c_LrunN hlt H.2.2.2.2.2.2.2.1 H.2.2.2.2.2.2.2.2.2.2.2.1 rfl)) gL_law_L_run rfl (by decide +kernel) ⟨(Nat.le_of_ble_eq_true rfl), (Nat.le_of_ble_eq_true rfl)⟩ rfl (Nat.le_of_ble_eq_true rfl) rfl hce hsl dL_law_236 ?_
      clear hce0 hsl0
      have hce0 : ce + 1 ≤ 601024 := hce
      have hsl0 : sl + 6 ≤ 7293034 := hsl
      refine Y.istore C (lv' := [(5, .int 1), (0, .ref b), (1, .ref aO), (2, .ref (a 0)), (3, .ref aL), (4, .int (nI k))]) dL_law_239 (by decide) rfl ?_
      refine Y.aload_n C dL_law_241 3 rfl rfl ?_
      refine Y.callVi C (b := a 0) (As := []) (st := []) (nA := 0) (liNi (hN)) gL_law_X4_run rfl (by decide +kernel) ⟨(Nat.le_of_ble_eq_true rfl), (Nat.le_of_ble_eq_true rfl)⟩ 18 rfl rfl rfl (Nat.le_of_ble_eq_true rfl) rfl hce0 hsl0 dL_law_242 ?_
      refine Y.istore C (lv' := [(6, .int 0), (5, .int 1), (0, .ref b), (1, .ref aO), (2, .ref (a 0)), (3, .ref aL), (4, .int (nI k))]) dL_law_245 (by decide) rfl ?_
      refine Y.aload_n C dL_law_247 4 rfl rfl ?_
      refine Y.callVi C (b := a 0) (As := []) (st := []) (nA := 0) (liNi (c_thrownN ((1, o.2)) (q))) gL_law_X4_thrown rfl (by decide +kernel) ⟨(Nat.le_of_ble_eq_true rfl), (Nat.le_of_ble_eq_true rfl)⟩ 18 rfl rfl rfl (Nat.le_of_ble_eq_true rfl) rfl hce0 hsl0 dL_law_248 ?_
      refine Y.iload C dL_law_251 1 rfl ?_
      refine Y.icmp_eq C 258 dL_law_253 (by decide) (fun _ => ?_) (fun h => absurd (rfl) h)
      refine Y.iload C dL_law_258 1 rfl ?_
      refine Y.if_ne C 275 dL_law_260 (by decide) (fun _ => ?_) (fun h => absurd h (by decide))
      refine Y.goto C 511 dL_law_275 (by decide) ?_
      refine Y.sub (lv' := lvL b aO (a 0) aL k) [2, 3, 4, 5, 6] rfl ?_
      exact hK (H)
  | true =>
    obtain ⟨N, hgo, hT, hF, hQ⟩ := run_q H
    rcases Bool.eq_false_or_eq_true (mRunC K F S sz g).1 with hb | hb
    · refine Y.aload_n C dL_law_234 1 rfl rfl ?_
      refine Y.aload_n C dL_law_235 3 rfl rfl ?_
      refine Y.callSW C hzt hNc (As := [.ref aO, .ref aL]) (st := []) (nA := 2) (liW (c_LrunT hlt H.2.2.2.2.2.2.2.1 H.2.2.2.2.2.2.2.2.2.2.2.1 rfl hb)) gL_law_L_run rfl (by decide +kernel) ⟨(Nat.le_of_ble_eq_true rfl), (Nat.le_of_ble_eq_true rfl)⟩ rfl (Nat.le_of_ble_eq_true rfl) rfl hce hsl dL_law_236 ?_
      clear hce0 hsl0
      have hce0 : ce + 1 ≤ 601024 := hce
      have hsl0 : sl + 6 ≤ 7293034 := hsl
      refine Y.istore C (lv' := [(5, .int 0), (0, .ref b), (1, .ref aO), (2, .ref (a 0)), (3, .ref aL), (4, .int (nI k))]) dL_law_239 (by decide) rfl ?_
      refine Y.aload_n C dL_law_241 3 rfl rfl ?_
      refine Y.callVi C (b := a 0) (As := []) (st := []) (nA := 0) (liNi (c_runN o q N (fun _ => hgo))) gL_law_X4_run rfl (by decide +kernel) ⟨(Nat.le_of_ble_eq_true rfl), (Nat.le_of_ble_eq_true rfl)⟩ 18 rfl rfl rfl (Nat.le_of_ble_eq_true rfl) rfl hce0 hsl0 dL_law_242 ?_
      refine Y.istore C (lv' := [(6, .int (rRun N o).1), (5, .int 0), (0, .ref b), (1, .ref aO), (2, .ref (a 0)), (3, .ref aL), (4, .int (nI k))]) dL_law_245 (by decide) rfl ?_
      refine Y.aload_n C dL_law_247 4 rfl rfl ?_
      refine Y.callVi C (b := a 0) (As := []) (st := []) (nA := 0) (liNi (c_thrownN ((rRun N o).2) (q))) gL_law_X4_thrown rfl (by decide +kernel) ⟨(Nat.le_of_ble_eq_true rfl), (Nat.le_of_ble_eq_true rfl)⟩ 18 rfl rfl rfl (Nat.le_of_ble_eq_true rfl) rfl hce0 hsl0 dL_law_248 ?_
      refine Y.iload C dL_law_251 1 rfl ?_
      refine Y.icmp_eq C 258 dL_law_253 (by decide) (fun _ => ?_) (fun h => absurd (by rw [(hT hb).2]; exact nI_0) h)
      refine Y.iload C dL_law_258 1 rfl ?_
      refine Y.if_ne C 275 dL_law_260 (by decide) (fun h => absurd rfl h) (fun _ => ?_)
      refine Y.aload_n C dL_law_263 5 rfl rfl ?_
      refine Y.iconst C (v := (0 : Int32)) dL_law_264 (by decide) ?_
      refine Y.lald C 0 3 rfl rfl in01 (v := (nI (mRunC K F S sz g).2.2.2.2.2.2.2.1).toInt64) rfl dL_law_265 ?_
      refine Y.iload C dL_law_266 0 rfl ?_
      refine Y.i2l C dL_law_268 rfl ?_
      refine Y.lcmp C dL_law_269 rfl ?_
      refine Y.if_eq C 275 dL_law_270 (by decide) (fun _ => ?_) (fun h => absurd ((lg_cmp_eq _ _).mpr (by rw [(hT hb).1])) h)
      refine Y.goto C 511 dL_law_275 (by decide) ?_
      refine Y.sub (lv' := lvL b aO (a 0) aL k) [2, 3, 4, 5, 6] rfl ?_
      exact hK (hQ)
    · refine Y.aload_n C dL_law_234 1 rfl rfl ?_
      refine Y.aload_n C dL_law_235 3 rfl rfl ?_
      refine Y.callSW C hzt hNc (As := [.ref aO, .ref aL]) (st := []) (nA := 2) (liW (c_LrunF hlt H.2.2.2.2.2.2.2.1 H.2.2.2.2.2.2.2.2.2.2.2.1 rfl (by rw [hb]; decide))) gL_law_L_run rfl (by decide +kernel) ⟨(Nat.le_of_ble_eq_true rfl), (Nat.le_of_ble_eq_true rfl)⟩ rfl (Nat.le_of_ble_eq_true rfl) rfl hce hsl dL_law_236 ?_
      clear hce0 hsl0
      have hce0 : ce + 1 ≤ 601024 := hce
      have hsl0 : sl + 6 ≤ 7293034 := hsl
      refine Y.istore C (lv' := [(5, .int 2), (0, .ref b), (1, .ref aO), (2, .ref (a 0)), (3, .ref aL), (4, .int (nI k))]) dL_law_239 (by decide) rfl ?_
      refine Y.aload_n C dL_law_241 3 rfl rfl ?_
      refine Y.callVi C (b := a 0) (As := []) (st := []) (nA := 0) (liNi (c_runN o q N (fun _ => hgo))) gL_law_X4_run rfl (by decide +kernel) ⟨(Nat.le_of_ble_eq_true rfl), (Nat.le_of_ble_eq_true rfl)⟩ 18 rfl rfl rfl (Nat.le_of_ble_eq_true rfl) rfl hce0 hsl0 dL_law_242 ?_
      refine Y.istore C (lv' := [(6, .int (rRun N o).1), (5, .int 2), (0, .ref b), (1, .ref aO), (2, .ref (a 0)), (3, .ref aL), (4, .int (nI k))]) dL_law_245 (by decide) rfl ?_
      refine Y.aload_n C dL_law_247 4 rfl rfl ?_
      refine Y.callVi C (b := a 0) (As := []) (st := []) (nA := 0) (liNi (c_thrownN ((rRun N o).2) (q))) gL_law_X4_thrown rfl (by decide +kernel) ⟨(Nat.le_of_ble_eq_true rfl), (Nat.le_of_ble_eq_true rfl)⟩ 18 rfl rfl rfl (Nat.le_of_ble_eq_true rfl) rfl hce0 hsl0 dL_law_248 ?_
      refine Y.iload C dL_law_251 1 rfl ?_
      refine Y.icmp_eq C 258 dL_law_253 (by decide) (fun _ => ?_) (fun h => absurd (by rw [hF hb]; rfl) h)
      refine Y.iload C dL_law_258 1 rfl ?_
      refine Y.if_ne C 275 dL_law_260 (by decide) (fun _ => ?_) (fun h => absurd h (by decide))
      refine Y.goto C 511 dL_law_275 (by decide) ?_
      refine Y.sub (lv' := lvL b aO (a 0) aL k) [2, 3, 4, 5, 6] rfl ?_
      exact hK (hQ)
set_option maxHeartbeats 4000000 in
set_option maxRecDepth 100000 in
theorem law_value (C : CxL p s m args meth c D A cC cI cZ cL) (hlt : l.stackTraces = false) (hzt : zt A s) (hNc : va_Nc IOBN ISEN s) (X : Scr A s b L xs) (hk : k + 4 ≤ L) (hce : ce + 1 ≤ 601024) (hsl : sl + 6 ≤ 7293034) (hK : KO p l e s m args below meth c D A Q b aL aO aR aT aM aA aB aV aN aX a cC cI cZ cL (ce + 1) (sl + 6) k 511) (H : LR rdy tx len r K F S sz ops g o q) :
    Y p l e room_1 s m args below meth c 7 D A Q ce sl (oL aL cL f :: (wX aO aR aT aC aK aF aS aM aA aB aV aN aX bC bK bF bS cC cI rdy tx len r K F S sz stm ops g ++ wN a cI cZ o q)) (lvL b aO (a 0) aL k) 278 [] := by
  have hce0 : ce ≤ 601024 := Nat.le_of_succ_le hce
  have hsl0 : sl ≤ 7293034 := Nat.le_trans (Nat.le_add_right _ _) hsl
  have hLN : o.2.2.1 ≤ 480 := by rw [H.2.1]; exact H.2.2.1
  by_cases hb : 0 ≤ (xs (k + 1)) ∧ ¬ (26 : Int32) ≤ (xs (k + 1))
  · have hN : Mi l yX4_value wsX4_value 1 D [(cI, .int), (cZ, .boolean)] [.ref (a 0), .int (xs (k + 1))] (wN a cI cZ o q) (o.2.2.2.2.2.2.1 (xs (k + 1)).toNatClampNeg) (wN a cI cZ (0, o.2) q) := by
      have h := c_valueN (l := l) (D := D) (a := a) (cI := cI) (cZ := cZ) o q (xs (k + 1))
      have hc : (0 ≤ (xs (k + 1)) ∧ (xs (k + 1)) ≤ 25) := ⟨hb.1, i25.mpr hb.2⟩
      simp only [if_pos hc] at h
      exact h
    refine Y.aload_n C dL_law_278 1 rfl rfl ?_
    refine Y.aload_n C dL_law_279 0 rfl rfl ?_
    refine Y.iload C dL_law_280 4 rfl ?_
    refine Y.iconst C (v := (1 : Int32)) dL_law_282 (by decide) ?_
    refine Y.iadd C (v := nI (k + 1)) dL_law_283 (nI_add k 1) ?_
    refine Y.sld C X (k + 1) rfl (by omega) rfl dL_law_284 ?_
    refine Y.aload_n C dL_law_285 3 rfl rfl ?_
    refine Y.callSW C hzt hNc (As := [.ref aO, .int (xs (k + 1)), .ref aL]) (st := []) (nA := 3) (liW (c_LvalueT (xs (k + 1)) hlt hb)) gL_law_L_value rfl (by decide +kernel) ⟨(Nat.le_of_ble_eq_true rfl), (Nat.le_of_ble_eq_true rfl)⟩ rfl (Nat.le_of_ble_eq_true rfl) rfl hce hsl dL_law_286 ?_
    clear hce0 hsl0
    have hce0 : ce + 1 ≤ 601024 := hce
    have hsl0 : sl + 6 ≤ 7293034 := hsl
    refine Y.istore C (lv' := [(5, .int 0), (0, .ref b), (1, .ref aO), (2, .ref (a 0)), (3, .ref aL), (4, .int (nI k))]) dL_law_289 (by decide) rfl ?_
    refine Y.aload_n C dL_law_291 3 rfl rfl ?_
    refine Y.aload_n C dL_law_292 1 rfl rfl ?_
    refine Y.iload C dL_law_293 5 rfl ?_
    refine Y.iconst C (v := (1 : Int32)) dL_law_295 (by decide) ?_
    refine Y.iadd C (v := nI (k + 1)) dL_law_296 (nI_add k 1) ?_
    refine Y.sld C X (k + 1) rfl (by omega) rfl dL_law_297 ?_
    refine Y.callVi C (b := a 0) (As := [.int (xs (k + 1))]) (st := []) (nA := 1) (liNi (hN)) gL_law_X4_value rfl (by decide +kernel) ⟨(Nat.le_of_ble_eq_true rfl), (Nat.le_of_ble_eq_true rfl)⟩ 18 rfl rfl rfl (Nat.le_of_ble_eq_true rfl) rfl hce0 hsl0 dL_law_298 ?_
    refine Y.istore C (lv' := [(6, .int (o.2.2.2.2.2.2.1 (xs (k + 1)).toNatClampNeg)), (5, .int 0), (0, .ref b), (1, .ref aO), (2, .ref (a 0)), (3, .ref aL), (4, .int (nI k))]) dL_law_301 (by decide) rfl ?_
    refine Y.aload_n C dL_law_303 4 rfl rfl ?_
    refine Y.callVi C (b := a 0) (As := []) (st := []) (nA := 0) (liNi (c_thrownN ((0, o.2)) (q))) gL_law_X4_thrown rfl (by decide +kernel) ⟨(Nat.le_of_ble_eq_true rfl), (Nat.le_of_ble_eq_true rfl)⟩ 18 rfl rfl rfl (Nat.le_of_ble_eq_true rfl) rfl hce0 hsl0 dL_law_304 ?_
    refine Y.iload C dL_law_307 1 rfl ?_
    refine Y.icmp_eq C 314 dL_law_309 (by decide) (fun _ => ?_) (fun h => absurd (nI_0) h)
    refine Y.iload C dL_law_314 1 rfl ?_
    refine Y.if_ne C 331 dL_law_316 (by decide) (fun h => absurd rfl h) (fun _ => ?_)
    refine Y.aload_n C dL_law_319 5 rfl rfl ?_
    refine Y.iconst C (v := (0 : Int32)) dL_law_320 (by decide) ?_
    refine Y.lald C 0 3 rfl rfl in01 (v := (g.2.2.1 (xs (k + 1)).toNatClampNeg).toInt64) rfl dL_law_321 ?_
    refine Y.iload C dL_law_322 0 rfl ?_
    refine Y.i2l C dL_law_324 rfl ?_
    refine Y.lcmp C dL_law_325 rfl ?_
    refine Y.if_eq C 331 dL_law_326 (by decide) (fun _ => ?_) (fun h => absurd ((lg_cmp_eq _ _).mpr (by rw [H.2.2.2.2.2.2.1])) h)
    refine Y.goto C 511 dL_law_331 (by decide) ?_
    refine Y.sub (lv' := lvL b aO (a 0) aL k) [2, 3, 4, 5, 6] rfl ?_
    exact hK (H)
  · have hN : Mi l yX4_value wsX4_value 1 D [(cI, .int), (cZ, .boolean)] [.ref (a 0), .int (xs (k + 1))] (wN a cI cZ o q) (0) (wN a cI cZ (1, o.2) q) := by
      have h := c_valueN (l := l) (D := D) (a := a) (cI := cI) (cZ := cZ) o q (xs (k + 1))
      have hc : ¬ (0 ≤ (xs (k + 1)) ∧ (xs (k + 1)) ≤ 25) := (fun h => hb ⟨h.1, i25.mp h.2⟩)
      simp only [if_neg hc] at h
      exact h
    refine Y.aload_n C dL_law_278 1 rfl rfl ?_
    refine Y.aload_n C dL_law_279 0 rfl rfl ?_
    refine Y.iload C dL_law_280 4 rfl ?_
    refine Y.iconst C (v := (1 : Int32)) dL_law_282 (by decide) ?_
    refine Y.iadd C (v := nI (k + 1)) dL_law_283 (nI_add k 1) ?_
    refine Y.sld C X (k + 1) rfl (by omega) rfl dL_law_284 ?_
    refine Y.aload_n C dL_law_285 3 rfl rfl ?_
    refine Y.callSW C hzt hNc (As := [.ref aO, .int (xs (k + 1)), .ref aL]) (st := []) (nA := 3) (liW (c_LvalueF (xs (k + 1)) hlt hb)) gL_law_L_value rfl (by decide +kernel) ⟨(Nat.le_of_ble_eq_true rfl), (Nat.le_of_ble_eq_true rfl)⟩ rfl (Nat.le_of_ble_eq_true rfl) rfl hce hsl dL_law_286 ?_
    clear hce0 hsl0
    have hce0 : ce + 1 ≤ 601024 := hce
    have hsl0 : sl + 6 ≤ 7293034 := hsl
    refine Y.istore C (lv' := [(5, .int 1), (0, .ref b), (1, .ref aO), (2, .ref (a 0)), (3, .ref aL), (4, .int (nI k))]) dL_law_289 (by decide) rfl ?_
    refine Y.aload_n C dL_law_291 3 rfl rfl ?_
    refine Y.aload_n C dL_law_292 1 rfl rfl ?_
    refine Y.iload C dL_law_293 5 rfl ?_
    refine Y.iconst C (v := (1 : Int32)) dL_law_295 (by decide) ?_
    refine Y.iadd C (v := nI (k + 1)) dL_law_296 (nI_add k 1) ?_
    refine Y.sld C X (k + 1) rfl (by omega) rfl dL_law_297 ?_
    refine Y.callVi C (b := a 0) (As := [.int (xs (k + 1))]) (st := []) (nA := 1) (liNi (hN)) gL_law_X4_value rfl (by decide +kernel) ⟨(Nat.le_of_ble_eq_true rfl), (Nat.le_of_ble_eq_true rfl)⟩ 18 rfl rfl rfl (Nat.le_of_ble_eq_true rfl) rfl hce0 hsl0 dL_law_298 ?_
    refine Y.istore C (lv' := [(6, .int 0), (5, .int 1), (0, .ref b), (1, .ref aO), (2, .ref (a 0)), (3, .ref aL), (4, .int (nI k))]) dL_law_301 (by decide) rfl ?_
    refine Y.aload_n C dL_law_303 4 rfl rfl ?_
    refine Y.callVi C (b := a 0) (As := []) (st := []) (nA := 0) (liNi (c_thrownN ((1, o.2)) (q))) gL_law_X4_thrown rfl (by decide +kernel) ⟨(Nat.le_of_ble_eq_true rfl), (Nat.le_of_ble_eq_true rfl)⟩ 18 rfl rfl rfl (Nat.le_of_ble_eq_true rfl) rfl hce0 hsl0 dL_law_304 ?_
    refine Y.iload C dL_law_307 1 rfl ?_
    refine Y.icmp_eq C 314 dL_law_309 (by decide) (fun _ => ?_) (fun h => absurd (rfl) h)
    refine Y.iload C dL_law_314 1 rfl ?_
    refine Y.if_ne C 331 dL_law_316 (by decide) (fun _ => ?_) (fun h => absurd h (by decide))
    refine Y.goto C 511 dL_law_331 (by decide) ?_
    refine Y.sub (lv' := lvL b aO (a 0) aL k) [2, 3, 4, 5, 6] rfl ?_
    exact hK (H)
set_option maxHeartbeats 4000000 in
set_option maxRecDepth 100000 in
theorem law_peek (C : CxL p s m args meth c D A cC cI cZ cL) (hlt : l.stackTraces = false) (hzt : zt A s) (hNc : va_Nc IOBN ISEN s) (X : Scr A s b L xs) (hk : k + 4 ≤ L) (hce : ce + 1 ≤ 601024) (hsl : sl + 6 ≤ 7293034) (hK : KO p l e s m args below meth c D A Q b aL aO aR aT aM aA aB aV aN aX a cC cI cZ cL (ce + 1) (sl + 6) k 511) (H : LR rdy tx len r K F S sz ops g o q) :
    Y p l e room_1 s m args below meth c 7 D A Q ce sl (oL aL cL f :: (wX aO aR aT aC aK aF aS aM aA aB aV aN aX bC bK bF bS cC cI rdy tx len r K F S sz stm ops g ++ wN a cI cZ o q)) (lvL b aO (a 0) aL k) 382 [] := by
  have hce0 : ce ≤ 601024 := Nat.le_of_succ_le hce
  have hsl0 : sl ≤ 7293034 := Nat.le_trans (Nat.le_add_right _ _) hsl
  have hLN : o.2.2.1 ≤ 480 := by rw [H.2.1]; exact H.2.2.1
  by_cases hb : isAddrF (xs (k + 1)) = true
  · have hN : Mi l yX4_peek wsX4_peek 1 D [(cI, .int), (cZ, .boolean)] [.ref (a 0), .int (xs (k + 1))] (wN a cI cZ o q) (o.2.2.2.1 (xs (k + 1)).toNatClampNeg) (wN a cI cZ (0, o.2) q) := by
      have h := c_peekN (l := l) (D := D) (a := a) (cI := cI) (cZ := cZ) o q (xs (k + 1))
      have hc : (isAddrF (xs (k + 1)) = true) := hb
      simp only [if_pos hc] at h
      exact h
    refine Y.aload_n C dL_law_382 1 rfl rfl ?_
    refine Y.aload_n C dL_law_383 0 rfl rfl ?_
    refine Y.iload C dL_law_384 4 rfl ?_
    refine Y.iconst C (v := (1 : Int32)) dL_law_386 (by decide) ?_
    refine Y.iadd C (v := nI (k + 1)) dL_law_387 (nI_add k 1) ?_
    refine Y.sld C X (k + 1) rfl (by omega) rfl dL_law_388 ?_
    refine Y.aload_n C dL_law_389 3 rfl rfl ?_
    refine Y.callSW C hzt hNc (As := [.ref aO, .int (xs (k + 1)), .ref aL]) (st := []) (nA := 3) (liW (c_LpeekT (xs (k + 1)) hlt hb)) gL_law_L_peek rfl (by decide +kernel) ⟨(Nat.le_of_ble_eq_true rfl), (Nat.le_of_ble_eq_true rfl)⟩ rfl (Nat.le_of_ble_eq_true rfl) rfl hce hsl dL_law_390 ?_
    clear hce0 hsl0
    have hce0 : ce + 1 ≤ 601024 := hce
    have hsl0 : sl + 6 ≤ 7293034 := hsl
    refine Y.istore C (lv' := [(5, .int 0), (0, .ref b), (1, .ref aO), (2, .ref (a 0)), (3, .ref aL), (4, .int (nI k))]) dL_law_393 (by decide) rfl ?_
    refine Y.aload_n C dL_law_395 3 rfl rfl ?_
    refine Y.aload_n C dL_law_396 1 rfl rfl ?_
    refine Y.iload C dL_law_397 5 rfl ?_
    refine Y.iconst C (v := (1 : Int32)) dL_law_399 (by decide) ?_
    refine Y.iadd C (v := nI (k + 1)) dL_law_400 (nI_add k 1) ?_
    refine Y.sld C X (k + 1) rfl (by omega) rfl dL_law_401 ?_
    refine Y.callVi C (b := a 0) (As := [.int (xs (k + 1))]) (st := []) (nA := 1) (liNi (hN)) gL_law_X4_peek rfl (by decide +kernel) ⟨(Nat.le_of_ble_eq_true rfl), (Nat.le_of_ble_eq_true rfl)⟩ 18 rfl rfl rfl (Nat.le_of_ble_eq_true rfl) rfl hce0 hsl0 dL_law_402 ?_
    refine Y.istore C (lv' := [(6, .int (o.2.2.2.1 (xs (k + 1)).toNatClampNeg)), (5, .int 0), (0, .ref b), (1, .ref aO), (2, .ref (a 0)), (3, .ref aL), (4, .int (nI k))]) dL_law_405 (by decide) rfl ?_
    refine Y.aload_n C dL_law_407 4 rfl rfl ?_
    refine Y.callVi C (b := a 0) (As := []) (st := []) (nA := 0) (liNi (c_thrownN ((0, o.2)) (q))) gL_law_X4_thrown rfl (by decide +kernel) ⟨(Nat.le_of_ble_eq_true rfl), (Nat.le_of_ble_eq_true rfl)⟩ 18 rfl rfl rfl (Nat.le_of_ble_eq_true rfl) rfl hce0 hsl0 dL_law_408 ?_
    refine Y.iload C dL_law_411 1 rfl ?_
    refine Y.icmp_eq C 418 dL_law_413 (by decide) (fun _ => ?_) (fun h => absurd (nI_0) h)
    refine Y.iload C dL_law_418 1 rfl ?_
    refine Y.if_ne C 435 dL_law_420 (by decide) (fun h => absurd rfl h) (fun _ => ?_)
    refine Y.aload_n C dL_law_423 5 rfl rfl ?_
    refine Y.iconst C (v := (0 : Int32)) dL_law_424 (by decide) ?_
    refine Y.lald C 0 3 rfl rfl in01 (v := (g.1 (xs (k + 1)).toNatClampNeg).toInt64) rfl dL_law_425 ?_
    refine Y.iload C dL_law_426 0 rfl ?_
    refine Y.i2l C dL_law_428 rfl ?_
    refine Y.lcmp C dL_law_429 rfl ?_
    refine Y.if_eq C 435 dL_law_430 (by decide) (fun _ => ?_) (fun h => absurd ((lg_cmp_eq _ _).mpr (by rw [H.2.2.2.2.1])) h)
    refine Y.goto C 511 dL_law_435 (by decide) ?_
    refine Y.sub (lv' := lvL b aO (a 0) aL k) [2, 3, 4, 5, 6] rfl ?_
    exact hK (H)
  · have hN : Mi l yX4_peek wsX4_peek 1 D [(cI, .int), (cZ, .boolean)] [.ref (a 0), .int (xs (k + 1))] (wN a cI cZ o q) (0) (wN a cI cZ (1, o.2) q) := by
      have h := c_peekN (l := l) (D := D) (a := a) (cI := cI) (cZ := cZ) o q (xs (k + 1))
      have hc : ¬ (isAddrF (xs (k + 1)) = true) := hb
      simp only [if_neg hc] at h
      exact h
    refine Y.aload_n C dL_law_382 1 rfl rfl ?_
    refine Y.aload_n C dL_law_383 0 rfl rfl ?_
    refine Y.iload C dL_law_384 4 rfl ?_
    refine Y.iconst C (v := (1 : Int32)) dL_law_386 (by decide) ?_
    refine Y.iadd C (v := nI (k + 1)) dL_law_387 (nI_add k 1) ?_
    refine Y.sld C X (k + 1) rfl (by omega) rfl dL_law_388 ?_
    refine Y.aload_n C dL_law_389 3 rfl rfl ?_
    refine Y.callSW C hzt hNc (As := [.ref aO, .int (xs (k + 1)), .ref aL]) (st := []) (nA := 3) (liW (c_LpeekF (xs (k + 1)) hlt hb)) gL_law_L_peek rfl (by decide +kernel) ⟨(Nat.le_of_ble_eq_true rfl), (Nat.le_of_ble_eq_true rfl)⟩ rfl (Nat.le_of_ble_eq_true rfl) rfl hce hsl dL_law_390 ?_
    clear hce0 hsl0
    have hce0 : ce + 1 ≤ 601024 := hce
    have hsl0 : sl + 6 ≤ 7293034 := hsl
    refine Y.istore C (lv' := [(5, .int 1), (0, .ref b), (1, .ref aO), (2, .ref (a 0)), (3, .ref aL), (4, .int (nI k))]) dL_law_393 (by decide) rfl ?_
    refine Y.aload_n C dL_law_395 3 rfl rfl ?_
    refine Y.aload_n C dL_law_396 1 rfl rfl ?_
    refine Y.iload C dL_law_397 5 rfl ?_
    refine Y.iconst C (v := (1 : Int32)) dL_law_399 (by decide) ?_
    refine Y.iadd C (v := nI (k + 1)) dL_law_400 (nI_add k 1) ?_
    refine Y.sld C X (k + 1) rfl (by omega) rfl dL_law_401 ?_
    refine Y.callVi C (b := a 0) (As := [.int (xs (k + 1))]) (st := []) (nA := 1) (liNi (hN)) gL_law_X4_peek rfl (by decide +kernel) ⟨(Nat.le_of_ble_eq_true rfl), (Nat.le_of_ble_eq_true rfl)⟩ 18 rfl rfl rfl (Nat.le_of_ble_eq_true rfl) rfl hce0 hsl0 dL_law_402 ?_
    refine Y.istore C (lv' := [(6, .int 0), (5, .int 1), (0, .ref b), (1, .ref aO), (2, .ref (a 0)), (3, .ref aL), (4, .int (nI k))]) dL_law_405 (by decide) rfl ?_
    refine Y.aload_n C dL_law_407 4 rfl rfl ?_
    refine Y.callVi C (b := a 0) (As := []) (st := []) (nA := 0) (liNi (c_thrownN ((1, o.2)) (q))) gL_law_X4_thrown rfl (by decide +kernel) ⟨(Nat.le_of_ble_eq_true rfl), (Nat.le_of_ble_eq_true rfl)⟩ 18 rfl rfl rfl (Nat.le_of_ble_eq_true rfl) rfl hce0 hsl0 dL_law_408 ?_
    refine Y.iload C dL_law_411 1 rfl ?_
    refine Y.icmp_eq C 418 dL_law_413 (by decide) (fun _ => ?_) (fun h => absurd (rfl) h)
    refine Y.iload C dL_law_418 1 rfl ?_
    refine Y.if_ne C 435 dL_law_420 (by decide) (fun _ => ?_) (fun h => absurd h (by decide))
    refine Y.goto C 511 dL_law_435 (by decide) ?_
    refine Y.sub (lv' := lvL b aO (a 0) aL k) [2, 3, 4, 5, 6] rfl ?_
    exact hK (H)
set_option maxHeartbeats 4000000 in
set_option maxRecDepth 100000 in
theorem law_poke (C : CxL p s m args meth c D A cC cI cZ cL) (hlt : l.stackTraces = false) (hzt : zt A s) (hNc : va_Nc IOBN ISEN s) (X : Scr A s b L xs) (hk : k + 4 ≤ L) (hce : ce + 1 ≤ 601024) (hsl : sl + 6 ≤ 7293034) (hK : KO p l e s m args below meth c D A Q b aL aO aR aT aM aA aB aV aN aX a cC cI cZ cL (ce + 1) (sl + 6) k 511) (H : LR rdy tx len r K F S sz ops g o q) :
    Y p l e room_1 s m args below meth c 7 D A Q ce sl (oL aL cL f :: (wX aO aR aT aC aK aF aS aM aA aB aV aN aX bC bK bF bS cC cI rdy tx len r K F S sz stm ops g ++ wN a cI cZ o q)) (lvL b aO (a 0) aL k) 334 [] := by
  have hce0 : ce ≤ 601024 := Nat.le_of_succ_le hce
  have hsl0 : sl ≤ 7293034 := Nat.le_trans (Nat.le_add_right _ _) hsl
  have hLN : o.2.2.1 ≤ 480 := by rw [H.2.1]; exact H.2.2.1
  by_cases hb : isAddrF (xs (k + 1)) = true
  · have hN : Mv l yX4_poke wsX4_poke 1 D [(cI, .int), (cZ, .boolean)] [.ref (a 0), .int (xs (k + 1)), .int (xs (k + 2))] (wN a cI cZ o q) (wN a cI cZ (0, o.2.1, o.2.2.1, upd o.2.2.2.1 (xs (k + 1)).toNatClampNeg (xs (k + 2)), o.2.2.2.2) q) := by
      have h := c_pokeN (l := l) (D := D) (a := a) (cI := cI) (cZ := cZ) o q (xs (k + 1)) (xs (k + 2))
      simp only [if_pos hb] at h
      exact h
    refine Y.aload_n C dL_law_334 1 rfl rfl ?_
    refine Y.aload_n C dL_law_335 0 rfl rfl ?_
    refine Y.iload C dL_law_336 4 rfl ?_
    refine Y.iconst C (v := (1 : Int32)) dL_law_338 (by decide) ?_
    refine Y.iadd C (v := nI (k + 1)) dL_law_339 (nI_add k 1) ?_
    refine Y.sld C X (k + 1) rfl (by omega) rfl dL_law_340 ?_
    refine Y.aload_n C dL_law_341 0 rfl rfl ?_
    refine Y.iload C dL_law_342 4 rfl ?_
    refine Y.iconst C (v := (2 : Int32)) dL_law_344 (by decide) ?_
    refine Y.iadd C (v := nI (k + 2)) dL_law_345 (nI_add k 2) ?_
    refine Y.sld C X (k + 2) rfl (by omega) rfl dL_law_346 ?_
    refine Y.callSW C hzt hNc (As := [.ref aO, .int (xs (k + 1)), .int (xs (k + 2))]) (st := []) (nA := 3) (liW (c_LpokeT (xs (k + 1)) (xs (k + 2)) hlt hb)) gL_law_L_poke rfl (by decide +kernel) ⟨(Nat.le_of_ble_eq_true rfl), (Nat.le_of_ble_eq_true rfl)⟩ rfl (Nat.le_of_ble_eq_true rfl) rfl hce hsl dL_law_347 ?_
    clear hce0 hsl0
    have hce0 : ce + 1 ≤ 601024 := hce
    have hsl0 : sl + 6 ≤ 7293034 := hsl
    refine Y.istore C (lv' := [(5, .int 0), (0, .ref b), (1, .ref aO), (2, .ref (a 0)), (3, .ref aL), (4, .int (nI k))]) dL_law_350 (by decide) rfl ?_
    refine Y.aload_n C dL_law_352 3 rfl rfl ?_
    refine Y.aload_n C dL_law_353 1 rfl rfl ?_
    refine Y.iload C dL_law_354 5 rfl ?_
    refine Y.iconst C (v := (1 : Int32)) dL_law_356 (by decide) ?_
    refine Y.iadd C (v := nI (k + 1)) dL_law_357 (nI_add k 1) ?_
    refine Y.sld C X (k + 1) rfl (by omega) rfl dL_law_358 ?_
    refine Y.aload_n C dL_law_359 1 rfl rfl ?_
    refine Y.iload C dL_law_360 5 rfl ?_
    refine Y.iconst C (v := (2 : Int32)) dL_law_362 (by decide) ?_
    refine Y.iadd C (v := nI (k + 2)) dL_law_363 (nI_add k 2) ?_
    refine Y.sld C X (k + 2) rfl (by omega) rfl dL_law_364 ?_
    refine Y.callVv C (b := a 0) (As := [.int (xs (k + 1)), .int (xs (k + 2))]) (st := []) (nA := 2) (liNv (hN)) gL_law_X4_poke rfl (by decide +kernel) ⟨(Nat.le_of_ble_eq_true rfl), (Nat.le_of_ble_eq_true rfl)⟩ 18 rfl rfl rfl (Nat.le_of_ble_eq_true rfl) rfl hce0 hsl0 dL_law_365 ?_
    refine Y.aload_n C dL_law_368 3 rfl rfl ?_
    refine Y.callVi C (b := a 0) (As := []) (st := []) (nA := 0) (liNi (c_thrownN ((0, o.2.1, o.2.2.1, upd o.2.2.2.1 (xs (k + 1)).toNatClampNeg (xs (k + 2)), o.2.2.2.2)) (q))) gL_law_X4_thrown rfl (by decide +kernel) ⟨(Nat.le_of_ble_eq_true rfl), (Nat.le_of_ble_eq_true rfl)⟩ 18 rfl rfl rfl (Nat.le_of_ble_eq_true rfl) rfl hce0 hsl0 dL_law_369 ?_
    refine Y.iload C dL_law_372 0 rfl ?_
    refine Y.icmp_eq C 379 dL_law_374 (by decide) (fun _ => ?_) (fun h => absurd (nI_0) h)
    refine Y.goto C 511 dL_law_379 (by decide) ?_
    refine Y.sub (lv' := lvL b aO (a 0) aL k) [1, 2, 3, 4, 5] rfl ?_
    exact hK (poke_q _ _ H)
  · have hN : Mv l yX4_poke wsX4_poke 1 D [(cI, .int), (cZ, .boolean)] [.ref (a 0), .int (xs (k + 1)), .int (xs (k + 2))] (wN a cI cZ o q) (wN a cI cZ (1, o.2) q) := by
      have h := c_pokeN (l := l) (D := D) (a := a) (cI := cI) (cZ := cZ) o q (xs (k + 1)) (xs (k + 2))
      simp only [if_neg hb] at h
      exact h
    refine Y.aload_n C dL_law_334 1 rfl rfl ?_
    refine Y.aload_n C dL_law_335 0 rfl rfl ?_
    refine Y.iload C dL_law_336 4 rfl ?_
    refine Y.iconst C (v := (1 : Int32)) dL_law_338 (by decide) ?_
    refine Y.iadd C (v := nI (k + 1)) dL_law_339 (nI_add k 1) ?_
    refine Y.sld C X (k + 1) rfl (by omega) rfl dL_law_340 ?_
    refine Y.aload_n C dL_law_341 0 rfl rfl ?_
    refine Y.iload C dL_law_342 4 rfl ?_
    refine Y.iconst C (v := (2 : Int32)) dL_law_344 (by decide) ?_
    refine Y.iadd C (v := nI (k + 2)) dL_law_345 (nI_add k 2) ?_
    refine Y.sld C X (k + 2) rfl (by omega) rfl dL_law_346 ?_
    refine Y.callSW C hzt hNc (As := [.ref aO, .int (xs (k + 1)), .int (xs (k + 2))]) (st := []) (nA := 3) (liW (c_LpokeF (xs (k + 1)) (xs (k + 2)) hlt hb)) gL_law_L_poke rfl (by decide +kernel) ⟨(Nat.le_of_ble_eq_true rfl), (Nat.le_of_ble_eq_true rfl)⟩ rfl (Nat.le_of_ble_eq_true rfl) rfl hce hsl dL_law_347 ?_
    clear hce0 hsl0
    have hce0 : ce + 1 ≤ 601024 := hce
    have hsl0 : sl + 6 ≤ 7293034 := hsl
    refine Y.istore C (lv' := [(5, .int 1), (0, .ref b), (1, .ref aO), (2, .ref (a 0)), (3, .ref aL), (4, .int (nI k))]) dL_law_350 (by decide) rfl ?_
    refine Y.aload_n C dL_law_352 3 rfl rfl ?_
    refine Y.aload_n C dL_law_353 1 rfl rfl ?_
    refine Y.iload C dL_law_354 5 rfl ?_
    refine Y.iconst C (v := (1 : Int32)) dL_law_356 (by decide) ?_
    refine Y.iadd C (v := nI (k + 1)) dL_law_357 (nI_add k 1) ?_
    refine Y.sld C X (k + 1) rfl (by omega) rfl dL_law_358 ?_
    refine Y.aload_n C dL_law_359 1 rfl rfl ?_
    refine Y.iload C dL_law_360 5 rfl ?_
    refine Y.iconst C (v := (2 : Int32)) dL_law_362 (by decide) ?_
    refine Y.iadd C (v := nI (k + 2)) dL_law_363 (nI_add k 2) ?_
    refine Y.sld C X (k + 2) rfl (by omega) rfl dL_law_364 ?_
    refine Y.callVv C (b := a 0) (As := [.int (xs (k + 1)), .int (xs (k + 2))]) (st := []) (nA := 2) (liNv (hN)) gL_law_X4_poke rfl (by decide +kernel) ⟨(Nat.le_of_ble_eq_true rfl), (Nat.le_of_ble_eq_true rfl)⟩ 18 rfl rfl rfl (Nat.le_of_ble_eq_true rfl) rfl hce0 hsl0 dL_law_365 ?_
    refine Y.aload_n C dL_law_368 3 rfl rfl ?_
    refine Y.callVi C (b := a 0) (As := []) (st := []) (nA := 0) (liNi (c_thrownN ((1, o.2)) (q))) gL_law_X4_thrown rfl (by decide +kernel) ⟨(Nat.le_of_ble_eq_true rfl), (Nat.le_of_ble_eq_true rfl)⟩ 18 rfl rfl rfl (Nat.le_of_ble_eq_true rfl) rfl hce0 hsl0 dL_law_369 ?_
    refine Y.iload C dL_law_372 0 rfl ?_
    refine Y.icmp_eq C 379 dL_law_374 (by decide) (fun _ => ?_) (fun h => absurd (rfl) h)
    refine Y.goto C 511 dL_law_379 (by decide) ?_
    refine Y.sub (lv' := lvL b aO (a 0) aL k) [1, 2, 3, 4, 5] rfl ?_
    exact hK (H)
set_option maxHeartbeats 4000000 in
set_option maxRecDepth 100000 in
theorem law_fill (C : CxL p s m args meth c D A cC cI cZ cL) (hlt : l.stackTraces = false) (hzt : zt A s) (hNc : va_Nc IOBN ISEN s) (X : Scr A s b L xs) (hk : k + 4 ≤ L) (hce : ce + 1 ≤ 601024) (hsl : sl + 6 ≤ 7293034) (hK : KO p l e s m args below meth c D A Q b aL aO aR aT aM aA aB aV aN aX a cC cI cZ cL (ce + 1) (sl + 6) k 511) (H : LR rdy tx len r K F S sz ops g o q) :
    Y p l e room_1 s m args below meth c 7 D A Q ce sl (oL aL cL f :: (wX aO aR aT aC aK aF aS aM aA aB aV aN aX bC bK bF bS cC cI rdy tx len r K F S sz stm ops g ++ wN a cI cZ o q)) (lvL b aO (a 0) aL k) 438 [] := by
  have hce0 : ce ≤ 601024 := Nat.le_of_succ_le hce
  have hsl0 : sl ≤ 7293034 := Nat.le_trans (Nat.le_add_right _ _) hsl
  have hLN : o.2.2.1 ≤ 480 := by rw [H.2.1]; exact H.2.2.1
  by_cases hb : 0 ≤ (xs (k + 1)) ∧ (xs (k + 1)) ≤ 192
  · obtain ⟨j, hj, hx⟩ := nI_of2 (M := 192) (n := 192) (by decide) (fun h => absurd hb.1 (Int32.not_le.mpr h)) hb.2
    refine Y.aload_n C dL_law_438 1 rfl rfl ?_
    refine Y.aload_n C dL_law_439 0 rfl rfl ?_
    refine Y.iload C dL_law_440 4 rfl ?_
    refine Y.iconst C (v := (1 : Int32)) dL_law_442 (by decide) ?_
    refine Y.iadd C (v := nI (k + 1)) dL_law_443 (nI_add k 1) ?_
    refine Y.sld C X (k + 1) rfl (by omega) hx dL_law_444 ?_
    refine Y.aload_n C dL_law_445 0 rfl rfl ?_
    refine Y.iload C dL_law_446 4 rfl ?_
    refine Y.iconst C (v := (2 : Int32)) dL_law_448 (by decide) ?_
    refine Y.iadd C (v := nI (k + 2)) dL_law_449 (nI_add k 2) ?_
    refine Y.sld C X (k + 2) rfl (by omega) rfl dL_law_450 ?_
    refine Y.aload_n C dL_law_451 0 rfl rfl ?_
    refine Y.iload C dL_law_452 4 rfl ?_
    refine Y.iconst C (v := (3 : Int32)) dL_law_454 (by decide) ?_
    refine Y.iadd C (v := nI (k + 3)) dL_law_455 (nI_add k 3) ?_
    refine Y.sld C X (k + 3) rfl (by omega) rfl dL_law_456 ?_
    refine Y.callSW C hzt hNc (As := [.ref aO, .int (nI j), .int (xs (k + 2)), .int (xs (k + 3))]) (st := []) (nA := 4) (liW (c_LfillT j (xs (k + 2)) (xs (k + 3)) hlt hj)) gL_law_L_fill rfl (by decide +kernel) ⟨(Nat.le_of_ble_eq_true rfl), (Nat.le_of_ble_eq_true rfl)⟩ rfl (Nat.le_of_ble_eq_true rfl) rfl hce hsl dL_law_457 ?_
    clear hce0 hsl0
    have hce0 : ce + 1 ≤ 601024 := hce
    have hsl0 : sl + 6 ≤ 7293034 := hsl
    refine Y.istore C (lv' := [(5, .int 0), (0, .ref b), (1, .ref aO), (2, .ref (a 0)), (3, .ref aL), (4, .int (nI k))]) dL_law_460 (by decide) rfl ?_
    refine Y.aload_n C dL_law_462 3 rfl rfl ?_
    refine Y.aload_n C dL_law_463 1 rfl rfl ?_
    refine Y.iload C dL_law_464 5 rfl ?_
    refine Y.iconst C (v := (1 : Int32)) dL_law_466 (by decide) ?_
    refine Y.iadd C (v := nI (k + 1)) dL_law_467 (nI_add k 1) ?_
    refine Y.sld C X (k + 1) rfl (by omega) hx dL_law_468 ?_
    refine Y.aload_n C dL_law_469 1 rfl rfl ?_
    refine Y.iload C dL_law_470 5 rfl ?_
    refine Y.iconst C (v := (2 : Int32)) dL_law_472 (by decide) ?_
    refine Y.iadd C (v := nI (k + 2)) dL_law_473 (nI_add k 2) ?_
    refine Y.sld C X (k + 2) rfl (by omega) rfl dL_law_474 ?_
    refine Y.aload_n C dL_law_475 1 rfl rfl ?_
    refine Y.iload C dL_law_476 5 rfl ?_
    refine Y.iconst C (v := (3 : Int32)) dL_law_478 (by decide) ?_
    refine Y.iadd C (v := nI (k + 3)) dL_law_479 (nI_add k 3) ?_
    refine Y.sld C X (k + 3) rfl (by omega) rfl dL_law_480 ?_
    refine Y.callVv C (b := a 0) (As := [.int (nI j), .int (xs (k + 2)), .int (xs (k + 3))]) (st := []) (nA := 3) (liNv (c_fillOk o q (xs (k + 2)) (xs (k + 3)) j hj)) gL_law_X4_fill rfl (by decide +kernel) ⟨(Nat.le_of_ble_eq_true rfl), (Nat.le_of_ble_eq_true rfl)⟩ 18 rfl rfl rfl (Nat.le_of_ble_eq_true rfl) rfl hce0 hsl0 dL_law_481 ?_
    refine Y.aload_n C dL_law_484 3 rfl rfl ?_
    refine Y.callVi C (b := a 0) (As := []) (st := []) (nA := 0) (liNi (c_thrownN (flL (xs (k + 2)) (xs (k + 3)) j 0 (0, o.2)) (q))) gL_law_X4_thrown rfl (by decide +kernel) ⟨(Nat.le_of_ble_eq_true rfl), (Nat.le_of_ble_eq_true rfl)⟩ 18 rfl rfl rfl (Nat.le_of_ble_eq_true rfl) rfl hce0 hsl0 dL_law_485 ?_
    refine Y.iload C dL_law_488 0 rfl ?_
    refine Y.icmp_eq C 495 dL_law_490 (by decide) (fun _ => ?_) (fun h => absurd (by rw [flL_0]; exact nI_0) h)
    refine Y.goto C 511 dL_law_495 (by decide) ?_
    refine Y.sub (lv' := lvL b aO (a 0) aL k) [1, 2, 3, 4, 5] rfl ?_
    exact hK (fill_q (xs (k + 2)) (xs (k + 3)) j H)
  · have hbad : ¬ 0 ≤ (xs (k + 1)) ∨ ¬ (xs (k + 1)) ≤ 192 := by
      by_cases h : 0 ≤ (xs (k + 1))
      · exact Or.inr (fun h2 => hb ⟨h, h2⟩)
      · exact Or.inl h
    refine Y.aload_n C dL_law_438 1 rfl rfl ?_
    refine Y.aload_n C dL_law_439 0 rfl rfl ?_
    refine Y.iload C dL_law_440 4 rfl ?_
    refine Y.iconst C (v := (1 : Int32)) dL_law_442 (by decide) ?_
    refine Y.iadd C (v := nI (k + 1)) dL_law_443 (nI_add k 1) ?_
    refine Y.sld C X (k + 1) rfl (by omega) rfl dL_law_444 ?_
    refine Y.aload_n C dL_law_445 0 rfl rfl ?_
    refine Y.iload C dL_law_446 4 rfl ?_
    refine Y.iconst C (v := (2 : Int32)) dL_law_448 (by decide) ?_
    refine Y.iadd C (v := nI (k + 2)) dL_law_449 (nI_add k 2) ?_
    refine Y.sld C X (k + 2) rfl (by omega) rfl dL_law_450 ?_
    refine Y.aload_n C dL_law_451 0 rfl rfl ?_
    refine Y.iload C dL_law_452 4 rfl ?_
    refine Y.iconst C (v := (3 : Int32)) dL_law_454 (by decide) ?_
    refine Y.iadd C (v := nI (k + 3)) dL_law_455 (nI_add k 3) ?_
    refine Y.sld C X (k + 3) rfl (by omega) rfl dL_law_456 ?_
    refine Y.callSW C hzt hNc (As := [.ref aO, .int (xs (k + 1)), .int (xs (k + 2)), .int (xs (k + 3))]) (st := []) (nA := 4) (liW (c_LfillF (xs (k + 1)) (xs (k + 2)) (xs (k + 3)) hlt hbad)) gL_law_L_fill rfl (by decide +kernel) ⟨(Nat.le_of_ble_eq_true rfl), (Nat.le_of_ble_eq_true rfl)⟩ rfl (Nat.le_of_ble_eq_true rfl) rfl hce hsl dL_law_457 ?_
    clear hce0 hsl0
    have hce0 : ce + 1 ≤ 601024 := hce
    have hsl0 : sl + 6 ≤ 7293034 := hsl
    refine Y.istore C (lv' := [(5, .int 1), (0, .ref b), (1, .ref aO), (2, .ref (a 0)), (3, .ref aL), (4, .int (nI k))]) dL_law_460 (by decide) rfl ?_
    refine Y.aload_n C dL_law_462 3 rfl rfl ?_
    refine Y.aload_n C dL_law_463 1 rfl rfl ?_
    refine Y.iload C dL_law_464 5 rfl ?_
    refine Y.iconst C (v := (1 : Int32)) dL_law_466 (by decide) ?_
    refine Y.iadd C (v := nI (k + 1)) dL_law_467 (nI_add k 1) ?_
    refine Y.sld C X (k + 1) rfl (by omega) rfl dL_law_468 ?_
    refine Y.aload_n C dL_law_469 1 rfl rfl ?_
    refine Y.iload C dL_law_470 5 rfl ?_
    refine Y.iconst C (v := (2 : Int32)) dL_law_472 (by decide) ?_
    refine Y.iadd C (v := nI (k + 2)) dL_law_473 (nI_add k 2) ?_
    refine Y.sld C X (k + 2) rfl (by omega) rfl dL_law_474 ?_
    refine Y.aload_n C dL_law_475 1 rfl rfl ?_
    refine Y.iload C dL_law_476 5 rfl ?_
    refine Y.iconst C (v := (3 : Int32)) dL_law_478 (by decide) ?_
    refine Y.iadd C (v := nI (k + 3)) dL_law_479 (nI_add k 3) ?_
    refine Y.sld C X (k + 3) rfl (by omega) rfl dL_law_480 ?_
    refine Y.callVv C (b := a 0) (As := [.int (xs (k + 1)), .int (xs (k + 2)), .int (xs (k + 3))]) (st := []) (nA := 3) (liNv (c_fillBad o q (xs (k + 1)) (xs (k + 2)) (xs (k + 3)) hbad)) gL_law_X4_fill rfl (by decide +kernel) ⟨(Nat.le_of_ble_eq_true rfl), (Nat.le_of_ble_eq_true rfl)⟩ 18 rfl rfl rfl (Nat.le_of_ble_eq_true rfl) rfl hce0 hsl0 dL_law_481 ?_
    refine Y.aload_n C dL_law_484 3 rfl rfl ?_
    refine Y.callVi C (b := a 0) (As := []) (st := []) (nA := 0) (liNi (c_thrownN ((1, o.2)) (q))) gL_law_X4_thrown rfl (by decide +kernel) ⟨(Nat.le_of_ble_eq_true rfl), (Nat.le_of_ble_eq_true rfl)⟩ 18 rfl rfl rfl (Nat.le_of_ble_eq_true rfl) rfl hce0 hsl0 dL_law_485 ?_
    refine Y.iload C dL_law_488 0 rfl ?_
    refine Y.icmp_eq C 495 dL_law_490 (by decide) (fun _ => ?_) (fun h => absurd (rfl) h)
    refine Y.goto C 511 dL_law_495 (by decide) ?_
    refine Y.sub (lv' := lvL b aO (a 0) aL k) [1, 2, 3, 4, 5] rfl ?_
    exact hK (H)
end LawCases
