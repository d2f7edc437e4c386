/-- THE FRAME RULE FOR CONTRACTS: a contract over a part of a world is one over the world -/
theorem Mi.frame {l : Launch} {y : MethodName} {ws : List Cond} {n : Nat} {D : va_G} {tys : List (ClassId × FieldType)} {av : List Value} {wc w1 w wr w' : va_W} {rv : Int32} (h : Mi l y ws n D tys av wc rv w1) (isC isR ps : List Nat) (hC : isC.map (fun i => w[i]?) = wc.map some) (hC' : isC.filterMap (fun i => w[i]?) = wc) (hnC : va_nd isC = true) (hR : isR.map (fun i => w[i]?) = wr.map some) (hnR : va_nd isR = true) (hdis : ∀ i ∈ isR, i ∉ isC) (hp1 : ps.filterMap (fun i => (wr ++ w1)[i]?) = w') (hp2 : ps.map (fun i => (wr ++ w1)[i]?) = w'.map some) (hp3 : va_nd ps = true) : Mi l y ws n D tys av w rv w' := by
  intro sz
  have hA : ∀ q, va_A wc sz q → va_A w sz q := fun q h => by
    rcases h with ⟨k, e, h⟩ | h
    · have h1 : (isC.map (fun i => w[i]?))[k]? = some (some (q, e)) := by rw [hC, List.getElem?_map, h]; rfl
      rw [List.getElem?_map] at h1
      cases hi : isC[k]? with
      | none => rw [hi] at h1; cases h1
      | some i => rw [hi] at h1; exact Or.inl ⟨i, e, Option.some.inj h1⟩
    · exact Or.inr h
  refine MetFree.mono (h sz) (fun a s hp => ?_) (fun _ _ _ _ _ h => h) (fun a s o t hp hq => ?_)
  · obtain ⟨e1, e2, hP, hK, hD, hN⟩ := hp
    exact ⟨e1, e2, hP.sub isC hC', hK, hD.sub isC hnC hC, hN⟩
  · obtain ⟨e1, e2, hP, hK, hD, hN⟩ := hp
    obtain ⟨⟨⟨r, u, ho, hr, hP1, hK1, hD1⟩, hF⟩, L, hfe, hL⟩ := hq
    subst e2
    obtain ⟨hP2, hD2⟩ := va_join (wr := wr) (w1 := w1) (H1 := t.heap) hP (hD.self (sz := s.heap.size)) isC isR hC hR hnR hdis hF.2 hA hP1 hD1
    exact ⟨⟨⟨r, u, ho, hr, hP2.sub ps hp1, hK1, hD2.sub ps hp3 hp2⟩, hF.1, fun q h1 h2 => hF.2 q h1 (fun z => h2 (hA q z))⟩, L, hfe, fun q hq => hA _ (hL q hq)⟩
theorem Mv.frame {l : Launch} {y : MethodName} {ws : List Cond} {n : Nat} {D : va_G} {tys : List (ClassId × FieldType)} {av : List Value} {wc w1 w wr w' : va_W} (h : Mv l y ws n D tys av wc w1) (isC isR ps : List Nat) (hC : isC.map (fun i => w[i]?) = wc.map some) (hC' : isC.filterMap (fun i => w[i]?) = wc) (hnC : va_nd isC = true) (hR : isR.map (fun i => w[i]?) = wr.map some) (hnR : va_nd isR = true) (hdis : ∀ i ∈ isR, i ∉ isC) (hp1 : ps.filterMap (fun i => (wr ++ w1)[i]?) = w') (hp2 : ps.map (fun i => (wr ++ w1)[i]?) = w'.map some) (hp3 : va_nd ps = true) : Mv l y ws n D tys av w w' := by
  intro sz
  have hA : ∀ q, va_A wc sz q → va_A w sz q := fun q h => by
    rcases h with ⟨k, e, h⟩ | h
    · have h1 : (isC.map (fun i => w[i]?))[k]? = some (some (q, e)) := by rw [hC, List.getElem?_map, h]; rfl
      rw [List.getElem?_map] at h1
      cases hi : isC[k]? with
      | none => rw [hi] at h1; cases h1
      | some i => rw [hi] at h1; exact Or.inl ⟨i, e, Option.some.inj h1⟩
    · exact Or.inr h
  refine MetFree.mono (h sz) (fun a s hp => ?_) (fun _ _ _ _ _ h => h) (fun a s o t hp hq => ?_)
  · obtain ⟨e1, e2, hP, hK, hD, hN⟩ := hp
    exact ⟨e1, e2, hP.sub isC hC', hK, hD.sub isC hnC hC, hN⟩
  · obtain ⟨e1, e2, hP, hK, hD, hN⟩ := hp
    obtain ⟨⟨⟨u, ho, hr, hP1, hK1, hD1⟩, hF⟩, L, hfe, hL⟩ := hq
    subst e2
    obtain ⟨hP2, hD2⟩ := va_join (wr := wr) (w1 := w1) (H1 := t.heap) hP (hD.self (sz := s.heap.size)) isC isR hC hR hnR hdis hF.2 hA hP1 hD1
    exact ⟨⟨⟨u, ho, hr, hP2.sub ps hp1, hK1, hD2.sub ps hp3 hp2⟩, hF.1, fun q h1 h2 => hF.2 q h1 (fun z => h2 (hA q z))⟩, L, hfe, fun q hq => hA _ (hL q hq)⟩
/-- RoundCompiler's object with all that is its own: the reader with its code, the machine with the code that is ready -/
abbrev wX (aO aR aT aC aK aF aS aM aA aB aV aN aX bC bK bF bS : Nat) (cC cI : ClassId) (rdy : Bool) (tx : Nat → Int32) (len : Nat) (r : RS) (K F S : Nat → Int32) (sz stm ops : Nat) (g : MS) : va_W :=
  (aO, .inr (3, [.ref aR, .ref aM, .ref bC, .int (b2i rdy)])) :: (wR aR aT aC aK aF aS cC cI tx len r ++ wM aM aA aB aV aN aX bC bK bF bS cI K F S sz stm ops g)
def byC (x : Int64) (k : Nat) : Int32 := (x.toUInt64 >>> ((nI (8 * k)).toInt64.toUInt64 &&& Int64.toUInt64 63)).toInt64.toInt32 &&& 255
theorem byC_c (x : Int64) (k : Nat) : ((byC x k).toUInt32 % 65536).toInt32 = byC x k := sc_c2 _
def apT (c : Int32) (t : (Nat → Int32) × Nat) : (Nat → Int32) × Nat := if t.2 < 480 then (upd t.1 t.2 c, t.2 + 1) else t
theorem apT_le {c : Int32} {t : (Nat → Int32) × Nat} (h : t.2 ≤ 480) : (apT c t).2 ≤ 480 := by
  unfold apT; split
  · rename_i q; exact q
  · exact h
def cw1 (x : Int64) : Nat → Nat → Nat → Bool × Nat
  | 0, _, a => (true, a)
  | n + 1, k, a => if byC x k = 0 then cw1 x n (k + 1) a else if 33 ≤ byC x k then (if byC x k ≤ 126 then cw1 x n (k + 1) (a + 1) else (false, a)) else (false, a)
def cw2 (x : Int64) : Nat → Nat → (Nat → Int32) × Nat → (Nat → Int32) × Nat
  | 0, _, t => t
  | n + 1, k, t => cw2 x n (k + 1) (if byC x k = 0 then t else apT (byC x k) t)
def mWrite (x : Int64) (t : (Nat → Int32) × Nat) : Bool × (Nat → Int32) × Nat := if (cw1 x 8 0 0).1 = true then (if 480 - t.2 < (cw1 x 8 0 0).2 then (false, t) else (true, cw2 x 8 0 t)) else (false, t)
def mixL (mem : Nat → Int32) : Nat → Nat → Int32 → Int32
  | 0, _, s => s
  | n + 1, k, s => mixL mem n (k + 1) (s ^^^ ofOneF 60 (mem k) (nI (k % 32)))
theorem frMiR {l : Launch} {D : va_G} {y : MethodName} {ws : List Cond} {n : Nat} {tys : List (ClassId × FieldType)} {av : List Value} {rv : Int32} {aO aR aT aC aK aF aS aM aA aB aV aN aX bC bK bF bS : Nat} {cC cI : ClassId} {rdy : Bool} {tx tx' : Nat → Int32} {len len' : Nat} {r r' : RS} {K F S : Nat → Int32} {sz stm ops : Nat} {g : MS} (h : Mi l y ws n D tys av (wR aR aT aC aK aF aS cC cI tx len r) rv (wR aR aT aC aK aF aS cC cI tx' len' r')) : Mi l y ws n D tys av (wX aO aR aT aC aK aF aS aM aA aB aV aN aX bC bK bF bS cC cI rdy tx len r K F S sz stm ops g) rv (wX aO aR aT aC aK aF aS aM aA aB aV aN aX bC bK bF bS cC cI rdy tx' len' r' K F S sz stm ops g) :=
  Mi.frame (wr := (aO, .inr (3, [.ref aR, .ref aM, .ref bC, .int (b2i rdy)])) :: wM aM aA aB aV aN aX bC bK bF bS cI K F S sz stm ops g) h [1, 2, 3, 4, 5, 6] [0, 7, 8, 9, 10, 11, 12, 13, 14, 15, 16] [0, 11, 12, 13, 14, 15, 16, 1, 2, 3, 4, 5, 6, 7, 8, 9, 10] rfl rfl (by decide) rfl (by decide) (by decide) rfl rfl (by decide)
theorem frMiM {l : Launch} {D : va_G} {y : MethodName} {ws : List Cond} {n : Nat} {tys : List (ClassId × FieldType)} {av : List Value} {rv : Int32} {aO aR aT aC aK aF aS aM aA aB aV aN aX bC bK bF bS : Nat} {cC cI : ClassId} {rdy : Bool} {tx : Nat → Int32} {len : Nat} {r : RS} {K F S : Nat → Int32} {sz stm ops : Nat} {g g' : MS} (h : Mi l y ws n D tys av (wM aM aA aB aV aN aX bC bK bF bS cI K F S sz stm ops g) rv (wM aM aA aB aV aN aX bC bK bF bS cI K F S sz stm ops g')) : Mi l y ws n D tys av (wX aO aR aT aC aK aF aS aM aA aB aV aN aX bC bK bF bS cC cI rdy tx len r K F S sz stm ops g) rv (wX aO aR aT aC aK aF aS aM aA aB aV aN aX bC bK bF bS cC cI rdy tx len r K F S sz stm ops g') :=
  Mi.frame (wr := (aO, .inr (3, [.ref aR, .ref aM, .ref bC, .int (b2i rdy)])) :: wR aR aT aC aK aF aS cC cI tx len r) h [7, 8, 9, 10, 11, 12, 13, 14, 15, 16] [0, 1, 2, 3, 4, 5, 6] [0, 1, 2, 3, 4, 5, 6, 7, 8, 9, 10, 11, 12, 13, 14, 15, 16] rfl rfl (by decide) rfl (by decide) (by decide) rfl rfl (by decide)
theorem frMvR {l : Launch} {D : va_G} {y : MethodName} {ws : List Cond} {n : Nat} {tys : List (ClassId × FieldType)} {av : List Value} {aO aR aT aC aK aF aS aM aA aB aV aN aX bC bK bF bS : Nat} {cC cI : ClassId} {rdy : Bool} {tx tx' : Nat → Int32} {len len' : Nat} {r r' : RS} {K F S : Nat → Int32} {sz stm ops : Nat} {g : MS} (h : Mv l y ws n D tys av (wR aR aT aC aK aF aS cC cI tx len r) (wR aR aT aC aK aF aS cC cI tx' len' r')) : Mv l y ws n D tys av (wX aO aR aT aC aK aF aS aM aA aB aV aN aX bC bK bF bS cC cI rdy tx len r K F S sz stm ops g) (wX aO aR aT aC aK aF aS aM aA aB aV aN aX bC bK bF bS cC cI rdy tx' len' r' K F S sz stm ops g) :=
  Mv.frame (wr := (aO, .inr (3, [.ref aR, .ref aM, .ref bC, .int (b2i rdy)])) :: wM aM aA aB aV aN aX bC bK bF bS cI K F S sz stm ops g) h [1, 2, 3, 4, 5, 6] [0, 7, 8, 9, 10, 11, 12, 13, 14, 15, 16] [0, 11, 12, 13, 14, 15, 16, 1, 2, 3, 4, 5, 6, 7, 8, 9, 10] rfl rfl (by decide) rfl (by decide) (by decide) rfl rfl (by decide)
theorem frMvM {l : Launch} {D : va_G} {y : MethodName} {ws : List Cond} {n : Nat} {tys : List (ClassId × FieldType)} {av : List Value} {aO aR aT aC aK aF aS aM aA aB aV aN aX bC bK bF bS : Nat} {cC cI : ClassId} {rdy : Bool} {tx : Nat → Int32} {len : Nat} {r : RS} {K F S : Nat → Int32} {sz stm ops : Nat} {g g' : MS} (h : Mv l y ws n D tys av (wM aM aA aB aV aN aX bC bK bF bS cI K F S sz stm ops g) (wM aM aA aB aV aN aX bC bK bF bS cI K F S sz stm ops g')) : Mv l y ws n D tys av (wX aO aR aT aC aK aF aS aM aA aB aV aN aX bC bK bF bS cC cI rdy tx len r K F S sz stm ops g) (wX aO aR aT aC aK aF aS aM aA aB aV aN aX bC bK bF bS cC cI rdy tx len r K F S sz stm ops g') :=
  Mv.frame (wr := (aO, .inr (3, [.ref aR, .ref aM, .ref bC, .int (b2i rdy)])) :: wR aR aT aC aK aF aS cC cI tx len r) h [7, 8, 9, 10, 11, 12, 13, 14, 15, 16] [0, 1, 2, 3, 4, 5, 6] [0, 1, 2, 3, 4, 5, 6, 7, 8, 9, 10, 11, 12, 13, 14, 15, 16] rfl rfl (by decide) rfl (by decide) (by decide) rfl rfl (by decide)

