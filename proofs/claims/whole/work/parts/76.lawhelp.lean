theorem xfI {l : Launch} {y : MethodName} {ws : List Cond} {n : Nat} {D : va_G} {tys tysC : List (ClassId × FieldType)} {av : List Value} {wc w1 wE w wr w1' wE' : va_W} {ok : Prop} {rv : Int32} {E : String} (h : Xi l y ws n D tysC av wc ok rv w1 E wE) (isC isR ps its : List Nat) (hts : its.filterMap (fun i => tys[i]?) = tysC) (hC : isC.map (fun i => w[i]?) = wc.map some) (hC' : isC.filterMap (fun i => w[i]?) = wc) (hnC : va_nd isC = true) (hR : isR.map (fun i => w[i]?) = wr.map some) (hnR : va_nd isR = true) (hdis : ∀ i ∈ isR, i ∉ isC)
    (hp1 : ps.filterMap (fun i => (wr ++ w1)[i]?) = w1') (hp2 : ps.map (fun i => (wr ++ w1)[i]?) = w1'.map some) (hp3 : va_nd ps = true) (he1 : ps.filterMap (fun i => (wr ++ wE)[i]?) = wE') (he2 : ps.map (fun i => (wr ++ wE)[i]?) = wE'.map some) : Xi l y ws n D tys av w ok rv w1' E wE' :=
  xframe (Qc := fun wc w1 sz => xI D tysC wc ok rv w1 sz) (Qw := fun w w1' sz => xI D tys w ok rv w1' sz) hts h hC hC' hnC hR hnR hdis hp1 hp2 hp3 he1 he2 (fun sz a s t o _ hj hq => by
    obtain ⟨⟨r, u, h1, h2, h3⟩, hF⟩ := hq
    obtain ⟨g1, g2⟩ := hj h3 hF
    exact ⟨⟨r, u, h1, h2, g1⟩, g2⟩)
theorem xfV {l : Launch} {y : MethodName} {ws : List Cond} {n : Nat} {D : va_G} {tys tysC : List (ClassId × FieldType)} {av : List Value} {wc w1 wE w wr w1' wE' : va_W} {ok : Prop} {E : String} (h : Xv l y ws n D tysC av wc ok w1 E wE) (isC isR ps its : List Nat) (hts : its.filterMap (fun i => tys[i]?) = tysC) (hC : isC.map (fun i => w[i]?) = wc.map some) (hC' : isC.filterMap (fun i => w[i]?) = wc) (hnC : va_nd isC = true) (hR : isR.map (fun i => w[i]?) = wr.map some) (hnR : va_nd isR = true) (hdis : ∀ i ∈ isR, i ∉ isC)
    (hp1 : ps.filterMap (fun i => (wr ++ w1)[i]?) = w1') (hp2 : ps.map (fun i => (wr ++ w1)[i]?) = w1'.map some) (hp3 : va_nd ps = true) (he1 : ps.filterMap (fun i => (wr ++ wE)[i]?) = wE') (he2 : ps.map (fun i => (wr ++ wE)[i]?) = wE'.map some) : Xv l y ws n D tys av w ok w1' E wE' :=
  xframe (Qc := fun wc w1 sz => xV D tysC wc ok w1 sz) (Qw := fun w w1' sz => xV D tys w ok w1' sz) hts h hC hC' hnC hR hnR hdis hp1 hp2 hp3 he1 he2 (fun sz a s t o _ hj hq => by
    obtain ⟨⟨u, h1, h2, h3⟩, hF⟩ := hq
    obtain ⟨g1, g2⟩ := hj h3 hF
    exact ⟨⟨u, h1, h2, g1⟩, g2⟩)
set_option maxHeartbeats 4000000 in
set_option maxRecDepth 100000 in
theorem c_LcompileT {l : Launch} {D : va_G} {aL aO aR aT aC aK aF aS aM aA aB aV aN aX bC bK bF bS : Nat} {cC cI cL : ClassId} {rdy : Bool} {tx : Nat → Int32} {len : Nat} {r : RS} {K F S : Nat → Int32} {sz stm ops : Nat} {g : MS} {f : Nat → Int64} (hlt : l.stackTraces = false) (hI : len ≤ 480) (hok0 : (mText tx len r).1 = true) : Wi l yL_compile wsL_compile 101 D [(cC, .char), (cI, .int), (cL, .long)] [.ref aO, .ref aL] ((aL, .inl (cL, 1, .inr (.inl (f)))) :: (wX aO aR aT aC aK aF aS aM aA aB aV aN aX bC bK bF bS cC cI rdy tx len r K F S sz stm ops g)) 0 ((aL, .inl (cL, 1, .inr (.inl (vp_updL f 0 (nI (mText tx len r).2.2.2.2.2.2.2.2.2.2.1).toInt64)))) :: (wX aO aR aT bC bK bF bS aM aA aB aV aN aX aC aK aF aS cC cI true tx len (rC (mText tx len r).2 (K, F, S, sz, stm, ops)) (mText tx len r).2.2.2.2.2.2.1 (mText tx len r).2.2.2.2.2.2.2.1 (mText tx len r).2.2.2.2.2.2.2.2.1 (mText tx len r).2.2.2.2.2.2.2.2.2.1 (mText tx len r).2.2.2.2.2.2.2.2.2.2.1 (mText tx len r).2.2.2.2.2.2.2.2.2.2.2 g)) := by
  refine Wi.of (cc := cL_compile) (maxL := 3) (ty := .int) (hh := [(0, 8, 11, 13)]) (by decide) rfl (Nat.le_of_ble_eq_true rfl) ?_
  intro p e s m below meth c A C hr hA hzt hNc htb
  show Y p l e (rmX _) s m _ below meth c _ D A _ 0 0 _ [(0, .ref aO), (1, .ref aL)] 0 []
  refine Y.aload_n C dL_compile_0 1 rfl rfl ?_
  refine Y.iconst C (v := (0 : Int32)) dL_compile_1 (by decide) ?_
  refine Y.aload_n C dL_compile_2 0 rfl rfl ?_
  refine Y.callXi C hzt (b := aO) (As := []) (st := [.int 0, .ref aL]) (nA := 0) (xfI (c_compileW hlt hI) [1, 2, 3, 4, 5, 6, 7, 8, 9, 10, 11, 12, 13, 14, 15, 16, 17] [0] [0, 1, 2, 3, 4, 5, 6, 7, 8, 9, 10, 11, 12, 13, 14, 15, 16, 17] [0, 1] rfl rfl rfl (by decide) rfl (by decide) (by decide) rfl rfl (by decide) rfl rfl) gL_compile_X3_compile rfl (by decide +kernel) ⟨Nat.le_of_ble_eq_true rfl, Nat.le_of_ble_eq_true rfl⟩ 1 rfl rfl rfl (Nat.le_of_ble_eq_true rfl) rfl (Nat.le_of_ble_eq_true rfl) (Nat.le_of_ble_eq_true rfl) dL_compile_3 [] ⟨0, 8, 11, 13⟩ [] htb (fun z hz => absurd hz List.not_mem_nil) rfl (by decide) (by decide +kernel) (by decide) (fun hok => ?_) (fun hno => absurd hok0 hno)
  refine Y.i2l C dL_compile_6 rfl ?_
  refine Y.last C 0 2 rfl rfl (by decide) rfl dL_compile_7 ?_
  refine Y.goto C 14 dL_compile_8 (by decide) ?_
  refine Y.iconst C (v := (0 : Int32)) dL_compile_14 (by decide) ?_
  exact Y.wiret C hr hA dL_compile_15 (Nat.le_of_ble_eq_true rfl) (Nat.le_of_ble_eq_true rfl) rfl rfl
set_option maxHeartbeats 4000000 in
set_option maxRecDepth 100000 in
theorem c_LcompileF {l : Launch} {D : va_G} {aL aO aR aT aC aK aF aS aM aA aB aV aN aX bC bK bF bS : Nat} {cC cI cL : ClassId} {rdy : Bool} {tx : Nat → Int32} {len : Nat} {r : RS} {K F S : Nat → Int32} {sz stm ops : Nat} {g : MS} {f : Nat → Int64} (hlt : l.stackTraces = false) (hI : len ≤ 480) (hno0 : ¬ (mText tx len r).1 = true) : Wi l yL_compile wsL_compile 101 D [(cC, .char), (cI, .int), (cL, .long)] [.ref aO, .ref aL] ((aL, .inl (cL, 1, .inr (.inl (f)))) :: (wX aO aR aT aC aK aF aS aM aA aB aV aN aX bC bK bF bS cC cI rdy tx len r K F S sz stm ops g)) 1 ((aL, .inl (cL, 1, .inr (.inl (f)))) :: (wX aO aR aT aC aK aF aS aM aA aB aV aN aX bC bK bF bS cC cI rdy tx len ((mText tx len r).2) K F S sz stm ops g)) := by
  refine Wi.of (cc := cL_compile) (maxL := 3) (ty := .int) (hh := [(0, 8, 11, 13)]) (by decide) rfl (Nat.le_of_ble_eq_true rfl) ?_
  intro p e s m below meth c A C hr hA hzt hNc htb
  show Y p l e (rmX _) s m _ below meth c _ D A _ 0 0 _ [(0, .ref aO), (1, .ref aL)] 0 []
  refine Y.aload_n C dL_compile_0 1 rfl rfl ?_
  refine Y.iconst C (v := (0 : Int32)) dL_compile_1 (by decide) ?_
  refine Y.aload_n C dL_compile_2 0 rfl rfl ?_
  refine Y.callXi C hzt (b := aO) (As := []) (st := [.int 0, .ref aL]) (nA := 0) (xfI (c_compileW hlt hI) [1, 2, 3, 4, 5, 6, 7, 8, 9, 10, 11, 12, 13, 14, 15, 16, 17] [0] [0, 1, 2, 3, 4, 5, 6, 7, 8, 9, 10, 11, 12, 13, 14, 15, 16, 17] [0, 1] rfl rfl rfl (by decide) rfl (by decide) (by decide) rfl rfl (by decide) rfl rfl) gL_compile_X3_compile rfl (by decide +kernel) ⟨Nat.le_of_ble_eq_true rfl, Nat.le_of_ble_eq_true rfl⟩ 1 rfl rfl rfl (Nat.le_of_ble_eq_true rfl) rfl (Nat.le_of_ble_eq_true rfl) (Nat.le_of_ble_eq_true rfl) dL_compile_3 [] ⟨0, 8, 11, 13⟩ [] htb (fun z hz => absurd hz List.not_mem_nil) rfl (by decide) (by decide +kernel) (by decide) (fun hok => absurd hok hno0) (fun hno q => ?_)
  refine Y.astore_n C (lv' := [(2, .ref q), (0, .ref aO), (1, .ref aL)]) dL_compile_11 rfl (by decide) rfl ?_
  refine Y.iconst C (v := (1 : Int32)) dL_compile_12 (by decide) ?_
  exact Y.wiret C hr hA dL_compile_13 (Nat.le_of_ble_eq_true rfl) (Nat.le_of_ble_eq_true rfl) rfl rfl
set_option maxHeartbeats 4000000 in
set_option maxRecDepth 100000 in
theorem c_LrunT {l : Launch} {D : va_G} {aL aO aR aT aC aK aF aS aM aA aB aV aN aX bC bK bF bS : Nat} {cC cI cL : ClassId} {rdy : Bool} {tx : Nat → Int32} {len : Nat} {r : RS} {K F S : Nat → Int32} {sz stm ops : Nat} {g : MS} {f : Nat → Int64} (hlt : l.stackTraces = false) (hT : g.2.2.2.2.2.1 ≤ 16) (hS9 : sz ≤ 480) (hrd : rdy = true) (hok0 : (mRunC K F S sz g).1 = true) : Wi l yL_run wsL_run 11 D [(cC, .char), (cI, .int), (cL, .long)] [.ref aO, .ref aL] ((aL, .inl (cL, 1, .inr (.inl (f)))) :: (wX aO aR aT aC aK aF aS aM aA aB aV aN aX bC bK bF bS cC cI rdy tx len r K F S sz stm ops g)) 0 ((aL, .inl (cL, 1, .inr (.inl (vp_updL f 0 (nI (mRunC K F S sz g).2.2.2.2.2.2.2.1).toInt64)))) :: (wX aO aR aT aC aK aF aS aM aA aB aV aN aX bC bK bF bS cC cI true tx len r K F S sz stm ops (mRunC K F S sz g).2)) := by
  refine Wi.of (cc := cL_run) (maxL := 3) (ty := .int) (hh := [(0, 8, 11, 18), (0, 8, 14, 20)]) (by decide) rfl (Nat.le_of_ble_eq_true rfl) ?_
  intro p e s m below meth c A C hr hA hzt hNc htb
  show Y p l e (rmX _) s m _ below meth c _ D A _ 0 0 _ [(0, .ref aO), (1, .ref aL)] 0 []
  subst hrd
  refine Y.aload_n C dL_run_0 1 rfl rfl ?_
  refine Y.iconst C (v := (0 : Int32)) dL_run_1 (by decide) ?_
  refine Y.aload_n C dL_run_2 0 rfl rfl ?_
  refine Y.callXi C hzt (b := aO) (As := []) (st := [.int 0, .ref aL]) (nA := 0) (xfI (c_runX hlt hT hS9) [1, 2, 3, 4, 5, 6, 7, 8, 9, 10, 11, 12, 13, 14, 15, 16, 17] [0] [0, 1, 2, 3, 4, 5, 6, 7, 8, 9, 10, 11, 12, 13, 14, 15, 16, 17] [0, 1] rfl rfl rfl (by decide) rfl (by decide) (by decide) rfl rfl (by decide) rfl rfl) gL_run_X3_run rfl (by decide +kernel) ⟨Nat.le_of_ble_eq_true rfl, Nat.le_of_ble_eq_true rfl⟩ 1 rfl rfl rfl (Nat.le_of_ble_eq_true rfl) rfl (Nat.le_of_ble_eq_true rfl) (Nat.le_of_ble_eq_true rfl) dL_run_3 [⟨0, 8, 11, 18⟩] ⟨0, 8, 14, 20⟩ [] htb (fun z hz => Or.inr (by cases List.mem_singleton.mp hz; exact ⟨by decide, "java/lang/IllegalStateException", (by decide +kernel), hNc⟩)) rfl (by decide) (by decide +kernel) (by decide) (fun hok => ?_) (fun hno => absurd ⟨rfl, hok0⟩ hno)
  refine Y.i2l C dL_run_6 rfl ?_
  refine Y.last C 0 2 rfl rfl (by decide) rfl dL_run_7 ?_
  refine Y.goto C 17 dL_run_8 (by decide) ?_
  refine Y.iconst C (v := (0 : Int32)) dL_run_17 (by decide) ?_
  exact Y.wiret C hr hA dL_run_18 (Nat.le_of_ble_eq_true rfl) (Nat.le_of_ble_eq_true rfl) rfl rfl
set_option maxHeartbeats 4000000 in
set_option maxRecDepth 100000 in
theorem c_LrunF {l : Launch} {D : va_G} {aL aO aR aT aC aK aF aS aM aA aB aV aN aX bC bK bF bS : Nat} {cC cI cL : ClassId} {rdy : Bool} {tx : Nat → Int32} {len : Nat} {r : RS} {K F S : Nat → Int32} {sz stm ops : Nat} {g : MS} {f : Nat → Int64} (hlt : l.stackTraces = false) (hT : g.2.2.2.2.2.1 ≤ 16) (hS9 : sz ≤ 480) (hrd : rdy = true) (hno0 : ¬ (mRunC K F S sz g).1 = true) : Wi l yL_run wsL_run 11 D [(cC, .char), (cI, .int), (cL, .long)] [.ref aO, .ref aL] ((aL, .inl (cL, 1, .inr (.inl (f)))) :: (wX aO aR aT aC aK aF aS aM aA aB aV aN aX bC bK bF bS cC cI rdy tx len r K F S sz stm ops g)) 2 ((aL, .inl (cL, 1, .inr (.inl (f)))) :: (wX aO aR aT aC aK aF aS aM aA aB aV aN aX bC bK bF bS cC cI true tx len r K F S sz stm ops (mRunC K F S sz g).2)) := by
  refine Wi.of (cc := cL_run) (maxL := 3) (ty := .int) (hh := [(0, 8, 11, 18), (0, 8, 14, 20)]) (by decide) rfl (Nat.le_of_ble_eq_true rfl) ?_
  intro p e s m below meth c A C hr hA hzt hNc htb
  show Y p l e (rmX _) s m _ below meth c _ D A _ 0 0 _ [(0, .ref aO), (1, .ref aL)] 0 []
  subst hrd
  refine Y.aload_n C dL_run_0 1 rfl rfl ?_
  refine Y.iconst C (v := (0 : Int32)) dL_run_1 (by decide) ?_
  refine Y.aload_n C dL_run_2 0 rfl rfl ?_
  refine Y.callXi C hzt (b := aO) (As := []) (st := [.int 0, .ref aL]) (nA := 0) (xfI (c_runX hlt hT hS9) [1, 2, 3, 4, 5, 6, 7, 8, 9, 10, 11, 12, 13, 14, 15, 16, 17] [0] [0, 1, 2, 3, 4, 5, 6, 7, 8, 9, 10, 11, 12, 13, 14, 15, 16, 17] [0, 1] rfl rfl rfl (by decide) rfl (by decide) (by decide) rfl rfl (by decide) rfl rfl) gL_run_X3_run rfl (by decide +kernel) ⟨Nat.le_of_ble_eq_true rfl, Nat.le_of_ble_eq_true rfl⟩ 1 rfl rfl rfl (Nat.le_of_ble_eq_true rfl) rfl (Nat.le_of_ble_eq_true rfl) (Nat.le_of_ble_eq_true rfl) dL_run_3 [⟨0, 8, 11, 18⟩] ⟨0, 8, 14, 20⟩ [] htb (fun z hz => Or.inr (by cases List.mem_singleton.mp hz; exact ⟨by decide, "java/lang/IllegalStateException", (by decide +kernel), hNc⟩)) rfl (by decide) (by decide +kernel) (by decide) (fun hok => absurd hok (fun h => hno0 h.2)) (fun hno q => ?_)
  refine Y.astore_n C (lv' := [(2, .ref q), (0, .ref aO), (1, .ref aL)]) dL_run_14 rfl (by decide) rfl ?_
  refine Y.iconst C (v := (2 : Int32)) dL_run_15 (by decide) ?_
  exact Y.wiret C hr hA dL_run_16 (Nat.le_of_ble_eq_true rfl) (Nat.le_of_ble_eq_true rfl) rfl rfl
set_option maxHeartbeats 4000000 in
set_option maxRecDepth 100000 in
theorem c_LrunN {l : Launch} {D : va_G} {aL aO aR aT aC aK aF aS aM aA aB aV aN aX bC bK bF bS : Nat} {cC cI cL : ClassId} {rdy : Bool} {tx : Nat → Int32} {len : Nat} {r : RS} {K F S : Nat → Int32} {sz stm ops : Nat} {g : MS} {f : Nat → Int64} (hlt : l.stackTraces = false) (hT : g.2.2.2.2.2.1 ≤ 16) (hS9 : sz ≤ 480) (hrd : rdy = false) : Wi l yL_run wsL_run 11 D [(cC, .char), (cI, .int), (cL, .long)] [.ref aO, .ref aL] ((aL, .inl (cL, 1, .inr (.inl (f)))) :: (wX aO aR aT aC aK aF aS aM aA aB aV aN aX bC bK bF bS cC cI rdy tx len r K F S sz stm ops g)) 1 ((aL, .inl (cL, 1, .inr (.inl (f)))) :: (wX aO aR aT aC aK aF aS aM aA aB aV aN aX bC bK bF bS cC cI false tx len r K F S sz stm ops g)) := by
  refine Wi.of (cc := cL_run) (maxL := 3) (ty := .int) (hh := [(0, 8, 11, 18), (0, 8, 14, 20)]) (by decide) rfl (Nat.le_of_ble_eq_true rfl) ?_
  intro p e s m below meth c A C hr hA hzt hNc htb
  show Y p l e (rmX _) s m _ below meth c _ D A _ 0 0 _ [(0, .ref aO), (1, .ref aL)] 0 []
  subst hrd
  refine Y.aload_n C dL_run_0 1 rfl rfl ?_
  refine Y.iconst C (v := (0 : Int32)) dL_run_1 (by decide) ?_
  refine Y.aload_n C dL_run_2 0 rfl rfl ?_
  refine Y.callXi C hzt (b := aO) (As := []) (st := [.int 0, .ref aL]) (nA := 0) (xfI (c_runX hlt hT hS9) [1, 2, 3, 4, 5, 6, 7, 8, 9, 10, 11, 12, 13, 14, 15, 16, 17] [0] [0, 1, 2, 3, 4, 5, 6, 7, 8, 9, 10, 11, 12, 13, 14, 15, 16, 17] [0, 1] rfl rfl rfl (by decide) rfl (by decide) (by decide) rfl rfl (by decide) rfl rfl) gL_run_X3_run rfl (by decide +kernel) ⟨Nat.le_of_ble_eq_true rfl, Nat.le_of_ble_eq_true rfl⟩ 1 rfl rfl rfl (Nat.le_of_ble_eq_true rfl) rfl (Nat.le_of_ble_eq_true rfl) (Nat.le_of_ble_eq_true rfl) dL_run_3 [] ⟨0, 8, 11, 18⟩ [⟨0, 8, 14, 20⟩] htb (fun z hz => absurd hz List.not_mem_nil) rfl (by decide) (by decide +kernel) (by decide) (fun hok => absurd hok (fun h => absurd h.1 (by decide))) (fun hno q => ?_)
  refine Y.astore_n C (lv' := [(2, .ref q), (0, .ref aO), (1, .ref aL)]) dL_run_11 rfl (by decide) rfl ?_
  refine Y.iconst C (v := (1 : Int32)) dL_run_12 (by decide) ?_
  exact Y.wiret C hr hA dL_run_13 (Nat.le_of_ble_eq_true rfl) (Nat.le_of_ble_eq_true rfl) rfl rfl
set_option maxHeartbeats 4000000 in
set_option maxRecDepth 100000 in
theorem c_LvalueT {l : Launch} {D : va_G} {aL aO aR aT aC aK aF aS aM aA aB aV aN aX bC bK bF bS : Nat} {cC cI cL : ClassId} {rdy : Bool} {tx : Nat → Int32} {len : Nat} {r : RS} {K F S : Nat → Int32} {sz stm ops : Nat} {g : MS} {f : Nat → Int64} (p0 : Int32) (hlt : l.stackTraces = false) (hok0 : 0 ≤ p0 ∧ ¬ (26 : Int32) ≤ p0) : Wi l yL_value wsL_value 11 D [(cC, .char), (cI, .int), (cL, .long)] [.ref aO, .int p0, .ref aL] ((aL, .inl (cL, 1, .inr (.inl (f)))) :: (wX aO aR aT aC aK aF aS aM aA aB aV aN aX bC bK bF bS cC cI rdy tx len r K F S sz stm ops g)) 0 ((aL, .inl (cL, 1, .inr (.inl (vp_updL f 0 (g.2.2.1 p0.toNatClampNeg).toInt64)))) :: (wX aO aR aT aC aK aF aS aM aA aB aV aN aX bC bK bF bS cC cI rdy tx len r K F S sz stm ops g)) := by
  refine Wi.of (cc := cL_value) (maxL := 4) (ty := .int) (hh := [(0, 9, 12, 20)]) (by decide) rfl (Nat.le_of_ble_eq_true rfl) ?_
  intro p e s m below meth c A C hr hA hzt hNc htb
  show Y p l e (rmX _) s m _ below meth c _ D A _ 0 0 _ [(0, .ref aO), (1, .int p0), (2, .ref aL)] 0 []
  refine Y.aload_n C dL_value_0 2 rfl rfl ?_
  refine Y.iconst C (v := (0 : Int32)) dL_value_1 (by decide) ?_
  refine Y.aload_n C dL_value_2 0 rfl rfl ?_
  refine Y.iload_n C dL_value_3 1 rfl rfl ?_
  refine Y.callXi C hzt (b := aO) (As := [.int p0]) (st := [.int 0, .ref aL]) (nA := 1) (xfI (c_valueX p0 hlt) [1, 2, 3, 4, 5, 6, 7, 8, 9, 10, 11, 12, 13, 14, 15, 16, 17] [0] [0, 1, 2, 3, 4, 5, 6, 7, 8, 9, 10, 11, 12, 13, 14, 15, 16, 17] [0, 1] rfl rfl rfl (by decide) rfl (by decide) (by decide) rfl rfl (by decide) rfl rfl) gL_value_X3_value rfl (by decide +kernel) ⟨Nat.le_of_ble_eq_true rfl, Nat.le_of_ble_eq_true rfl⟩ 1 rfl rfl rfl (Nat.le_of_ble_eq_true rfl) rfl (Nat.le_of_ble_eq_true rfl) (Nat.le_of_ble_eq_true rfl) dL_value_4 [] ⟨0, 9, 12, 20⟩ [] htb (fun z hz => absurd hz List.not_mem_nil) rfl (by decide) (by decide +kernel) (by decide) (fun hok => ?_) (fun hno => absurd hok0 hno)
  refine Y.i2l C dL_value_7 rfl ?_
  refine Y.last C 0 2 rfl rfl (by decide) rfl dL_value_8 ?_
  refine Y.goto C 15 dL_value_9 (by decide) ?_
  refine Y.iconst C (v := (0 : Int32)) dL_value_15 (by decide) ?_
  exact Y.wiret C hr hA dL_value_16 (Nat.le_of_ble_eq_true rfl) (Nat.le_of_ble_eq_true rfl) rfl rfl
set_option maxHeartbeats 4000000 in
set_option maxRecDepth 100000 in
theorem c_LvalueF {l : Launch} {D : va_G} {aL aO aR aT aC aK aF aS aM aA aB aV aN aX bC bK bF bS : Nat} {cC cI cL : ClassId} {rdy : Bool} {tx : Nat → Int32} {len : Nat} {r : RS} {K F S : Nat → Int32} {sz stm ops : Nat} {g : MS} {f : Nat → Int64} (p0 : Int32) (hlt : l.stackTraces = false) (hno0 : ¬ (0 ≤ p0 ∧ ¬ (26 : Int32) ≤ p0)) : Wi l yL_value wsL_value 11 D [(cC, .char), (cI, .int), (cL, .long)] [.ref aO, .int p0, .ref aL] ((aL, .inl (cL, 1, .inr (.inl (f)))) :: (wX aO aR aT aC aK aF aS aM aA aB aV aN aX bC bK bF bS cC cI rdy tx len r K F S sz stm ops g)) 1 ((aL, .inl (cL, 1, .inr (.inl (f)))) :: (wX aO aR aT aC aK aF aS aM aA aB aV aN aX bC bK bF bS cC cI rdy tx len r K F S sz stm ops g)) := by
  refine Wi.of (cc := cL_value) (maxL := 4) (ty := .int) (hh := [(0, 9, 12, 20)]) (by decide) rfl (Nat.le_of_ble_eq_true rfl) ?_
  intro p e s m below meth c A C hr hA hzt hNc htb
  show Y p l e (rmX _) s m _ below meth c _ D A _ 0 0 _ [(0, .ref aO), (1, .int p0), (2, .ref aL)] 0 []
  refine Y.aload_n C dL_value_0 2 rfl rfl ?_
  refine Y.iconst C (v := (0 : Int32)) dL_value_1 (by decide) ?_
  refine Y.aload_n C dL_value_2 0 rfl rfl ?_
  refine Y.iload_n C dL_value_3 1 rfl rfl ?_
  refine Y.callXi C hzt (b := aO) (As := [.int p0]) (st := [.int 0, .ref aL]) (nA := 1) (xfI (c_valueX p0 hlt) [1, 2, 3, 4, 5, 6, 7, 8, 9, 10, 11, 12, 13, 14, 15, 16, 17] [0] [0, 1, 2, 3, 4, 5, 6, 7, 8, 9, 10, 11, 12, 13, 14, 15, 16, 17] [0, 1] rfl rfl rfl (by decide) rfl (by decide) (by decide) rfl rfl (by decide) rfl rfl) gL_value_X3_value rfl (by decide +kernel) ⟨Nat.le_of_ble_eq_true rfl, Nat.le_of_ble_eq_true rfl⟩ 1 rfl rfl rfl (Nat.le_of_ble_eq_true rfl) rfl (Nat.le_of_ble_eq_true rfl) (Nat.le_of_ble_eq_true rfl) dL_value_4 [] ⟨0, 9, 12, 20⟩ [] htb (fun z hz => absurd hz List.not_mem_nil) rfl (by decide) (by decide +kernel) (by decide) (fun hok => absurd hok hno0) (fun hno q => ?_)
  refine Y.astore_n C (lv' := [(3, .ref q), (0, .ref aO), (1, .int p0), (2, .ref aL)]) dL_value_12 rfl (by decide) rfl ?_
  refine Y.iconst C (v := (1 : Int32)) dL_value_13 (by decide) ?_
  exact Y.wiret C hr hA dL_value_14 (Nat.le_of_ble_eq_true rfl) (Nat.le_of_ble_eq_true rfl) rfl rfl
set_option maxHeartbeats 4000000 in
set_option maxRecDepth 100000 in
theorem c_LpeekT {l : Launch} {D : va_G} {aL aO aR aT aC aK aF aS aM aA aB aV aN aX bC bK bF bS : Nat} {cC cI cL : ClassId} {rdy : Bool} {tx : Nat → Int32} {len : Nat} {r : RS} {K F S : Nat → Int32} {sz stm ops : Nat} {g : MS} {f : Nat → Int64} (p0 : Int32) (hlt : l.stackTraces = false) (hok0 : isAddrF p0 = true) : Wi l yL_peek wsL_peek 11 D [(cC, .char), (cI, .int), (cL, .long)] [.ref aO, .int p0, .ref aL] ((aL, .inl (cL, 1, .inr (.inl (f)))) :: (wX aO aR aT aC aK aF aS aM aA aB aV aN aX bC bK bF bS cC cI rdy tx len r K F S sz stm ops g)) 0 ((aL, .inl (cL, 1, .inr (.inl (vp_updL f 0 (g.1 p0.toNatClampNeg).toInt64)))) :: (wX aO aR aT aC aK aF aS aM aA aB aV aN aX bC bK bF bS cC cI rdy tx len r K F S sz stm ops g)) := by
  refine Wi.of (cc := cL_peek) (maxL := 4) (ty := .int) (hh := [(0, 9, 12, 20)]) (by decide) rfl (Nat.le_of_ble_eq_true rfl) ?_
  intro p e s m below meth c A C hr hA hzt hNc htb
  show Y p l e (rmX _) s m _ below meth c _ D A _ 0 0 _ [(0, .ref aO), (1, .int p0), (2, .ref aL)] 0 []
  refine Y.aload_n C dL_peek_0 2 rfl rfl ?_
  refine Y.iconst C (v := (0 : Int32)) dL_peek_1 (by decide) ?_
  refine Y.aload_n C dL_peek_2 0 rfl rfl ?_
  refine Y.iload_n C dL_peek_3 1 rfl rfl ?_
  refine Y.callXi C hzt (b := aO) (As := [.int p0]) (st := [.int 0, .ref aL]) (nA := 1) (xfI (c_peekX p0 hlt) [1, 2, 3, 4, 5, 6, 7, 8, 9, 10, 11, 12, 13, 14, 15, 16, 17] [0] [0, 1, 2, 3, 4, 5, 6, 7, 8, 9, 10, 11, 12, 13, 14, 15, 16, 17] [0, 1] rfl rfl rfl (by decide) rfl (by decide) (by decide) rfl rfl (by decide) rfl rfl) gL_peek_X3_peek rfl (by decide +kernel) ⟨Nat.le_of_ble_eq_true rfl, Nat.le_of_ble_eq_true rfl⟩ 1 rfl rfl rfl (Nat.le_of_ble_eq_true rfl) rfl (Nat.le_of_ble_eq_true rfl) (Nat.le_of_ble_eq_true rfl) dL_peek_4 [] ⟨0, 9, 12, 20⟩ [] htb (fun z hz => absurd hz List.not_mem_nil) rfl (by decide) (by decide +kernel) (by decide) (fun hok => ?_) (fun hno => absurd hok0 hno)
  refine Y.i2l C dL_peek_7 rfl ?_
  refine Y.last C 0 2 rfl rfl (by decide) rfl dL_peek_8 ?_
  refine Y.goto C 15 dL_peek_9 (by decide) ?_
  refine Y.iconst C (v := (0 : Int32)) dL_peek_15 (by decide) ?_
  exact Y.wiret C hr hA dL_peek_16 (Nat.le_of_ble_eq_true rfl) (Nat.le_of_ble_eq_true rfl) rfl rfl
set_option maxHeartbeats 4000000 in
set_option maxRecDepth 100000 in
theorem c_LpeekF {l : Launch} {D : va_G} {aL aO aR aT aC aK aF aS aM aA aB aV aN aX bC bK bF bS : Nat} {cC cI cL : ClassId} {rdy : Bool} {tx : Nat → Int32} {len : Nat} {r : RS} {K F S : Nat → Int32} {sz stm ops : Nat} {g : MS} {f : Nat → Int64} (p0 : Int32) (hlt : l.stackTraces = false) (hno0 : ¬ (isAddrF p0 = true)) : Wi l yL_peek wsL_peek 11 D [(cC, .char), (cI, .int), (cL, .long)] [.ref aO, .int p0, .ref aL] ((aL, .inl (cL, 1, .inr (.inl (f)))) :: (wX aO aR aT aC aK aF aS aM aA aB aV aN aX bC bK bF bS cC cI rdy tx len r K F S sz stm ops g)) 1 ((aL, .inl (cL, 1, .inr (.inl (f)))) :: (wX aO aR aT aC aK aF aS aM aA aB aV aN aX bC bK bF bS cC cI rdy tx len r K F S sz stm ops g)) := by
  refine Wi.of (cc := cL_peek) (maxL := 4) (ty := .int) (hh := [(0, 9, 12, 20)]) (by decide) rfl (Nat.le_of_ble_eq_true rfl) ?_
  intro p e s m below meth c A C hr hA hzt hNc htb
  show Y p l e (rmX _) s m _ below meth c _ D A _ 0 0 _ [(0, .ref aO), (1, .int p0), (2, .ref aL)] 0 []
  refine Y.aload_n C dL_peek_0 2 rfl rfl ?_
  refine Y.iconst C (v := (0 : Int32)) dL_peek_1 (by decide) ?_
  refine Y.aload_n C dL_peek_2 0 rfl rfl ?_
  refine Y.iload_n C dL_peek_3 1 rfl rfl ?_
  refine Y.callXi C hzt (b := aO) (As := [.int p0]) (st := [.int 0, .ref aL]) (nA := 1) (xfI (c_peekX p0 hlt) [1, 2, 3, 4, 5, 6, 7, 8, 9, 10, 11, 12, 13, 14, 15, 16, 17] [0] [0, 1, 2, 3, 4, 5, 6, 7, 8, 9, 10, 11, 12, 13, 14, 15, 16, 17] [0, 1] rfl rfl rfl (by decide) rfl (by decide) (by decide) rfl rfl (by decide) rfl rfl) gL_peek_X3_peek rfl (by decide +kernel) ⟨Nat.le_of_ble_eq_true rfl, Nat.le_of_ble_eq_true rfl⟩ 1 rfl rfl rfl (Nat.le_of_ble_eq_true rfl) rfl (Nat.le_of_ble_eq_true rfl) (Nat.le_of_ble_eq_true rfl) dL_peek_4 [] ⟨0, 9, 12, 20⟩ [] htb (fun z hz => absurd hz List.not_mem_nil) rfl (by decide) (by decide +kernel) (by decide) (fun hok => absurd hok hno0) (fun hno q => ?_)
  refine Y.astore_n C (lv' := [(3, .ref q), (0, .ref aO), (1, .int p0), (2, .ref aL)]) dL_peek_12 rfl (by decide) rfl ?_
  refine Y.iconst C (v := (1 : Int32)) dL_peek_13 (by decide) ?_
  exact Y.wiret C hr hA dL_peek_14 (Nat.le_of_ble_eq_true rfl) (Nat.le_of_ble_eq_true rfl) rfl rfl
set_option maxHeartbeats 4000000 in
set_option maxRecDepth 100000 in
theorem c_LpokeT {l : Launch} {D : va_G} {aL aO aR aT aC aK aF aS aM aA aB aV aN aX bC bK bF bS : Nat} {cC cI cL : ClassId} {rdy : Bool} {tx : Nat → Int32} {len : Nat} {r : RS} {K F S : Nat → Int32} {sz stm ops : Nat} {g : MS} {f : Nat → Int64} (p0 p1 : Int32) (hlt : l.stackTraces = false) (hok0 : isAddrF p0 = true) : Wi l yL_poke wsL_poke 11 D [(cC, .char), (cI, .int), (cL, .long)] [.ref aO, .int p0, .int p1] ((aL, .inl (cL, 1, .inr (.inl (f)))) :: (wX aO aR aT aC aK aF aS aM aA aB aV aN aX bC bK bF bS cC cI rdy tx len r K F S sz stm ops g)) 0 ((aL, .inl (cL, 1, .inr (.inl (f)))) :: (wX aO aR aT aC aK aF aS aM aA aB aV aN aX bC bK bF bS cC cI rdy tx len r K F S sz stm ops (upd g.1 p0.toNatClampNeg p1, g.2))) := by
  refine Wi.of (cc := cL_poke) (maxL := 4) (ty := .int) (hh := [(0, 6, 9, 20)]) (by decide) rfl (Nat.le_of_ble_eq_true rfl) ?_
  intro p e s m below meth c A C hr hA hzt hNc htb
  show Y p l e (rmX _) s m _ below meth c _ D A _ 0 0 _ [(0, .ref aO), (1, .int p0), (2, .int p1)] 0 []
  refine Y.aload_n C dL_poke_0 0 rfl rfl ?_
  refine Y.iload_n C dL_poke_1 1 rfl rfl ?_
  refine Y.iload_n C dL_poke_2 2 rfl rfl ?_
  refine Y.callXv C hzt (b := aO) (As := [.int p0, .int p1]) (st := []) (nA := 2) (xfV (c_pokeX p0 p1 hlt) [1, 2, 3, 4, 5, 6, 7, 8, 9, 10, 11, 12, 13, 14, 15, 16, 17] [0] [0, 1, 2, 3, 4, 5, 6, 7, 8, 9, 10, 11, 12, 13, 14, 15, 16, 17] [0, 1] rfl rfl rfl (by decide) rfl (by decide) (by decide) rfl rfl (by decide) rfl rfl) gL_poke_X3_poke rfl (by decide +kernel) ⟨Nat.le_of_ble_eq_true rfl, Nat.le_of_ble_eq_true rfl⟩ 1 rfl rfl rfl (Nat.le_of_ble_eq_true rfl) rfl (Nat.le_of_ble_eq_true rfl) (Nat.le_of_ble_eq_true rfl) dL_poke_3 [] ⟨0, 6, 9, 20⟩ [] htb (fun z hz => absurd hz List.not_mem_nil) rfl (by decide) (by decide +kernel) (by decide) (fun hok => ?_) (fun hno => absurd hok0 hno)
  refine Y.goto C 12 dL_poke_6 (by decide) ?_
  refine Y.iconst C (v := (0 : Int32)) dL_poke_12 (by decide) ?_
  exact Y.wiret C hr hA dL_poke_13 (Nat.le_of_ble_eq_true rfl) (Nat.le_of_ble_eq_true rfl) rfl rfl
set_option maxHeartbeats 4000000 in
set_option maxRecDepth 100000 in
theorem c_LpokeF {l : Launch} {D : va_G} {aL aO aR aT aC aK aF aS aM aA aB aV aN aX bC bK bF bS : Nat} {cC cI cL : ClassId} {rdy : Bool} {tx : Nat → Int32} {len : Nat} {r : RS} {K F S : Nat → Int32} {sz stm ops : Nat} {g : MS} {f : Nat → Int64} (p0 p1 : Int32) (hlt : l.stackTraces = false) (hno0 : ¬ isAddrF p0 = true) : Wi l yL_poke wsL_poke 11 D [(cC, .char), (cI, .int), (cL, .long)] [.ref aO, .int p0, .int p1] ((aL, .inl (cL, 1, .inr (.inl (f)))) :: (wX aO aR aT aC aK aF aS aM aA aB aV aN aX bC bK bF bS cC cI rdy tx len r K F S sz stm ops g)) 1 ((aL, .inl (cL, 1, .inr (.inl (f)))) :: (wX aO aR aT aC aK aF aS aM aA aB aV aN aX bC bK bF bS cC cI rdy tx len r K F S sz stm ops g)) := by
  refine Wi.of (cc := cL_poke) (maxL := 4) (ty := .int) (hh := [(0, 6, 9, 20)]) (by decide) rfl (Nat.le_of_ble_eq_true rfl) ?_
  intro p e s m below meth c A C hr hA hzt hNc htb
  show Y p l e (rmX _) s m _ below meth c _ D A _ 0 0 _ [(0, .ref aO), (1, .int p0), (2, .int p1)] 0 []
  refine Y.aload_n C dL_poke_0 0 rfl rfl ?_
  refine Y.iload_n C dL_poke_1 1 rfl rfl ?_
  refine Y.iload_n C dL_poke_2 2 rfl rfl ?_
  refine Y.callXv C hzt (b := aO) (As := [.int p0, .int p1]) (st := []) (nA := 2) (xfV (c_pokeX p0 p1 hlt) [1, 2, 3, 4, 5, 6, 7, 8, 9, 10, 11, 12, 13, 14, 15, 16, 17] [0] [0, 1, 2, 3, 4, 5, 6, 7, 8, 9, 10, 11, 12, 13, 14, 15, 16, 17] [0, 1] rfl rfl rfl (by decide) rfl (by decide) (by decide) rfl rfl (by decide) rfl rfl) gL_poke_X3_poke rfl (by decide +kernel) ⟨Nat.le_of_ble_eq_true rfl, Nat.le_of_ble_eq_true rfl⟩ 1 rfl rfl rfl (Nat.le_of_ble_eq_true rfl) rfl (Nat.le_of_ble_eq_true rfl) (Nat.le_of_ble_eq_true rfl) dL_poke_3 [] ⟨0, 6, 9, 20⟩ [] htb (fun z hz => absurd hz List.not_mem_nil) rfl (by decide) (by decide +kernel) (by decide) (fun hok => absurd hok hno0) (fun hno q => ?_)
  refine Y.astore_n C (lv' := [(3, .ref q), (0, .ref aO), (1, .int p0), (2, .int p1)]) dL_poke_9 rfl (by decide) rfl ?_
  refine Y.iconst C (v := (1 : Int32)) dL_poke_10 (by decide) ?_
  exact Y.wiret C hr hA dL_poke_11 (Nat.le_of_ble_eq_true rfl) (Nat.le_of_ble_eq_true rfl) rfl rfl
set_option maxHeartbeats 4000000 in
set_option maxRecDepth 100000 in
theorem c_LfillT {l : Launch} {D : va_G} {aL aO aR aT aC aK aF aS aM aA aB aV aN aX bC bK bF bS : Nat} {cC cI cL : ClassId} {rdy : Bool} {tx : Nat → Int32} {len : Nat} {r : RS} {K F S : Nat → Int32} {sz stm ops : Nat} {g : MS} {f : Nat → Int64} (j : Nat) (p1 p2 : Int32) (hlt : l.stackTraces = false) (hj : j ≤ 192) : Wi l yL_fill wsL_fill 11 D [(cC, .char), (cI, .int), (cL, .long)] [.ref aO, .int (nI j), .int p1, .int p2] ((aL, .inl (cL, 1, .inr (.inl (f)))) :: (wX aO aR aT aC aK aF aS aM aA aB aV aN aX bC bK bF bS cC cI rdy tx len r K F S sz stm ops g)) 0 ((aL, .inl (cL, 1, .inr (.inl (f)))) :: (wX aO aR aT aC aK aF aS aM aA aB aV aN aX bC bK bF bS cC cI rdy tx len r K F S sz stm ops (fillM p1 p2 j 0 g.1, g.2))) := by
  refine Wi.of (cc := cL_fill) (maxL := 5) (ty := .int) (hh := [(0, 7, 10, 13)]) (by decide) rfl (Nat.le_of_ble_eq_true rfl) ?_
  intro p e s m below meth c A C hr hA hzt hNc htb
  show Y p l e (rmX _) s m _ below meth c _ D A _ 0 0 _ [(0, .ref aO), (1, .int (nI j)), (2, .int p1), (3, .int p2)] 0 []
  refine Y.aload_n C dL_fill_0 0 rfl rfl ?_
  refine Y.iload_n C dL_fill_1 1 rfl rfl ?_
  refine Y.iload_n C dL_fill_2 2 rfl rfl ?_
  refine Y.iload_n C dL_fill_3 3 rfl rfl ?_
  refine Y.callXv C hzt (b := aO) (As := [.int (nI j), .int p1, .int p2]) (st := []) (nA := 3) (xfV (c_fillOkX p1 p2 hlt j hj) [1, 2, 3, 4, 5, 6, 7, 8, 9, 10, 11, 12, 13, 14, 15, 16, 17] [0] [0, 1, 2, 3, 4, 5, 6, 7, 8, 9, 10, 11, 12, 13, 14, 15, 16, 17] [0, 1] rfl rfl rfl (by decide) rfl (by decide) (by decide) rfl rfl (by decide) rfl rfl) gL_fill_X3_fill rfl (by decide +kernel) ⟨Nat.le_of_ble_eq_true rfl, Nat.le_of_ble_eq_true rfl⟩ 1 rfl rfl rfl (Nat.le_of_ble_eq_true rfl) rfl (Nat.le_of_ble_eq_true rfl) (Nat.le_of_ble_eq_true rfl) dL_fill_4 [] ⟨0, 7, 10, 13⟩ [] htb (fun z hz => absurd hz List.not_mem_nil) rfl (by decide) (by decide +kernel) (by decide) (fun hok => ?_) (fun hno => absurd trivial hno)
  refine Y.goto C 14 dL_fill_7 (by decide) ?_
  refine Y.iconst C (v := (0 : Int32)) dL_fill_14 (by decide) ?_
  exact Y.wiret C hr hA dL_fill_15 (Nat.le_of_ble_eq_true rfl) (Nat.le_of_ble_eq_true rfl) rfl rfl
set_option maxHeartbeats 4000000 in
set_option maxRecDepth 100000 in
theorem c_LfillF {l : Launch} {D : va_G} {aL aO aR aT aC aK aF aS aM aA aB aV aN aX bC bK bF bS : Nat} {cC cI cL : ClassId} {rdy : Bool} {tx : Nat → Int32} {len : Nat} {r : RS} {K F S : Nat → Int32} {sz stm ops : Nat} {g : MS} {f : Nat → Int64} (p0 p1 p2 : Int32) (hlt : l.stackTraces = false) (hbad : ¬ 0 ≤ p0 ∨ ¬ p0 ≤ 192) : Wi l yL_fill wsL_fill 11 D [(cC, .char), (cI, .int), (cL, .long)] [.ref aO, .int p0, .int p1, .int p2] ((aL, .inl (cL, 1, .inr (.inl (f)))) :: (wX aO aR aT aC aK aF aS aM aA aB aV aN aX bC bK bF bS cC cI rdy tx len r K F S sz stm ops g)) 1 ((aL, .inl (cL, 1, .inr (.inl (f)))) :: (wX aO aR aT aC aK aF aS aM aA aB aV aN aX bC bK bF bS cC cI rdy tx len r K F S sz stm ops g)) := by
  refine Wi.of (cc := cL_fill) (maxL := 5) (ty := .int) (hh := [(0, 7, 10, 13)]) (by decide) rfl (Nat.le_of_ble_eq_true rfl) ?_
  intro p e s m below meth c A C hr hA hzt hNc htb
  show Y p l e (rmX _) s m _ below meth c _ D A _ 0 0 _ [(0, .ref aO), (1, .int p0), (2, .int p1), (3, .int p2)] 0 []
  refine Y.aload_n C dL_fill_0 0 rfl rfl ?_
  refine Y.iload_n C dL_fill_1 1 rfl rfl ?_
  refine Y.iload_n C dL_fill_2 2 rfl rfl ?_
  refine Y.iload_n C dL_fill_3 3 rfl rfl ?_
  refine Y.callXv C hzt (b := aO) (As := [.int p0, .int p1, .int p2]) (st := []) (nA := 3) (xfV (c_fillBadX p0 p1 p2 hlt hbad) [1, 2, 3, 4, 5, 6, 7, 8, 9, 10, 11, 12, 13, 14, 15, 16, 17] [0] [0, 1, 2, 3, 4, 5, 6, 7, 8, 9, 10, 11, 12, 13, 14, 15, 16, 17] [0, 1] rfl rfl rfl (by decide) rfl (by decide) (by decide) rfl rfl (by decide) rfl rfl) gL_fill_X3_fill rfl (by decide +kernel) ⟨Nat.le_of_ble_eq_true rfl, Nat.le_of_ble_eq_true rfl⟩ 1 rfl rfl rfl (Nat.le_of_ble_eq_true rfl) rfl (Nat.le_of_ble_eq_true rfl) (Nat.le_of_ble_eq_true rfl) dL_fill_4 [] ⟨0, 7, 10, 13⟩ [] htb (fun z hz => absurd hz List.not_mem_nil) rfl (by decide) (by decide +kernel) (by decide) (fun hok => absurd hok (fun h => h)) (fun hno q => ?_)
  refine Y.astore C (lv' := [(4, .ref q), (0, .ref aO), (1, .int p0), (2, .int p1), (3, .int p2)]) dL_fill_10 (by decide) rfl ?_
  refine Y.iconst C (v := (1 : Int32)) dL_fill_12 (by decide) ?_
  exact Y.wiret C hr hA dL_fill_13 (Nat.le_of_ble_eq_true rfl) (Nat.le_of_ble_eq_true rfl) rfl rfl
