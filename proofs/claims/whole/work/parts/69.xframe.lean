theorem zt.narrow {A B : Nat → Prop} {U : State} (h : zt A U) (hAB : ∀ q, B q → A q) : zt B U := ⟨h.1, h.2.1, h.2.2.1, h.2.2.2.1.narrow hAB, h.2.2.2.2.narrow hAB⟩
theorem va_A_sub {wc w : va_W} {isC : List Nat} {sz : Nat} (hC : isC.map (fun i => w[i]?) = wc.map some) : ∀ q, va_A wc sz q → va_A w sz q := fun q h => by
  rcases h with ⟨k, e, h⟩ | h
  · have h1 : (isC.map (fun i => w[i]?))[k]? = some (some (q, e)) := by rw [hC, List.getElem?_map, h]; rfl
    rw [List.getElem?_map] at h1
    cases hi : isC[k]? with
    | none => rw [hi] at h1; cases h1
    | some i => rw [hi] at h1; exact Or.inl ⟨i, e, Option.some.inj h1⟩
  · exact Or.inr h
/-- the frame rule for contracts of methods that may throw -/
theorem xframe {l : Launch} {y : MethodName} {ws : List Cond} {n : Nat} {D : va_G} {tys tysC : List (ClassId × FieldType)} {av : List Value} {wc w1 wE w wr w1' wE' : va_W} {ok : Prop} {E : String} {Qc Qw : va_W → va_W → Nat → Array Value → State → Outcome → State → Prop} {isC isR ps : List Nat} {its : List Nat} (hts : its.filterMap (fun i => tys[i]?) = tysC)
    (h : ∀ sz, vx_Met l y ws (rmX n) (va_Pc av (bPX D tysC wc sz)) (Qc wc w1 sz) (xX D tysC wc ok E wE sz) 1 6 (va_A wc sz)) (hC : isC.map (fun i => w[i]?) = wc.map some) (hC' : isC.filterMap (fun i => w[i]?) = wc) (hnC : va_nd isC = true) (hR : isR.map (fun i => w[i]?) = wr.map some) (hnR : va_nd isR = true) (hdis : ∀ i ∈ isR, i ∉ isC)
    (hp1 : ps.filterMap (fun i => (wr ++ w1)[i]?) = w1') (hp2 : ps.map (fun i => (wr ++ w1)[i]?) = w1'.map some) (hp3 : va_nd ps = true) (he1 : ps.filterMap (fun i => (wr ++ wE)[i]?) = wE') (he2 : ps.map (fun i => (wr ++ wE)[i]?) = wE'.map some)
    (hQ : ∀ (sz : Nat) (a : Array Value) (s t : State) (o : Outcome), s.heap.size = sz → (bQ D tysC wc w1 sz t → va_F (va_A wc sz) s t → bQ D tys w w1' sz t ∧ va_F (va_A w sz) s t) → Qc wc w1 sz a s o t → Qw w w1' sz a s o t) :
    ∀ sz, vx_Met l y ws (rmX n) (va_Pc av (bPX D tys w sz)) (Qw w w1' sz) (xX D tys w ok E wE' sz) 1 6 (va_A w sz) := by
  intro sz
  have hA := va_A_sub (sz := sz) hC
  have join : ∀ (s t : State) (x x' : va_W), bP D tys w sz s → s.vm.Alike t.vm → ps.filterMap (fun i => (wr ++ x)[i]?) = x' → ps.map (fun i => (wr ++ x)[i]?) = x'.map some → bQ D tysC wc x sz t → va_F (va_A wc sz) s t → bQ D tys w x' sz t ∧ va_F (va_A w sz) s t := by
    intro s t x x' hp hvm g1 g2 hq hF
    obtain ⟨e2, hP, hK, hD, hN⟩ := hp
    obtain ⟨hP1, hK1, hD1⟩ := hq
    subst e2
    obtain ⟨hP2, hD2⟩ := va_join (wr := wr) (w1 := x) (H1 := t.heap) hP (hD.self (sz := s.heap.size)) isC isR hC hR hnR hdis hF.2 hA hP1 hD1
    exact ⟨⟨hP2.sub ps g1, va_K.moved hvm hK, hD2.sub ps hp3 g2⟩, hF.1, fun q h1 h2 => hF.2 q h1 (fun z => h2 (hA q z))⟩
  refine MetFree.mono (h sz) (fun a s hp => ?_) (fun _ _ _ _ _ h => h) (fun a s o t hp hq => ?_)
  · obtain ⟨e1, ⟨e2, hP, hK, hD, hN⟩, hz⟩ := hp
    exact ⟨e1, ⟨e2, hP.sub isC hC', hK.sub its hts, hD.sub isC hnC hC, hN⟩, hz.narrow hA⟩
  · obtain ⟨e1, hb, hz⟩ := hp
    rcases hq with ⟨hqc, L, hfe, hL⟩ | ⟨q, rfl, E', ce, L, ⟨u, hu, ⟨hE, hbq⟩, hF⟩, hce, hcv, hcl, hW, hsm, hL⟩
    · exact Or.inl ⟨hQ sz a s t o hb.1 (fun g1 g2 => join s t w1 w1' hb hfe.2.1.alike hp1 hp2 g1 g2) hqc, L, hfe, fun q hq => hA _ (hL q hq)⟩
    · obtain ⟨g1, g2⟩ := join s t wE wE' hb hW.alike he1 he2 hbq hF
      exact Or.inr ⟨q, rfl, E', ce, L, ⟨u, hu, ⟨hE, g1⟩, g2⟩, hce, hcv, hcl, hW, hsm, fun z hz => hA _ (hL z hz)⟩

