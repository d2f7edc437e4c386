theorem upd_at {f : Nat → Int32} {k : Nat} {x : Int32} : upd f k x k = x := if_pos rfl
theorem upd_ne {f : Nat → Int32} {k i : Nat} {x : Int32} (h : i ≠ k) : upd f k x i = f i := if_neg h
theorem cAdd_t {k f s : Int32} {K F S : Nat → Int32} {sz st op : Nat} (h : sz < 480) : cAdd k f s (K, F, S, sz, st, op) = (upd K sz k, upd F sz f, upd S sz s, sz + 1, st, op) := if_pos h
/-- c is c0 with one more operand; s: the operand is one number -/
def CB (c0 c : CS) (D : DX) (s : Bool) (h : Nat) : Prop :=
  csz c0 < csz c ∧ c.2.2.2.2.1 = c0.2.2.2.2.1 ∧ (∀ i, i < csz c0 → c.1 i = c0.1 i ∧ c.2.1 i = c0.2.1 i ∧ c.2.2.1 i = c0.2.2.1 i) ∧
  (s = true → csz c = csz c0 + 1 ∧ c.1 (csz c0) = 1 ∧ D = fun _ _ => some (c.2.1 (csz c0))) ∧ (s = false → c.1 (csz c - 1) ≠ 1) ∧ CEx c.1 c.2.1 (csz c0) (csz c) D h
theorem CB_num {c0 : CS} {v : Int32} (hz : csz c0 < 480) : CB c0 (cAdd 1 v 0 c0) (fun _ _ => some v) true 1 ∧ csz (cAdd 1 v 0 c0) = csz c0 + 1 ∧ (cAdd 1 v 0 c0).2.2.2.2.2 = c0.2.2.2.2.2 := by
  obtain ⟨K, F, S, sz, st, op⟩ := c0
  rw [cAdd_t hz]
  refine ⟨⟨Nat.lt_succ_self sz, rfl, fun i hi => ⟨upd_ne (Nat.ne_of_lt hi), upd_ne (Nat.ne_of_lt hi), upd_ne (Nat.ne_of_lt hi)⟩, fun _ => ⟨rfl, upd_at, ?_⟩, fun q => absurd q (by decide), ?_⟩, rfl, rfl⟩
  · show _ = fun _ _ => some (upd F sz v sz); rw [upd_at]
  · exact CEx_num upd_at upd_at
theorem CB_name {c0 : CS} {k : Nat} (hk : k < 26) (hz : csz c0 < 480) : CB c0 (cAdd 2 (nI k) 0 c0) (fun na _ => some (na k)) false 1 ∧ csz (cAdd 2 (nI k) 0 c0) = csz c0 + 1 ∧ (cAdd 2 (nI k) 0 c0).2.2.2.2.2 = c0.2.2.2.2.2 := by
  obtain ⟨K, F, S, sz, st, op⟩ := c0
  rw [cAdd_t hz]
  refine ⟨⟨Nat.lt_succ_self sz, rfl, fun i hi => ⟨upd_ne (Nat.ne_of_lt hi), upd_ne (Nat.ne_of_lt hi), upd_ne (Nat.ne_of_lt hi)⟩, fun q => absurd q (by decide), fun _ => ?_, ?_⟩, rfl, rfl⟩
  · show upd K sz 2 (sz + 1 - 1) ≠ 1
    rw [show sz + 1 - 1 = sz from rfl, upd_at]; decide
  · exact CEx_name upd_at upd_at hk
theorem CB_load {c0 c : CS} {D : DX} {s : Bool} {h : Nat} (H : CB c0 c D s h) (h1 : 1 ≤ h) (hz : csz c < 480) : CB c0 (cAdd 3 0 0 c) (fun na me => (D na me).bind (fun v => if isAddrF v = true then some (me v.toNatClampNeg) else none)) false h ∧ csz (cAdd 3 0 0 c) = csz c + 1 ∧ (cAdd 3 0 0 c).2.2.2.2.2 = c.2.2.2.2.2 := by
  obtain ⟨K, F, S, sz, st, op⟩ := c
  obtain ⟨hlt, hst, hag, _, _, hE⟩ := H
  have hlt' : csz c0 < sz := hlt
  rw [cAdd_t hz]
  refine ⟨⟨Nat.lt_succ_of_lt hlt, hst, fun i hi => ⟨(upd_ne (by omega)).trans (hag i hi).1, (upd_ne (by omega)).trans (hag i hi).2.1, (upd_ne (by omega)).trans (hag i hi).2.2⟩, fun q => absurd q (by decide), fun _ => ?_, ?_⟩, rfl, rfl⟩
  · show upd K sz 3 (sz + 1 - 1) ≠ 1
    rw [show sz + 1 - 1 = sz from rfl, upd_at]; decide
  · exact CEx_load (Nat.le_of_lt hlt) h1 (CEx_ag hE (fun i h1 h2 => ⟨upd_ne (Nat.ne_of_lt h2), upd_ne (Nat.ne_of_lt h2)⟩)) upd_at
theorem CB_one {c0 c : CS} {D : DX} {s : Bool} {h : Nat} {op bits : Int32} (H : CB c0 c D s h) (h1 : 1 ≤ h) (hz : csz c < 480) (ho : op = 60 ∨ op = 62 ∨ op = 126) :
    CB c0 (cOne op bits c) (fun na me => (D na me).map (fun v => ofOneF op v bits)) s h ∧ csz (cOne op bits c) ≤ csz c + 1 ∧ (cOne op bits c).2.2.2.2.2 = if b2i s = 0 then c.2.2.2.2.2 + 1 else c.2.2.2.2.2 := by
  obtain ⟨K, F, S, sz, st, ops⟩ := c
  obtain ⟨hlt, hst, hag, hT, hF, hE⟩ := H
  have hlt' : csz c0 < sz := hlt
  cases s with
  | true =>
    obtain ⟨e1, e2, e3⟩ := hT rfl
    have e1' : sz = csz c0 + 1 := e1
    have hen : cEnds 1 (K, F, S, sz, st, ops) = true := by
      refine decide_eq_true ⟨by show 1 ≤ sz; omega, ?_, fun q => absurd q (by decide)⟩
      show K (sz - 1) = 1; rw [e1']; exact e2
    unfold cOne; rw [if_pos hen]
    have e4 : sz - 1 = csz c0 := by omega
    have hd : (fun na me => (D na me).map (fun v => ofOneF op v bits)) = (fun _ _ => some (ofOneF op (F (csz c0)) bits) : DX) := by rw [e3]; rfl
    rw [hd]
    show CB c0 (K, upd F (sz - 1) (ofOneF op (F (sz - 1)) bits), S, sz, st, ops) _ _ _ ∧ _
    rw [e4]
    refine ⟨⟨hlt, hst, fun i hi => ⟨(hag i hi).1, (upd_ne (by omega)).trans (hag i hi).2.1, (hag i hi).2.2⟩, fun _ => ⟨e1, e2, ?_⟩, fun q => absurd q (by decide), ?_⟩, Nat.le_succ _, rfl⟩
    · show _ = fun _ _ => some (upd F (csz c0) (ofOneF op (F (csz c0)) bits) (csz c0)); rw [upd_at]
    · show CEx K (upd F (csz c0) (ofOneF op (F (csz c0)) bits)) (csz c0) sz _ _
      rw [e1']; exact CEx_h h1 (CEx_num e2 upd_at)
  | false =>
    have hen : ¬ cEnds 1 (K, F, S, sz, st, ops) = true := fun q => hF rfl (of_decide_eq_true q).2.1
    unfold cOne; rw [if_neg hen, cAdd_t hz]
    refine ⟨⟨Nat.lt_succ_of_lt hlt, hst, fun i hi => ⟨(upd_ne (by omega)).trans (hag i hi).1, (upd_ne (by omega)).trans (hag i hi).2.1, (upd_ne (by omega)).trans (hag i hi).2.2⟩, fun q => absurd q (by decide), fun _ => ?_, ?_⟩, Nat.le_refl _, rfl⟩
    · show upd K sz op (sz + 1 - 1) ≠ 1
      rw [show sz + 1 - 1 = sz from rfl, upd_at]; rcases ho with rfl | rfl | rfl <;> decide
    · exact CEx_one (Nat.le_of_lt hlt) h1 (CEx_ag hE (fun i h1 h2 => ⟨upd_ne (Nat.ne_of_lt h2), upd_ne (Nat.ne_of_lt h2)⟩)) upd_at upd_at ho
theorem CB_two {c0 c1 c : CS} {D1 D2 : DX} {s1 s2 : Bool} {h1 h2 h : Nat} {op : Int32} (H1 : CB c0 c1 D1 s1 h1) (H2 : CB c1 c D2 s2 h2) (hh1 : 1 ≤ h1) (hh2 : 1 ≤ h2) (hA : h1 ≤ h) (hB : h2 + 1 ≤ h) (hz : csz c < 480) (ho : isOpF op = true) :
    CB c0 (cTwo op c) (fun na me => (D1 na me).bind (fun x => (D2 na me).map (fun y => ofTwoF op x y))) (s1 && s2) h ∧ csz (cTwo op c) ≤ csz c + 1 ∧ (cTwo op c).2.2.2.2.2 = if (s1 && s2) = true then c.2.2.2.2.2 else c.2.2.2.2.2 + 1 := by
  obtain ⟨K, F, S, sz, st, ops⟩ := c
  obtain ⟨glt, gst, gag, gT, gF, gE⟩ := H1
  obtain ⟨hlt, hst, hag, hT, hF, hE⟩ := H2
  have hlt' : csz c1 < sz := hlt
  have hst' : st = c1.2.2.2.2.1 := hst
  have agx : ∀ i, i < csz c0 → K i = c0.1 i ∧ F i = c0.2.1 i ∧ S i = c0.2.2.1 i := fun i hi => ⟨(hag i (by omega)).1.trans (gag i hi).1, (hag i (by omega)).2.1.trans (gag i hi).2.1, (hag i (by omega)).2.2.trans (gag i hi).2.2⟩
  have k1 : K (csz c1 - 1) = c1.1 (csz c1 - 1) := (hag (csz c1 - 1) (by omega)).1
  cases hs : (s1 && s2) with
  | true =>
    have q := Bool.and_eq_true_iff.mp hs
    obtain ⟨e1, e2, e3⟩ := hT q.2
    obtain ⟨d1, d2, d3⟩ := gT q.1
    have e1' : sz = csz c1 + 1 := e1
    have d4 : csz c1 - 1 = csz c0 := by omega
    have hen : cEnds 2 (K, F, S, sz, st, ops) = true := by
      refine decide_eq_true ⟨by show 2 ≤ sz; omega, ?_, fun _ => ?_⟩
      · show K (sz - 1) = 1; rw [e1']; exact e2
      · show K (sz - 2) = 1; rw [show sz - 2 = csz c1 - 1 by omega, k1, d4]; exact d2
    unfold cTwo; rw [if_pos hen]
    have e4 : sz - 1 = csz c1 := by omega
    have hd : (fun na me => (D1 na me).bind (fun x => (D2 na me).map (fun y => ofTwoF op x y))) = (fun _ _ => some (ofTwoF op (F (csz c0)) (F (csz c1))) : DX) := by
      rw [e3, d3, ← (hag (csz c0) (by omega)).2.1]; rfl
    rw [hd]
    show CB c0 (K, upd F (sz - 1 - 1) (ofTwoF op (F (sz - 1 - 1)) (F (sz - 1))), S, sz - 1, st, ops) _ _ _ ∧ sz - 1 ≤ sz + 1 ∧ _
    rw [e4, d4]
    refine ⟨⟨glt, hst'.trans gst, fun i hi => ⟨(agx i hi).1, (upd_ne (by omega)).trans (agx i hi).2.1, (agx i hi).2.2⟩, fun _ => ⟨d1, ?_, ?_⟩, fun q => absurd q (by decide), ?_⟩, by omega, rfl⟩
    · show K (csz c0) = 1; rw [← d4, k1, d4]; exact d2
    · show _ = fun _ _ => some (upd F (csz c0) (ofTwoF op (F (csz c0)) (F (csz c1))) (csz c0)); rw [upd_at]
    · show CEx K (upd F (csz c0) (ofTwoF op (F (csz c0)) (F (csz c1)))) (csz c0) (csz c1) _ _
      rw [d1]
      exact CEx_h (by omega) (CEx_num (by rw [← d4, k1, d4]; exact d2) upd_at)
  | false =>
    have hen : ¬ cEnds 2 (K, F, S, sz, st, ops) = true := by
      intro q
      obtain ⟨q1, q2, q3⟩ := of_decide_eq_true q
      have q3' := q3 rfl
      cases hs2 : s2 with
      | false => exact hF hs2 q2
      | true =>
        obtain ⟨e1, e2, e3⟩ := hT hs2
        have e1' : sz = csz c1 + 1 := e1
        cases hs1 : s1 with
        | true => rw [hs1, hs2] at hs; exact absurd hs (by decide)
        | false =>
          refine gF hs1 ?_
          rw [← k1]
          have e5 : csz c1 - 1 = sz - 2 := by omega
          rw [e5]; exact q3'
    unfold cTwo; rw [if_neg hen, cAdd_t hz]
    refine ⟨⟨?_, hst'.trans gst, fun i hi => ⟨(upd_ne (by omega)).trans (agx i hi).1, (upd_ne (by omega)).trans (agx i hi).2.1, (upd_ne (by omega)).trans (agx i hi).2.2⟩, fun q => absurd q (by decide), fun _ => ?_, ?_⟩, Nat.le_refl _, rfl⟩
    · show csz c0 < sz + 1; omega
    · show upd K sz op (sz + 1 - 1) ≠ 1
      rw [show sz + 1 - 1 = sz from rfl, upd_at]
      rcases of_decide_eq_true ho with rfl | rfl | rfl | rfl | rfl | rfl <;> decide
    · refine CEx_two (Nat.le_of_lt glt) (Nat.le_of_lt hlt) hh1 hh2 (CEx_ag gE (fun i i1 i2 => ⟨(upd_ne (by omega)).trans (hag i i2).1, (upd_ne (by omega)).trans (hag i i2).2.1⟩)) (CEx_ag hE (fun i i1 i2 => ⟨upd_ne (Nat.ne_of_lt i2), upd_ne (Nat.ne_of_lt i2)⟩)) upd_at ho hA hB
/-- the reference's draft with one more operand -/
def RB (O V : Nat → Int32) (z : Nat) (O' V' : Nat → Int32) (z' : Nat) (D : DX) (h : Nat) : Prop :=
  z < z' ∧ (∀ i, i < z → O' i = O i ∧ V' i = V i) ∧ REx O' V' z z' D h
theorem RB_num {O V : Nat → Int32} {z : Nat} {v : Int32} : RB O V z (upd O z 0) (upd V z v) (z + 1) (fun _ _ => some v) 1 :=
  ⟨Nat.lt_succ_self z, fun _ hi => ⟨upd_ne (Nat.ne_of_lt hi), upd_ne (Nat.ne_of_lt hi)⟩, REx_num upd_at upd_at⟩
theorem RB_name {O V : Nat → Int32} {z k : Nat} (hk : k < 26) : RB O V z (upd O z 1) (upd V z (nI k)) (z + 1) (fun na _ => some (na k)) 1 :=
  ⟨Nat.lt_succ_self z, fun _ hi => ⟨upd_ne (Nat.ne_of_lt hi), upd_ne (Nat.ne_of_lt hi)⟩, REx_name upd_at upd_at hk⟩
theorem RB_load {O V O' V' : Nat → Int32} {z z' h : Nat} {x : Int32} {D : DX} (H : RB O V z O' V' z' D h) (h1 : 1 ≤ h) : RB O V z (upd O' z' 2) (upd V' z' x) (z' + 1) (fun na me => (D na me).bind (fun v => if isAddrF v = true then some (me v.toNatClampNeg) else none)) h :=
  ⟨Nat.lt_succ_of_lt H.1, fun i hi => ⟨(upd_ne (by have := H.1; omega)).trans (H.2.1 i hi).1, (upd_ne (by have := H.1; omega)).trans (H.2.1 i hi).2⟩, REx_load (Nat.le_of_lt H.1) h1 (REx_ag H.2.2 (fun _ _ h2 => ⟨upd_ne (Nat.ne_of_lt h2), upd_ne (Nat.ne_of_lt h2)⟩)) upd_at⟩
theorem RB_one {O V O' V' : Nat → Int32} {z z' h : Nat} {D : DX} {op cop bits : Int32} (H : RB O V z O' V' z' D h) (h1 : 1 ≤ h) (ho : (op = 3 ∧ cop = 126) ∨ (op = 4 ∧ cop = 60) ∨ (op = 5 ∧ cop = 62)) : RB O V z (upd O' z' op) (upd V' z' bits) (z' + 1) (fun na me => (D na me).map (fun v => ofOneF cop v bits)) h :=
  ⟨Nat.lt_succ_of_lt H.1, fun i hi => ⟨(upd_ne (by have := H.1; omega)).trans (H.2.1 i hi).1, (upd_ne (by have := H.1; omega)).trans (H.2.1 i hi).2⟩, REx_one (Nat.le_of_lt H.1) h1 (REx_ag H.2.2 (fun _ _ h2 => ⟨upd_ne (Nat.ne_of_lt h2), upd_ne (Nat.ne_of_lt h2)⟩)) upd_at upd_at ho⟩
theorem RB_two {O V O1 V1 O' V' : Nat → Int32} {z z1 z' h1 h2 h : Nat} {D1 D2 : DX} {op : Int32} (H1 : RB O V z O1 V1 z1 D1 h1) (H2 : RB O1 V1 z1 O' V' z' D2 h2) (hh1 : 1 ≤ h1) (hh2 : 1 ≤ h2) (hA : h1 ≤ h) (hB : h2 + 1 ≤ h) : RB O V z (upd O' z' 6) (upd V' z' op) (z' + 1) (fun na me => (D1 na me).bind (fun x => (D2 na me).map (fun y => ofTwoF op x y))) h := by
  obtain ⟨a1, a2, a3⟩ := H1
  obtain ⟨b1, b2, b3⟩ := H2
  refine ⟨by omega, fun i hi => ⟨(upd_ne (by omega)).trans ((b2 i (by omega)).1.trans (a2 i hi).1), (upd_ne (by omega)).trans ((b2 i (by omega)).2.trans (a2 i hi).2)⟩, ?_⟩
  exact REx_two (Nat.le_of_lt a1) (Nat.le_of_lt b1) hh1 hh2 (REx_ag a3 (fun i i1 i2 => ⟨(upd_ne (by omega)).trans (b2 i i2).1, (upd_ne (by omega)).trans (b2 i i2).2⟩)) (REx_ag b3 (fun i i1 i2 => ⟨upd_ne (Nat.ne_of_lt i2), upd_ne (Nat.ne_of_lt i2)⟩)) upd_at upd_at hA hB
def QQ (tx : Nat → Int32) (len : Nat) : Nat → Nat × QS → Nat × QS → Prop
  | 0, x, y => x = y
  | k + 1, x, y => ¬ qStop len x ∧ qPre x ∧ QQ tx len k (qStepAll tx len x) y
theorem QQ_trans {tx : Nat → Int32} {len : Nat} : ∀ {k m : Nat} {x y z : Nat × QS}, QQ tx len k x y → QQ tx len m y z → QQ tx len (m + k) x z
  | 0, _, _, _, _, h1, h2 => by cases h1; exact h2
  | _ + 1, _, _, _, _, h1, h2 => ⟨h1.1, h1.2.1, QQ_trans h1.2.2 h2⟩
theorem QQ_runs {tx : Nat → Int32} {len : Nat} : ∀ {k m : Nat} {x y : Nat × QS}, QQ tx len k x y → qRuns tx len m y → qRuns tx len (m + k) x
  | 0, _, _, _, h1, h2 => by cases h1; exact h2
  | _ + 1, _, _, _, h1, h2 => ⟨h1.1, h1.2.1, QQ_runs h1.2.2 h2⟩
theorem QQ_iter {tx : Nat → Int32} {len : Nat} : ∀ {k m : Nat} {x y : Nat × QS}, QQ tx len k x y → qIter tx len (m + k) x = qIter tx len m y
  | 0, _, _, _, h1 => by cases h1; rfl
  | k + 1, m, x, y, h1 => QQ_iter (k := k) (m := m) (x := qStepAll tx len x) h1.2.2
theorem QQ_1 {tx : Nat → Int32} {len : Nat} {x y : Nat × QS} (h1 : ¬ qStop len x) (h2 : qPre x) (h3 : qStepAll tx len x = y) : QQ tx len 1 x y := ⟨h1, h2, h3⟩
