/-! THE CLAIM OUT OF ONE WALK OF THE LAW'S BODY. Your part is whole_start (and what it stands on); all else here is the same for every law, but numbers. -/
def R_law : String := "RoundCompilerLaw"
def lw_P (b : Addr) (xs : List Int32) (args : Array Value) (s : State) : Prop := args = #[.ref b] ∧ s.IntsAt b xs ∧ xs.length ≤ 2048 ∧ (Jvm.Cond.and given_1 narrow_1).before args s = true
def lw_Q (_ : Array Value) (s : State) (o : Outcome) (t : State) : Prop := o = .returned (some (.int 1)) ∧ Framed s o t [] 601024 7293034
def lw_Z (below : List Frame) (a : Array Value) (s : State) : State → Prop := fun t => ∃ o, t.status = .running ∧ Ended t below o ∧ lw_Q a s o t
/-- the law's own end, with 1 on the stack, nothing written that was there before, its room as the claim has it -/
theorem lw_ret {p : Program} {l : Launch} {e : Env} {s : State} {m : MethodId} {below : List Frame} {meth : Method} {c : Code} {b : Nat} (hx : p.tables.exec = Jvm.exec) (hb : c.code = code) (hr : meth.sig.returnType = ret) (hlocks : meth.locks = false) {pc : Nat} {H : Heap} {ls : Array Slot} (hdg : decode code pc = .ok (.ireturn, 1)) : W p l e room_1 s m #[Value.ref b] below meth c H [] 601024 7293034 (lw_Z below #[Value.ref b] s) (F0 m pc ls [.int 1]) := by
  intro T hT X
  obtain ⟨fs, hret, hrun, hended, hW, hframe⟩ := X.leave (v := some (.int 1)) (hlocks := hlocks) (fun h => by rw [hr] at h; cases h)
  have hmeth' : T.vm.method? m = some meth := X.method'
  refine ⟨T.setFrames fs, ?_, .returned (some (.int 1)), hrun, hended, rfl, ⟨_, rfl⟩, hW, hframe⟩
  jvm_step X.here [X.here.top, hx, hb, hdg, hmeth', hr, ret, narrow_b1]
  (try refine ⟨rfl, ?_⟩); (try refine ⟨rfl, ?_⟩)
  first | (intro acts; rw [hret _ acts rfl rfl rfl]) | rw [hret _ _ rfl rfl rfl]
  exact Steps.refl _
/-- what holds at the law's entry: the machine, the code, the tables' words (any of lw_tbl by 'hts w (by decide +kernel)'), the script of L ints xs at the cell b, what the Statement gives of the start (any of its parts by flat_of_before) -/
def lw_At (p : Program) (s : State) (m : MethodId) (meth : Method) (c : Code) (b L : Nat) (xs : Nat → Int32) : Prop :=
  p.tables.exec = Jvm.exec ∧ c.code = code ∧ meth.sig.returnType = ret ∧ c.maxLocals = 7 ∧ s.vm.findClass R_law = some m.cls ∧ (∀ w ∈ lw_tbl, w.before #[Value.ref b] s = true) ∧ va_X b L xs s s.heap ∧ b < s.heap.size ∧ meth.locks = false ∧ (Jvm.Cond.and given_1 narrow_1).before #[Value.ref b] s = true
theorem zn_fin : ∀ q ∈ zn_f, Cond.fieldLinkNest q.1 q.2.1 q.2.2.1 q.2.2.2.1 q.2.2.2.2.1 q.2.2.2.2.2 ∈ lw_tbl := by decide +kernel
theorem zn_min : ∀ q ∈ zn_m, Cond.methodLinkNest q.1 q.2.1 q.2.2.1 q.2.2.2 ∈ lw_tbl := by decide +kernel
theorem zt_din : ∀ q ∈ zt_d, Cond.declares q ∈ lw_tbl := by decide +kernel
theorem zt_cin : ∀ q ∈ zt_c, Cond.castable q q ∈ lw_tbl := by decide +kernel
theorem zt_sin : ∀ q ∈ zt_s, Cond.stringRef RX3 q.1 q.2 ∈ lw_tbl := by decide +kernel
theorem zn_of {A : Array Value} {s : State} (hts : ∀ w ∈ lw_tbl, w.before A s = true) : zn s := ⟨fun q hq => va_Nw.of rfl (hts _ (zn_fin q hq)), fun q hq => va_Nw.of rfl (hts _ (zn_min q hq))⟩
theorem vk_ex {own tx : String} {k : Nat} {A : Array Value} {U : State} (h : (Cond.stringRef own k tx).before A U = true) : ∃ a, vk_R own k tx a U := by
  have hcur : ∃ cur, U.vm.findClass own = some cur := by
    have h1 := h
    simp only [Cond.before, Cond.holds, Cond.value] at h1
    cases hc : U.vm.findClass own with
    | none => simp [hc] at h1
    | some cur => exact ⟨cur, rfl⟩
  obtain ⟨cur, hcur⟩ := hcur
  obtain ⟨-, -, -, sa, -, -, -, -, -, hev⟩ := Cond.stringRef_spec hcur h
  exact ⟨sa, vk_R.of h hev⟩
theorem arr_of {ty : FieldType} {A : Array Value} {s : State} (h : (Cond.arrayClass ty).before A s = true) (hp : ∀ cA : ClassId, va_RA s cA ty = (s.vm.findClass ("[" ++ ty.toString) = some cA)) : ∃ cA : ClassId, ArrOfT s cA ty ∧ va_RA s cA ty := by
  obtain ⟨cA, kA, comp, hf, hk, hkind⟩ := Cond.arrayClass_spec h
  exact ⟨cA, fun n z => ⟨fun k h => (by cases h), kA, hk, comp, hkind⟩, by rw [hp]; exact hf⟩
set_option maxHeartbeats 4000000 in
set_option maxRecDepth 100000 in
theorem zt_of {A : Array Value} {s : State} (hts : ∀ w ∈ lw_tbl, w.before A s = true) (hgv : (Jvm.Cond.and given_1 narrow_1).before A s = true) : zt (fun q : Nat => s.heap.size ≤ q) s := by
  have hs := flat_of_before _ hgv
  refine ⟨fun q hq => va_Nw.of rfl (hts _ (zt_din q hq)), fun q hq => va_Nw.of rfl (hts _ (zt_cin q hq)), fun q hq => vk_ex (hts _ (zt_sin q hq)), ?_, ?_⟩
  · exact vx_Zqof (hts (.laysStatic "java/lang/Throwable" "UNASSIGNED_STACK" "[Ljava/lang/StackTraceElement;") (by decide +kernel)) (hts (.initialized "java/lang/Throwable") (by decide +kernel)) (hs (.isRef (.static "java/lang/Throwable" "UNASSIGNED_STACK" "[Ljava/lang/StackTraceElement;")) (by decide +kernel)) (fun a h => Nat.not_le.mpr h)
  · exact vx_Zqof (hts (.laysStatic "java/lang/Throwable" "SUPPRESSED_SENTINEL" "Ljava/util/List;") (by decide +kernel)) (hts (.initialized "java/lang/Throwable") (by decide +kernel)) (hs (.isRef (.static "java/lang/Throwable" "SUPPRESSED_SENTINEL" "Ljava/util/List;")) (by decide +kernel)) (fun a h => Nat.not_le.mpr h)
set_option maxHeartbeats 4000000 in
set_option maxRecDepth 100000 in
theorem vk_of {A : Array Value} {s : State} (hts : ∀ w ∈ lw_tbl, w.before A s = true) : ∃ (D : va_G) (cC cI cZ cL : ClassId), va_K D vwCl (tyL cC cI cZ cL) s := by
  obtain ⟨c0, i0, hKn0⟩ := u_known (C := RX0) (T := TX0) (N := 6) (n := 6) hts (fun w h => lwi_wsX00 w h) (hts (.instantiable RX0 6) (by decide +kernel))
  obtain ⟨c1, i1, hKn1⟩ := u_known (C := RX1) (T := TX1) (N := 8) (n := 8) hts (fun w h => lwi_wsX10 w h) (hts (.instantiable RX1 8) (by decide +kernel))
  obtain ⟨c2, i2, hKn2⟩ := u_known (C := RX2) (T := TX2) (N := 8) (n := 8) hts (fun w h => lwi_wsX20 w h) (hts (.instantiable RX2 8) (by decide +kernel))
  obtain ⟨c3, i3, hKn3⟩ := u_known (C := RX3) (T := TX3) (N := 4) (n := 4) hts (fun w h => lwi_wsX30 w h) (hts (.instantiable RX3 4) (by decide +kernel))
  obtain ⟨c4, i4, hKn4⟩ := u_known (C := RX4) (T := TX4) (N := 33) (n := 33) hts (fun w h => lwi_wsX40 w h) (hts (.instantiable RX4 33) (by decide +kernel))
  obtain ⟨cC, hC1, hC2⟩ := arr_of (hts (.arrayClass .char) (by decide +kernel)) (fun _ => rfl)
  obtain ⟨cI, hI1, hI2⟩ := arr_of (hts (.arrayClass .int) (by decide +kernel)) (fun _ => rfl)
  obtain ⟨cZ, hZ1, hZ2⟩ := arr_of (hts (.arrayClass .boolean) (by decide +kernel)) (fun _ => rfl)
  obtain ⟨cL, hL1, hL2⟩ := arr_of (hts (.arrayClass .long) (by decide +kernel)) (fun _ => rfl)
  refine ⟨(fun k => if k = 0 then c0 else if k = 1 then c1 else if k = 2 then c2 else if k = 3 then c3 else c4, fun k => if k = 0 then i0 else if k = 1 then i1 else if k = 2 then i2 else if k = 3 then i3 else i4), cC, cI, cZ, cL, ?_, ?_⟩
  · intro k q hq
    match k, hq with
    | 0, hq => cases hq; exact hKn0
    | 1, hq => cases hq; exact hKn1
    | 2, hq => cases hq; exact hKn2
    | 3, hq => cases hq; exact hKn3
    | 4, hq => cases hq; exact hKn4
    | k + 5, hq => simp [vwCl] at hq
  · intro k q hq
    match k, hq with
    | 0, hq => cases hq; exact ⟨hC1, hC2⟩
    | 1, hq => cases hq; exact ⟨hI1, hI2⟩
    | 2, hq => cases hq; exact ⟨hZ1, hZ2⟩
    | 3, hq => cases hq; exact ⟨hL1, hL2⟩
    | k + 4, hq => simp [tyL] at hq
theorem LR_0 : LR false (fun _ => 0) 0 (0, 0, 0, 0, 0, (fun _ => 0), (fun _ => 0), (fun _ => 0), 0, 0, 0) (fun _ => 0) (fun _ => 0) (fun _ => 0) 0 0 ((fun _ => 0), (fun _ => 0), (fun _ => 0), (fun _ => 0), (fun _ => 0), 0, 0, false) (0, (fun _ => 0), 0, (fun _ => 0), (fun _ => 0), (fun _ => 0), (fun _ => 0), (fun _ => 0), (fun _ => 0), 0, 0, false, (fun _ => 0), 0) (0, 0, 0, (fun _ => 0), (fun _ => 0), 0, 0, (fun _ => 0), (fun _ => 0), 0, 0, (fun _ => 0), 0, 0, (fun _ => 0), (fun _ => 0), (fun _ => 0), 0, 0) :=
  ⟨rfl, rfl, Nat.zero_le _, fun i h => absurd h (Nat.not_lt_zero i), rfl, rfl, rfl, Nat.zero_le _, rfl, rfl, rfl, Nat.zero_le _, fun h => absurd h (by decide)⟩
set_option maxHeartbeats 4000000 in
set_option maxRecDepth 100000 in
theorem whole_start {p : Program} {e : Env} {s : State} {m : MethodId} {below : List Frame} {meth : Method} {c : Code} (l : Launch) (hlt : l.stackTraces = false) {b L : Nat} {xs : Nat → Int32} (hL : L ≤ 2048) (C0 : lw_At p s m meth c b L xs) : W p l e room_1 s m #[Value.ref b] below meth c s.heap [] 0 0 (lw_Z below #[Value.ref b] s) (entryFrame m ([Value.ref b] : List Value).toArray 7) := by
  obtain ⟨hx, hb, hr, hml, hown, hts, hX, hbl, hlocks, hgv⟩ := id C0
  obtain ⟨D, cC, cI, cZ, cL, hK⟩ := vk_of hts
  have hzt := zt_of hts hgv
  have hNc : va_Nc IOBN ISEN s := va_Nc.of (flat_of_before _ hgv (.not (.castable "java/lang/IndexOutOfBoundsException" "java/lang/IllegalStateException")) (by decide +kernel))
  have hscr : Scr (fun q : Nat => s.heap.size ≤ q) s b L xs := ⟨hX, hbl, Nat.not_le.mpr hbl, hL⟩
  have C : CxL p s m #[Value.ref b] meth c D (fun q : Nat => s.heap.size ≤ q) cC cI cZ cL := ⟨hx, hb, hml, hown, fun w h => hts w (wsL_law_in w h), hlocks, hK, zn_of hts, fun _ h => h⟩
  have hS : va_S (fun q : Nat => s.heap.size ≤ q) s.heap s.heap [] := va_S.rf
  have hP : va_P D vwCl [] s.heap := fun k q h => by simp at h
  have hD : va_D (fun q : Nat => s.heap.size ≤ q) [] := ⟨fun i j p q h => by simp at h, fun k q h => by simp at h⟩
  have hl := lv_entry ([.ref b]) (n := 7) (Nat.le_of_ble_eq_true rfl)
  rw [lg_entry_eq]
  suffices hY : Y p l e room_1 s m #[Value.ref b] below meth c 7 D (fun q : Nat => s.heap.size ≤ q) (lw_Z below #[Value.ref b] s) 0 0 [] [(0, .ref b)] 0 [] from hY s.heap [] _ hP hD hS hl
  refine Y.new C (ci := 3) (fs := [.null, .null, .null, .int 0]) inlX3 tyX3 tyX3_ok (by decide +kernel) (by decide +kernel) (by decide +kernel) rfl (fun j hj => by rcases (show j = 0 ∨ j = 1 ∨ j = 2 ∨ j = 3 by omega) with rfl | rfl | rfl | rfl <;> rfl) (Nat.le_of_ble_eq_true rfl) (Nat.le_of_ble_eq_true rfl) dL_law_0 (fun x0 => ?_)
  refine Y.dup C dL_law_3 rfl ?_
  refine Y.callI C (wr := []) (c_initX (cC := cC) (cI := cI) x0) [0, 1] rfl gL_law_X3_init rfl (by decide +kernel) (by decide +kernel) (by decide +kernel) rfl (by decide +kernel) ⟨(Nat.le_of_ble_eq_true rfl), (Nat.le_of_ble_eq_true rfl)⟩ [0] [] rfl rfl (by decide) rfl (by decide) (by decide) (Nat.le_of_ble_eq_true rfl) (Nat.le_of_ble_eq_true rfl) (Nat.le_of_ble_eq_true rfl) dL_law_4 (fun u => ?_)
  refine Y.eqw (w' := wX x0 (u 0) (u 1) (u 2) (u 3) (u 4) (u 5) (u 6) (u 7) (u 8) (u 9) (u 10) (u 11) (u 12) (u 13) (u 14) (u 15) cC cI false (fun _ => 0) 0 (0, 0, 0, 0, 0, (fun _ => 0), (fun _ => 0), (fun _ => 0), 0, 0, 0) (fun _ => 0) (fun _ => 0) (fun _ => 0) 0 0 0 ((fun _ => 0), (fun _ => 0), (fun _ => 0), (fun _ => 0), (fun _ => 0), 0, 0, false)) rfl rfl ?_
  refine Y.astore_n C (lv' := [(1, .ref x0), (0, .ref b)]) dL_law_7 rfl (by decide) rfl ?_
  refine Y.new C (ci := 4) (fs := [.int 0, .null, .int 0, .int 0, .null, .null, .null, .null, .null, .null, .int 0, .int 0, .null, .null, .int 0, .int 0, .int 0, .null, .null, .int 0, .int 0, .null, .int 0, .int 0, .null, .null, .null, .int 0, .int 0, .long 0, .null, .int 0, .int 0]) inlX4 tyX4 tyX4_ok (by decide +kernel) (by decide +kernel) (by decide +kernel) rfl (fun j hj => by rcases (show j = 0 ∨ j = 1 ∨ j = 2 ∨ j = 3 ∨ j = 4 ∨ j = 5 ∨ j = 6 ∨ j = 7 ∨ j = 8 ∨ j = 9 ∨ j = 10 ∨ j = 11 ∨ j = 12 ∨ j = 13 ∨ j = 14 ∨ j = 15 ∨ j = 16 ∨ j = 17 ∨ j = 18 ∨ j = 19 ∨ j = 20 ∨ j = 21 ∨ j = 22 ∨ j = 23 ∨ j = 24 ∨ j = 25 ∨ j = 26 ∨ j = 27 ∨ j = 28 ∨ j = 29 ∨ j = 30 ∨ j = 31 ∨ j = 32 by omega) with rfl | rfl | rfl | rfl | rfl | rfl | rfl | rfl | rfl | rfl | rfl | rfl | rfl | rfl | rfl | rfl | rfl | rfl | rfl | rfl | rfl | rfl | rfl | rfl | rfl | rfl | rfl | rfl | rfl | rfl | rfl | rfl | rfl <;> rfl) (Nat.le_of_ble_eq_true rfl) (Nat.le_of_ble_eq_true rfl) dL_law_8 (fun m0 => ?_)
  refine Y.dup C dL_law_11 rfl ?_
  refine Y.callI C (wr := wX x0 (u 0) (u 1) (u 2) (u 3) (u 4) (u 5) (u 6) (u 7) (u 8) (u 9) (u 10) (u 11) (u 12) (u 13) (u 14) (u 15) cC cI false (fun _ => 0) 0 (0, 0, 0, 0, 0, (fun _ => 0), (fun _ => 0), (fun _ => 0), 0, 0, 0) (fun _ => 0) (fun _ => 0) (fun _ => 0) 0 0 0 ((fun _ => 0), (fun _ => 0), (fun _ => 0), (fun _ => 0), (fun _ => 0), 0, 0, false)) (c_initN (cI := cI) (cZ := cZ) m0) [1, 2] rfl gL_law_X4_init rfl (by decide +kernel) (by decide +kernel) (by decide +kernel) rfl (by decide +kernel) ⟨(Nat.le_of_ble_eq_true rfl), (Nat.le_of_ble_eq_true rfl)⟩ [17] [0, 1, 2, 3, 4, 5, 6, 7, 8, 9, 10, 11, 12, 13, 14, 15, 16] rfl rfl (by decide) rfl (by decide) (by decide) (Nat.le_of_ble_eq_true rfl) (Nat.le_of_ble_eq_true rfl) (Nat.le_of_ble_eq_true rfl) dL_law_12 (fun v => ?_)
  refine Y.eqw (w' := wX x0 (u 0) (u 1) (u 2) (u 3) (u 4) (u 5) (u 6) (u 7) (u 8) (u 9) (u 10) (u 11) (u 12) (u 13) (u 14) (u 15) cC cI false (fun _ => 0) 0 (0, 0, 0, 0, 0, (fun _ => 0), (fun _ => 0), (fun _ => 0), 0, 0, 0) (fun _ => 0) (fun _ => 0) (fun _ => 0) 0 0 0 ((fun _ => 0), (fun _ => 0), (fun _ => 0), (fun _ => 0), (fun _ => 0), 0, 0, false) ++ wN (adr [m0, v 0, v 1, v 2, v 3, v 4, v 5, v 6, v 7, v 8, v 9, v 10, v 11, v 12, v 13, v 14, v 15]) cI cZ (0, (fun _ => 0), 0, (fun _ => 0), (fun _ => 0), (fun _ => 0), (fun _ => 0), (fun _ => 0), (fun _ => 0), 0, 0, false, (fun _ => 0), 0) (0, 0, 0, (fun _ => 0), (fun _ => 0), 0, 0, (fun _ => 0), (fun _ => 0), 0, 0, (fun _ => 0), 0, 0, (fun _ => 0), (fun _ => 0), (fun _ => 0), 0, 0)) rfl rfl ?_
  refine Y.astore_n C (lv' := [(2, .ref m0), (1, .ref x0), (0, .ref b)]) dL_law_15 rfl (by decide) rfl ?_
  refine Y.iconst C (v := (1 : Int32)) dL_law_16 (by decide) ?_
  refine Y.newarr C (ty := .long) rfl (by decide +kernel) 3 rfl rfl 1 (a0 := (1, .inr (.inl (fun _ => 0)))) (fun _ => rfl) rfl (by decide) (by decide) (Nat.le_of_ble_eq_true rfl) (Nat.le_of_ble_eq_true rfl) dL_law_17 (fun aL => ?_)
  refine Y.perm (w' := oL aL cL (fun _ => 0) :: (wX x0 (u 0) (u 1) (u 2) (u 3) (u 4) (u 5) (u 6) (u 7) (u 8) (u 9) (u 10) (u 11) (u 12) (u 13) (u 14) (u 15) cC cI false (fun _ => 0) 0 (0, 0, 0, 0, 0, (fun _ => 0), (fun _ => 0), (fun _ => 0), 0, 0, 0) (fun _ => 0) (fun _ => 0) (fun _ => 0) 0 0 0 ((fun _ => 0), (fun _ => 0), (fun _ => 0), (fun _ => 0), (fun _ => 0), 0, 0, false) ++ wN (adr [m0, v 0, v 1, v 2, v 3, v 4, v 5, v 6, v 7, v 8, v 9, v 10, v 11, v 12, v 13, v 14, v 15]) cI cZ (0, (fun _ => 0), 0, (fun _ => 0), (fun _ => 0), (fun _ => 0), (fun _ => 0), (fun _ => 0), (fun _ => 0), 0, 0, false, (fun _ => 0), 0) (0, 0, 0, (fun _ => 0), (fun _ => 0), 0, 0, (fun _ => 0), (fun _ => 0), 0, 0, (fun _ => 0), 0, 0, (fun _ => 0), (fun _ => 0), (fun _ => 0), 0, 0))) [34, 0, 1, 2, 3, 4, 5, 6, 7, 8, 9, 10, 11, 12, 13, 14, 15, 16, 17, 18, 19, 20, 21, 22, 23, 24, 25, 26, 27, 28, 29, 30, 31, 32, 33] rfl rfl (by decide) ?_
  refine Y.astore_n C (lv' := [(3, .ref aL), (2, .ref m0), (1, .ref x0), (0, .ref b)]) dL_law_19 rfl (by decide) rfl ?_
  refine Y.iconst C (v := (0 : Int32)) dL_law_20 (by decide) ?_
  refine Y.istore C (lv' := [(4, .int 0), (3, .ref aL), (2, .ref m0), (1, .ref x0), (0, .ref b)]) dL_law_21 (by decide) rfl ?_
  refine Y.sub (lv' := lvL b x0 ((adr [m0, v 0, v 1, v 2, v 3, v 4, v 5, v 6, v 7, v 8, v 9, v 10, v 11, v 12, v 13, v 14, v 15]) 0) aL 0) [4, 3, 2, 1, 0] rfl ?_
  refine Y.widen (ce' := 100) (sl' := 100000) (Nat.le_of_ble_eq_true rfl) (Nat.le_of_ble_eq_true rfl) ?_
  refine law_loop C hlt hzt hNc hscr ?_ 512 0 100 100000 (by omega) (by decide) (by decide) (by decide) LR_0
  intro ce sl k hce hsl aC aK aF aS bC bK bF bS rdy tx len r K F S sz stm ops g o q f H
  refine Y.iconst C (v := (1 : Int32)) dL_law_517 (by decide) ?_
  intro H1 locs ls hP1 hD1 hS1 hl1
  refine W.widen (k := 601024) (n := 7293034) hce hsl ?_
  exact va_forget (fun q hq => hS1.2.2 q hq) (lw_ret hx hb hr hlocks dL_law_518)
