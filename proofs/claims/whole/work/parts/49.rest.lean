def byN (x : Int64) (k : Nat) : Int32 := ((x.toUInt64 >>> ((nI k).toInt64.toUInt64 &&& Int64.toUInt64 63)).toInt64 &&& lN 255).toInt32
def cntN (x : Int64) : Nat → Nat → Nat
  | 0, _ => 0
  | n + 1, k => (if byN x k = 0 then 0 else 1) + cntN x n (k + 8)
def wr1 (x : Int64) : Nat → Nat → Nat → Bool → Nat × Bool
  | 0, _, more, fine => (more, fine)
  | n + 1, k, more, fine => wr1 x n (k + 8) (if byN x k = 0 then more else more + 1) (if fine = true then (if byN x k = 0 then true else if byN x k ≤ 32 then false else if 127 ≤ byN x k then false else true) else false)
def wr2 (x : Int64) : Nat → Nat → OS → OS
  | 0, _, o => o
  | n + 1, k, o => wr2 x n (k + 8) (if byN x k = 0 then o else (o.1, upd o.2.1 o.2.2.1 (byN x k), o.2.2.1 + 1, o.2.2.2))
def rWrite (x : Int64) (o : OS) : Bool × OS := if (wr1 x 8 0 0 true).2 = true then (if 480 < o.2.2.1 + (wr1 x 8 0 0 true).1 then (false, (0, o.2)) else (true, wr2 x 8 0 (0, o.2))) else (false, (0, o.2))
def mxL (mem : Nat → Int32) : Nat → Nat → Int32 → Int32
  | 0, _, s => s
  | n + 1, k, s => mxL mem n (k + 1) (s ^^^ (if k % 32 = 0 then mem k else turnF (mem k) (nI (k % 32))))
def flL (first by_ : Int32) : Nat → Nat → OS → OS
  | 0, _, o => o
  | n + 1, k, o => flL first by_ n (k + 1) (o.1, o.2.1, o.2.2.1, upd o.2.2.2.1 k (first + nI k * by_), o.2.2.2.2)

set_option maxHeartbeats 4000000 in
set_option maxRecDepth 100000 in
theorem c_wipeN {l : Launch} {D : va_G} {a : Nat → Nat} {cI cZ : ClassId} (o : OS) (q : QS)   : Mv l yX4_wipe wsX4_wipe 1 D [(cI, .int), (cZ, .boolean)] [.ref (a 0)] (wN a cI cZ o q) (wN a cI cZ (0, o.2.1, 0, o.2.2.2) q) := by
  refine Mv.of (cc := cX4_wipe) (maxL := 1) (by decide) rfl (Nat.le_of_ble_eq_true rfl) ?_
  intro p e s m below meth c A C hr hA
  have in4 : ∀ w ∈ wsX40, w ∈ wsX4_wipe := by decide +kernel
  show Z p l e (rmN _) s m _ below meth c _ D A _ _ [(0, .ref (a 0))] 0 []
  refine Z.aload_n C dX4_wipe_0 0 rfl rfl ?_
  refine Z.iconst C (v := (nI 0)) dX4_wipe_1 (by decide) ?_
  refine Z.put C in4 0 rfl rfl 0 (by decide) tyX4 tyX4_ok nmX4 (by decide +kernel) rfl rfl rfl rfl (Nat.le_of_ble_eq_true rfl) dX4_wipe_2 (w' := (wN a cI cZ (0, o.2) q)) rfl ?_
  refine Z.aload_n C dX4_wipe_5 0 rfl rfl ?_
  refine Z.iconst C (v := (nI 0)) dX4_wipe_6 (by decide) ?_
  refine Z.put C in4 0 rfl rfl 2 (by decide) tyX4 tyX4_ok nmX4 (by decide +kernel) rfl rfl rfl rfl (Nat.le_of_ble_eq_true rfl) dX4_wipe_7 (w' := (wN a cI cZ (0, o.2.1, 0, o.2.2.2) q)) rfl ?_
  refine Z.vret C hr hA dX4_wipe_10 ?_
  (refine congrArg (fun z => wN a cI cZ z q) ?_; first | rfl | (simp [nI_0]; done) | (simp_all [nI_0]; done))
set_option maxHeartbeats 4000000 in
set_option maxRecDepth 100000 in
theorem c_thrownN {l : Launch} {D : va_G} {a : Nat → Nat} {cI cZ : ClassId} (o : OS) (q : QS)   : Mi l yX4_thrown wsX4_thrown 1 D [(cI, .int), (cZ, .boolean)] [.ref (a 0)] (wN a cI cZ o q) (nI o.1) (wN a cI cZ o q) := by
  refine Mi.of (cc := cX4_thrown) (maxL := 1) (by decide) rfl (Nat.le_of_ble_eq_true rfl) ?_
  intro p e s m below meth c A C hr hA
  have in4 : ∀ w ∈ wsX40, w ∈ wsX4_thrown := by decide +kernel
  show Z p l e (rmN _) s m _ below meth c _ D A _ _ [(0, .ref (a 0))] 0 []
  refine Z.aload_n C dX4_thrown_0 0 rfl rfl ?_
  refine Z.get C in4 0 rfl rfl 0 (by decide) (by decide +kernel) rfl rfl dX4_thrown_1 ?_
  refine Z.iret C hr hA dX4_thrown_4 ?_ ?_
  · first | rfl | (simp [nI_0]; done) | (simp_all [nI_0]; done)
  · (refine congrArg (wN a cI cZ o) ?_; first | rfl | (simp [nI_0]; done) | (simp_all [nI_0]; done))
set_option maxHeartbeats 4000000 in
set_option maxRecDepth 100000 in
theorem c_faultN {l : Launch} {D : va_G} {a : Nat → Nat} {cI cZ : ClassId} (o : OS) (q : QS)   : Mi l yX4_fault wsX4_fault 1 D [(cI, .int), (cZ, .boolean)] [.ref (a 0)] (wN a cI cZ o q) (nI q.1) (wN a cI cZ (0, o.2) q) := by
  refine Mi.of (cc := cX4_fault) (maxL := 1) (by decide) rfl (Nat.le_of_ble_eq_true rfl) ?_
  intro p e s m below meth c A C hr hA
  have in4 : ∀ w ∈ wsX40, w ∈ wsX4_fault := by decide +kernel
  show Z p l e (rmN _) s m _ below meth c _ D A _ _ [(0, .ref (a 0))] 0 []
  refine Z.aload_n C dX4_fault_0 0 rfl rfl ?_
  refine Z.iconst C (v := (nI 0)) dX4_fault_1 (by decide) ?_
  refine Z.put C in4 0 rfl rfl 0 (by decide) tyX4 tyX4_ok nmX4 (by decide +kernel) rfl rfl rfl rfl (Nat.le_of_ble_eq_true rfl) dX4_fault_2 (w' := (wN a cI cZ (0, o.2) q)) rfl ?_
  refine Z.aload_n C dX4_fault_5 0 rfl rfl ?_
  refine Z.get C in4 0 rfl rfl 3 (by decide) (by decide +kernel) rfl rfl dX4_fault_6 ?_
  refine Z.iret C hr hA dX4_fault_9 ?_ ?_
  · first | rfl | (simp [nI_0]; done) | (simp_all [nI_0]; done)
  · (refine congrArg (fun z => wN a cI cZ z q) ?_; first | rfl | (simp [nI_0]; done) | (simp_all [nI_0]; done))
set_option maxHeartbeats 4000000 in
set_option maxRecDepth 100000 in
theorem c_workN {l : Launch} {D : va_G} {a : Nat → Nat} {cI cZ : ClassId} (o : OS) (q : QS)   : Mi l yX4_work wsX4_work 1 D [(cI, .int), (cZ, .boolean)] [.ref (a 0)] (wN a cI cZ o q) (nI (if o.2.2.2.2.2.2.2.2.2.2.2.1 = true then o.2.2.2.2.2.2.2.2.2.2.1 else 0)) (wN a cI cZ (0, o.2) q) := by
  refine Mi.of (cc := cX4_work) (maxL := 1) (by decide) rfl (Nat.le_of_ble_eq_true rfl) ?_
  intro p e s m below meth c A C hr hA
  have in4 : ∀ w ∈ wsX40, w ∈ wsX4_work := by decide +kernel
  show Z p l e (rmN _) s m _ below meth c _ D A _ _ [(0, .ref (a 0))] 0 []
  refine Z.aload_n C dX4_work_0 0 rfl rfl ?_
  refine Z.iconst C (v := (nI 0)) dX4_work_1 (by decide) ?_
  refine Z.put C in4 0 rfl rfl 0 (by decide) tyX4 tyX4_ok nmX4 (by decide +kernel) rfl rfl rfl rfl (Nat.le_of_ble_eq_true rfl) dX4_work_2 (w' := (wN a cI cZ (0, o.2) q)) rfl ?_
  refine Z.aload_n C dX4_work_5 0 rfl rfl ?_
  refine Z.get C in4 0 rfl rfl 16 (by decide) (by decide +kernel) rfl rfl dX4_work_6 ?_
  refine Z.if_eq C 19 dX4_work_9 (by decide) (fun c1 => ?_) (fun c1 => ?_)
  · skip
    replace c1 : o.2.2.2.2.2.2.2.2.2.2.2.1 = false := b2i_0.mp c1
    refine Z.iconst C (v := (nI 0)) dX4_work_19 (by decide) ?_
    refine Z.iret C hr hA dX4_work_20 ?_ ?_
    · first | rfl | (simp [nI_0, c1]; done) | (simp_all [nI_0]; done)
    · (refine congrArg (fun z => wN a cI cZ z q) ?_; first | rfl | (simp [nI_0, c1]; done) | (simp_all [nI_0]; done))
  · skip
    replace c1 : o.2.2.2.2.2.2.2.2.2.2.2.1 = true := b2i_n0.mp c1
    refine Z.aload_n C dX4_work_12 0 rfl rfl ?_
    refine Z.get C in4 0 rfl rfl 15 (by decide) (by decide +kernel) rfl rfl dX4_work_13 ?_
    refine Z.goto C 20 dX4_work_16 (by decide) ?_
    refine Z.iret C hr hA dX4_work_20 ?_ ?_
    · first | rfl | (simp [nI_0, c1]; done) | (simp_all [nI_0]; done)
    · (refine congrArg (fun z => wN a cI cZ z q) ?_; first | rfl | (simp [nI_0, c1]; done) | (simp_all [nI_0]; done))
set_option maxHeartbeats 4000000 in
set_option maxRecDepth 100000 in
theorem c_valueN {l : Launch} {D : va_G} {a : Nat → Nat} {cI cZ : ClassId} (o : OS) (q : QS) (p0 : Int32)  : Mi l yX4_value wsX4_value 1 D [(cI, .int), (cZ, .boolean)] [.ref (a 0), .int p0] (wN a cI cZ o q) (if 0 ≤ p0 ∧ p0 ≤ 25 then o.2.2.2.2.2.2.1 p0.toNatClampNeg else 0) (wN a cI cZ (if 0 ≤ p0 ∧ p0 ≤ 25 then (0, o.2) else (1, o.2)) q) := by
  refine Mi.of (cc := cX4_value) (maxL := 2) (by decide) rfl (Nat.le_of_ble_eq_true rfl) ?_
  intro p e s m below meth c A C hr hA
  have in4 : ∀ w ∈ wsX40, w ∈ wsX4_value := by decide +kernel
  show Z p l e (rmN _) s m _ below meth c _ D A _ _ [(0, .ref (a 0)), (1, .int p0)] 0 []
  refine Z.aload_n C dX4_value_0 0 rfl rfl ?_
  refine Z.iload_n C dX4_value_1 1 rfl rfl ?_
  refine Z.if_lt C 11 dX4_value_2 (by decide) (fun c1 => ?_) (fun c1 => ?_)
  · skip
    replace c1 : ¬ (0 : Int32) ≤ p0 := Int32.not_le.mpr c1
    refine Z.iconst C (v := (nI 1)) dX4_value_11 (by decide) ?_
    refine Z.goto C 16 dX4_value_12 (by decide) ?_
    refine Z.put C in4 0 rfl rfl 0 (by decide) tyX4 tyX4_ok nmX4 (by decide +kernel) rfl rfl rfl rfl (Nat.le_of_ble_eq_true rfl) dX4_value_16 (w' := (wN a cI cZ (1, o.2) q)) rfl ?_
    refine Z.aload_n C dX4_value_19 0 rfl rfl ?_
    refine Z.get C in4 0 rfl rfl 0 (by decide) (by decide +kernel) rfl rfl dX4_value_20 ?_
    refine Z.if_le C 30 dX4_value_23 (by decide) (fun c2 => ?_) (fun c2 => ?_)
    · skip
      replace c2 : ¬ 0 < 1 := Nat.not_lt.mpr ((nI_leI (by omega) (by omega)).mp c2)
      exact absurd c2 (by decide)
    · skip
      replace c2 : 0 < 1 := Nat.not_le.mp (mt (nI_leI (by omega) (by omega)).mpr c2)
      refine Z.iconst C (v := (nI 0)) dX4_value_26 (by decide) ?_
      refine Z.goto C 36 dX4_value_27 (by decide) ?_
      refine Z.iret C hr hA dX4_value_36 ?_ ?_
      · first | rfl | (simp [nI_0, (eq_false c1), (eq_true c2)]; done) | (simp_all [nI_0]; done)
      · (refine congrArg (fun z => wN a cI cZ z q) ?_; first | rfl | (simp [nI_0, (eq_false c1), (eq_true c2)]; done) | (simp_all [nI_0]; done))
  · skip
    replace c1 : (0 : Int32) ≤ p0 := Int32.not_lt.mp c1
    refine Z.iload_n C dX4_value_5 1 rfl rfl ?_
    refine Z.bipush C (v := (nI 25)) dX4_value_6 (by decide) ?_
    refine Z.icmp_le C 15 dX4_value_8 (by decide) (fun c3 => ?_) (fun c3 => ?_)
    · skip
      replace c3 : p0 ≤ (25 : Int32) := c3
      have c3b : ¬ (26 : Int32) ≤ p0 := fun h => absurd (Int32.le_trans h c3) (by decide)
      refine Z.iconst C (v := (nI 0)) dX4_value_15 (by decide) ?_
      refine Z.put C in4 0 rfl rfl 0 (by decide) tyX4 tyX4_ok nmX4 (by decide +kernel) rfl rfl rfl rfl (Nat.le_of_ble_eq_true rfl) dX4_value_16 (w' := (wN a cI cZ (0, o.2) q)) rfl ?_
      refine Z.aload_n C dX4_value_19 0 rfl rfl ?_
      refine Z.get C in4 0 rfl rfl 0 (by decide) (by decide +kernel) rfl rfl dX4_value_20 ?_
      refine Z.if_le C 30 dX4_value_23 (by decide) (fun c4 => ?_) (fun c4 => ?_)
      · skip
        replace c4 : ¬ 0 < 0 := Nat.not_lt.mpr ((nI_leI (by omega) (by omega)).mp c4)
        refine Z.aload_n C dX4_value_30 0 rfl rfl ?_
        refine Z.get C in4 0 rfl rfl 7 (by decide) (by decide +kernel) rfl rfl dX4_value_31 ?_
        refine Z.iload_n C dX4_value_34 1 rfl rfl ?_
        refine Z.iald C 5 0 rfl rfl p0.toNatClampNeg (nI_cl (by assumption)) (nI_clb (by assumption) (by omega) (by first | assumption | omega)) (by decide) dX4_value_35 (v := (o.2.2.2.2.2.2.1 p0.toNatClampNeg)) rfl ?_
        refine Z.iret C hr hA dX4_value_36 ?_ ?_
        · first | rfl | (simp [nI_0, (eq_true c1), (eq_true c3), (eq_false c4)]; done) | (simp_all [nI_0]; done)
        · (refine congrArg (fun z => wN a cI cZ z q) ?_; first | rfl | (simp [nI_0, (eq_true c1), (eq_true c3), (eq_false c4)]; done) | (simp_all [nI_0]; done))
      · skip
        replace c4 : 0 < 0 := Nat.not_le.mp (mt (nI_leI (by omega) (by omega)).mpr c4)
        exact absurd c4 (by decide)
    · skip
      replace c3 : ¬ p0 ≤ (25 : Int32) := c3
      refine Z.iconst C (v := (nI 1)) dX4_value_11 (by decide) ?_
      refine Z.goto C 16 dX4_value_12 (by decide) ?_
      refine Z.put C in4 0 rfl rfl 0 (by decide) tyX4 tyX4_ok nmX4 (by decide +kernel) rfl rfl rfl rfl (Nat.le_of_ble_eq_true rfl) dX4_value_16 (w' := (wN a cI cZ (1, o.2) q)) rfl ?_
      refine Z.aload_n C dX4_value_19 0 rfl rfl ?_
      refine Z.get C in4 0 rfl rfl 0 (by decide) (by decide +kernel) rfl rfl dX4_value_20 ?_
      refine Z.if_le C 30 dX4_value_23 (by decide) (fun c5 => ?_) (fun c5 => ?_)
      · skip
        replace c5 : ¬ 0 < 1 := Nat.not_lt.mpr ((nI_leI (by omega) (by omega)).mp c5)
        exact absurd c5 (by decide)
      · skip
        replace c5 : 0 < 1 := Nat.not_le.mp (mt (nI_leI (by omega) (by omega)).mpr c5)
        refine Z.iconst C (v := (nI 0)) dX4_value_26 (by decide) ?_
        refine Z.goto C 36 dX4_value_27 (by decide) ?_
        refine Z.iret C hr hA dX4_value_36 ?_ ?_
        · first | rfl | (simp [nI_0, (eq_true c1), (eq_false c3), (eq_true c5)]; done) | (simp_all [nI_0]; done)
        · (refine congrArg (fun z => wN a cI cZ z q) ?_; first | rfl | (simp [nI_0, (eq_true c1), (eq_false c3), (eq_true c5)]; done) | (simp_all [nI_0]; done))
set_option maxHeartbeats 4000000 in
set_option maxRecDepth 100000 in
theorem c_pokeN {l : Launch} {D : va_G} {a : Nat → Nat} {cI cZ : ClassId} (o : OS) (q : QS) (p0 : Int32) (p1 : Int32)  : Mv l yX4_poke wsX4_poke 1 D [(cI, .int), (cZ, .boolean)] [.ref (a 0), .int p0, .int p1] (wN a cI cZ o q) (wN a cI cZ (if isAddrF p0 = true then (0, o.2.1, o.2.2.1, upd o.2.2.2.1 p0.toNatClampNeg p1, o.2.2.2.2) else (1, o.2)) q) := by
  refine Mv.of (cc := cX4_poke) (maxL := 3) (by decide) rfl (Nat.le_of_ble_eq_true rfl) ?_
  intro p e s m below meth c A C hr hA
  have in4 : ∀ w ∈ wsX40, w ∈ wsX4_poke := by decide +kernel
  show Z p l e (rmN _) s m _ below meth c _ D A _ _ [(0, .ref (a 0)), (1, .int p0), (2, .int p1)] 0 []
  refine Z.aload_n C dX4_poke_0 0 rfl rfl ?_
  refine Z.iload_n C dX4_poke_1 1 rfl rfl ?_
  refine Z.callSi C (nA := 1) (As := [.int p0]) (st := [.ref (a 0)]) (c_isAddressN p0) gX4_poke_X4_isAddress rfl (by decide +kernel) (rm_ok (by omega) (by decide)) rfl (Nat.le_of_ble_eq_true rfl) rfl dX4_poke_2 ?_
  refine Z.if_eq C 12 dX4_poke_5 (by decide) (fun c1 => ?_) (fun c1 => ?_)
  · skip
    replace c1 : isAddrF p0 = false := b2i_0.mp c1
    refine Z.iconst C (v := (nI 1)) dX4_poke_12 (by decide) ?_
    refine Z.put C in4 0 rfl rfl 0 (by decide) tyX4 tyX4_ok nmX4 (by decide +kernel) rfl rfl rfl rfl (Nat.le_of_ble_eq_true rfl) dX4_poke_13 (w' := (wN a cI cZ (1, o.2) q)) rfl ?_
    refine Z.aload_n C dX4_poke_16 0 rfl rfl ?_
    refine Z.get C in4 0 rfl rfl 0 (by decide) (by decide +kernel) rfl rfl dX4_poke_17 ?_
    refine Z.if_ne C 30 dX4_poke_20 (by decide) (fun c2 => ?_) (fun c2 => ?_)
    · skip
      replace c2 : ¬ 1 = 0 := mt (nI_eq (by omega) (by omega)).mpr c2
      refine Z.vret C hr hA dX4_poke_30 ?_
      (refine congrArg (fun z => wN a cI cZ z q) ?_; first | rfl | (simp [nI_0, c1, (eq_false c2)]; done) | (simp_all [nI_0]; done))
    · skip
      replace c2 : 1 = 0 := (nI_eq (by omega) (by omega)).mp c2
      exact absurd c2 (by decide)
  · skip
    replace c1 : isAddrF p0 = true := b2i_n0.mp c1
    have ⟨c1a, c1b⟩ := isAddr_t c1
    refine Z.iconst C (v := (nI 0)) dX4_poke_8 (by decide) ?_
    refine Z.goto C 13 dX4_poke_9 (by decide) ?_
    refine Z.put C in4 0 rfl rfl 0 (by decide) tyX4 tyX4_ok nmX4 (by decide +kernel) rfl rfl rfl rfl (Nat.le_of_ble_eq_true rfl) dX4_poke_13 (w' := (wN a cI cZ (0, o.2) q)) rfl ?_
    refine Z.aload_n C dX4_poke_16 0 rfl rfl ?_
    refine Z.get C in4 0 rfl rfl 0 (by decide) (by decide +kernel) rfl rfl dX4_poke_17 ?_
    refine Z.if_ne C 30 dX4_poke_20 (by decide) (fun c3 => ?_) (fun c3 => ?_)
    · skip
      replace c3 : ¬ 0 = 0 := mt (nI_eq (by omega) (by omega)).mpr c3
      exact absurd c3 (by decide)
    · skip
      replace c3 : 0 = 0 := (nI_eq (by omega) (by omega)).mp c3
      refine Z.aload_n C dX4_poke_23 0 rfl rfl ?_
      refine Z.get C in4 0 rfl rfl 4 (by decide) (by decide +kernel) rfl rfl dX4_poke_24 ?_
      refine Z.iload_n C dX4_poke_27 1 rfl rfl ?_
      refine Z.iload_n C dX4_poke_28 2 rfl rfl ?_
      refine Z.iast C 2 0 rfl rfl p0.toNatClampNeg (nI_cl (by assumption)) (nI_clb (by assumption) (by omega) (by first | assumption | omega)) (by decide) dX4_poke_29 (v := p1) rfl (w' := (wN a cI cZ (0, o.2.1, o.2.2.1, (upd o.2.2.2.1 p0.toNatClampNeg p1), o.2.2.2.2) q)) rfl ?_
      refine Z.vret C hr hA dX4_poke_30 ?_
      (refine congrArg (fun z => wN a cI cZ z q) ?_; first | rfl | (simp [nI_0, c1, (eq_true c3)]; done) | (simp_all [nI_0]; done))
set_option maxHeartbeats 4000000 in
set_option maxRecDepth 100000 in
theorem c_peekN {l : Launch} {D : va_G} {a : Nat → Nat} {cI cZ : ClassId} (o : OS) (q : QS) (p0 : Int32)  : Mi l yX4_peek wsX4_peek 1 D [(cI, .int), (cZ, .boolean)] [.ref (a 0), .int p0] (wN a cI cZ o q) (if isAddrF p0 = true then o.2.2.2.1 p0.toNatClampNeg else 0) (wN a cI cZ (if isAddrF p0 = true then (0, o.2) else (1, o.2)) q) := by
  refine Mi.of (cc := cX4_peek) (maxL := 2) (by decide) rfl (Nat.le_of_ble_eq_true rfl) ?_
  intro p e s m below meth c A C hr hA
  have in4 : ∀ w ∈ wsX40, w ∈ wsX4_peek := by decide +kernel
  show Z p l e (rmN _) s m _ below meth c _ D A _ _ [(0, .ref (a 0)), (1, .int p0)] 0 []
  refine Z.aload_n C dX4_peek_0 0 rfl rfl ?_
  refine Z.iload_n C dX4_peek_1 1 rfl rfl ?_
  refine Z.callSi C (nA := 1) (As := [.int p0]) (st := [.ref (a 0)]) (c_isAddressN p0) gX4_peek_X4_isAddress rfl (by decide +kernel) (rm_ok (by omega) (by decide)) rfl (Nat.le_of_ble_eq_true rfl) rfl dX4_peek_2 ?_
  refine Z.if_eq C 12 dX4_peek_5 (by decide) (fun c1 => ?_) (fun c1 => ?_)
  · skip
    replace c1 : isAddrF p0 = false := b2i_0.mp c1
    refine Z.iconst C (v := (nI 1)) dX4_peek_12 (by decide) ?_
    refine Z.put C in4 0 rfl rfl 0 (by decide) tyX4 tyX4_ok nmX4 (by decide +kernel) rfl rfl rfl rfl (Nat.le_of_ble_eq_true rfl) dX4_peek_13 (w' := (wN a cI cZ (1, o.2) q)) rfl ?_
    refine Z.aload_n C dX4_peek_16 0 rfl rfl ?_
    refine Z.get C in4 0 rfl rfl 0 (by decide) (by decide +kernel) rfl rfl dX4_peek_17 ?_
    refine Z.if_le C 27 dX4_peek_20 (by decide) (fun c2 => ?_) (fun c2 => ?_)
    · skip
      replace c2 : ¬ 0 < 1 := Nat.not_lt.mpr ((nI_leI (by omega) (by omega)).mp c2)
      exact absurd c2 (by decide)
    · skip
      replace c2 : 0 < 1 := Nat.not_le.mp (mt (nI_leI (by omega) (by omega)).mpr c2)
      refine Z.iconst C (v := (nI 0)) dX4_peek_23 (by decide) ?_
      refine Z.goto C 33 dX4_peek_24 (by decide) ?_
      refine Z.iret C hr hA dX4_peek_33 ?_ ?_
      · first | rfl | (simp [nI_0, c1, (eq_true c2)]; done) | (simp_all [nI_0]; done)
      · (refine congrArg (fun z => wN a cI cZ z q) ?_; first | rfl | (simp [nI_0, c1, (eq_true c2)]; done) | (simp_all [nI_0]; done))
  · skip
    replace c1 : isAddrF p0 = true := b2i_n0.mp c1
    have ⟨c1a, c1b⟩ := isAddr_t c1
    refine Z.iconst C (v := (nI 0)) dX4_peek_8 (by decide) ?_
    refine Z.goto C 13 dX4_peek_9 (by decide) ?_
    refine Z.put C in4 0 rfl rfl 0 (by decide) tyX4 tyX4_ok nmX4 (by decide +kernel) rfl rfl rfl rfl (Nat.le_of_ble_eq_true rfl) dX4_peek_13 (w' := (wN a cI cZ (0, o.2) q)) rfl ?_
    refine Z.aload_n C dX4_peek_16 0 rfl rfl ?_
    refine Z.get C in4 0 rfl rfl 0 (by decide) (by decide +kernel) rfl rfl dX4_peek_17 ?_
    refine Z.if_le C 27 dX4_peek_20 (by decide) (fun c3 => ?_) (fun c3 => ?_)
    · skip
      replace c3 : ¬ 0 < 0 := Nat.not_lt.mpr ((nI_leI (by omega) (by omega)).mp c3)
      refine Z.aload_n C dX4_peek_27 0 rfl rfl ?_
      refine Z.get C in4 0 rfl rfl 4 (by decide) (by decide +kernel) rfl rfl dX4_peek_28 ?_
      refine Z.iload_n C dX4_peek_31 1 rfl rfl ?_
      refine Z.iald C 2 0 rfl rfl p0.toNatClampNeg (nI_cl (by assumption)) (nI_clb (by assumption) (by omega) (by first | assumption | omega)) (by decide) dX4_peek_32 (v := (o.2.2.2.1 p0.toNatClampNeg)) rfl ?_
      refine Z.iret C hr hA dX4_peek_33 ?_ ?_
      · first | rfl | (simp [nI_0, c1, (eq_false c3)]; done) | (simp_all [nI_0]; done)
      · (refine congrArg (fun z => wN a cI cZ z q) ?_; first | rfl | (simp [nI_0, c1, (eq_false c3)]; done) | (simp_all [nI_0]; done))
    · skip
      replace c3 : 0 < 0 := Nat.not_le.mp (mt (nI_leI (by omega) (by omega)).mpr c3)
      exact absurd c3 (by decide)
set_option maxHeartbeats 4000000 in
set_option maxRecDepth 100000 in
theorem c_fillOk {l : Launch} {D : va_G} {a : Nat → Nat} {cI cZ : ClassId} (o : OS) (q : QS) (p1 : Int32) (p2 : Int32) (j : Nat) (hj : j ≤ 192) : Mv l yX4_fill wsX4_fill 1 D [(cI, .int), (cZ, .boolean)] [.ref (a 0), .int (nI j), .int p1, .int p2] (wN a cI cZ o q) (wN a cI cZ (flL p1 p2 j 0 (0, o.2)) q) := by
  refine Mv.of (cc := cX4_fill) (maxL := 5) (by decide) rfl (Nat.le_of_ble_eq_true rfl) ?_
  intro p e s m below meth c A C hr hA
  have in4 : ∀ w ∈ wsX40, w ∈ wsX4_fill := by decide +kernel
  show Z p l e (rmN _) s m _ below meth c _ D A _ _ [(0, .ref (a 0)), (1, .int (nI j)), (2, .int p1), (3, .int p2)] 0 []
  refine Z.aload_n C dX4_fill_0 0 rfl rfl ?_
  refine Z.iload_n C dX4_fill_1 1 rfl rfl ?_
  refine Z.if_lt C 12 dX4_fill_2 (by decide) (fun c1 => ?_) (fun c1 => ?_)
  · skip
    replace c1 : j < 0 := (nI_ltI (by omega) (by omega)).mp c1
    exact absurd c1 (by omega)
  · skip
    replace c1 : ¬ j < 0 := mt (nI_ltI (by omega) (by omega)).mpr c1
    refine Z.iload_n C dX4_fill_5 1 rfl rfl ?_
    refine Z.sipush C (v := (nI 192)) dX4_fill_6 (by decide) ?_
    refine Z.icmp_le C 16 dX4_fill_9 (by decide) (fun c2 => ?_) (fun c2 => ?_)
    · skip
      replace c2 : ¬ 192 < j := Nat.not_lt.mpr ((nI_leI (by omega) (by omega)).mp c2)
      refine Z.iconst C (v := (nI 0)) dX4_fill_16 (by decide) ?_
      refine Z.put C in4 0 rfl rfl 0 (by decide) tyX4 tyX4_ok nmX4 (by decide +kernel) rfl rfl rfl rfl (Nat.le_of_ble_eq_true rfl) dX4_fill_17 (w' := (wN a cI cZ (0, o.2) q)) rfl ?_
      refine Z.iconst C (v := (nI 0)) dX4_fill_20 (by decide) ?_
      refine Z.istore C (lv' := [(4, .int (nI 0)), (0, .ref (a 0)), (1, .int (nI j)), (2, .int p1), (3, .int p2)]) dX4_fill_21 (by decide) rfl ?_
      have key23 : ∀ (n : Nat) (k : Nat) (o2 : OS), k + n = j → o2.1 = 0 → flL p1 p2 j 0 (0, o.2) = flL p1 p2 n k o2 → Z p l e (rmN 1) s m ([.ref (a 0), .int (nI j), .int p1, .int p2] : List Value).toArray below meth c 5 D A (QV below D [(cI, .int), (cZ, .boolean)] [.ref (a 0), .int (nI j), .int p1, .int p2] (wN a cI cZ o q) (wN a cI cZ (flL p1 p2 j 0 (0, o.2)) q) s) (wN a cI cZ o2 q) [(4, .int (nI k)), (0, .ref (a 0)), (1, .int (nI j)), (2, .int p1), (3, .int p2)] 23 [] := by
        intro n
        induction n with
        | zero =>
          intro k o2 hn hth hm23
          refine Z.iload C dX4_fill_23 0 rfl ?_
          refine Z.iload_n C dX4_fill_25 2 rfl rfl ?_
          refine Z.icmp_ge C 55 dX4_fill_26 (by decide) (fun c3 => ?_) (fun c3 => ?_)
          · skip
            replace c3 : ¬ k < j := Nat.not_lt.mpr ((nI_leI (by omega) (by omega)).mp c3)
            refine Z.vret C hr hA dX4_fill_55 ?_
            (refine congrArg (fun z => wN a cI cZ z q) ?_; rw [hm23]; try rfl)
          · skip
            replace c3 : k < j := Nat.not_le.mp (mt (nI_leI (by omega) (by omega)).mpr c3)
            exact absurd c3 (by omega)
        | succ n ih23 =>
          intro k o2 hn hth hm23
          refine Z.iload C dX4_fill_23 0 rfl ?_
          refine Z.iload_n C dX4_fill_25 2 rfl rfl ?_
          refine Z.icmp_ge C 55 dX4_fill_26 (by decide) (fun c4 => ?_) (fun c4 => ?_)
          · skip
            replace c4 : ¬ k < j := Nat.not_lt.mpr ((nI_leI (by omega) (by omega)).mp c4)
            exact absurd c4 (by omega)
          · skip
            replace c4 : k < j := Nat.not_le.mp (mt (nI_leI (by omega) (by omega)).mpr c4)
            refine Z.aload_n C dX4_fill_29 1 rfl rfl ?_
            refine Z.get C in4 0 rfl rfl 0 (by decide) (by decide +kernel) rfl rfl dX4_fill_30 ?_
            refine Z.if_ne C 55 dX4_fill_33 (by decide) (fun c5 => ?_) (fun c5 => ?_)
            · skip
              replace c5 : ¬ o2.1 = 0 := mt (nI_eq (by omega) (by omega)).mpr c5
              exact absurd c5 (by omega)
            · skip
              replace c5 : o2.1 = 0 := (nI_eq (by omega) (by omega)).mp c5
              refine Z.aload_n C dX4_fill_36 1 rfl rfl ?_
              refine Z.get C in4 0 rfl rfl 4 (by decide) (by decide +kernel) rfl rfl dX4_fill_37 ?_
              refine Z.iload C dX4_fill_40 0 rfl ?_
              refine Z.iload_n C dX4_fill_42 3 rfl rfl ?_
              refine Z.iload C dX4_fill_43 0 rfl ?_
              refine Z.iload_n C dX4_fill_45 4 rfl rfl ?_
              refine Z.imul C (v := ((nI k) * p2)) dX4_fill_46 rfl ?_
              refine Z.iadd C (v := (p1 + ((nI k) * p2))) dX4_fill_47 rfl ?_
              refine Z.iast C 2 0 rfl rfl k rfl (by omega) (by decide) dX4_fill_48 (v := (p1 + ((nI k) * p2))) rfl (w' := (wN a cI cZ (o2.1, o2.2.1, o2.2.2.1, (upd o2.2.2.2.1 k (p1 + ((nI k) * p2))), o2.2.2.2.2) q)) rfl ?_
              refine Z.iinc C (v := (nI (k + 1))) (lv' := [(4, .int (nI (k + 1))), (0, .ref (a 0)), (1, .int (nI j)), (2, .int p1), (3, .int p2)]) dX4_fill_49 0 rfl (nI_add k 1) (by decide) rfl ?_
              refine Z.goto C 23 dX4_fill_52 (by decide) ?_
              refine Z.sub [0, 1, 2, 3, 4] rfl ?_
              exact ih23 (k + 1) (o2.1, o2.2.1, o2.2.2.1, (upd o2.2.2.2.1 k (p1 + ((nI k) * p2))), o2.2.2.2.2) (by omega) hth (by rw [hm23]; rfl)
      refine Z.sub [0, 1, 2, 3, 4] rfl ?_
      exact key23 j 0 (0, o.2) (by omega) rfl rfl
    · skip
      replace c2 : 192 < j := Nat.not_le.mp (mt (nI_leI (by omega) (by omega)).mpr c2)
      exact absurd c2 (by omega)
set_option maxHeartbeats 4000000 in
set_option maxRecDepth 100000 in
theorem c_fillBad {l : Launch} {D : va_G} {a : Nat → Nat} {cI cZ : ClassId} (o : OS) (q : QS) (p0 : Int32) (p1 : Int32) (p2 : Int32) (hbad : ¬ 0 ≤ p0 ∨ ¬ p0 ≤ 192) : Mv l yX4_fill wsX4_fill 1 D [(cI, .int), (cZ, .boolean)] [.ref (a 0), .int p0, .int p1, .int p2] (wN a cI cZ o q) (wN a cI cZ (1, o.2) q) := by
  refine Mv.of (cc := cX4_fill) (maxL := 5) (by decide) rfl (Nat.le_of_ble_eq_true rfl) ?_
  intro p e s m below meth c A C hr hA
  have in4 : ∀ w ∈ wsX40, w ∈ wsX4_fill := by decide +kernel
  show Z p l e (rmN _) s m _ below meth c _ D A _ _ [(0, .ref (a 0)), (1, .int p0), (2, .int p1), (3, .int p2)] 0 []
  refine Z.aload_n C dX4_fill_0 0 rfl rfl ?_
  refine Z.iload_n C dX4_fill_1 1 rfl rfl ?_
  refine Z.if_lt C 12 dX4_fill_2 (by decide) (fun c1 => ?_) (fun c1 => ?_)
  · skip
    replace c1 : ¬ (0 : Int32) ≤ p0 := Int32.not_le.mpr c1
    refine Z.iconst C (v := (nI 1)) dX4_fill_12 (by decide) ?_
    refine Z.goto C 17 dX4_fill_13 (by decide) ?_
    refine Z.put C in4 0 rfl rfl 0 (by decide) tyX4 tyX4_ok nmX4 (by decide +kernel) rfl rfl rfl rfl (Nat.le_of_ble_eq_true rfl) dX4_fill_17 (w' := (wN a cI cZ (1, o.2) q)) rfl ?_
    refine Z.iconst C (v := (nI 0)) dX4_fill_20 (by decide) ?_
    refine Z.istore C (lv' := [(4, .int (nI 0)), (0, .ref (a 0)), (1, .int p0), (2, .int p1), (3, .int p2)]) dX4_fill_21 (by decide) rfl ?_
    refine Z.iload C dX4_fill_23 0 rfl ?_
    refine Z.iload_n C dX4_fill_25 2 rfl rfl ?_
    refine Z.icmp_ge C 55 dX4_fill_26 (by decide) (fun c2 => ?_) (fun c2 => ?_)
    · skip
      replace c2 : p0 ≤ (0 : Int32) := c2
      refine Z.vret C hr hA dX4_fill_55 ?_
      (refine congrArg (fun z => wN a cI cZ z q) ?_; first | rfl | (simp [nI_0, (eq_false c1), (eq_true c2)]; done) | (simp_all [nI_0]; done))
    · skip
      replace c2 : ¬ p0 ≤ (0 : Int32) := c2
      refine Z.aload_n C dX4_fill_29 1 rfl rfl ?_
      refine Z.get C in4 0 rfl rfl 0 (by decide) (by decide +kernel) rfl rfl dX4_fill_30 ?_
      refine Z.if_ne C 55 dX4_fill_33 (by decide) (fun c3 => ?_) (fun c3 => ?_)
      · skip
        replace c3 : ¬ 1 = 0 := mt (nI_eq (by omega) (by omega)).mpr c3
        refine Z.vret C hr hA dX4_fill_55 ?_
        (refine congrArg (fun z => wN a cI cZ z q) ?_; first | rfl | (simp [nI_0, (eq_false c1), (eq_false c2), (eq_false c3)]; done) | (simp_all [nI_0]; done))
      · skip
        replace c3 : 1 = 0 := (nI_eq (by omega) (by omega)).mp c3
        exact absurd c3 (by decide)
  · skip
    replace c1 : (0 : Int32) ≤ p0 := Int32.not_lt.mp c1
    refine Z.iload_n C dX4_fill_5 1 rfl rfl ?_
    refine Z.sipush C (v := (nI 192)) dX4_fill_6 (by decide) ?_
    refine Z.icmp_le C 16 dX4_fill_9 (by decide) (fun c4 => ?_) (fun c4 => ?_)
    · skip
      replace c4 : p0 ≤ (192 : Int32) := c4
      exact absurd hbad (fun h => h.elim (fun h => h c1) (fun h => h c4))
    · skip
      replace c4 : ¬ p0 ≤ (192 : Int32) := c4
      refine Z.iconst C (v := (nI 1)) dX4_fill_12 (by decide) ?_
      refine Z.goto C 17 dX4_fill_13 (by decide) ?_
      refine Z.put C in4 0 rfl rfl 0 (by decide) tyX4 tyX4_ok nmX4 (by decide +kernel) rfl rfl rfl rfl (Nat.le_of_ble_eq_true rfl) dX4_fill_17 (w' := (wN a cI cZ (1, o.2) q)) rfl ?_
      refine Z.iconst C (v := (nI 0)) dX4_fill_20 (by decide) ?_
      refine Z.istore C (lv' := [(4, .int (nI 0)), (0, .ref (a 0)), (1, .int p0), (2, .int p1), (3, .int p2)]) dX4_fill_21 (by decide) rfl ?_
      refine Z.iload C dX4_fill_23 0 rfl ?_
      refine Z.iload_n C dX4_fill_25 2 rfl rfl ?_
      refine Z.icmp_ge C 55 dX4_fill_26 (by decide) (fun c5 => ?_) (fun c5 => ?_)
      · skip
        replace c5 : p0 ≤ (0 : Int32) := c5
        refine Z.vret C hr hA dX4_fill_55 ?_
        (refine congrArg (fun z => wN a cI cZ z q) ?_; first | rfl | (simp [nI_0, (eq_true c1), (eq_false c4), (eq_true c5)]; done) | (simp_all [nI_0]; done))
      · skip
        replace c5 : ¬ p0 ≤ (0 : Int32) := c5
        refine Z.aload_n C dX4_fill_29 1 rfl rfl ?_
        refine Z.get C in4 0 rfl rfl 0 (by decide) (by decide +kernel) rfl rfl dX4_fill_30 ?_
        refine Z.if_ne C 55 dX4_fill_33 (by decide) (fun c6 => ?_) (fun c6 => ?_)
        · skip
          replace c6 : ¬ 1 = 0 := mt (nI_eq (by omega) (by omega)).mpr c6
          refine Z.vret C hr hA dX4_fill_55 ?_
          (refine congrArg (fun z => wN a cI cZ z q) ?_; first | rfl | (simp [nI_0, (eq_true c1), (eq_false c4), (eq_false c5), (eq_false c6)]; done) | (simp_all [nI_0]; done))
        · skip
          replace c6 : 1 = 0 := (nI_eq (by omega) (by omega)).mp c6
          exact absurd c6 (by decide)
set_option maxHeartbeats 4000000 in
set_option maxRecDepth 100000 in
theorem c_mixedN {l : Launch} {D : va_G} {a : Nat → Nat} {cI cZ : ClassId} (o : OS) (q : QS)   : Mi l yX4_mixed wsX4_mixed 1 D [(cI, .int), (cZ, .boolean)] [.ref (a 0)] (wN a cI cZ o q) (mxL o.2.2.2.1 191 1 (o.2.2.2.1 0)) (wN a cI cZ (0, o.2) q) := by
  refine Mi.of (cc := cX4_mixed) (maxL := 3) (by decide) rfl (Nat.le_of_ble_eq_true rfl) ?_
  intro p e s m below meth c A C hr hA
  have in4 : ∀ w ∈ wsX40, w ∈ wsX4_mixed := by decide +kernel
  show Z p l e (rmN _) s m _ below meth c _ D A _ _ [(0, .ref (a 0))] 0 []
  refine Z.aload_n C dX4_mixed_0 0 rfl rfl ?_
  refine Z.iconst C (v := (nI 0)) dX4_mixed_1 (by decide) ?_
  refine Z.put C in4 0 rfl rfl 0 (by decide) tyX4 tyX4_ok nmX4 (by decide +kernel) rfl rfl rfl rfl (Nat.le_of_ble_eq_true rfl) dX4_mixed_2 (w' := (wN a cI cZ (0, o.2) q)) rfl ?_
  refine Z.aload_n C dX4_mixed_5 0 rfl rfl ?_
  refine Z.get C in4 0 rfl rfl 4 (by decide) (by decide +kernel) rfl rfl dX4_mixed_6 ?_
  refine Z.iconst C (v := (nI 0)) dX4_mixed_9 (by decide) ?_
  refine Z.iald C 2 0 rfl rfl 0 rfl (by omega) (by decide) dX4_mixed_10 (v := (o.2.2.2.1 0)) rfl ?_
  refine Z.istore_n C (lv' := [(1, .int (o.2.2.2.1 0)), (0, .ref (a 0))]) dX4_mixed_11 rfl (by decide) rfl ?_
  refine Z.iconst C (v := (nI 1)) dX4_mixed_12 (by decide) ?_
  refine Z.istore_n C (lv' := [(2, .int (nI 1)), (1, .int (o.2.2.2.1 0)), (0, .ref (a 0))]) dX4_mixed_13 rfl (by decide) rfl ?_
  have key14 : ∀ (n : Nat) (k : Nat) (sm : Int32), k + n = 192 → mxL o.2.2.2.1 191 1 (o.2.2.2.1 0) = mxL o.2.2.2.1 n k sm → Z p l e (rmN 1) s m ([.ref (a 0)] : List Value).toArray below meth c 3 D A (QI below D [(cI, .int), (cZ, .boolean)] [.ref (a 0)] (wN a cI cZ o q) (mxL o.2.2.2.1 191 1 (o.2.2.2.1 0)) (wN a cI cZ (0, o.2) q) s) (wN a cI cZ (0, o.2) q) [(2, .int (nI k)), (1, .int sm), (0, .ref (a 0))] 14 [] := by
    intro n
    induction n with
    | zero =>
      intro k sm hn hm14
      refine Z.iload_n C dX4_mixed_14 0 rfl rfl ?_
      refine Z.sipush C (v := (nI 192)) dX4_mixed_15 (by decide) ?_
      refine Z.icmp_ge C 59 dX4_mixed_18 (by decide) (fun c1 => ?_) (fun c1 => ?_)
      · skip
        replace c1 : ¬ k < 192 := Nat.not_lt.mpr ((nI_leI (by omega) (by omega)).mp c1)
        refine Z.iload_n C dX4_mixed_59 1 rfl rfl ?_
        refine Z.iret C hr hA dX4_mixed_60 ?_ ?_
        · (rw [hm14]; rfl)
        · (refine congrArg (fun z => wN a cI cZ z q) ?_; rfl)
      · skip
        replace c1 : k < 192 := Nat.not_le.mp (mt (nI_leI (by omega) (by omega)).mpr c1)
        exact absurd c1 (by omega)
    | succ n ih14 =>
      intro k sm hn hm14
      refine Z.iload_n C dX4_mixed_14 0 rfl rfl ?_
      refine Z.sipush C (v := (nI 192)) dX4_mixed_15 (by decide) ?_
      refine Z.icmp_ge C 59 dX4_mixed_18 (by decide) (fun c2 => ?_) (fun c2 => ?_)
      · skip
        replace c2 : ¬ k < 192 := Nat.not_lt.mpr ((nI_leI (by omega) (by omega)).mp c2)
        exact absurd c2 (by omega)
      · skip
        replace c2 : k < 192 := Nat.not_le.mp (mt (nI_leI (by omega) (by omega)).mpr c2)
        refine Z.iload_n C dX4_mixed_21 1 rfl rfl ?_
        refine Z.iload_n C dX4_mixed_22 0 rfl rfl ?_
        refine Z.bipush C (v := (nI 32)) dX4_mixed_23 (by decide) ?_
        refine Z.irem C (v := (nI (k % 32))) dX4_mixed_25 (by decide) (pk_rem (a := k) (d := 32) (by omega) (by decide) (by decide)) ?_
        refine Z.if_ne C 38 dX4_mixed_26 (by decide) (fun c3 => ?_) (fun c3 => ?_)
        · skip
          replace c3 : ¬ (k % 32) = 0 := mt (nI_eq (by omega) (by omega)).mpr c3
          refine Z.aload_n C dX4_mixed_38 2 rfl rfl ?_
          refine Z.get C in4 0 rfl rfl 4 (by decide) (by decide +kernel) rfl rfl dX4_mixed_39 ?_
          refine Z.iload_n C dX4_mixed_42 0 rfl rfl ?_
          refine Z.iald C 2 0 rfl rfl k rfl (by omega) (by decide) dX4_mixed_43 (v := (o.2.2.2.1 k)) rfl ?_
          refine Z.iload_n C dX4_mixed_44 0 rfl rfl ?_
          refine Z.bipush C (v := (nI 32)) dX4_mixed_45 (by decide) ?_
          refine Z.irem C (v := (nI (k % 32))) dX4_mixed_47 (by decide) (pk_rem (a := k) (d := 32) (by omega) (by decide) (by decide)) ?_
          refine Z.callSi C (nA := 2) (As := [.int (o.2.2.2.1 k), .int (nI (k % 32))]) (st := [.int sm]) (c_turnedN (o.2.2.2.1 k) (nI (k % 32))) gX4_mixed_X4_turned rfl (by decide +kernel) (rm_ok (by omega) (by decide)) rfl (Nat.le_of_ble_eq_true rfl) rfl dX4_mixed_48 ?_
          refine Z.ixor C (v := (sm ^^^ (turnF (o.2.2.2.1 k) (nI (k % 32))))) dX4_mixed_51 rfl ?_
          refine Z.istore_n C (lv' := [(1, .int (sm ^^^ (turnF (o.2.2.2.1 k) (nI (k % 32))))), (2, .int (nI k)), (0, .ref (a 0))]) dX4_mixed_52 rfl (by decide) rfl ?_
          refine Z.iinc C (v := (nI (k + 1))) (lv' := [(2, .int (nI (k + 1))), (1, .int (sm ^^^ (turnF (o.2.2.2.1 k) (nI (k % 32))))), (0, .ref (a 0))]) dX4_mixed_53 1 rfl (nI_add k 1) (by decide) rfl ?_
          refine Z.goto C 14 dX4_mixed_56 (by decide) ?_
          refine Z.sub [0, 1, 2] rfl ?_
          exact ih14 (k + 1) (sm ^^^ (turnF (o.2.2.2.1 k) (nI (k % 32)))) (by omega) (by rw [hm14, mxL]; simp [(eq_false c3)])
        · skip
          replace c3 : (k % 32) = 0 := (nI_eq (by omega) (by omega)).mp c3
          refine Z.aload_n C dX4_mixed_29 2 rfl rfl ?_
          refine Z.get C in4 0 rfl rfl 4 (by decide) (by decide +kernel) rfl rfl dX4_mixed_30 ?_
          refine Z.iload_n C dX4_mixed_33 0 rfl rfl ?_
          refine Z.iald C 2 0 rfl rfl k rfl (by omega) (by decide) dX4_mixed_34 (v := (o.2.2.2.1 k)) rfl ?_
          refine Z.goto C 51 dX4_mixed_35 (by decide) ?_
          refine Z.ixor C (v := (sm ^^^ (o.2.2.2.1 k))) dX4_mixed_51 rfl ?_
          refine Z.istore_n C (lv' := [(1, .int (sm ^^^ (o.2.2.2.1 k))), (2, .int (nI k)), (0, .ref (a 0))]) dX4_mixed_52 rfl (by decide) rfl ?_
          refine Z.iinc C (v := (nI (k + 1))) (lv' := [(2, .int (nI (k + 1))), (1, .int (sm ^^^ (o.2.2.2.1 k))), (0, .ref (a 0))]) dX4_mixed_53 1 rfl (nI_add k 1) (by decide) rfl ?_
          refine Z.goto C 14 dX4_mixed_56 (by decide) ?_
          refine Z.sub [0, 1, 2] rfl ?_
          exact ih14 (k + 1) (sm ^^^ (o.2.2.2.1 k)) (by omega) (by rw [hm14, mxL]; simp [(eq_true c3)])
  refine Z.sub [0, 1, 2] rfl ?_
  exact key14 191 1 (o.2.2.2.1 0) (by omega) rfl
