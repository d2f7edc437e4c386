section
-- ===== PART A: goes FIRST, ahead of the names: the tables' words, and 'selects' of the private methods out of them =====
/-- a private method of a class that the tables say can be made, by its rows of tables_1 -/
def lw_okq (q : MethodName × Nat) : Prop := (q.1.cls ≠ "java/lang/invoke/MethodHandle" ∧ q.1.cls ≠ "java/lang/invoke/VarHandle") ∧ Cond.instantiable q.1.cls q.2 ∈ tables_1 ∧ Cond.privateMethod q.1 ∈ tables_1 ∧ Cond.instanceMethod q.1 ∈ tables_1
theorem lw_p0 : lw_okq (⟨"RoundCompiler$Reader", "append", "(I)V"⟩, 8) := ⟨⟨by decide +kernel, by decide +kernel⟩, List.mem_of_getElem? (i := 23) (by decide +kernel), List.mem_of_getElem? (i := 147) (by decide +kernel), List.mem_of_getElem? (i := 148) (by decide +kernel)⟩
theorem lw_p1 : lw_okq (⟨"RoundCompiler$Reader", "readText", "()Z"⟩, 8) := ⟨⟨by decide +kernel, by decide +kernel⟩, List.mem_of_getElem? (i := 23) (by decide +kernel), List.mem_of_getElem? (i := 178) (by decide +kernel), List.mem_of_getElem? (i := 179) (by decide +kernel)⟩
theorem lw_p2 : lw_okq (⟨"RoundCompiler$Code", "empty", "()V"⟩, 6) := ⟨⟨by decide +kernel, by decide +kernel⟩, List.mem_of_getElem? (i := 29) (by decide +kernel), List.mem_of_getElem? (i := 182) (by decide +kernel), List.mem_of_getElem? (i := 183) (by decide +kernel)⟩
theorem lw_p3 : lw_okq (⟨"RoundCompiler$Reader", "readProgram", "(I)Z"⟩, 8) := ⟨⟨by decide +kernel, by decide +kernel⟩, List.mem_of_getElem? (i := 23) (by decide +kernel), List.mem_of_getElem? (i := 186) (by decide +kernel), List.mem_of_getElem? (i := 187) (by decide +kernel)⟩
theorem lw_p4 : lw_okq (⟨"RoundCompiler$Reader", "here", "()I"⟩, 8) := ⟨⟨by decide +kernel, by decide +kernel⟩, List.mem_of_getElem? (i := 23) (by decide +kernel), List.mem_of_getElem? (i := 190) (by decide +kernel), List.mem_of_getElem? (i := 191) (by decide +kernel)⟩
theorem lw_p5 : lw_okq (⟨"RoundCompiler$Reader", "readStatement", "(I)Z"⟩, 8) := ⟨⟨by decide +kernel, by decide +kernel⟩, List.mem_of_getElem? (i := 23) (by decide +kernel), List.mem_of_getElem? (i := 194) (by decide +kernel), List.mem_of_getElem? (i := 195) (by decide +kernel)⟩
theorem lw_p6 : lw_okq (⟨"RoundCompiler$Reader", "readStore", "()Z"⟩, 8) := ⟨⟨by decide +kernel, by decide +kernel⟩, List.mem_of_getElem? (i := 23) (by decide +kernel), List.mem_of_getElem? (i := 198) (by decide +kernel), List.mem_of_getElem? (i := 199) (by decide +kernel)⟩
theorem lw_p7 : lw_okq (⟨"RoundCompiler$Reader", "expect", "(I)Z"⟩, 8) := ⟨⟨by decide +kernel, by decide +kernel⟩, List.mem_of_getElem? (i := 23) (by decide +kernel), List.mem_of_getElem? (i := 202) (by decide +kernel), List.mem_of_getElem? (i := 203) (by decide +kernel)⟩
theorem lw_p8 : lw_okq (⟨"RoundCompiler$Reader", "refuse", "(I)Z"⟩, 8) := ⟨⟨by decide +kernel, by decide +kernel⟩, List.mem_of_getElem? (i := 23) (by decide +kernel), List.mem_of_getElem? (i := 206) (by decide +kernel), List.mem_of_getElem? (i := 207) (by decide +kernel)⟩
theorem lw_p9 : lw_okq (⟨"RoundCompiler$Reader", "readSum", "(I)Z"⟩, 8) := ⟨⟨by decide +kernel, by decide +kernel⟩, List.mem_of_getElem? (i := 23) (by decide +kernel), List.mem_of_getElem? (i := 210) (by decide +kernel), List.mem_of_getElem? (i := 211) (by decide +kernel)⟩
theorem lw_p10 : lw_okq (⟨"RoundCompiler$Reader", "readTurned", "(I)Z"⟩, 8) := ⟨⟨by decide +kernel, by decide +kernel⟩, List.mem_of_getElem? (i := 23) (by decide +kernel), List.mem_of_getElem? (i := 214) (by decide +kernel), List.mem_of_getElem? (i := 215) (by decide +kernel)⟩
theorem lw_p11 : lw_okq (⟨"RoundCompiler$Reader", "readFactor", "(I)Z"⟩, 8) := ⟨⟨by decide +kernel, by decide +kernel⟩, List.mem_of_getElem? (i := 23) (by decide +kernel), List.mem_of_getElem? (i := 218) (by decide +kernel), List.mem_of_getElem? (i := 219) (by decide +kernel)⟩
theorem lw_p12 : lw_okq (⟨"RoundCompiler$Code", "add", "(III)V"⟩, 6) := ⟨⟨by decide +kernel, by decide +kernel⟩, List.mem_of_getElem? (i := 29) (by decide +kernel), List.mem_of_getElem? (i := 225) (by decide +kernel), List.mem_of_getElem? (i := 226) (by decide +kernel)⟩
theorem lw_p13 : lw_okq (⟨"RoundCompiler$Reader", "readNested", "(I)Z"⟩, 8) := ⟨⟨by decide +kernel, by decide +kernel⟩, List.mem_of_getElem? (i := 23) (by decide +kernel), List.mem_of_getElem? (i := 229) (by decide +kernel), List.mem_of_getElem? (i := 230) (by decide +kernel)⟩
theorem lw_p14 : lw_okq (⟨"RoundCompiler$Code", "addOfOne", "(II)V"⟩, 6) := ⟨⟨by decide +kernel, by decide +kernel⟩, List.mem_of_getElem? (i := 29) (by decide +kernel), List.mem_of_getElem? (i := 233) (by decide +kernel), List.mem_of_getElem? (i := 234) (by decide +kernel)⟩
theorem lw_p15 : lw_okq (⟨"RoundCompiler$Code", "endsInNumbers", "(I)Z"⟩, 6) := ⟨⟨by decide +kernel, by decide +kernel⟩, List.mem_of_getElem? (i := 29) (by decide +kernel), List.mem_of_getElem? (i := 237) (by decide +kernel), List.mem_of_getElem? (i := 238) (by decide +kernel)⟩
def lw_privs_1 : List (MethodName × Nat) := [(⟨"RoundCompiler$Reader", "append", "(I)V"⟩, 8), (⟨"RoundCompiler$Reader", "readText", "()Z"⟩, 8), (⟨"RoundCompiler$Code", "empty", "()V"⟩, 6), (⟨"RoundCompiler$Reader", "readProgram", "(I)Z"⟩, 8), (⟨"RoundCompiler$Reader", "here", "()I"⟩, 8), (⟨"RoundCompiler$Reader", "readStatement", "(I)Z"⟩, 8), (⟨"RoundCompiler$Reader", "readStore", "()Z"⟩, 8), (⟨"RoundCompiler$Reader", "expect", "(I)Z"⟩, 8), (⟨"RoundCompiler$Reader", "refuse", "(I)Z"⟩, 8), (⟨"RoundCompiler$Reader", "readSum", "(I)Z"⟩, 8), (⟨"RoundCompiler$Reader", "readTurned", "(I)Z"⟩, 8), (⟨"RoundCompiler$Reader", "readFactor", "(I)Z"⟩, 8), (⟨"RoundCompiler$Code", "add", "(III)V"⟩, 6), (⟨"RoundCompiler$Reader", "readNested", "(I)Z"⟩, 8), (⟨"RoundCompiler$Code", "addOfOne", "(II)V"⟩, 6), (⟨"RoundCompiler$Code", "endsInNumbers", "(I)Z"⟩, 6)]
theorem lw_r1 : ∀ q ∈ lw_privs_1, lw_okq q := List.forall_mem_cons.mpr ⟨lw_p0, List.forall_mem_cons.mpr ⟨lw_p1, List.forall_mem_cons.mpr ⟨lw_p2, List.forall_mem_cons.mpr ⟨lw_p3, List.forall_mem_cons.mpr ⟨lw_p4, List.forall_mem_cons.mpr ⟨lw_p5, List.forall_mem_cons.mpr ⟨lw_p6, List.forall_mem_cons.mpr ⟨lw_p7, List.forall_mem_cons.mpr ⟨lw_p8, List.forall_mem_cons.mpr ⟨lw_p9, List.forall_mem_cons.mpr ⟨lw_p10, List.forall_mem_cons.mpr ⟨lw_p11, List.forall_mem_cons.mpr ⟨lw_p12, List.forall_mem_cons.mpr ⟨lw_p13, List.forall_mem_cons.mpr ⟨lw_p14, List.forall_mem_cons.mpr ⟨lw_p15, fun _ h => absurd h List.not_mem_nil⟩⟩⟩⟩⟩⟩⟩⟩⟩⟩⟩⟩⟩⟩⟩⟩
theorem lw_p16 : lw_okq (⟨"RoundCompiler$Reader", "readNumber", "(JJ)Z"⟩, 8) := ⟨⟨by decide +kernel, by decide +kernel⟩, List.mem_of_getElem? (i := 23) (by decide +kernel), List.mem_of_getElem? (i := 244) (by decide +kernel), List.mem_of_getElem? (i := 245) (by decide +kernel)⟩
theorem lw_p17 : lw_okq (⟨"RoundCompiler$Code", "addOfTwo", "(I)V"⟩, 6) := ⟨⟨by decide +kernel, by decide +kernel⟩, List.mem_of_getElem? (i := 29) (by decide +kernel), List.mem_of_getElem? (i := 255) (by decide +kernel), List.mem_of_getElem? (i := 256) (by decide +kernel)⟩
theorem lw_p18 : lw_okq (⟨"RoundCompiler$Reader", "readLoop", "(I)Z"⟩, 8) := ⟨⟨by decide +kernel, by decide +kernel⟩, List.mem_of_getElem? (i := 23) (by decide +kernel), List.mem_of_getElem? (i := 262) (by decide +kernel), List.mem_of_getElem? (i := 263) (by decide +kernel)⟩
theorem lw_p19 : lw_okq (⟨"RoundCompiler$Reader", "freeName", "()I"⟩, 8) := ⟨⟨by decide +kernel, by decide +kernel⟩, List.mem_of_getElem? (i := 23) (by decide +kernel), List.mem_of_getElem? (i := 266) (by decide +kernel), List.mem_of_getElem? (i := 267) (by decide +kernel)⟩
theorem lw_p20 : lw_okq (⟨"RoundCompiler$Reader", "readBlock", "(I)Z"⟩, 8) := ⟨⟨by decide +kernel, by decide +kernel⟩, List.mem_of_getElem? (i := 23) (by decide +kernel), List.mem_of_getElem? (i := 271) (by decide +kernel), List.mem_of_getElem? (i := 272) (by decide +kernel)⟩
theorem lw_p21 : lw_okq (⟨"RoundCompiler$Reader", "readBranch", "(I)Z"⟩, 8) := ⟨⟨by decide +kernel, by decide +kernel⟩, List.mem_of_getElem? (i := 23) (by decide +kernel), List.mem_of_getElem? (i := 275) (by decide +kernel), List.mem_of_getElem? (i := 276) (by decide +kernel)⟩
theorem lw_p22 : lw_okq (⟨"RoundCompiler$Code", "setFirst", "(II)V"⟩, 6) := ⟨⟨by decide +kernel, by decide +kernel⟩, List.mem_of_getElem? (i := 29) (by decide +kernel), List.mem_of_getElem? (i := 279) (by decide +kernel), List.mem_of_getElem? (i := 280) (by decide +kernel)⟩
theorem lw_p23 : lw_okq (⟨"RoundCompiler$Reader", "readSet", "()Z"⟩, 8) := ⟨⟨by decide +kernel, by decide +kernel⟩, List.mem_of_getElem? (i := 23) (by decide +kernel), List.mem_of_getElem? (i := 283) (by decide +kernel), List.mem_of_getElem? (i := 284) (by decide +kernel)⟩
theorem lw_p24 : lw_okq (⟨"java/lang/Throwable", "fillInStackTrace", "(I)Ljava/lang/Throwable;"⟩, 6) := ⟨⟨by decide +kernel, by decide +kernel⟩, List.mem_of_getElem? (i := 325) (by decide +kernel), List.mem_of_getElem? (i := 323) (by decide +kernel), List.mem_of_getElem? (i := 324) (by decide +kernel)⟩
theorem lw_p25 : lw_okq (⟨"RoundCompiler$Reader", "exchanged", "(LRoundCompiler$Code;)LRoundCompiler$Code;"⟩, 8) := ⟨⟨by decide +kernel, by decide +kernel⟩, List.mem_of_getElem? (i := 23) (by decide +kernel), List.mem_of_getElem? (i := 355) (by decide +kernel), List.mem_of_getElem? (i := 356) (by decide +kernel)⟩
theorem lw_p26 : lw_okq (⟨"RoundCompiler$Machine", "carriesOut", "(LRoundCompiler$Code;)Z"⟩, 8) := ⟨⟨by decide +kernel, by decide +kernel⟩, List.mem_of_getElem? (i := 91) (by decide +kernel), List.mem_of_getElem? (i := 384) (by decide +kernel), List.mem_of_getElem? (i := 385) (by decide +kernel)⟩
theorem lw_p27 : lw_okq (⟨"RoundCompiler$Machine", "behind", "(LRoundCompiler$Code;I)I"⟩, 8) := ⟨⟨by decide +kernel, by decide +kernel⟩, List.mem_of_getElem? (i := 91) (by decide +kernel), List.mem_of_getElem? (i := 395) (by decide +kernel), List.mem_of_getElem? (i := 396) (by decide +kernel)⟩
theorem lw_p28 : lw_okq (⟨"RoundCompiler$Machine", "push", "(I)V"⟩, 8) := ⟨⟨by decide +kernel, by decide +kernel⟩, List.mem_of_getElem? (i := 91) (by decide +kernel), List.mem_of_getElem? (i := 399) (by decide +kernel), List.mem_of_getElem? (i := 400) (by decide +kernel)⟩
theorem lw_p29 : lw_okq (⟨"RoundCompiler$Machine", "named", "(I)I"⟩, 8) := ⟨⟨by decide +kernel, by decide +kernel⟩, List.mem_of_getElem? (i := 91) (by decide +kernel), List.mem_of_getElem? (i := 403) (by decide +kernel), List.mem_of_getElem? (i := 404) (by decide +kernel)⟩
theorem lw_p30 : lw_okq (⟨"RoundCompiler$Machine", "pop", "()I"⟩, 8) := ⟨⟨by decide +kernel, by decide +kernel⟩, List.mem_of_getElem? (i := 91) (by decide +kernel), List.mem_of_getElem? (i := 407) (by decide +kernel), List.mem_of_getElem? (i := 408) (by decide +kernel)⟩
theorem lw_p31 : lw_okq (⟨"RoundCompiler$Machine", "loaded", "(I)I"⟩, 8) := ⟨⟨by decide +kernel, by decide +kernel⟩, List.mem_of_getElem? (i := 91) (by decide +kernel), List.mem_of_getElem? (i := 411) (by decide +kernel), List.mem_of_getElem? (i := 412) (by decide +kernel)⟩
def lw_privs_2 : List (MethodName × Nat) := [(⟨"RoundCompiler$Reader", "readNumber", "(JJ)Z"⟩, 8), (⟨"RoundCompiler$Code", "addOfTwo", "(I)V"⟩, 6), (⟨"RoundCompiler$Reader", "readLoop", "(I)Z"⟩, 8), (⟨"RoundCompiler$Reader", "freeName", "()I"⟩, 8), (⟨"RoundCompiler$Reader", "readBlock", "(I)Z"⟩, 8), (⟨"RoundCompiler$Reader", "readBranch", "(I)Z"⟩, 8), (⟨"RoundCompiler$Code", "setFirst", "(II)V"⟩, 6), (⟨"RoundCompiler$Reader", "readSet", "()Z"⟩, 8), (⟨"java/lang/Throwable", "fillInStackTrace", "(I)Ljava/lang/Throwable;"⟩, 6), (⟨"RoundCompiler$Reader", "exchanged", "(LRoundCompiler$Code;)LRoundCompiler$Code;"⟩, 8), (⟨"RoundCompiler$Machine", "carriesOut", "(LRoundCompiler$Code;)Z"⟩, 8), (⟨"RoundCompiler$Machine", "behind", "(LRoundCompiler$Code;I)I"⟩, 8), (⟨"RoundCompiler$Machine", "push", "(I)V"⟩, 8), (⟨"RoundCompiler$Machine", "named", "(I)I"⟩, 8), (⟨"RoundCompiler$Machine", "pop", "()I"⟩, 8), (⟨"RoundCompiler$Machine", "loaded", "(I)I"⟩, 8)]
theorem lw_r2 : ∀ q ∈ lw_privs_2, lw_okq q := List.forall_mem_cons.mpr ⟨lw_p16, List.forall_mem_cons.mpr ⟨lw_p17, List.forall_mem_cons.mpr ⟨lw_p18, List.forall_mem_cons.mpr ⟨lw_p19, List.forall_mem_cons.mpr ⟨lw_p20, List.forall_mem_cons.mpr ⟨lw_p21, List.forall_mem_cons.mpr ⟨lw_p22, List.forall_mem_cons.mpr ⟨lw_p23, List.forall_mem_cons.mpr ⟨lw_p24, List.forall_mem_cons.mpr ⟨lw_p25, List.forall_mem_cons.mpr ⟨lw_p26, List.forall_mem_cons.mpr ⟨lw_p27, List.forall_mem_cons.mpr ⟨lw_p28, List.forall_mem_cons.mpr ⟨lw_p29, List.forall_mem_cons.mpr ⟨lw_p30, List.forall_mem_cons.mpr ⟨lw_p31, fun _ h => absurd h List.not_mem_nil⟩⟩⟩⟩⟩⟩⟩⟩⟩⟩⟩⟩⟩⟩⟩⟩
theorem lw_p32 : lw_okq (⟨"RoundCompiler$Machine", "name", "(II)V"⟩, 8) := ⟨⟨by decide +kernel, by decide +kernel⟩, List.mem_of_getElem? (i := 91) (by decide +kernel), List.mem_of_getElem? (i := 418) (by decide +kernel), List.mem_of_getElem? (i := 419) (by decide +kernel)⟩
theorem lw_p33 : lw_okq (⟨"RoundCompiler$Machine", "store", "(II)V"⟩, 8) := ⟨⟨by decide +kernel, by decide +kernel⟩, List.mem_of_getElem? (i := 91) (by decide +kernel), List.mem_of_getElem? (i := 422) (by decide +kernel), List.mem_of_getElem? (i := 423) (by decide +kernel)⟩
theorem lw_p34 : lw_okq (⟨"RoundCompiler$Machine", "turnsAgain", "(LRoundCompiler$Code;I)Z"⟩, 8) := ⟨⟨by decide +kernel, by decide +kernel⟩, List.mem_of_getElem? (i := 91) (by decide +kernel), List.mem_of_getElem? (i := 426) (by decide +kernel), List.mem_of_getElem? (i := 427) (by decide +kernel)⟩
theorem lw_p35 : lw_okq (⟨"RoundCompilerModel", "statement", "()I"⟩, 33) := ⟨⟨by decide +kernel, by decide +kernel⟩, List.mem_of_getElem? (i := 480) (by decide +kernel), List.mem_of_getElem? (i := 604) (by decide +kernel), List.mem_of_getElem? (i := 605) (by decide +kernel)⟩
theorem lw_p36 : lw_okq (⟨"RoundCompilerModel", "here", "()I"⟩, 33) := ⟨⟨by decide +kernel, by decide +kernel⟩, List.mem_of_getElem? (i := 480) (by decide +kernel), List.mem_of_getElem? (i := 608) (by decide +kernel), List.mem_of_getElem? (i := 609) (by decide +kernel)⟩
theorem lw_p37 : lw_okq (⟨"RoundCompilerModel", "step", "(II)V"⟩, 33) := ⟨⟨by decide +kernel, by decide +kernel⟩, List.mem_of_getElem? (i := 480) (by decide +kernel), List.mem_of_getElem? (i := 612) (by decide +kernel), List.mem_of_getElem? (i := 613) (by decide +kernel)⟩
theorem lw_p38 : lw_okq (⟨"RoundCompilerModel", "isLoop", "(I)Z"⟩, 33) := ⟨⟨by decide +kernel, by decide +kernel⟩, List.mem_of_getElem? (i := 480) (by decide +kernel), List.mem_of_getElem? (i := 619) (by decide +kernel), List.mem_of_getElem? (i := 620) (by decide +kernel)⟩
theorem lw_p39 : lw_okq (⟨"RoundCompilerModel", "wrong", "(I)V"⟩, 33) := ⟨⟨by decide +kernel, by decide +kernel⟩, List.mem_of_getElem? (i := 480) (by decide +kernel), List.mem_of_getElem? (i := 623) (by decide +kernel), List.mem_of_getElem? (i := 624) (by decide +kernel)⟩
theorem lw_p40 : lw_okq (⟨"RoundCompilerModel", "want", "(I)V"⟩, 33) := ⟨⟨by decide +kernel, by decide +kernel⟩, List.mem_of_getElem? (i := 480) (by decide +kernel), List.mem_of_getElem? (i := 627) (by decide +kernel), List.mem_of_getElem? (i := 628) (by decide +kernel)⟩
theorem lw_p41 : lw_okq (⟨"RoundCompilerModel", "push", "(I)V"⟩, 33) := ⟨⟨by decide +kernel, by decide +kernel⟩, List.mem_of_getElem? (i := 480) (by decide +kernel), List.mem_of_getElem? (i := 631) (by decide +kernel), List.mem_of_getElem? (i := 632) (by decide +kernel)⟩
theorem lw_p42 : lw_okq (⟨"RoundCompilerModel", "readNumber", "(JJ)V"⟩, 33) := ⟨⟨by decide +kernel, by decide +kernel⟩, List.mem_of_getElem? (i := 480) (by decide +kernel), List.mem_of_getElem? (i := 636) (by decide +kernel), List.mem_of_getElem? (i := 637) (by decide +kernel)⟩
theorem lw_p43 : lw_okq (⟨"RoundCompilerModel", "block", "(III)V"⟩, 33) := ⟨⟨by decide +kernel, by decide +kernel⟩, List.mem_of_getElem? (i := 480) (by decide +kernel), List.mem_of_getElem? (i := 645) (by decide +kernel), List.mem_of_getElem? (i := 646) (by decide +kernel)⟩
theorem lw_p44 : lw_okq (⟨"RoundCompilerModel", "factor", "()I"⟩, 33) := ⟨⟨by decide +kernel, by decide +kernel⟩, List.mem_of_getElem? (i := 480) (by decide +kernel), List.mem_of_getElem? (i := 649) (by decide +kernel), List.mem_of_getElem? (i := 650) (by decide +kernel)⟩
theorem lw_p45 : lw_okq (⟨"RoundCompilerModel", "settle", "(Z)V"⟩, 33) := ⟨⟨by decide +kernel, by decide +kernel⟩, List.mem_of_getElem? (i := 480) (by decide +kernel), List.mem_of_getElem? (i := 653) (by decide +kernel), List.mem_of_getElem? (i := 654) (by decide +kernel)⟩
theorem lw_p46 : lw_okq (⟨"RoundCompilerModel", "whole", "()V"⟩, 33) := ⟨⟨by decide +kernel, by decide +kernel⟩, List.mem_of_getElem? (i := 480) (by decide +kernel), List.mem_of_getElem? (i := 658) (by decide +kernel), List.mem_of_getElem? (i := 659) (by decide +kernel)⟩
theorem lw_p47 : lw_okq (⟨"RoundCompilerModel", "behind", "()I"⟩, 33) := ⟨⟨by decide +kernel, by decide +kernel⟩, List.mem_of_getElem? (i := 480) (by decide +kernel), List.mem_of_getElem? (i := 662) (by decide +kernel), List.mem_of_getElem? (i := 663) (by decide +kernel)⟩
def lw_privs_3 : List (MethodName × Nat) := [(⟨"RoundCompiler$Machine", "name", "(II)V"⟩, 8), (⟨"RoundCompiler$Machine", "store", "(II)V"⟩, 8), (⟨"RoundCompiler$Machine", "turnsAgain", "(LRoundCompiler$Code;I)Z"⟩, 8), (⟨"RoundCompilerModel", "statement", "()I"⟩, 33), (⟨"RoundCompilerModel", "here", "()I"⟩, 33), (⟨"RoundCompilerModel", "step", "(II)V"⟩, 33), (⟨"RoundCompilerModel", "isLoop", "(I)Z"⟩, 33), (⟨"RoundCompilerModel", "wrong", "(I)V"⟩, 33), (⟨"RoundCompilerModel", "want", "(I)V"⟩, 33), (⟨"RoundCompilerModel", "push", "(I)V"⟩, 33), (⟨"RoundCompilerModel", "readNumber", "(JJ)V"⟩, 33), (⟨"RoundCompilerModel", "block", "(III)V"⟩, 33), (⟨"RoundCompilerModel", "factor", "()I"⟩, 33), (⟨"RoundCompilerModel", "settle", "(Z)V"⟩, 33), (⟨"RoundCompilerModel", "whole", "()V"⟩, 33), (⟨"RoundCompilerModel", "behind", "()I"⟩, 33)]
theorem lw_r3 : ∀ q ∈ lw_privs_3, lw_okq q := List.forall_mem_cons.mpr ⟨lw_p32, List.forall_mem_cons.mpr ⟨lw_p33, List.forall_mem_cons.mpr ⟨lw_p34, List.forall_mem_cons.mpr ⟨lw_p35, List.forall_mem_cons.mpr ⟨lw_p36, List.forall_mem_cons.mpr ⟨lw_p37, List.forall_mem_cons.mpr ⟨lw_p38, List.forall_mem_cons.mpr ⟨lw_p39, List.forall_mem_cons.mpr ⟨lw_p40, List.forall_mem_cons.mpr ⟨lw_p41, List.forall_mem_cons.mpr ⟨lw_p42, List.forall_mem_cons.mpr ⟨lw_p43, List.forall_mem_cons.mpr ⟨lw_p44, List.forall_mem_cons.mpr ⟨lw_p45, List.forall_mem_cons.mpr ⟨lw_p46, List.forall_mem_cons.mpr ⟨lw_p47, fun _ h => absurd h List.not_mem_nil⟩⟩⟩⟩⟩⟩⟩⟩⟩⟩⟩⟩⟩⟩⟩⟩
theorem lw_p48 : lw_okq (⟨"RoundCompilerModel", "end", "(II)V"⟩, 33) := ⟨⟨by decide +kernel, by decide +kernel⟩, List.mem_of_getElem? (i := 480) (by decide +kernel), List.mem_of_getElem? (i := 682) (by decide +kernel), List.mem_of_getElem? (i := 683) (by decide +kernel)⟩
theorem lw_p49 : lw_okq (⟨"RoundCompilerModel", "reckon", "(II)V"⟩, 33) := ⟨⟨by decide +kernel, by decide +kernel⟩, List.mem_of_getElem? (i := 480) (by decide +kernel), List.mem_of_getElem? (i := 689) (by decide +kernel), List.mem_of_getElem? (i := 690) (by decide +kernel)⟩
def lw_privs_4 : List (MethodName × Nat) := [(⟨"RoundCompilerModel", "end", "(II)V"⟩, 33), (⟨"RoundCompilerModel", "reckon", "(II)V"⟩, 33)]
theorem lw_r4 : ∀ q ∈ lw_privs_4, lw_okq q := List.forall_mem_cons.mpr ⟨lw_p48, List.forall_mem_cons.mpr ⟨lw_p49, fun _ h => absurd h List.not_mem_nil⟩⟩
def lw_privs : List (MethodName × Nat) := lw_privs_1 ++ (lw_privs_2 ++ (lw_privs_3 ++ (lw_privs_4)))
def lw_tbl : List Cond := k2_sels lw_privs ++ tables_1
theorem lw_privs_ok : ∀ q ∈ lw_privs, lw_okq q := by
  show ∀ q ∈ lw_privs_1 ++ (lw_privs_2 ++ (lw_privs_3 ++ (lw_privs_4))), lw_okq q
  exact List.forall_mem_append.mpr ⟨lw_r1, List.forall_mem_append.mpr ⟨lw_r2, List.forall_mem_append.mpr ⟨lw_r3, lw_r4⟩⟩⟩
end
section
/-! ===== BEGIN words of one list among another's, by their places ===== -/
theorem goodIn_r {big : List Cond} (ws : List Cond) (ps : List Nat) (hp : ws = ps.filterMap (fun i => big[i]?)) (h : ws.all goodWord = true) : GoodIn big ws := by
  intro w hw
  have h1 := List.all_eq_true.mp h w hw
  rw [hp] at hw
  obtain ⟨i, -, hi⟩ := List.mem_filterMap.mp hw
  have hm : w ∈ big := by first | exact List.mem_of_getElem? hi | exact List.getElem?_mem hi
  exact ⟨hm, good_of_word h1⟩
theorem goodIn_app {big a b : List Cond} (ha : GoodIn big a) (hb : GoodIn big b) : GoodIn big (a ++ b) := fun w h => (List.mem_append.mp h).elim (ha w) (hb w)
theorem goodIn_ca {big a b : List Cond} {c : Cond} (ha : GoodIn big (c :: a)) (hb : GoodIn big b) : GoodIn big (c :: (a ++ b)) := fun w h => (List.mem_cons.mp h).elim (fun e => ha w (List.mem_cons.mpr (Or.inl e))) (fun h => (List.mem_append.mp h).elim (fun h => ha w (List.mem_cons.mpr (Or.inr h))) (hb w))
theorem goodIn_sub {big ws : List Cond} (hm : ∀ w ∈ ws, w ∈ big) (h : ws.all goodWord = true) : GoodIn big ws := fun w hw => ⟨hm w hw, good_of_word (List.all_eq_true.mp h w hw)⟩
/-! ===== END ===== -/

/-! ===== BEGIN exceptions that leave a method, and their catching by the caller (launches without stack traces) ===== -/
section VXA
/-! The laws vx_back, vx_callV, vx_callS, vx_callSW, vx_throw0, vx_throwS follow proofs of the library, with one case more: JvmDerived/Free/Laws.lean (Back.of_free), Shelf42/LK1.lean (callV, callS), Shelf/KitTraced.lean (throwNew0V, throwNewS). -/
/-- where a method has thrown q: the class by its name, the cell, what was written, the world -/
def vx_T (XC : String → State → State → Prop) (st : State) (q : Addr) (t : State) (mc ms : Nat) (free : Addr → Prop) : Prop :=
  ∃ (E : String) (ce : Cell) (L : List Loc), XC E st t ∧ t.heap[q]? = some ce ∧ ce.vm = .none ∧ st.vm.findClass E = some ce.cls ∧ st.WarmedH t.vm ∧ st.sameButNew ({ t with vm := st.vm } : State) L mc ms ∧ ∀ z ∈ L, free z.base
def vx_Q (Qc : Array Value → State → Outcome → State → Prop) (XC : String → State → State → Prop) (mc ms : Nat) (free : Addr → Prop) : Array Value → State → Outcome → State → Prop := fun a st o t =>
  (Qc a st o t ∧ ∃ L, FrameEnd st o t L mc ms ∧ ∀ q ∈ L, free q.base) ∨ ∃ q, o = .threw q ∧ vx_T XC st q t mc ms free
/-- a callee that returns or throws -/
def vx_Met (l : Launch) (y : MethodName) (ws : List Cond) (rm : Room) (Pc : Array Value → State → Prop) (Qc : Array Value → State → Outcome → State → Prop) (XC : String → State → State → Prop) (mc ms : Nat) (free : Addr → Prop) : Prop :=
  MetFree l y (headSpec ws rm) Pc (fun _ _ _ _ _ => True) (vx_Q Qc XC mc ms free)
def vx_Post (XC : String → State → State → Prop) (mc ms : Nat) (free : Addr → Prop) : Pt → Array Value → Addr → Pt → Prop := fun A a q B =>
  ∃ (g : JFrame) (mk : MethodId) (t : State) (L : List Loc) (E : String) (ce : Cell), B.U.heap = t.heap ∧ B.U.vm = t.vm ∧ XC E (A.U.calling g mk a) t ∧ t.heap[q]? = some ce ∧ ce.vm = .none ∧ A.U.vm.findClass E = some ce.cls ∧ B.locs = A.locs ++ L ∧ (∀ z ∈ L, free z.base) ∧ B.cells = A.cells + mc ∧ B.slots = A.slots + ms
def vx_Back (l : Launch) (R : Room) (p : Program) (e : Env) (below : List Frame) (s : State) (sargs : Array Value) (y : MethodName) (len W9 : Nat)
    (Pre : Pt → Array Value → Prop) (Post : Pt → Array Value → Option Value → Pt → Prop) (PostX : Pt → Array Value → Addr → Pt → Prop) : Prop :=
  ∀ (m : MethodId) (meth : Method) (c : Code) (A : Pt) (g : JFrame) (ig : Instr) (mk : MethodId) (a : Array Value),
    Stand p l e R s m sargs below meth c A.U A.locs A.cells A.slots → g.method = m → g.locals.size = c.maxLocals → decode c.code g.pc = .ok (ig, len) →
    2 * g.monitorRoom + (g.stack.map fun v => v.category).sum ≤ W9 → A.U.methodNamed? y = some mk → Pre A a →
    (∃ (v : Option Value) (B : Pt), Stand p l e R s m sargs below meth c B.U B.locs B.cells B.slots ∧ Post A a v B ∧
      Steps p.tables e below (doInvoke e (A.U.setTop g) [] mk a).1 (B.U.setTop { g with pc := g.pc + len, stack := v.toList ++ g.stack })) ∨
    (∃ (q : Addr) (B : Pt), Stand p l e R s m sargs below meth c B.U B.locs B.cells B.slots ∧ PostX A a q B ∧
      Steps p.tables e below (doInvoke e (A.U.setTop g) [] mk a).1 ((B.U.setTop g).pushFrame (.throwing q)))
section Payer
variable {l : Launch} {R : Room} {p : Program} {e : Env} {below : List Frame} {s : State} {sargs : Array Value} {y : MethodName} {len W9 : Nat}
theorem vx_back {ws : List Cond} {rm : Room} {Pc : Array Value → State → Prop} {Qc : Array Value → State → Outcome → State → Prop} {XC : String → State → State → Prop} {mc ms : Nat} {free : Addr → Prop} {bytes : ByteArray} {maxL : Nat} {ret : Option FieldType}
    (hM : vx_Met l y ws rm Pc Qc XC mc ms free) (hblind : FrameBlind Pc) (hrc : rm.cells = mc) (hrs : rm.slots = ms)
    (hframes : rm.frames + 1 ≤ R.frames) (hlocals : W9 + (maxL + 11) + rm.locals ≤ R.locals)
    (hws : ∀ w ∈ ws, ∀ a' U, s.WarmedH U.vm → w.before a' U = true) (hcode : Cond.code y bytes maxL ret ∈ ws) (hinit : ∀ a' U, s.WarmedH U.vm → (Cond.initialized y.cls).before a' U = true) :
    vx_Back l R p e below s sargs y len W9 (PreOf R mc ms Pc) (PostOf Qc mc ms free) (vx_Post XC mc ms free) := by
  intro m meth c A g ig mk a X hg hsize hdg hW hn hp
  have h1 : (headSpec ws rm).pre.before a A.U = true := atoms_intro fun w hw => hws w hw _ _ X.warmed
  have h2 : (Cond.code y bytes maxL ret).before a A.U = true := hws _ hcode _ _ X.warmed
  have h3 : (Cond.initialized y.cls).before a A.U = true := hinit _ _ X.warmed
  have h4 : A.cells + (headSpec ws rm).room.cells ≤ R.cells := by rw [show (headSpec ws rm).room.cells = mc from hrc]; exact hp.1
  have h5 : A.slots + (headSpec ws rm).room.slots ≤ R.slots := by rw [show (headSpec ws rm).room.slots = ms from hrs]; exact hp.2.1
  have hPc : Pc a (A.U.calling g mk a) := hblind _ _ _ _ hp.2.2
  obtain ⟨U, Ls, c0, s0⟩ := A
  dsimp only [Pt.U, Pt.locs, Pt.cells, Pt.slots] at h1 h2 h3 h4 h5 X hn hPc ⊢
  obtain ⟨methY, cY, hmY, hcY, -, hlY, -, -, -, -⟩ := Cond.code_spec hn h2
  obtain ⟨kY, hkY, -⟩ := className_of_methodNamed hn
  have hinitY : kY.init = .initialized := Cond.initialized_spec (findClass_of_methodNamed hn) hkY h3
  have h : At U g.method c below := by rw [hg]; exact X.here
  have hlocals9 : W9 + (maxL + 11) + (headSpec ws rm).room.locals ≤ R.locals := hlocals
  have happ : (headSpec ws rm).appliesLoose y e.platform (U.calling g mk a) = true :=
    Spec.appliesLoose_calling (g := g) h hdg hn hkY hinitY
      (X.room_calling (g := g) (R' := (headSpec ws rm).room) hsize hmY hcY hframes (by rw [hlY]; omega) h4 h5) h1
  obtain ⟨mid, hmid⟩ := h.above
  have hfr : (U.setTop g).frames = (.java g :: mid) ++ below := by rw [State.frames_setTop' g h.top, hmid]; rfl
  obtain ⟨o, s₂, hsteps, -, hend, hq⟩ := Steps.callFree hM p X.admits X.cas X.clock (acts := []) hfr happ hPc trivial
  have hq' : vx_Q Qc XC mc ms free a (U.calling g mk a) o s₂ := hq
  rw [State.frames_setTop' g h.top] at hend
  obtain ⟨g₀, hg0⟩ := Option.isSome_iff_exists.mp h.top
  obtain ⟨r, hr⟩ := State.topJava?_eq_some.mp hg0
  have hr' : (({ U with heap := s₂.heap, slotsUsed := s₂.slotsUsed } : State).setVm s₂.vm).frames = .java g₀ :: r := hr
  rcases hq' with ⟨hqc, L, hfe, hL⟩ | ⟨q, rfl, E, ce, L, hx, hce, hcv, hcl, hW₂, hsm, hL⟩
  · obtain ⟨⟨v, rfl⟩, hW₂, e2, q2, q3, q4, q5, q6⟩ := id hfe
    have e3 : s₂ = ({ (U.calling g mk a).setFrames s₂.frames with heap := s₂.heap, slotsUsed := s₂.slotsUsed } : State).setVm s₂.vm := by
      have : s₂ = ({ s₂ with vm := (U.calling g mk a).vm } : State).setVm s₂.vm := rfl
      rw [e2] at this
      exact this
    obtain ⟨c₂, i₂, len₂, hc₂, hd₂, hf₂⟩ := hend
    have hW' : U.WarmedH s₂.vm := hW₂
    have hcc : c₂ = c := by
      have h1 : s₂.code? g.method = U.code? g.method := by
        rw [State.code?_eq, State.code?_eq, hW'.alike.method?]
      exact Option.some.inj (hc₂.symm.trans (h1.trans h.code))
    subst hcc
    have hlen : len₂ = len := by rw [hdg] at hd₂; cases hd₂; rfl
    subst hlen
    have hs₂ : s₂ = (({ U with heap := s₂.heap, slotsUsed := s₂.slotsUsed } : State).setVm s₂.vm).setTop { g with pc := g.pc + len₂, stack := v.toList ++ g.stack } := by
      refine e3.trans ?_
      rw [hf₂, State.calling_eq h.top, State.setFrames_setFrames, State.setTop_of_frames _ hr', hr]
      rfl
    have hsame : U.sameButNew ({ U with heap := s₂.heap, slotsUsed := s₂.slotsUsed } : State) L mc ms := by
      refine ⟨?_, q2, q3, q4, q5, q6⟩
      obtain ⟨t, ht, -⟩ := State.frames_cons hr
      show ({ U with heap := s₂.heap, slotsUsed := s₂.slotsUsed } : State) = { U.setFrames U.frames with heap := s₂.heap, slotsUsed := s₂.slotsUsed }
      rw [State.setFrames_self ht]
    subst hg
    refine Or.inl ⟨v, ⟨(({ U with heap := s₂.heap, slotsUsed := s₂.slotsUsed } : State).setVm s₂.vm), Ls ++ L, c0 + mc, s0 + ms⟩,
      ⟨X.admits, X.cas, X.clock, X.frames, X.room, X.hears, X.method, X.code, (X.here.setHeapUsed s₂.heap s₂.slotsUsed).setVm hW'.alike, X.tail, State.WarmedH.trans X.warmed hW', X.limits, X.bytes, X.same.trans (hsame.setVm s.vm)⟩,
      ⟨g, mk, s₂, L, rfl, rfl, hqc, rfl, hL, rfl, rfl⟩, ?_⟩
    show Steps p.tables e below _ ((({ U with heap := s₂.heap, slotsUsed := s₂.slotsUsed } : State).setVm s₂.vm).setTop { g with pc := g.pc + len₂, stack := v.toList ++ g.stack })
    rw [← hs₂]
    exact hsteps
  · obtain ⟨e2, q2, q3, q4, q5, q6⟩ := id hsm
    have e3 : s₂ = ({ (U.calling g mk a).setFrames s₂.frames with heap := s₂.heap, slotsUsed := s₂.slotsUsed } : State).setVm s₂.vm := by
      have : s₂ = ({ s₂ with vm := (U.calling g mk a).vm } : State).setVm s₂.vm := rfl
      rw [e2] at this
      exact this
    have hf₂ : s₂.frames = .throwing q :: .java g :: U.frames.tail := hend
    have hW' : U.WarmedH s₂.vm := hW₂
    have hs₂ : s₂ = ((({ U with heap := s₂.heap, slotsUsed := s₂.slotsUsed } : State).setVm s₂.vm).setTop g).pushFrame (.throwing q) := by
      refine e3.trans ?_
      rw [hf₂, State.calling_eq h.top, State.setFrames_setFrames, State.pushFrame, State.frames_setTop _ hr', State.setTop_of_frames _ hr', State.setFrames_setFrames, hr]
      rfl
    have hsame : U.sameButNew ({ U with heap := s₂.heap, slotsUsed := s₂.slotsUsed } : State) L mc ms := by
      refine ⟨?_, q2, q3, q4, q5, q6⟩
      obtain ⟨t, ht, -⟩ := State.frames_cons hr
      show ({ U with heap := s₂.heap, slotsUsed := s₂.slotsUsed } : State) = { U.setFrames U.frames with heap := s₂.heap, slotsUsed := s₂.slotsUsed }
      rw [State.setFrames_self ht]
    subst hg
    refine Or.inr ⟨q, ⟨(({ U with heap := s₂.heap, slotsUsed := s₂.slotsUsed } : State).setVm s₂.vm), Ls ++ L, c0 + mc, s0 + ms⟩,
      ⟨X.admits, X.cas, X.clock, X.frames, X.room, X.hears, X.method, X.code, (X.here.setHeapUsed s₂.heap s₂.slotsUsed).setVm hW'.alike, X.tail, State.WarmedH.trans X.warmed hW', X.limits, X.bytes, X.same.trans (hsame.setVm s.vm)⟩,
      ⟨g, mk, s₂, L, E, ce, rfl, rfl, hx, hce, hcv, hcl, rfl, hL, rfl, rfl⟩, ?_⟩
    show Steps p.tables e below _ (((({ U with heap := s₂.heap, slotsUsed := s₂.slotsUsed } : State).setVm s₂.vm).setTop g).pushFrame (.throwing q))
    rw [← hs₂]
    exact hsteps
end Payer
section Calls
variable {p : Program} {l : Launch} {e : Env} {R : Room} {s : State} {m : MethodId} {args : Array Value} {below : List Frame} {meth : Method} {c : Code} {T : State} {locs : List Loc} {cells slots : Nat}
theorem vx_callV (X : Stand p l e R s m args below meth c T locs cells slots) (hexec : p.tables.exec = Jvm.exec) {own C : String} {index : Nat} {y : MethodName} {bytes : ByteArray} {maxL : Nat} {ret : Option FieldType}
    (hown : s.vm.findClass own = some m.cls) (hlink : (Cond.methodLink own index y).before args s = true) (hinst : (Cond.instanceMethod y).before args s = true) (hsel : (Cond.selects C y y).before args s = true)
    (hcode : (Cond.code y bytes maxL ret).before args s = true) (hy : y.cls ≠ "java/lang/invoke/MethodHandle" ∧ y.cls ≠ "java/lang/invoke/VarHandle")
    {W9 : Nat} {Pre : Pt → Array Value → Prop} {Post : Pt → Array Value → Option Value → Pt → Prop} {PostX : Pt → Array Value → Addr → Pt → Prop} (hK : vx_Back l R p e below s args y 3 W9 Pre Post PostX)
    {b : Addr} {cellB : Cell} (hcell : T.heap[b]? = some cellB) (hobj : cellB.vm.isStatics = false) (hcls : s.vm.findClass C = some cellB.cls)
    {g : JFrame} (hg : g.method = m) (hsize : g.locals.size = c.maxLocals) {argsL rest : List Value} (hlen : ∀ sig, parseMethodDescriptor y.desc = some sig → argsL.length = sig.parameters.length)
    (hstack : g.stack = argsL.reverse ++ .ref b :: rest) (hW : 2 * g.monitorRoom + (rest.map fun v => v.category).sum ≤ W9) (hdg : decode c.code g.pc = .ok (.invokevirtual index, 3))
    (hpre : ∀ vm₁, s.WarmedH vm₁ → Pre ⟨T.setVm vm₁, locs, cells, slots⟩ (Value.ref b :: argsL).toArray) :
    (∃ (v : Option Value) (vm₁ : Vm) (B : Pt), s.WarmedH vm₁ ∧ Stand p l e R s m args below meth c B.U B.locs B.cells B.slots ∧ Post ⟨T.setVm vm₁, locs, cells, slots⟩ (Value.ref b :: argsL).toArray v B ∧
      ∀ target, Steps p.tables e below (B.U.setTop { g with pc := g.pc + 3, stack := v.toList ++ rest }) target → Steps p.tables e below (T.setTop g) target) ∨
    (∃ (q : Addr) (vm₁ : Vm) (B : Pt), s.WarmedH vm₁ ∧ Stand p l e R s m args below meth c B.U B.locs B.cells B.slots ∧ PostX ⟨T.setVm vm₁, locs, cells, slots⟩ (Value.ref b :: argsL).toArray q B ∧
      Steps p.tables e below (T.setTop g) ((B.U.setTop { g with stack := rest }).pushFrame (.throwing q))) := by
  obtain ⟨mk, methM, hnamed, hmethM, hstM, habM⟩ := Cond.instanceMethod_spec hinst
  obtain ⟨methM', cM, hmethM', -, -, -, -, -, -, hsigM⟩ := Cond.code_spec hnamed hcode
  cases hmethM.symm.trans hmethM'
  obtain ⟨c2, r2, m2, q1, q2, q3, q4, kP, hkP, hkPi⟩ := Cond.selects_spec hsel
  cases hcls.symm.trans q1
  cases (State.methodFound?_of_named hnamed hy).symm.trans q2
  cases hnamed.symm.trans q3
  have hselP : selectMethod e.platform s.vm cellB.cls mk = .method mk := by rw [Launch.admits_selectMethod X.admits]; exact q4
  obtain ⟨vm₁, X₁, hstep₁⟩ := X.invokevirtual hexec hown hlink hnamed hmethM hstM hkP hkPi hy (a := b) (cell := cellB) hcell
    (fun z h => by rw [h] at hobj; cases hobj) hselP hmethM habM hkP hkPi (g := g) hg (argsL := argsL) (rest := rest) (hlen _ hsigM) hstack hdg
  rcases hK m meth c ⟨T.setVm vm₁, locs, cells, slots⟩ { g with stack := rest } (.invokevirtual index) mk (Value.ref b :: argsL).toArray X₁ hg hsize hdg hW (X₁.named hnamed) (hpre vm₁ X₁.warmed) with ⟨v, B, X', hpost, hsteps⟩ | ⟨q, B, X', hpost, hsteps⟩
  · exact Or.inl ⟨v, vm₁, B, X₁.warmed, X', hpost, fun target h => hstep₁ _ fun acts => by rw [doInvoke_state]; exact hsteps.trans h⟩
  · exact Or.inr ⟨q, vm₁, B, X₁.warmed, X', hpost, hstep₁ _ fun acts => by rw [doInvoke_state]; exact hsteps⟩
theorem vx_callS (X : Stand p l e R s m args below meth c T locs cells slots) (hexec : p.tables.exec = Jvm.exec) {own : String} {index : Nat} {y : MethodName} {bytes : ByteArray} {maxL : Nat} {ret : Option FieldType}
    (hown : s.vm.findClass own = some m.cls) (hlink : (Cond.methodLink own index y).before args s = true) (hstat : (Cond.static y).before args s = true) (hinit : (Cond.initialized y.cls).before args s = true)
    (hcode : (Cond.code y bytes maxL ret).before args s = true) (hy : y.cls ≠ "java/lang/invoke/MethodHandle" ∧ y.cls ≠ "java/lang/invoke/VarHandle")
    {W9 : Nat} {Pre : Pt → Array Value → Prop} {Post : Pt → Array Value → Option Value → Pt → Prop} {PostX : Pt → Array Value → Addr → Pt → Prop} (hK : vx_Back l R p e below s args y 3 W9 Pre Post PostX)
    {g : JFrame} (hg : g.method = m) (hsize : g.locals.size = c.maxLocals) {argsL rest : List Value} (hlen : ∀ sig, parseMethodDescriptor y.desc = some sig → argsL.length = sig.parameters.length)
    (hstack : g.stack = argsL.reverse ++ rest) (hW : 2 * g.monitorRoom + (rest.map fun v => v.category).sum ≤ W9) (hdg : decode c.code g.pc = .ok (.invokestatic index, 3))
    (hpre : ∀ vm₁, s.WarmedH vm₁ → Pre ⟨T.setVm vm₁, locs, cells, slots⟩ argsL.toArray) :
    (∃ (v : Option Value) (vm₁ : Vm) (B : Pt), s.WarmedH vm₁ ∧ Stand p l e R s m args below meth c B.U B.locs B.cells B.slots ∧ Post ⟨T.setVm vm₁, locs, cells, slots⟩ argsL.toArray v B ∧
      ∀ target, Steps p.tables e below (B.U.setTop { g with pc := g.pc + 3, stack := v.toList ++ rest }) target → Steps p.tables e below (T.setTop g) target) ∨
    (∃ (q : Addr) (vm₁ : Vm) (B : Pt), s.WarmedH vm₁ ∧ Stand p l e R s m args below meth c B.U B.locs B.cells B.slots ∧ PostX ⟨T.setVm vm₁, locs, cells, slots⟩ argsL.toArray q B ∧
      Steps p.tables e below (T.setTop g) ((B.U.setTop { g with stack := rest }).pushFrame (.throwing q))) := by
  obtain ⟨mk, hnamed⟩ := Cond.code_named hcode
  obtain ⟨methM, cM, hmethM, -, -, -, -, -, -, hsigM⟩ := Cond.code_spec hnamed hcode
  have hstatic : methM.isStatic = true := Cond.static_spec hnamed hmethM hstat
  obtain ⟨kP, hkP, -⟩ := className_of_methodNamed hnamed
  have hinitP : kP.init = .initialized := Cond.initialized_spec (findClass_of_methodNamed hnamed) hkP hinit
  obtain ⟨vm₁, X₁, hstep₁⟩ := X.invokestatic hexec hown hlink hnamed hmethM hstatic hkP hinitP hy (g := g) hg (argsL := argsL) (rest := rest) (hlen _ hsigM) hstack hdg
  rcases hK m meth c ⟨T.setVm vm₁, locs, cells, slots⟩ { g with stack := rest } (.invokestatic index) mk argsL.toArray X₁ hg hsize hdg hW (X₁.named hnamed) (hpre vm₁ X₁.warmed) with ⟨v, B, X', hpost, hsteps⟩ | ⟨q, B, X', hpost, hsteps⟩
  · exact Or.inl ⟨v, vm₁, B, X₁.warmed, X', hpost, fun target h => hstep₁ _ fun acts => by rw [doInvoke_state]; exact hsteps.trans h⟩
  · exact Or.inr ⟨q, vm₁, B, X₁.warmed, X', hpost, hstep₁ _ fun acts => by rw [doInvoke_state]; exact hsteps⟩
end Calls
theorem vx_cls {s : State} {T : State} {vm₁ : Vm} {E : String} {k : ClassId} (hW : s.WarmedH vm₁) (h : (T.setVm vm₁).vm.findClass E = some k) : s.vm.findClass E = some k := by
  have h1 : vm₁.findClass E = some k := h
  rw [hW.alike.findClass] at h1
  exact h1
/-- the method's frame g, with q thrown over it -/
def vx_W (p : Program) (l : Launch) (e : Env) (R : Room) (s : State) (m : MethodId) (args : Array Value) (below : List Frame) (meth : Method) (c : Code) (H : Heap) (locs : List Loc) (cells slots : Nat) (Q : State → Prop) (g : JFrame) (q : Addr) : Prop :=
  ∀ T : State, T.heap = H → Stand p l e R s m args below meth c T locs cells slots → ∃ t, Steps p.tables e below ((T.setTop g).pushFrame (.throwing q)) t ∧ Q t
def vx_Run (p : Program) (l : Launch) (e : Env) (R : Room) (s : State) (m : MethodId) (args : Array Value) (below : List Frame) (meth : Method) (c : Code) (H : Heap) (locs : List Loc) (cells slots mc ms : Nat) (g : JFrame) (rest : List Value) (Qa : State → Outcome → State → Prop) (XC : String → State → State → Prop) (free : Addr → Prop) : Prop :=
  ∀ T : State, T.heap = H → Stand p l e R s m args below meth c T locs cells slots →
    (∃ (v : Option Value) (st₀ t T' : State) (L : List Loc), st₀.heap = H ∧ Stand p l e R s m args below meth c T' (locs ++ L) (cells + mc) (slots + ms) ∧ (∀ q ∈ L, free q.base) ∧ T'.heap = t.heap ∧ T'.vm = t.vm ∧ Qa st₀ (.returned v) t ∧
      Goes p e below T g T' { g with pc := g.pc + 3, stack := v.toList ++ rest }) ∨
    (∃ (q : Addr) (st₀ t T' : State) (L : List Loc) (E : String) (ce : Cell), st₀.heap = H ∧ Stand p l e R s m args below meth c T' (locs ++ L) (cells + mc) (slots + ms) ∧ (∀ z ∈ L, free z.base) ∧ T'.heap = t.heap ∧ T'.vm = t.vm ∧ XC E st₀ t ∧ t.heap[q]? = some ce ∧ ce.vm = .none ∧ s.vm.findClass E = some ce.cls ∧
      Steps p.tables e below (T.setTop g) ((T'.setTop { g with stack := rest }).pushFrame (.throwing q)))
def vx_X {S : Type} (px : S → Prop) (B : String → S → State → Prop) (A : Nat → Prop) : String → State → State → Prop := fun E st t => ∃ u : S, px u ∧ B E u t ∧ va_F A st t
section Runs
variable {p : Program} {l : Launch} {e : Env} {R : Room} {s : State} {m : MethodId} {args : Array Value} {below : List Frame} {meth : Method} {c : Code} {H : Heap} {locs : List Loc} {cells slots : Nat}
variable {y : MethodName} {bytes cc : ByteArray} {maxL nL mc ms n index : Nat} {ret : Option FieldType} {ws : List Cond} {rm : Room} {Pc : Array Value → State → Prop} {Qc : Array Value → State → Outcome → State → Prop} {XC : String → State → State → Prop} {free : Addr → Prop} {Ts : List Cond} {own C : String} {b : Addr} {As rest : List Value} {g : JFrame}
theorem vx_callBack (cb : CallB R s args own index y bytes maxL ret ws rm mc ms n) (hM : vx_Met l y ws rm Pc Qc XC mc ms free) (hbl : FrameBlind Pc) : vx_Back l R p e below s args y 3 8 (PreOf R mc ms Pc) (PostOf Qc mc ms free) (vx_Post XC mc ms free) := by
  obtain ⟨hrc, hrs, hfr, hlo, hws, hcw, -, hini, -⟩ := cb
  exact vx_back (bytes := bytes) (maxL := maxL) (ret := ret) hM hbl hrc hrs hfr hlo hws hcw (fun a' U hW => word_at hW (Or.inl (by first | rfl | simp [Cond.onTables, Cond.keeps, Cond.steady])) hini)
theorem vx_runV (S : CallFix p m c cc nL s args Ts own) (hM : vx_Met l y ws rm Pc Qc XC mc ms free) (cw : CallW R s args own C index y bytes maxL ret ws rm mc ms n) (hp : PreV s H C b Pc As)
    (hg : g.method = m) (hn : As.length = n) (hsize : g.locals.size = nL) (hstack : g.stack = As.reverse ++ .ref b :: rest) (hW : 2 * g.monitorRoom + (rest.map fun v => v.category).sum ≤ 8) (hdg : decode cc g.pc = .ok (.invokevirtual index, 3)) (hf : cells + mc ≤ R.cells ∧ slots + ms ≤ R.slots) :
    vx_Run p l e R s m args below meth c H locs cells slots mc ms g rest (Qc (Value.ref b :: As).toArray) XC free := by
  have hK : vx_Back l R p e below s args y 3 8 (PreOf R mc ms Pc) (PostOf Qc mc ms free) (vx_Post XC mc ms free) := vx_callBack cw.1 hM hp.1
  obtain ⟨⟨-, -, -, -, -, -, hcode, -, hy, hlen, hl⟩, hin, hse⟩ := cw
  obtain ⟨hx, hb, hml, ho, -⟩ := S
  obtain ⟨-, ⟨cellB, hcB, hoB, hclB⟩, hPc⟩ := hp
  intro T hT X
  rcases vx_callV X hx (C := C) (bytes := bytes) (maxL := maxL) (ret := ret) ho hl hin hse hcode hy hK (by rw [hT]; exact hcB) hoB hclB hg (hsize.trans hml.symm) (argsL := As) (rest := rest) (fun sig h => hn.trans (hlen sig h)) hstack hW (by rw [hb]; exact hdg)
    (fun vm₁ hW₁ => ⟨hf.1, hf.2, hPc (T.setVm vm₁) hT hW₁⟩) with ⟨v, vm₁, ⟨U', l2, c2, s2⟩, hW₁, X', ⟨g', mk, t, L, e1, e2, hq, h1, hL, h2, h3⟩, st⟩ | ⟨q, vm₁, ⟨U', l2, c2, s2⟩, hW₁, X', ⟨g', mk, t, L, E, ce, e1, e2, hq, hce, hcv, hcl, h1, hL, h2, h3⟩, st⟩
  · dsimp only [Pt.U, Pt.locs, Pt.cells, Pt.slots] at X' e1 e2 h1 h2 h3 st
    subst h1; subst h2; subst h3
    exact Or.inl ⟨v, (T.setVm vm₁).calling g' mk (Value.ref b :: As).toArray, t, U', L, hT, X', hL, e1, e2, hq, st⟩
  · dsimp only [Pt.U, Pt.locs, Pt.cells, Pt.slots] at X' e1 e2 h1 h2 h3 st hcl
    subst h1; subst h2; subst h3
    exact Or.inr ⟨q, (T.setVm vm₁).calling g' mk (Value.ref b :: As).toArray, t, U', L, E, ce, hT, X', hL, e1, e2, hq, hce, hcv, vx_cls hW₁ hcl, st⟩
theorem vx_runS (S : CallFix p m c cc nL s args Ts own) (hM : vx_Met l y ws rm Pc Qc XC mc ms free) (cw : CallB R s args own index y bytes maxL ret ws rm mc ms n ∧ (Cond.static y).before args s = true) (hp : PreS s H Pc As)
    (hg : g.method = m) (hn : As.length = n) (hsize : g.locals.size = nL) (hstack : g.stack = As.reverse ++ rest) (hW : 2 * g.monitorRoom + (rest.map fun v => v.category).sum ≤ 8) (hdg : decode cc g.pc = .ok (.invokestatic index, 3)) (hf : cells + mc ≤ R.cells ∧ slots + ms ≤ R.slots) :
    vx_Run p l e R s m args below meth c H locs cells slots mc ms g rest (Qc As.toArray) XC free := by
  have hK : vx_Back l R p e below s args y 3 8 (PreOf R mc ms Pc) (PostOf Qc mc ms free) (vx_Post XC mc ms free) := vx_callBack cw.1 hM hp.1
  obtain ⟨⟨-, -, -, -, -, -, hcode, hini, hy, hlen, hl⟩, hstt⟩ := cw
  obtain ⟨hx, hb, hml, ho, -⟩ := S
  intro T hT X
  rcases vx_callS X hx (bytes := bytes) (maxL := maxL) (ret := ret) ho hl hstt hini hcode hy hK hg (hsize.trans hml.symm) (argsL := As) (rest := rest) (fun sig h => hn.trans (hlen sig h)) hstack hW (by rw [hb]; exact hdg)
    (fun vm₁ hW₁ => ⟨hf.1, hf.2, hp.2 (T.setVm vm₁) hT hW₁⟩) with ⟨v, vm₁, ⟨U', l2, c2, s2⟩, hW₁, X', ⟨g', mk, t, L, e1, e2, hq, h1, hL, h2, h3⟩, st⟩ | ⟨q, vm₁, ⟨U', l2, c2, s2⟩, hW₁, X', ⟨g', mk, t, L, E, ce, e1, e2, hq, hce, hcv, hcl, h1, hL, h2, h3⟩, st⟩
  · dsimp only [Pt.U, Pt.locs, Pt.cells, Pt.slots] at X' e1 e2 h1 h2 h3 st
    subst h1; subst h2; subst h3
    exact Or.inl ⟨v, (T.setVm vm₁).calling g' mk As.toArray, t, U', L, hT, X', hL, e1, e2, hq, st⟩
  · dsimp only [Pt.U, Pt.locs, Pt.cells, Pt.slots] at X' e1 e2 h1 h2 h3 st hcl
    subst h1; subst h2; subst h3
    exact Or.inr ⟨q, (T.setVm vm₁).calling g' mk As.toArray, t, U', L, E, ce, hT, X', hL, e1, e2, hq, hce, hcv, vx_cls hW₁ hcl, st⟩
end Runs
section Rows
variable {p : Program} {l : Launch} {e : Env} {R : Room} {s : State} {m : MethodId} {args : Array Value} {below : List Frame} {meth : Method} {c : Code} {H : Heap} {locs : List Loc} {cells slots : Nat} {Q : State → Prop}
variable {mc ms : Nat} {free : Addr → Prop} {A0 A1 : Nat → Prop} {H0 : Heap} {a : Array Value} {pc : Nat} {ls : Array Slot} {st0 rest : List Value}
theorem vx_keep {st₀ t T' : State} {L : List Loc} (h0 : st₀.heap = H) (e1 : T'.heap = t.heap) (hS : va_S A0 H0 H locs) (hA : ∀ q, q < H.size → A1 q → A0 q) (hf : ∀ q, free q → A0 q) (hL : ∀ q ∈ L, free q.base) (hF : va_F A1 st₀ t) :
    H.size ≤ T'.heap.size ∧ (∀ q : Nat, q < H.size → ¬ A1 q → T'.heap[q]? = H[q]?) ∧ va_S A0 H0 T'.heap (locs ++ L) := by
  obtain ⟨hz, hk⟩ := hF
  rw [h0] at hz hk
  exact ⟨by rw [e1]; exact hz, fun q h1 h2 => by rw [e1]; exact hk q h1 h2,
    ⟨Nat.le_trans hS.1 (by rw [e1]; exact hz), fun q h1 h2 => by rw [e1, hk q (Nat.lt_of_lt_of_le h1 hS.1) (fun z => h2 (hA q (Nat.lt_of_lt_of_le h1 hS.1) z))]; exact hS.2.1 q h1 h2, fun q hq => by
      rcases List.mem_append.mp hq with h | h
      · exact hS.2.2 q h
      · exact hf _ (hL q h)⟩⟩
theorem vx_calli {S SX : Type} {post : Int32 → S → Prop} {px : SX → Prop} {B : S → State → Prop} {BX : String → SX → State → Prop} {AX : Nat → Prop} (hr : vx_Run p l e R s m args below meth c H locs cells slots mc ms (F0 m pc ls st0) rest (va_Qi post B A1 a) (vx_X px BX AX) free) (hS : va_S A0 H0 H locs) (hA : ∀ q, q < H.size → A1 q → A0 q) (hf : ∀ q, free q → A0 q) (hAX : ∀ q, q < H.size → AX q → A0 q)
    (kx : ∀ (E : String) (ce : Cell) (q9 : Addr) (u : SX) (t : State) (H1 : Heap) (locs1 : List Loc), t.heap = H1 → s.vm.Alike t.vm → px u → BX E u t → H.size ≤ H1.size → (∀ q : Nat, q < H.size → ¬ AX q → H1[q]? = H[q]?) → va_S A0 H0 H1 locs1 → H1[q9]? = some ce → ce.vm = .none → s.vm.findClass E = some ce.cls → vx_W p l e R s m args below meth c H1 locs1 (cells + mc) (slots + ms) Q (F0 m pc ls rest) q9)
    (kk : ∀ (r : Int32) (u : S) (t : State) (H1 : Heap) (locs1 : List Loc), t.heap = H1 → s.vm.Alike t.vm → post r u → B u t → H.size ≤ H1.size → (∀ q : Nat, q < H.size → ¬ A1 q → H1[q]? = H[q]?) → va_S A0 H0 H1 locs1 → W p l e R s m args below meth c H1 locs1 (cells + mc) (slots + ms) Q (F0 m (pc + 3) ls (.int r :: rest))) : W p l e R s m args below meth c H locs cells slots Q (F0 m pc ls st0) := by
  intro T hT X
  rcases hr T hT X with ⟨v, st₀, t, T', L, h0, X', hL, e1, e2, ⟨⟨r, u, hv, hp, hb⟩, hF⟩, st⟩ | ⟨q, st₀, t, T', L, E, ce, h0, X', hL, e1, e2, ⟨u, hp, hb, hF⟩, hce, hcv, hcl, st⟩
  · cases hv
    obtain ⟨k1, k2, k3⟩ := vx_keep h0 e1 hS hA hf hL hF
    obtain ⟨t2, a1, b1⟩ := kk r u t T'.heap (locs ++ L) e1.symm (by rw [← e2]; exact X'.warmed.alike) hp hb k1 k2 k3 T' rfl X'
    exact ⟨t2, st t2 a1, b1⟩
  · obtain ⟨k1, k2, k3⟩ := vx_keep h0 e1 hS hAX hf hL hF
    obtain ⟨t2, a1, b1⟩ := kx E ce q u t T'.heap (locs ++ L) e1.symm (by rw [← e2]; exact X'.warmed.alike) hp hb k1 k2 k3 (by rw [e1]; exact hce) hcv hcl T' rfl X'
    exact ⟨t2, st.trans a1, b1⟩
theorem vx_calll {S SX : Type} {post : Int64 → S → Prop} {px : SX → Prop} {B : S → State → Prop} {BX : String → SX → State → Prop} {AX : Nat → Prop} (hr : vx_Run p l e R s m args below meth c H locs cells slots mc ms (F0 m pc ls st0) rest (va_Ql post B A1 a) (vx_X px BX AX) free) (hS : va_S A0 H0 H locs) (hA : ∀ q, q < H.size → A1 q → A0 q) (hf : ∀ q, free q → A0 q) (hAX : ∀ q, q < H.size → AX q → A0 q)
    (kx : ∀ (E : String) (ce : Cell) (q9 : Addr) (u : SX) (t : State) (H1 : Heap) (locs1 : List Loc), t.heap = H1 → s.vm.Alike t.vm → px u → BX E u t → H.size ≤ H1.size → (∀ q : Nat, q < H.size → ¬ AX q → H1[q]? = H[q]?) → va_S A0 H0 H1 locs1 → H1[q9]? = some ce → ce.vm = .none → s.vm.findClass E = some ce.cls → vx_W p l e R s m args below meth c H1 locs1 (cells + mc) (slots + ms) Q (F0 m pc ls rest) q9)
    (kk : ∀ (r : Int64) (u : S) (t : State) (H1 : Heap) (locs1 : List Loc), t.heap = H1 → s.vm.Alike t.vm → post r u → B u t → H.size ≤ H1.size → (∀ q : Nat, q < H.size → ¬ A1 q → H1[q]? = H[q]?) → va_S A0 H0 H1 locs1 → W p l e R s m args below meth c H1 locs1 (cells + mc) (slots + ms) Q (F0 m (pc + 3) ls (.long r :: rest))) : W p l e R s m args below meth c H locs cells slots Q (F0 m pc ls st0) := by
  intro T hT X
  rcases hr T hT X with ⟨v, st₀, t, T', L, h0, X', hL, e1, e2, ⟨⟨r, u, hv, hp, hb⟩, hF⟩, st⟩ | ⟨q, st₀, t, T', L, E, ce, h0, X', hL, e1, e2, ⟨u, hp, hb, hF⟩, hce, hcv, hcl, st⟩
  · cases hv
    obtain ⟨k1, k2, k3⟩ := vx_keep h0 e1 hS hA hf hL hF
    obtain ⟨t2, a1, b1⟩ := kk r u t T'.heap (locs ++ L) e1.symm (by rw [← e2]; exact X'.warmed.alike) hp hb k1 k2 k3 T' rfl X'
    exact ⟨t2, st t2 a1, b1⟩
  · obtain ⟨k1, k2, k3⟩ := vx_keep h0 e1 hS hAX hf hL hF
    obtain ⟨t2, a1, b1⟩ := kx E ce q u t T'.heap (locs ++ L) e1.symm (by rw [← e2]; exact X'.warmed.alike) hp hb k1 k2 k3 (by rw [e1]; exact hce) hcv hcl T' rfl X'
    exact ⟨t2, st.trans a1, b1⟩
theorem vx_callf {S SX : Type} {post : UInt32 → S → Prop} {px : SX → Prop} {B : S → State → Prop} {BX : String → SX → State → Prop} {AX : Nat → Prop} (hr : vx_Run p l e R s m args below meth c H locs cells slots mc ms (F0 m pc ls st0) rest (va_Qf post B A1 a) (vx_X px BX AX) free) (hS : va_S A0 H0 H locs) (hA : ∀ q, q < H.size → A1 q → A0 q) (hf : ∀ q, free q → A0 q) (hAX : ∀ q, q < H.size → AX q → A0 q)
    (kx : ∀ (E : String) (ce : Cell) (q9 : Addr) (u : SX) (t : State) (H1 : Heap) (locs1 : List Loc), t.heap = H1 → s.vm.Alike t.vm → px u → BX E u t → H.size ≤ H1.size → (∀ q : Nat, q < H.size → ¬ AX q → H1[q]? = H[q]?) → va_S A0 H0 H1 locs1 → H1[q9]? = some ce → ce.vm = .none → s.vm.findClass E = some ce.cls → vx_W p l e R s m args below meth c H1 locs1 (cells + mc) (slots + ms) Q (F0 m pc ls rest) q9)
    (kk : ∀ (r : UInt32) (u : S) (t : State) (H1 : Heap) (locs1 : List Loc), t.heap = H1 → s.vm.Alike t.vm → post r u → B u t → H.size ≤ H1.size → (∀ q : Nat, q < H.size → ¬ A1 q → H1[q]? = H[q]?) → va_S A0 H0 H1 locs1 → W p l e R s m args below meth c H1 locs1 (cells + mc) (slots + ms) Q (F0 m (pc + 3) ls (.float r :: rest))) : W p l e R s m args below meth c H locs cells slots Q (F0 m pc ls st0) := by
  intro T hT X
  rcases hr T hT X with ⟨v, st₀, t, T', L, h0, X', hL, e1, e2, ⟨⟨r, u, hv, hp, hb⟩, hF⟩, st⟩ | ⟨q, st₀, t, T', L, E, ce, h0, X', hL, e1, e2, ⟨u, hp, hb, hF⟩, hce, hcv, hcl, st⟩
  · cases hv
    obtain ⟨k1, k2, k3⟩ := vx_keep h0 e1 hS hA hf hL hF
    obtain ⟨t2, a1, b1⟩ := kk r u t T'.heap (locs ++ L) e1.symm (by rw [← e2]; exact X'.warmed.alike) hp hb k1 k2 k3 T' rfl X'
    exact ⟨t2, st t2 a1, b1⟩
  · obtain ⟨k1, k2, k3⟩ := vx_keep h0 e1 hS hAX hf hL hF
    obtain ⟨t2, a1, b1⟩ := kx E ce q u t T'.heap (locs ++ L) e1.symm (by rw [← e2]; exact X'.warmed.alike) hp hb k1 k2 k3 (by rw [e1]; exact hce) hcv hcl T' rfl X'
    exact ⟨t2, st.trans a1, b1⟩
theorem vx_calld {S SX : Type} {post : UInt64 → S → Prop} {px : SX → Prop} {B : S → State → Prop} {BX : String → SX → State → Prop} {AX : Nat → Prop} (hr : vx_Run p l e R s m args below meth c H locs cells slots mc ms (F0 m pc ls st0) rest (va_Qd post B A1 a) (vx_X px BX AX) free) (hS : va_S A0 H0 H locs) (hA : ∀ q, q < H.size → A1 q → A0 q) (hf : ∀ q, free q → A0 q) (hAX : ∀ q, q < H.size → AX q → A0 q)
    (kx : ∀ (E : String) (ce : Cell) (q9 : Addr) (u : SX) (t : State) (H1 : Heap) (locs1 : List Loc), t.heap = H1 → s.vm.Alike t.vm → px u → BX E u t → H.size ≤ H1.size → (∀ q : Nat, q < H.size → ¬ AX q → H1[q]? = H[q]?) → va_S A0 H0 H1 locs1 → H1[q9]? = some ce → ce.vm = .none → s.vm.findClass E = some ce.cls → vx_W p l e R s m args below meth c H1 locs1 (cells + mc) (slots + ms) Q (F0 m pc ls rest) q9)
    (kk : ∀ (r : UInt64) (u : S) (t : State) (H1 : Heap) (locs1 : List Loc), t.heap = H1 → s.vm.Alike t.vm → post r u → B u t → H.size ≤ H1.size → (∀ q : Nat, q < H.size → ¬ A1 q → H1[q]? = H[q]?) → va_S A0 H0 H1 locs1 → W p l e R s m args below meth c H1 locs1 (cells + mc) (slots + ms) Q (F0 m (pc + 3) ls (.double r :: rest))) : W p l e R s m args below meth c H locs cells slots Q (F0 m pc ls st0) := by
  intro T hT X
  rcases hr T hT X with ⟨v, st₀, t, T', L, h0, X', hL, e1, e2, ⟨⟨r, u, hv, hp, hb⟩, hF⟩, st⟩ | ⟨q, st₀, t, T', L, E, ce, h0, X', hL, e1, e2, ⟨u, hp, hb, hF⟩, hce, hcv, hcl, st⟩
  · cases hv
    obtain ⟨k1, k2, k3⟩ := vx_keep h0 e1 hS hA hf hL hF
    obtain ⟨t2, a1, b1⟩ := kk r u t T'.heap (locs ++ L) e1.symm (by rw [← e2]; exact X'.warmed.alike) hp hb k1 k2 k3 T' rfl X'
    exact ⟨t2, st t2 a1, b1⟩
  · obtain ⟨k1, k2, k3⟩ := vx_keep h0 e1 hS hAX hf hL hF
    obtain ⟨t2, a1, b1⟩ := kx E ce q u t T'.heap (locs ++ L) e1.symm (by rw [← e2]; exact X'.warmed.alike) hp hb k1 k2 k3 (by rw [e1]; exact hce) hcv hcl T' rfl X'
    exact ⟨t2, st.trans a1, b1⟩
theorem vx_callv {S SX : Type} {post : S → Prop} {px : SX → Prop} {B : S → State → Prop} {BX : String → SX → State → Prop} {AX : Nat → Prop} (hr : vx_Run p l e R s m args below meth c H locs cells slots mc ms (F0 m pc ls st0) rest (va_Qv post B A1 a) (vx_X px BX AX) free) (hS : va_S A0 H0 H locs) (hA : ∀ q, q < H.size → A1 q → A0 q) (hf : ∀ q, free q → A0 q) (hAX : ∀ q, q < H.size → AX q → A0 q)
    (kx : ∀ (E : String) (ce : Cell) (q9 : Addr) (u : SX) (t : State) (H1 : Heap) (locs1 : List Loc), t.heap = H1 → s.vm.Alike t.vm → px u → BX E u t → H.size ≤ H1.size → (∀ q : Nat, q < H.size → ¬ AX q → H1[q]? = H[q]?) → va_S A0 H0 H1 locs1 → H1[q9]? = some ce → ce.vm = .none → s.vm.findClass E = some ce.cls → vx_W p l e R s m args below meth c H1 locs1 (cells + mc) (slots + ms) Q (F0 m pc ls rest) q9)
    (kk : ∀ (u : S) (t : State) (H1 : Heap) (locs1 : List Loc), t.heap = H1 → s.vm.Alike t.vm → post u → B u t → H.size ≤ H1.size → (∀ q : Nat, q < H.size → ¬ A1 q → H1[q]? = H[q]?) → va_S A0 H0 H1 locs1 → W p l e R s m args below meth c H1 locs1 (cells + mc) (slots + ms) Q (F0 m (pc + 3) ls (rest))) : W p l e R s m args below meth c H locs cells slots Q (F0 m pc ls st0) := by
  intro T hT X
  rcases hr T hT X with ⟨v, st₀, t, T', L, h0, X', hL, e1, e2, ⟨⟨u, hv, hp, hb⟩, hF⟩, st⟩ | ⟨q, st₀, t, T', L, E, ce, h0, X', hL, e1, e2, ⟨u, hp, hb, hF⟩, hce, hcv, hcl, st⟩
  · cases hv
    obtain ⟨k1, k2, k3⟩ := vx_keep h0 e1 hS hA hf hL hF
    obtain ⟨t2, a1, b1⟩ := kk u t T'.heap (locs ++ L) e1.symm (by rw [← e2]; exact X'.warmed.alike) hp hb k1 k2 k3 T' rfl X'
    exact ⟨t2, st t2 a1, b1⟩
  · obtain ⟨k1, k2, k3⟩ := vx_keep h0 e1 hS hAX hf hL hF
    obtain ⟨t2, a1, b1⟩ := kx E ce q u t T'.heap (locs ++ L) e1.symm (by rw [← e2]; exact X'.warmed.alike) hp hb k1 k2 k3 (by rw [e1]; exact hce) hcv hcl T' rfl X'
    exact ⟨t2, st.trans a1, b1⟩
/-- caught by the row x of this method's table; the rows ahead don't take it -/
theorem vx_catch {own name : String} {E : String} {ce : Cell} {q : Addr} (hown : s.vm.findClass own = some m.cls) (pre : List ExceptionTableEntry) (x : ExceptionTableEntry) (suf : List ExceptionTableEntry) (hsplit : c.exceptionTable.toList = pre ++ x :: suf)
    (hpass : ∀ z ∈ pre, covers z pc = false ∨ (z.catchType ≠ 0 ∧ ∃ nm : String, (Cond.classLink own z.catchType nm).before args s = true ∧ va_Nc E nm s)) (hx : covers x pc = true) (h0 : x.catchType ≠ 0)
    (hlink : (Cond.classLink own x.catchType name).before args s = true) (hcast : (Cond.castable E name).before args s = true) (hcell : H[q]? = some ce) (hv : ce.vm = .none) (hcl : s.vm.findClass E = some ce.cls)
    (kk : W p l e R s m args below meth c H locs cells slots Q (F0 m x.handlerPc ls [.ref q])) : vx_W p l e R s m args below meth c H locs cells slots Q (F0 m pc ls rest) q := by
  intro T hT X
  have hpl : e.platform.magicAccessors = ({} : Platform).magicAccessors := by rw [X.admits.platform]
  obtain ⟨c3, c4, hc3, hc4, hasg⟩ := Cond.castable_spec hcast
  cases Option.some.inj (hc3.symm.trans hcl)
  obtain ⟨c5, hc5, hcl5⟩ := Cond.classLink_spec hown hlink e.platform hpl
  cases Option.some.inj (hc4.symm.trans hc5)
  sorry
end Rows
section Ends
variable {p : Program} {l : Launch} {e : Env} {R : Room} {s : State} {m : MethodId} {args : Array Value} {below : List Frame} {meth : Method} {c : Code} {H : Heap} {locs : List Loc} {cells slots : Nat} {Q : State → Prop}
variable {mc ms : Nat} {free : Addr → Prop} {A0 A1 : Nat → Prop} {H0 : Heap} {a : Array Value} {ls : Array Slot} {st0 rest : List Value}
variable {Qc : Array Value → State → Outcome → State → Prop} {XC : String → State → State → Prop}
/-- what a body that may throw owes at its end -/
def vx_MQ (below : List Frame) (Qc : Array Value → State → Outcome → State → Prop) (XC : String → State → State → Prop) (a : Array Value) (s : State) (mc ms : Nat) (free : Addr → Prop) : State → Prop := fun t =>
  ∃ o, t.status = .running ∧ Ended t below o ∧ vx_Q Qc XC mc ms free a s o t
theorem vx_ret {g : JFrame} {mc ms : Nat} (k : W p l e R s m args below meth c H locs cells slots (MQ below Qc args s mc ms free) g) : W p l e R s m args below meth c H locs cells slots (vx_MQ below Qc XC args s mc ms free) g := by
  intro T hT X
  obtain ⟨t, a1, o, b1, b2, b3, b4⟩ := k T hT X
  exact ⟨t, a1, o, b1, b2, Or.inl ⟨b3, b4⟩⟩
/-- not caught here: it goes on to the caller -/
theorem vx_widen {g : JFrame} {q : Addr} {k n : Nat} (h1 : cells ≤ k) (h2 : slots ≤ n) (kk : vx_W p l e R s m args below meth c H locs k n Q g q) : vx_W p l e R s m args below meth c H locs cells slots Q g q := fun T hT X => kk T hT (stand_widen X h1 h2)
theorem vx_out {pc : Nat} {E : String} {ce : Cell} {q : Addr} {mc ms : Nat} (hout : ∀ x ∈ c.exceptionTable.toList, covers x pc = false) (hlocks : meth.locks = false) (hcell : H[q]? = some ce) (hv : ce.vm = .none) (hcl : s.vm.findClass E = some ce.cls)
    (hx : ∀ t : State, t.heap = H → s.vm.Alike t.vm → XC E s t) (hf : ∀ z ∈ locs, free z.base) (hc : cells ≤ mc) (hs : slots ≤ ms) :
    vx_W p l e R s m args below meth c H locs cells slots (vx_MQ below Qc XC args s mc ms free) (F0 m pc ls rest) q := by
  intro T hT X
  obtain ⟨st1, hrun, hend, hW, hsm⟩ := X.leaveThrown q (g := F0 m pc ls rest) rfl rfl rfl hout hlocks
  have hcell9 : (T.setFrames (.throwing q :: below)).heap[q]? = some ce := by
    show T.heap[q]? = some ce
    rw [hT]; exact hcell
  exact ⟨_, st1, .threw q, hrun, hend, Or.inr ⟨q, rfl, E, ce, locs, hx _ hT hW.alike, hcell9, hv, hcl, hW, hsm.mono hc hs, hf⟩⟩
theorem vx_frame {U : State} {k n : Nat} (h : s.sameButNew ({ U with vm := s.vm } : State) locs k n) : s.heap.size ≤ U.heap.size ∧ ∀ q : Nat, q < s.heap.size → (∀ z ∈ locs, z.base ≠ q) → U.heap[q]? = s.heap[q]? := by
  obtain ⟨-, h2, -, -, -, h6⟩ := h
  refine ⟨h2, fun q hq hz => ?_⟩
  obtain ⟨c9, e1, e2, e3, e4⟩ := h6 q _ (Array.getElem?_eq_getElem hq)
  have hs : c9.slots = (s.heap[q]).slots := Array.ext_getElem? fun i => e4 i fun hm => hz _ hm rfl
  have h9 : c9 = s.heap[q] := by
    rw [hs] at e2
    exact e2
  have e5 : U.heap[q]? = some c9 := e1
  rw [e5, h9, Array.getElem?_eq_getElem hq]
/-- the words of a throw but the four that speak of the heap -/
def vx_no (w : Cond) : Bool := decide (w ≠ .isRef (.static Bundle.tN "UNASSIGNED_STACK" Bundle.steD)) && decide (w ≠ .isRef (.static Bundle.tN "SUPPRESSED_SENTINEL" Bundle.listD)) && decide (w ≠ .laysStatic Bundle.tN "UNASSIGNED_STACK" Bundle.steD) && decide (w ≠ .laysStatic Bundle.tN "SUPPRESSED_SENTINEL" Bundle.listD)
def vx_at0 (own : String) (ic : Nat) (X : String) (names : List String) : List Cond := (Bundle.ownAtoms0 own ic X names).filter vx_no
def vx_atS (own : String) (ic : Nat) (X : String) (names : List String) : List Cond := (Bundle.ownAtoms own ic X names).filter vx_no
/-- a word that the tables alone decide, or a good one -/
def vx_ot (w : Cond) : Bool := w.onTables || goodWord w
theorem vx_ot_at {args a' : Array Value} {s U : State} {w : Cond} (hW : s.WarmedH U.vm) (hvm : s.vm = U.vm) (hg : vx_ot w = true) (h : w.before args s = true) : w.before a' U = true := by
  simp only [vx_ot, Bool.or_eq_true] at hg
  rcases hg with hg | hg
  · exact va_tabs hg hvm h
  · exact word_at hW (good_of_word hg) h
/-- a list's words: the good ones out of the method's own list, the others by premises of their own -/
theorem vx_hat {args : Array Value} {s : State} {L B : List Cond} (h1 : ∀ w ∈ L.filter goodWord, w.before args s = true) (h2 : ∀ w ∈ L.filter (fun w => !goodWord w), w ∈ B) (h3 : ∀ w ∈ B, w.before args s = true) : ∀ w ∈ L, w.before args s = true := by
  intro w hw
  by_cases g : goodWord w = true
  · exact h1 w (List.mem_filter.mpr ⟨hw, g⟩)
  · refine h3 w (h2 w (List.mem_filter.mpr ⟨hw, ?_⟩))
    show (!goodWord w) = true
    cases hgw : goodWord w
    · rfl
    · exact absurd hgw g
theorem vx_c {args : Array Value} {s : State} {w : Cond} {B : List Cond} (h : w.before args s = true) (t : ∀ w ∈ B, w.before args s = true) : ∀ w' ∈ w :: B, w'.before args s = true := fun w' h' => (List.mem_cons.mp h').elim (fun e => by rw [e]; exact h) (t w')
theorem vx_n {args : Array Value} {s : State} : ∀ w ∈ ([] : List Cond), w.before args s = true := fun _ h => nomatch h
theorem vx_own {args : Array Value} {s : State} {L : List Cond} (h1 : ∀ w ∈ L.filter vx_no, w.before args s = true)
    (hU : (Cond.isRef (.static Bundle.tN "UNASSIGNED_STACK" Bundle.steD)).before args s = true) (hN : (Cond.isRef (.static Bundle.tN "SUPPRESSED_SENTINEL" Bundle.listD)).before args s = true)
    (lU : (Cond.laysStatic Bundle.tN "UNASSIGNED_STACK" Bundle.steD).before args s = true) (lN : (Cond.laysStatic Bundle.tN "SUPPRESSED_SENTINEL" Bundle.listD).before args s = true) : ∀ w ∈ L, w.before args s = true := by
  intro w hw
  by_cases e1 : w = .isRef (.static Bundle.tN "UNASSIGNED_STACK" Bundle.steD)
  · rw [e1]; exact hU
  · by_cases e2 : w = .isRef (.static Bundle.tN "SUPPRESSED_SENTINEL" Bundle.listD)
    · rw [e2]; exact hN
    · by_cases e3 : w = .laysStatic Bundle.tN "UNASSIGNED_STACK" Bundle.steD
      · rw [e3]; exact lU
      · by_cases e4 : w = .laysStatic Bundle.tN "SUPPRESSED_SENTINEL" Bundle.listD
        · rw [e4]; exact lN
        · exact h1 w (List.mem_filter.mpr ⟨hw, by unfold vx_no; rw [decide_eq_true e1, decide_eq_true e2, decide_eq_true e3, decide_eq_true e4]; rfl⟩)
/-- where a static field lies, its class's statics cell in H -/
def vx_L (C n d : String) (A : Nat → Prop) (U : State) (H : Heap) : Prop := ∃ (c : ClassId) (k : Class) (i : Nat) (f : Field) (a : Nat) (cell : Cell), U.vm.findClass C = some c ∧ U.fieldFound? C n d = some (c, k, i, f) ∧ f.isStatic = true ∧ k.statics = some a ∧ H[a]? = some cell ∧ cell.vm.isStatics = true ∧ cell.cls = c ∧ f.slot < cell.slots.size ∧ k.staticTypes[f.slot]? = some f.type ∧ ¬ A a
theorem vx_L.moved {C n d : String} {A : Nat → Prop} {u U : State} {H : Heap} (hvm : u.vm.Alike U.vm) (h : vx_L C n d A u H) : vx_L C n d A U H := by
  obtain ⟨c, k, i, f, a, cell, h1, h2, h3, h4, h5, h6, h7, h8, h9, h10⟩ := h
  obtain ⟨k', hi', he⟩ := State.fieldFound?_setVm hvm h2
  exact ⟨c, k', i, f, a, cell, by rw [hvm.findClass]; exact h1, hi', h3, by rw [he]; exact h4, h5, h6, h7, h8, by rw [he]; exact h9, h10⟩
theorem vx_L.kept {C n d : String} {A : Nat → Prop} {U : State} {H H1 : Heap} (h : vx_L C n d A U H) (hq : ∀ a : Nat, a < H.size → ¬ A a → H1[a]? = H[a]?) : vx_L C n d A U H1 := by
  obtain ⟨c, k, i, f, a, cell, h1, h2, h3, h4, h5, h6, h7, h8, h9, h10⟩ := h
  exact ⟨c, k, i, f, a, cell, h1, h2, h3, h4, by rw [hq a (Array.getElem?_eq_some_iff.mp h5).1 h10]; exact h5, h6, h7, h8, h9, h10⟩
theorem vx_L.narrow {C n d : String} {A B : Nat → Prop} {U : State} {H : Heap} (h : vx_L C n d A U H) (hAB : ∀ q, B q → A q) : vx_L C n d B U H := by
  obtain ⟨c, k, i, f, a, cell, h1, h2, h3, h4, h5, h6, h7, h8, h9, h10⟩ := h
  exact ⟨c, k, i, f, a, cell, h1, h2, h3, h4, h5, h6, h7, h8, h9, fun z => h10 (hAB _ z)⟩
theorem vx_L.word {C n d : String} {A : Nat → Prop} {s : State} {args : Array Value} (h : vx_L C n d A s s.heap) : (Cond.laysStatic C n d).before args s = true := by
  obtain ⟨c, k, i, f, a, cell, h1, h2, h3, h4, h5, h6, h7, h8, h9, -⟩ := h
  show (Cond.laysStatic C n d).holds args s none s [] = true
  exact Cond.laysStatic_of h1 h2 h3 h4 h5 h6 h7 h8 h9
/-- .. and what it holds: null or some reference -/
def vx_Zq (C n d : String) (A : Nat → Prop) (U : State) (H : Heap) : Prop := va_Zq C n d A U H ∧ vx_L C n d A U H
theorem vx_Zq.moved {C n d : String} {A : Nat → Prop} {u U : State} {H : Heap} (hvm : u.vm.Alike U.vm) (h : vx_Zq C n d A u H) : vx_Zq C n d A U H := ⟨va_Zq.moved hvm h.1, vx_L.moved hvm h.2⟩
theorem vx_Zq.kept {C n d : String} {A : Nat → Prop} {U : State} {H H1 : Heap} (h : vx_Zq C n d A U H) (hq : ∀ a : Nat, a < H.size → ¬ A a → H1[a]? = H[a]?) : vx_Zq C n d A U H1 := ⟨va_Zq.kept h.1 hq, vx_L.kept h.2 hq⟩
theorem vx_Zq.narrow {C n d : String} {A B : Nat → Prop} {U : State} {H : Heap} (h : vx_Zq C n d A U H) (hAB : ∀ q, B q → A q) : vx_Zq C n d B U H := ⟨va_Zq.narrow h.1 hAB, vx_L.narrow h.2 hAB⟩
theorem vx_Zqof {args : Array Value} {s : State} {C n d : String} {A : Nat → Prop} (hl : (Cond.laysStatic C n d).before args s = true) (hini : (Cond.initialized C).before args s = true) (h : (Cond.isRef (.static C n d)).before args s = true) (hA : ∀ a : Nat, a < s.heap.size → ¬ A a) : vx_Zq C n d A s s.heap := by
  refine ⟨va_Zqof hl hini h hA, ?_⟩
  obtain ⟨c, k, i, f, a, cell, h1, h2, h3, h4, h5, h6, h7, h8, h9⟩ := Cond.laysStatic_spec hl
  exact ⟨c, k, i, f, a, cell, h1, h2, h3, h4, h5, h6, h7, h8, h9, hA a (Array.getElem?_eq_some_iff.mp h5).1⟩
theorem vx_isRef {C n d : String} {v : Value} {A : Nat → Prop} {s : State} {args : Array Value} (h : va_Z C n d v A s s.heap) (hv : v.isRef = true) : (Cond.isRef (.static C n d)).before args s = true := by
  obtain ⟨cf, kf, fi, f, a, cell, h1, h2, h3, h4, h5, h6, h7, -⟩ := h
  have he : (Term.static C n d).eval args s none [] s = some v := by
    simp [Term.eval, State.fieldNamed?, h1, h2, h4, h5, h6, h7]
  simp only [Cond.before, Cond.holds, Cond.value, he]
  cases v <;> simp_all [Value.isRef]
theorem vx_isRefq {C n d : String} {A : Nat → Prop} {s : State} {args : Array Value} (h : va_Zq C n d A s s.heap) : (Cond.isRef (.static C n d)).before args s = true := by
  rcases h with h | ⟨t, h⟩
  · exact vx_isRef h rfl
  · exact vx_isRef h rfl
/-- the same frame, seen from here: as if the method were called anew in this heap -/
theorem vx_rebase {T : State} (X : Stand p l e R s m args below meth c T locs cells slots) {R' : Room} (hf : R'.frames ≤ R.frames) (hl : R'.locals ≤ R.locals) (hc : cells + R'.cells ≤ R.cells) (hs : slots + R'.slots ≤ R.slots) :
    Stand p l e R' ((T.setVm s.vm).setFrames (.invoking m args :: below)) m args below meth c T [] 0 0 := by
  have htop : (T.setVm s.vm).topJava?.isSome := X.here.top
  have hF : ((T.setVm s.vm).setFrames (.invoking m args :: below)).frames = .invoking m args :: below := State.frames_setFrames _ (State.cur_lt_of_top htop)
  obtain ⟨g₀, hg0⟩ := Option.isSome_iff_exists.mp htop
  obtain ⟨r, hr⟩ := State.topJava?_eq_some.mp hg0
  have hl9 : e.platform.stackLimits (T.setVm s.vm).me = e.platform.stackLimits s.me := X.limits
  have hb9 : (T.setVm s.vm).me.stackBytes = s.me.stackBytes := X.bytes
  refine ⟨X.admits, X.cas, X.clock, hF, ?_, X.hears, X.method, X.code, X.here, X.tail, X.warmed, ?_, ?_, ?_⟩
  · have h := X.room
    have hU : ((T.setVm s.vm).setFrames (.invoking m args :: below)).localsInUse = s.localsInUse := by
      rw [State.localsInUse_invoking hF (meth := meth) (c := c) X.method X.code, State.localsInUse_invoking X.frames X.method X.code]
    simp only [State.hasRoom, Bool.and_eq_true, decide_eq_true_eq] at h ⊢
    obtain ⟨⟨⟨⟨h1, h2, h3, h4, h5, h6⟩, h7⟩, h8⟩, h9⟩ := h
    rw [X.frames, List.length_cons] at h2 h3
    have q1 := X.heapSize
    have q2 := X.used
    simp only [hF, hU, List.length_cons, State.stackLimits_setFrames, State.stackBytes_setFrames, hl9, hb9]
    refine ⟨⟨⟨⟨by omega, by omega, by omega, by omega, by omega, h6⟩, ?_⟩, ?_⟩, X.book⟩
    · show T.heap.size + R'.cells ≤ e.platform.maxCells
      omega
    · show T.slotsUsed + R'.slots ≤ e.platform.maxSlots
      omega
  · rw [State.stackLimits_setFrames]; rfl
  · rw [State.stackBytes_setFrames]; rfl
  · refine ⟨?_, Nat.le_refl _, Nat.le_refl _, ?_, ?_, fun a c9 h9 => ⟨c9, h9, rfl, rfl, fun _ _ => rfl⟩⟩
    · obtain ⟨t, ht, -⟩ := State.frames_cons hr
      show T.setVm s.vm = { ((T.setVm s.vm).setFrames (.invoking m args :: below)).setFrames (T.setVm s.vm).frames with heap := T.heap, slotsUsed := T.slotsUsed }
      rw [State.setFrames_setFrames, State.setFrames_self ht]
      rfl
    · show T.slotsUsed = T.slotsUsed + ((T.heap.toList.drop T.heap.size).map (·.slots.size)).sum
      rw [List.drop_eq_nil_of_le (Nat.le_of_eq Array.length_toList)]
      rfl
    · show ((T.heap.toList.drop T.heap.size).map (·.slots.size)).sum ≤ 0
      rw [List.drop_eq_nil_of_le (Nat.le_of_eq Array.length_toList)]
      exact Nat.le_refl _
/-- 'throw new E()': new; dup; invokespecial; athrow -/
theorem vx_throw0 {cc : ByteArray} {pc : Nat} (hexec : p.tables.exec = Jvm.exec) (hb : c.code = cc) (hl : l.stackTraces = false) {own cls : String} {names : List String} {ik ic mc ms : Nat} {A : Nat → Prop}
    (hown : s.vm.findClass own = some m.cls) (hcls : Bundle.fit cls = true) (hnames : ∀ n ∈ names, Bundle.fit n = true)
    (hk : (Cond.classLink own ik cls).before args s = true) (hini : (Cond.initialized cls).before args s = true) (hat : ∀ w ∈ vx_at0 own ic cls names, w.before args s = true)
    (hgood : ∀ w ∈ Cond.classLink own ik cls :: Cond.initialized cls :: vx_at0 own ic cls names, vx_ot w = true)
    (hU : vx_Zq Bundle.tN "UNASSIGNED_STACK" Bundle.steD A s s.heap) (hN : vx_Zq Bundle.tN "SUPPRESSED_SENTINEL" Bundle.listD A s s.heap) (hS : va_S A s.heap H locs) (hsize : ls.size = c.maxLocals)
    (d0 : decode cc pc = .ok (.new ik, 3)) (d3 : decode cc (pc + 3) = .ok (.dup, 1)) (d4 : decode cc (pc + 4) = .ok (.invokespecial ic, 3)) (d7 : decode cc (pc + 7) = .ok (.athrow, 1))
    (hout : ∀ x ∈ c.exceptionTable.toList, covers x (pc + 7) = false)
    (hRframes : names.length + 3 < R.frames) (hRlocals : (rest.map fun v => v.category).sum + (13 * (names.length + 1) + 42) ≤ R.locals) (hRcells : cells + 1 ≤ R.cells) (hRslots : slots + 6 ≤ R.slots) (hlocks : meth.locks = false)
    (hx : ∀ t : State, s.vm.Alike t.vm → H.size ≤ t.heap.size → (∀ q : Nat, q < H.size → t.heap[q]? = H[q]?) → XC cls s t)
    (hf : ∀ z ∈ locs, free z.base) (hc : cells + 1 ≤ mc) (hs : slots + 6 ≤ ms) :
    W p l e R s m args below meth c H locs cells slots (vx_MQ below Qc XC args s mc ms free) (F0 m pc ls rest) := by
  intro T hT X
  have htr : e.platform.stackTraces = false := (show e.platform.stackTraces = l.stackTraces by rw [X.admits.platform]).trans hl
  have Y := vx_rebase X (R' := { frames := R.frames, locals := R.locals, cells := 1, slots := 6 }) (Nat.le_refl _) (Nat.le_refl _) hRcells hRslots
  obtain ⟨s', hA⟩ : ∃ z, z = (T.setVm s.vm).setFrames (.invoking m args :: below) := ⟨_, rfl⟩
  rw [← hA] at Y
  have hvm : s'.vm = s.vm := by rw [hA]; rfl
  have hhp : s'.heap = H := by rw [hA]; exact hT
  have hW0 : s.WarmedH s'.vm := by rw [hvm]; exact State.WarmedH.refl s
  have hat' : ∀ w ∈ vx_at0 own ic cls names, w.before args s' = true := fun w hw => vx_ot_at hW0 hvm.symm (hgood w (List.mem_cons_of_mem _ (List.mem_cons_of_mem _ hw))) (hat w hw)
  have hk' : (Cond.classLink own ik cls).before args s' = true := vx_ot_at hW0 hvm.symm (hgood _ List.mem_cons_self) hk
  have hini' : (Cond.initialized cls).before args s' = true := vx_ot_at hW0 hvm.symm (hgood _ (List.mem_cons_of_mem _ List.mem_cons_self)) hini
  have hU' : vx_Zq Bundle.tN "UNASSIGNED_STACK" Bundle.steD A s' s'.heap := by rw [hhp]; exact vx_Zq.moved hW0.alike (hU.kept hS.2.1)
  have hN' : vx_Zq Bundle.tN "SUPPRESSED_SENTINEL" Bundle.listD A s' s'.heap := by rw [hhp]; exact vx_Zq.moved hW0.alike (hN.kept hS.2.1)
  have h : ∀ w ∈ Bundle.ownAtoms0 own ic cls names, w.before args s' = true := vx_own hat' (vx_isRefq hU'.1) (vx_isRefq hN'.1) hU'.2.word hN'.2.word
  have hown' : s'.vm.findClass own = some m.cls := by rw [hvm]; exact hown
  have hins : (Cond.instantiable cls 6).before args s' = true := h _ (by simp [Bundle.ownAtoms0])
  obtain ⟨vm₁, cX, kX, hfX, hkX, -, -, X₁, st1⟩ := Y.newCold hexec (own := own) (C := cls) (index := ik) (n := 6) hown' hk' hins hini'
    (g := F0 m pc ls rest) rfl (by rw [hb]; exact d0) (Nat.le_refl _) (Nat.le_refl _)
  generalize hT1 : (T.setVm vm₁).pushCell { cls := cX, slots := kX.instanceTypes.map defaultValue, vm := .none } = T1 at X₁ st1
  have hcat : (Value.ref T.heap.size).category = 1 := rfl
  have hcellA : T1.heap[T.heap.size]? = some (freshCell cX kX) := by rw [← hT1]; exact State.heap_pushCell_size _ _
  have d3' : decode c.code (pc + 3) = .ok (.dup, 1) := by rw [hb]; exact d3
  obtain ⟨U, hsteps, hrun, hend, hW, hsame, ce, hce, hO⟩ := X₁.ctorThrow0 hexec htr (own := own) (cls := cls) (names := names) (ic := ic) hown' hcls hnames h (fun x hx => nomatch hx) hfX hkX hcellA (by rw [hhp, hT]; exact Nat.le_refl _)
    (g := { method := m, pc := pc + 4, locals := ls, stack := .ref T.heap.size :: .ref T.heap.size :: rest, locked := none }) rfl hsize rfl rfl (rest := rest) rfl
    (by rw [hb]; exact d4) (by rw [hb]; exact d7) hout hRframes (by simp only [List.map_cons, List.sum_cons, hcat]; omega) hlocks
  obtain ⟨f1, f2⟩ := vx_frame hsame
  rw [hhp] at f1 f2
  have hWs : s.WarmedH U.vm := State.WarmedH.trans hW0 hW
  have hcl : s.vm.findClass cls = some ce.cls := by
    have h9 := hO.cls
    rw [hvm] at h9
    exact h9
  have hall : s.sameButNew ({ U with vm := s.vm } : State) locs mc ms := by
    subst hA
    obtain ⟨e1, e2⟩ := hsame
    rw [State.setFrames_setFrames] at e1
    have h2 : (T.setVm s.vm).sameButNew ({ U with vm := s.vm } : State) [] (0 + 1) (0 + 6) := ⟨e1, e2⟩
    have h3 := X.same.trans h2
    rw [List.append_nil] at h3
    exact h3.mono hc hs
  refine ⟨U, ?_, .threw T.heap.size, hrun, hend, Or.inr ⟨T.heap.size, rfl, cls, ce, locs, hx U hWs.alike f1 (fun q hq => f2 q hq (fun z hz => nomatch hz)), hce, hO.vm, hcl, hWs, hall, hf⟩⟩
  refine st1 _ ?_
  show Steps p.tables e below (T1.setTop { method := m, pc := pc + 3, locals := ls, stack := .ref T.heap.size :: rest, locked := none }) _
  jvm_step X₁.here [X₁.here.top, hexec, d3', Value.category]
  exact hsteps
/-- 'throw new E("text")': new; dup; ldc; invokespecial; athrow -/
theorem vx_throwS {cc : ByteArray} {pc : Nat} (hexec : p.tables.exec = Jvm.exec) (hb : c.code = cc) (hl : l.stackTraces = false) {own cls text : String} {names : List String} {ik is ic mc ms sa : Nat} {A : Nat → Prop}
    (hown : s.vm.findClass own = some m.cls) (hcls : Bundle.fit cls = true) (hnames : ∀ n ∈ names, Bundle.fit n = true)
    (hk : (Cond.classLink own ik cls).before args s = true) (hini : (Cond.initialized cls).before args s = true) (hstr : vk_R own is text sa s) (hat : ∀ w ∈ vx_atS own ic cls names, w.before args s = true)
    (hgood : ∀ w ∈ Cond.classLink own ik cls :: Cond.initialized cls :: vx_atS own ic cls names, vx_ot w = true)
    (hU : vx_Zq Bundle.tN "UNASSIGNED_STACK" Bundle.steD A s s.heap) (hN : vx_Zq Bundle.tN "SUPPRESSED_SENTINEL" Bundle.listD A s s.heap) (hS : va_S A s.heap H locs) (hsize : ls.size = c.maxLocals)
    (d0 : decode cc pc = .ok (.new ik, 3)) (d3 : decode cc (pc + 3) = .ok (.dup, 1)) (d4 : decode cc (pc + 4) = .ok (.ldc is, 2)) (d6 : decode cc (pc + 6) = .ok (.invokespecial ic, 3)) (d9 : decode cc (pc + 9) = .ok (.athrow, 1))
    (hout : ∀ x ∈ c.exceptionTable.toList, covers x (pc + 9) = false)
    (hRframes : names.length + 3 < R.frames) (hRlocals : (rest.map fun v => v.category).sum + (13 * (names.length + 1) + 43) ≤ R.locals) (hRcells : cells + 1 ≤ R.cells) (hRslots : slots + 6 ≤ R.slots) (hlocks : meth.locks = false)
    (hx : ∀ t : State, s.vm.Alike t.vm → H.size ≤ t.heap.size → (∀ q : Nat, q < H.size → t.heap[q]? = H[q]?) → XC cls s t)
    (hf : ∀ z ∈ locs, free z.base) (hc : cells + 1 ≤ mc) (hs : slots + 6 ≤ ms) :
    W p l e R s m args below meth c H locs cells slots (vx_MQ below Qc XC args s mc ms free) (F0 m pc ls rest) := by
  intro T hT X
  have htr : e.platform.stackTraces = false := (show e.platform.stackTraces = l.stackTraces by rw [X.admits.platform]).trans hl
  have Y := vx_rebase X (R' := { frames := R.frames, locals := R.locals, cells := 1, slots := 6 }) (Nat.le_refl _) (Nat.le_refl _) hRcells hRslots
  obtain ⟨s', hA⟩ : ∃ z, z = (T.setVm s.vm).setFrames (.invoking m args :: below) := ⟨_, rfl⟩
  rw [← hA] at Y
  have hvm : s'.vm = s.vm := by rw [hA]; rfl
  have hhp : s'.heap = H := by rw [hA]; exact hT
  have hW0 : s.WarmedH s'.vm := by rw [hvm]; exact State.WarmedH.refl s
  have hat' : ∀ w ∈ vx_atS own ic cls names, w.before args s' = true := fun w hw => vx_ot_at hW0 hvm.symm (hgood w (List.mem_cons_of_mem _ (List.mem_cons_of_mem _ hw))) (hat w hw)
  have hk' : (Cond.classLink own ik cls).before args s' = true := vx_ot_at hW0 hvm.symm (hgood _ List.mem_cons_self) hk
  have hini' : (Cond.initialized cls).before args s' = true := vx_ot_at hW0 hvm.symm (hgood _ (List.mem_cons_of_mem _ List.mem_cons_self)) hini
  have hU' : vx_Zq Bundle.tN "UNASSIGNED_STACK" Bundle.steD A s' s'.heap := by rw [hhp]; exact vx_Zq.moved hW0.alike (hU.kept hS.2.1)
  have hN' : vx_Zq Bundle.tN "SUPPRESSED_SENTINEL" Bundle.listD A s' s'.heap := by rw [hhp]; exact vx_Zq.moved hW0.alike (hN.kept hS.2.1)
  have h : ∀ w ∈ Bundle.ownAtoms own ic cls names, w.before args s' = true := vx_own hat' (vx_isRefq hU'.1) (vx_isRefq hN'.1) hU'.2.word hN'.2.word
  have hown' : s'.vm.findClass own = some m.cls := by rw [hvm]; exact hown
  have hins : (Cond.instantiable cls 6).before args s' = true := h _ (by simp [Bundle.ownAtoms])
  obtain ⟨vm₁, cX, kX, hfX, hkX, -, -, X₁, st1⟩ := Y.newCold hexec (own := own) (C := cls) (index := ik) (n := 6) hown' hk' hins hini'
    (g := F0 m pc ls rest) rfl (by rw [hb]; exact d0) (Nat.le_refl _) (Nat.le_refl _)
  generalize hT1 : (T.setVm vm₁).pushCell { cls := cX, slots := kX.instanceTypes.map defaultValue, vm := .none } = T1 at X₁ st1
  have hcat : (Value.ref T.heap.size).category = 1 := rfl
  have hcellA : T1.heap[T.heap.size]? = some (freshCell cX kX) := by rw [← hT1]; exact State.heap_pushCell_size _ _
  have d3' : decode c.code (pc + 3) = .ok (.dup, 1) := by rw [hb]; exact d3
  have d4' : decode c.code (pc + 4) = .ok (.ldc is, 2) := by rw [hb]; exact d4
  have hstr' : vk_R own is text sa s' := vk_R.warm hW0 hstr
  obtain ⟨U, hsteps, hrun, hend, hW, hsame, ce, hce, hO⟩ := X₁.ctorThrowS hexec htr (own := own) (cls := cls) (names := names) (ic := ic) hown' hcls hnames h (fun x hx => nomatch hx) hfX hkX hcellA (by rw [hhp, hT]; exact Nat.le_refl _) (msg := .ref sa) rfl
    (g := { method := m, pc := pc + 6, locals := ls, stack := .ref sa :: .ref T.heap.size :: .ref T.heap.size :: rest, locked := none }) rfl hsize rfl rfl (rest := rest) rfl
    (by rw [hb]; exact d6) (by rw [hb]; exact d9) hout hRframes (by simp only [List.map_cons, List.sum_cons, hcat]; omega) hlocks
  obtain ⟨f1, f2⟩ := vx_frame hsame
  rw [hhp] at f1 f2
  have hWs : s.WarmedH U.vm := State.WarmedH.trans hW0 hW
  have hcl : s.vm.findClass cls = some ce.cls := by
    have h9 := hO.cls
    rw [hvm] at h9
    exact h9
  have hall : s.sameButNew ({ U with vm := s.vm } : State) locs mc ms := by
    subst hA
    obtain ⟨e1, e2⟩ := hsame
    rw [State.setFrames_setFrames] at e1
    have h2 : (T.setVm s.vm).sameButNew ({ U with vm := s.vm } : State) [] (0 + 1) (0 + 6) := ⟨e1, e2⟩
    have h3 := X.same.trans h2
    rw [List.append_nil] at h3
    exact h3.mono hc hs
  refine ⟨U, ?_, .threw T.heap.size, hrun, hend, Or.inr ⟨T.heap.size, rfl, cls, ce, locs, hx U hWs.alike f1 (fun q hq => f2 q hq (fun z hz => nomatch hz)), hce, hO.vm, hcl, hWs, hall, hf⟩⟩
  refine st1 _ ?_
  show Steps p.tables e below (T1.setTop { method := m, pc := pc + 3, locals := ls, stack := .ref T.heap.size :: rest, locked := none }) _
  jvm_step X₁.here [X₁.here.top, hexec, d3', Value.category]
  exact X₁.ldcString hexec (own := own) (text := text) (index := is) (a := sa) hown' hstr'.1 hstr'.2
    (g := { method := m, pc := pc + 4, locals := ls, stack := .ref T.heap.size :: .ref T.heap.size :: rest, locked := none }) rfl d4' _ hsteps
/-- 'throw new E("text")', the text by a wide index -/
theorem vx_throwSW {cc : ByteArray} {pc : Nat} (hexec : p.tables.exec = Jvm.exec) (hb : c.code = cc) (hl : l.stackTraces = false) {own cls text : String} {names : List String} {ik is ic mc ms sa : Nat} {A : Nat → Prop}
    (hown : s.vm.findClass own = some m.cls) (hcls : Bundle.fit cls = true) (hnames : ∀ n ∈ names, Bundle.fit n = true)
    (hk : (Cond.classLink own ik cls).before args s = true) (hini : (Cond.initialized cls).before args s = true) (hstr : vk_R own is text sa s) (hat : ∀ w ∈ vx_atS own ic cls names, w.before args s = true)
    (hgood : ∀ w ∈ Cond.classLink own ik cls :: Cond.initialized cls :: vx_atS own ic cls names, vx_ot w = true)
    (hU : vx_Zq Bundle.tN "UNASSIGNED_STACK" Bundle.steD A s s.heap) (hN : vx_Zq Bundle.tN "SUPPRESSED_SENTINEL" Bundle.listD A s s.heap) (hS : va_S A s.heap H locs) (hsize : ls.size = c.maxLocals)
    (d0 : decode cc pc = .ok (.new ik, 3)) (d3 : decode cc (pc + 3) = .ok (.dup, 1)) (d4 : decode cc (pc + 4) = .ok (.ldc_w is, 3)) (d7 : decode cc (pc + 7) = .ok (.invokespecial ic, 3)) (d10 : decode cc (pc + 10) = .ok (.athrow, 1))
    (hout : ∀ x ∈ c.exceptionTable.toList, covers x (pc + 10) = false)
    (hRframes : names.length + 3 < R.frames) (hRlocals : (rest.map fun v => v.category).sum + (13 * (names.length + 1) + 43) ≤ R.locals) (hRcells : cells + 1 ≤ R.cells) (hRslots : slots + 6 ≤ R.slots) (hlocks : meth.locks = false)
    (hx : ∀ t : State, s.vm.Alike t.vm → H.size ≤ t.heap.size → (∀ q : Nat, q < H.size → t.heap[q]? = H[q]?) → XC cls s t)
    (hf : ∀ z ∈ locs, free z.base) (hc : cells + 1 ≤ mc) (hs : slots + 6 ≤ ms) :
    W p l e R s m args below meth c H locs cells slots (vx_MQ below Qc XC args s mc ms free) (F0 m pc ls rest) := by
  intro T hT X
  have htr : e.platform.stackTraces = false := (show e.platform.stackTraces = l.stackTraces by rw [X.admits.platform]).trans hl
  have Y := vx_rebase X (R' := { frames := R.frames, locals := R.locals, cells := 1, slots := 6 }) (Nat.le_refl _) (Nat.le_refl _) hRcells hRslots
  obtain ⟨s', hA⟩ : ∃ z, z = (T.setVm s.vm).setFrames (.invoking m args :: below) := ⟨_, rfl⟩
  rw [← hA] at Y
  have hvm : s'.vm = s.vm := by rw [hA]; rfl
  have hhp : s'.heap = H := by rw [hA]; exact hT
  have hW0 : s.WarmedH s'.vm := by rw [hvm]; exact State.WarmedH.refl s
  have hat' : ∀ w ∈ vx_atS own ic cls names, w.before args s' = true := fun w hw => vx_ot_at hW0 hvm.symm (hgood w (List.mem_cons_of_mem _ (List.mem_cons_of_mem _ hw))) (hat w hw)
  have hk' : (Cond.classLink own ik cls).before args s' = true := vx_ot_at hW0 hvm.symm (hgood _ List.mem_cons_self) hk
  have hini' : (Cond.initialized cls).before args s' = true := vx_ot_at hW0 hvm.symm (hgood _ (List.mem_cons_of_mem _ List.mem_cons_self)) hini
  have hU' : vx_Zq Bundle.tN "UNASSIGNED_STACK" Bundle.steD A s' s'.heap := by rw [hhp]; exact vx_Zq.moved hW0.alike (hU.kept hS.2.1)
  have hN' : vx_Zq Bundle.tN "SUPPRESSED_SENTINEL" Bundle.listD A s' s'.heap := by rw [hhp]; exact vx_Zq.moved hW0.alike (hN.kept hS.2.1)
  have h : ∀ w ∈ Bundle.ownAtoms own ic cls names, w.before args s' = true := vx_own hat' (vx_isRefq hU'.1) (vx_isRefq hN'.1) hU'.2.word hN'.2.word
  have hown' : s'.vm.findClass own = some m.cls := by rw [hvm]; exact hown
  have hins : (Cond.instantiable cls 6).before args s' = true := h _ (by simp [Bundle.ownAtoms])
  obtain ⟨vm₁, cX, kX, hfX, hkX, -, -, X₁, st1⟩ := Y.newCold hexec (own := own) (C := cls) (index := ik) (n := 6) hown' hk' hins hini'
    (g := F0 m pc ls rest) rfl (by rw [hb]; exact d0) (Nat.le_refl _) (Nat.le_refl _)
  generalize hT1 : (T.setVm vm₁).pushCell { cls := cX, slots := kX.instanceTypes.map defaultValue, vm := .none } = T1 at X₁ st1
  have hcat : (Value.ref T.heap.size).category = 1 := rfl
  have hcellA : T1.heap[T.heap.size]? = some (freshCell cX kX) := by rw [← hT1]; exact State.heap_pushCell_size _ _
  have d3' : decode c.code (pc + 3) = .ok (.dup, 1) := by rw [hb]; exact d3
  have d4' : decode c.code (pc + 4) = .ok (.ldc_w is, 3) := by rw [hb]; exact d4
  have hstr' : vk_R own is text sa s' := vk_R.warm hW0 hstr
  obtain ⟨U, hsteps, hrun, hend, hW, hsame, ce, hce, hO⟩ := X₁.ctorThrowS hexec htr (own := own) (cls := cls) (names := names) (ic := ic) hown' hcls hnames h (fun x hx => nomatch hx) hfX hkX hcellA (by rw [hhp, hT]; exact Nat.le_refl _) (msg := .ref sa) rfl
    (g := { method := m, pc := pc + 7, locals := ls, stack := .ref sa :: .ref T.heap.size :: .ref T.heap.size :: rest, locked := none }) rfl hsize rfl rfl (rest := rest) rfl
    (by rw [hb]; exact d7) (by rw [hb]; exact d10) hout hRframes (by simp only [List.map_cons, List.sum_cons, hcat]; omega) hlocks
  obtain ⟨f1, f2⟩ := vx_frame hsame
  rw [hhp] at f1 f2
  have hWs : s.WarmedH U.vm := State.WarmedH.trans hW0 hW
  have hcl : s.vm.findClass cls = some ce.cls := by
    have h9 := hO.cls
    rw [hvm] at h9
    exact h9
  have hall : s.sameButNew ({ U with vm := s.vm } : State) locs mc ms := by
    subst hA
    obtain ⟨e1, e2⟩ := hsame
    rw [State.setFrames_setFrames] at e1
    have h2 : (T.setVm s.vm).sameButNew ({ U with vm := s.vm } : State) [] (0 + 1) (0 + 6) := ⟨e1, e2⟩
    have h3 := X.same.trans h2
    rw [List.append_nil] at h3
    exact h3.mono hc hs
  refine ⟨U, ?_, .threw T.heap.size, hrun, hend, Or.inr ⟨T.heap.size, rfl, cls, ce, locs, hx U hWs.alike f1 (fun q hq => f2 q hq (fun z hz => nomatch hz)), hce, hO.vm, hcl, hWs, hall, hf⟩⟩
  refine st1 _ ?_
  show Steps p.tables e below (T1.setTop { method := m, pc := pc + 3, locals := ls, stack := .ref T.heap.size :: rest, locked := none }) _
  jvm_step X₁.here [X₁.here.top, hexec, d3', Value.category]
  exact X₁.ldcStringW hexec (own := own) (text := text) (index := is) (a := sa) hown' hstr'.1 hstr'.2
    (g := { method := m, pc := pc + 4, locals := ls, stack := .ref T.heap.size :: .ref T.heap.size :: rest, locked := none }) rfl d4' _ hsteps
end Ends
section Bodies
variable {l : Launch}
theorem vx_ofW {y : MethodName} {ws ws' : List Cond} {rm : Room} {Pc : Array Value → State → Prop} {Qc : Array Value → State → Outcome → State → Prop} {XC : String → State → State → Prop} {mc ms : Nat} {free : Addr → Prop} {cc : ByteArray} {maxL : Nat} {ret : Option FieldType}
    (hy : plainName y.cls = true) (hw : ws = Cond.code y cc maxL ret :: ws')
    (body : ∀ p e s m args below meth c s₁, BodyLoose p l y (headSpec ws rm) cc maxL ret e s m args below meth c s₁ → c.maxLocals = maxL → (∀ x ∈ c.exceptionTable.toList, False) → Pc args s →
      W p l e (headSpec ws rm).room s m args below meth c s.heap [] 0 0 (vx_MQ below Qc XC args s mc ms free) (entryFrame m args maxL)) : vx_Met l y ws rm Pc Qc XC mc ms free := by
  refine MetFree.of_bodyS (code := cc) (maxLocals := maxL) (ret := ret) hy ?_ ?_
  · intro args s m h hn
    obtain ⟨meth, c, h1, h2, h3, h4, h5, h6, -, -⟩ := Cond.code_spec hn (atoms_spec (ws := ws) h _ (by rw [hw]; exact List.mem_cons_self))
    exact ⟨meth, c, h1, h2, h3, h4, h5, h6⟩
  · intro p e s m args below meth c s₁ B hml hP _
    have hh0 : s₁.heap = s.heap := by rw [B.state]; rfl
    have ht : ∀ x ∈ c.exceptionTable.toList, False := by
      obtain ⟨meth9, c9, h1, h2, -, -, -, -, h7, -⟩ := Cond.code_spec B.named (atoms_spec (ws := ws) B.pre _ (by rw [hw]; exact List.mem_cons_self))
      cases Option.some.inj (h1.symm.trans B.method)
      cases Option.some.inj (h2.symm.trans (Stand.of_body B).code)
      intro x hx
      rw [Array.isEmpty_iff.mp h7] at hx
      cases hx
    obtain ⟨t, a1, o, b1, b2, b3⟩ := body p e s m args below meth c s₁ B hml ht hP s₁ hh0 (Stand.of_body B)
    exact ⟨t, o, a1, b1, b2, b3⟩
/-- the table of a body with handlers -/
theorem vx_table {p : Program} {x y : MethodName} {S : Spec} {cc bytes : ByteArray} {maxL maxL' : Nat} {ret ret' : Option FieldType} {e : Env} {s s₁ : State} {m : MethodId} {args : Array Value} {below : List Frame} {meth : Method} {c : Code} {hh : List (Nat × Nat × Nat × Nat)}
    (B : BodyLoose p l y S cc maxL ret e s m args below meth c s₁) (h : (Cond.codeWith y bytes maxL' ret' hh).before args s = true) : c.exceptionTable.toList = tableOf hh := by
  obtain ⟨m9, meth9, c9, hn9, h1, h2, -, -, h6, -⟩ := Cond.codeWith_spec h
  cases Option.some.inj (hn9.symm.trans B.named)
  cases Option.some.inj (h1.symm.trans B.method)
  cases Option.some.inj (h2.symm.trans (Stand.of_body B).code)
  rw [← h6, table_eq]
end Bodies
end VXA
/-! ===== END ===== -/
/-! ===== BEGIN a static call of a method with an exception table ===== -/
section VXS
variable {p : Program} {l : Launch} {e : Env} {R : Room} {s : State} {m : MethodId} {args : Array Value} {below : List Frame} {meth : Method} {c : Code} {T : State} {H : Heap} {locs : List Loc} {cells slots : Nat}
abbrev vx_CSW (R : Room) (s : State) (args : Array Value) (own : String) (index : Nat) (y : MethodName) (bytes : ByteArray) (maxL : Nat) (ret : Option FieldType) (hh : List (Nat × Nat × Nat × Nat)) (ws : List Cond) (rm : Room) (mc ms n : Nat) : Prop :=
  (rm.cells = mc ∧ rm.slots = ms ∧ rm.frames + 1 ≤ R.frames ∧ 8 + (maxL + 11) + rm.locals ≤ R.locals ∧ (∀ w ∈ ws, ∀ (a' : Array Value) (U : State), s.WarmedH U.vm → w.before a' U = true) ∧ Cond.codeWith y bytes maxL ret hh ∈ ws) ∧
  (Cond.codeWith y bytes maxL ret hh).before args s = true ∧ (Cond.initialized y.cls).before args s = true ∧ (y.cls ≠ "java/lang/invoke/MethodHandle" ∧ y.cls ≠ "java/lang/invoke/VarHandle") ∧
  (∀ sig, parseMethodDescriptor y.desc = some sig → n = sig.parameters.length) ∧ (Cond.methodLink own index y).before args s = true ∧ (Cond.static y).before args s = true
theorem vx_cwSW {own : String} {index maxL mc ms : Nat} {y : MethodName} {bytes : ByteArray} {ret : Option FieldType} {hh : List (Nat × Nat × Nat × Nat)} {Ts ws ws' : List Cond} {rm : Room} (n : Nat) (ht : ∀ w ∈ Ts, w.before args s = true) (hT : GoodIn Ts (va_wsS own index y ws)) (hw : ws = Cond.codeWith y bytes maxL ret hh :: ws') (hrc : rm.cells = mc) (hrs : rm.slots = ms)
    (hd : y.cls ≠ "java/lang/invoke/MethodHandle" ∧ y.cls ≠ "java/lang/invoke/VarHandle" ∧ (parseMethodDescriptor y.desc).map (fun d => d.parameters.length) = some n) (hR : rm.frames + 1 ≤ R.frames ∧ 8 + (maxL + 11) + rm.locals ≤ R.locals) :
    vx_CSW R s args own index y bytes maxL ret hh ws rm mc ms n := by
  have ok : ∀ w ∈ va_wsS own index y ws, w.before args s = true := fun w h => ht w (hT w h).1
  have hG : GoodIn Ts ws := fun w h => hT w (by unfold va_wsS; exact List.mem_append_right _ h)
  have hc : Cond.codeWith y bytes maxL ret hh ∈ ws := by rw [hw]; exact List.mem_cons_self
  refine ⟨⟨hrc, hrs, hR.1, hR.2, pay_in ht hG, hc⟩, ht _ (hG _ hc).1, ok _ (by simp [va_wsS]), ⟨hd.1, hd.2.1⟩, fun sig h => ?_, ok _ (by simp [va_wsS]), ok _ (by simp [va_wsS])⟩
  have h2 := hd.2.2
  rw [h] at h2
  exact (Option.some.inj h2).symm
theorem vx_callSW (X : Stand p l e R s m args below meth c T locs cells slots) (hexec : p.tables.exec = Jvm.exec) {own : String} {index : Nat} {y : MethodName} {bytes : ByteArray} {maxL : Nat} {ret : Option FieldType} {hh : List (Nat × Nat × Nat × Nat)}
    (hown : s.vm.findClass own = some m.cls) (hlink : (Cond.methodLink own index y).before args s = true) (hstat : (Cond.static y).before args s = true) (hinit : (Cond.initialized y.cls).before args s = true)
    (hcode : (Cond.codeWith y bytes maxL ret hh).before args s = true) (hy : y.cls ≠ "java/lang/invoke/MethodHandle" ∧ y.cls ≠ "java/lang/invoke/VarHandle")
    {W9 : Nat} {Pre : Pt → Array Value → Prop} {Post : Pt → Array Value → Option Value → Pt → Prop} (hK : Back l R p e below s args y 3 W9 Pre Post)
    {g : JFrame} (hg : g.method = m) (hsize : g.locals.size = c.maxLocals) {argsL rest : List Value} (hlen : ∀ sig, parseMethodDescriptor y.desc = some sig → argsL.length = sig.parameters.length)
    (hstack : g.stack = argsL.reverse ++ rest) (hW : 2 * g.monitorRoom + (rest.map fun v => v.category).sum ≤ W9) (hdg : decode c.code g.pc = .ok (.invokestatic index, 3))
    (hpre : ∀ vm₁, s.WarmedH vm₁ → Pre ⟨T.setVm vm₁, locs, cells, slots⟩ argsL.toArray) :
    ∃ (v : Option Value) (vm₁ : Vm) (B : Pt), s.WarmedH vm₁ ∧ Stand p l e R s m args below meth c B.U B.locs B.cells B.slots ∧ Post ⟨T.setVm vm₁, locs, cells, slots⟩ argsL.toArray v B ∧
      ∀ target, Steps p.tables e below (B.U.setTop { g with pc := g.pc + 3, stack := v.toList ++ rest }) target → Steps p.tables e below (T.setTop g) target := by
  obtain ⟨mk, methM, cM, hnamed, hmethM, -, -, -, -, -, -, hsigM⟩ := Cond.codeWith_spec hcode
  have hstatic : methM.isStatic = true := Cond.static_spec hnamed hmethM hstat
  obtain ⟨kP, hkP, -⟩ := className_of_methodNamed hnamed
  have hinitP : kP.init = .initialized := Cond.initialized_spec (findClass_of_methodNamed hnamed) hkP hinit
  obtain ⟨vm₁, X₁, hstep₁⟩ := X.invokestatic hexec hown hlink hnamed hmethM hstatic hkP hinitP hy (g := g) hg (argsL := argsL) (rest := rest) (hlen _ hsigM) hstack hdg
  obtain ⟨v, B, X', hpost, hsteps⟩ := hK m meth c ⟨T.setVm vm₁, locs, cells, slots⟩ { g with stack := rest } (.invokestatic index) mk argsL.toArray X₁ hg hsize hdg hW (X₁.named hnamed) (hpre vm₁ X₁.warmed)
  exact ⟨v, vm₁, B, X₁.warmed, X', hpost, fun target h => hstep₁ _ fun acts => by rw [doInvoke_state]; exact hsteps.trans h⟩
theorem vx_runSW {y : MethodName} {bytes cc : ByteArray} {maxL nL mc ms n index : Nat} {ret : Option FieldType} {hh : List (Nat × Nat × Nat × Nat)} {ws : List Cond} {rm : Room} {Pc : Array Value → State → Prop} {Qc : Array Value → State → Outcome → State → Prop} {free : Addr → Prop} {Ts : List Cond} {own : String} {As rest : List Value} {g : JFrame}
    (S : CallFix p m c cc nL s args Ts own) (hM : Met l y ws rm Pc Qc mc ms free) (cw : vx_CSW R s args own index y bytes maxL ret hh ws rm mc ms n) (hp : PreS s H Pc As)
    (hg : g.method = m) (hn : As.length = n) (hsize : g.locals.size = nL) (hstack : g.stack = As.reverse ++ rest) (hW : 2 * g.monitorRoom + (rest.map fun v => v.category).sum ≤ 8) (hdg : decode cc g.pc = .ok (.invokestatic index, 3)) (hf : cells + mc ≤ R.cells ∧ slots + ms ≤ R.slots) :
    va_Run p l e R s m args below meth c H locs cells slots mc ms g rest (Qc As.toArray) (free) := by
  obtain ⟨⟨hrc, hrs, hfr, hlo, hws, hcw⟩, hcode, hini, hy, hlen, hl, hstt⟩ := cw
  have hK : Back l R p e below s args y 3 8 (PreOf R mc ms Pc) (PostOf Qc mc ms free) := va_backW (hh := hh) (bytes := bytes) (maxL := maxL) (ret := ret) hM hp.1 hrc hrs hfr hlo hws hcw (fun a' U hW => word_at hW (Or.inl (by first | rfl | simp [Cond.onTables, Cond.keeps, Cond.steady])) hini)
  obtain ⟨hx, hb, hml, ho, -⟩ := S
  intro T hT X
  obtain ⟨v, vm₁, ⟨U', l2, c2, s2⟩, hW₁, X', ⟨g', mk, t, L, e1, e2, hq, h1, hL, h2, h3⟩, st⟩ := vx_callSW X hx (hh := hh) (bytes := bytes) (maxL := maxL) (ret := ret) ho hl hstt hini hcode hy hK hg (hsize.trans hml.symm) (argsL := As) (rest := rest) (fun sig h => hn.trans (hlen sig h)) hstack hW (by rw [hb]; exact hdg)
    (fun vm₁ hW₁ => ⟨hf.1, hf.2, hp.2 (T.setVm vm₁) hT hW₁⟩)
  dsimp only [Pt.U, Pt.locs, Pt.cells, Pt.slots] at X' e1 e2 h1 h2 h3 st
  subst h1; subst h2; subst h3
  exact ⟨v, (T.setVm vm₁).calling g' mk As.toArray, t, U', L, hT, X', hL, e1, e2, hq, st⟩
/-- a thing of a world lies in the heap -/
theorem vx_lt {D : va_G} {cl : List vw_C} {ws : va_W} {H1 : Heap} (h : va_P D cl ws H1) {k : Nat} {q : Nat × va_E} (hk : ws[k]? = some q) : q.1 < H1.size := (h k q hk).lt
end VXS
/-! ===== END ===== -/
/-! ===== BEGIN methods with a table of their own: called by a name, returning or throwing ===== -/
section VXH
/-! vx_backW, vx_callVX, vx_callSX, vx_callVW, vx_runVW, vx_runVX, vx_runSX, vx_ofWH follow the same proofs as their sisters above (Free/Laws.lean, Shelf42/LK1.lean); vx_outP calls Shelf42/NT130.lean (outThrough). -/
section
variable {l : Launch} {R : Room} {p : Program} {e : Env} {below : List Frame} {s : State} {sargs : Array Value} {y : MethodName} {len W9 : Nat}
theorem vx_backW {ws : List Cond} {rm : Room} {Pc : Array Value → State → Prop} {Qc : Array Value → State → Outcome → State → Prop} {XC : String → State → State → Prop} {mc ms : Nat} {free : Addr → Prop} {bytes : ByteArray} {maxL : Nat} {ret : Option FieldType} {hh : List (Nat × Nat × Nat × Nat)}
    (hM : vx_Met l y ws rm Pc Qc XC mc ms free) (hblind : FrameBlind Pc) (hrc : rm.cells = mc) (hrs : rm.slots = ms)
    (hframes : rm.frames + 1 ≤ R.frames) (hlocals : W9 + (maxL + 11) + rm.locals ≤ R.locals)
    (hws : ∀ w ∈ ws, ∀ a' U, s.WarmedH U.vm → w.before a' U = true) (hcode : Cond.codeWith y bytes maxL ret hh ∈ ws) (hinit : ∀ a' U, s.WarmedH U.vm → (Cond.initialized y.cls).before a' U = true) :
    vx_Back l R p e below s sargs y len W9 (PreOf R mc ms Pc) (PostOf Qc mc ms free) (vx_Post XC mc ms free) := by
  intro m meth c A g ig mk a X hg hsize hdg hW hn hp
  have h1 : (headSpec ws rm).pre.before a A.U = true := atoms_intro fun w hw => hws w hw _ _ X.warmed
  have h2 : (Cond.codeWith y bytes maxL ret hh).before a A.U = true := hws _ hcode _ _ X.warmed
  have h3 : (Cond.initialized y.cls).before a A.U = true := hinit _ _ X.warmed
  have h4 : A.cells + (headSpec ws rm).room.cells ≤ R.cells := by rw [show (headSpec ws rm).room.cells = mc from hrc]; exact hp.1
  have h5 : A.slots + (headSpec ws rm).room.slots ≤ R.slots := by rw [show (headSpec ws rm).room.slots = ms from hrs]; exact hp.2.1
  have hPc : Pc a (A.U.calling g mk a) := hblind _ _ _ _ hp.2.2
  obtain ⟨U, Ls, c0, s0⟩ := A
  dsimp only [Pt.U, Pt.locs, Pt.cells, Pt.slots] at h1 h2 h3 h4 h5 X hn hPc ⊢
  obtain ⟨m9, methY, cY, hn9, hmY, hcY, -, hlY, -⟩ := Cond.codeWith_spec h2
  cases Option.some.inj (hn9.symm.trans hn)
  obtain ⟨kY, hkY, -⟩ := className_of_methodNamed hn
  have hinitY : kY.init = .initialized := Cond.initialized_spec (findClass_of_methodNamed hn) hkY h3
  have h : At U g.method c below := by rw [hg]; exact X.here
  have hlocals9 : W9 + (maxL + 11) + (headSpec ws rm).room.locals ≤ R.locals := hlocals
  have happ : (headSpec ws rm).appliesLoose y e.platform (U.calling g mk a) = true :=
    Spec.appliesLoose_calling (g := g) h hdg hn hkY hinitY
      (X.room_calling (g := g) (R' := (headSpec ws rm).room) hsize hmY hcY hframes (by rw [hlY]; omega) h4 h5) h1
  obtain ⟨mid, hmid⟩ := h.above
  have hfr : (U.setTop g).frames = (.java g :: mid) ++ below := by rw [State.frames_setTop' g h.top, hmid]; rfl
  obtain ⟨o, s₂, hsteps, -, hend, hq⟩ := Steps.callFree hM p X.admits X.cas X.clock (acts := []) hfr happ hPc trivial
  have hq' : vx_Q Qc XC mc ms free a (U.calling g mk a) o s₂ := hq
  rw [State.frames_setTop' g h.top] at hend
  obtain ⟨g₀, hg0⟩ := Option.isSome_iff_exists.mp h.top
  obtain ⟨r, hr⟩ := State.topJava?_eq_some.mp hg0
  have hr' : (({ U with heap := s₂.heap, slotsUsed := s₂.slotsUsed } : State).setVm s₂.vm).frames = .java g₀ :: r := hr
  rcases hq' with ⟨hqc, L, hfe, hL⟩ | ⟨q, rfl, E, ce, L, hx, hce, hcv, hcl, hW₂, hsm, hL⟩
  · obtain ⟨⟨v, rfl⟩, hW₂, e2, q2, q3, q4, q5, q6⟩ := id hfe
    have e3 : s₂ = ({ (U.calling g mk a).setFrames s₂.frames with heap := s₂.heap, slotsUsed := s₂.slotsUsed } : State).setVm s₂.vm := by
      have : s₂ = ({ s₂ with vm := (U.calling g mk a).vm } : State).setVm s₂.vm := rfl
      rw [e2] at this
      exact this
    obtain ⟨c₂, i₂, len₂, hc₂, hd₂, hf₂⟩ := hend
    have hW' : U.WarmedH s₂.vm := hW₂
    have hcc : c₂ = c := by
      have h1 : s₂.code? g.method = U.code? g.method := by
        rw [State.code?_eq, State.code?_eq, hW'.alike.method?]
      exact Option.some.inj (hc₂.symm.trans (h1.trans h.code))
    subst hcc
    have hlen : len₂ = len := by rw [hdg] at hd₂; cases hd₂; rfl
    subst hlen
    have hs₂ : s₂ = (({ U with heap := s₂.heap, slotsUsed := s₂.slotsUsed } : State).setVm s₂.vm).setTop { g with pc := g.pc + len₂, stack := v.toList ++ g.stack } := by
      refine e3.trans ?_
      rw [hf₂, State.calling_eq h.top, State.setFrames_setFrames, State.setTop_of_frames _ hr', hr]
      rfl
    have hsame : U.sameButNew ({ U with heap := s₂.heap, slotsUsed := s₂.slotsUsed } : State) L mc ms := by
      refine ⟨?_, q2, q3, q4, q5, q6⟩
      obtain ⟨t, ht, -⟩ := State.frames_cons hr
      show ({ U with heap := s₂.heap, slotsUsed := s₂.slotsUsed } : State) = { U.setFrames U.frames with heap := s₂.heap, slotsUsed := s₂.slotsUsed }
      rw [State.setFrames_self ht]
    subst hg
    refine Or.inl ⟨v, ⟨(({ U with heap := s₂.heap, slotsUsed := s₂.slotsUsed } : State).setVm s₂.vm), Ls ++ L, c0 + mc, s0 + ms⟩,
      ⟨X.admits, X.cas, X.clock, X.frames, X.room, X.hears, X.method, X.code, (X.here.setHeapUsed s₂.heap s₂.slotsUsed).setVm hW'.alike, X.tail, State.WarmedH.trans X.warmed hW', X.limits, X.bytes, X.same.trans (hsame.setVm s.vm)⟩,
      ⟨g, mk, s₂, L, rfl, rfl, hqc, rfl, hL, rfl, rfl⟩, ?_⟩
    show Steps p.tables e below _ ((({ U with heap := s₂.heap, slotsUsed := s₂.slotsUsed } : State).setVm s₂.vm).setTop { g with pc := g.pc + len₂, stack := v.toList ++ g.stack })
    rw [← hs₂]
    exact hsteps
  · obtain ⟨e2, q2, q3, q4, q5, q6⟩ := id hsm
    have e3 : s₂ = ({ (U.calling g mk a).setFrames s₂.frames with heap := s₂.heap, slotsUsed := s₂.slotsUsed } : State).setVm s₂.vm := by
      have : s₂ = ({ s₂ with vm := (U.calling g mk a).vm } : State).setVm s₂.vm := rfl
      rw [e2] at this
      exact this
    have hf₂ : s₂.frames = .throwing q :: .java g :: U.frames.tail := hend
    have hW' : U.WarmedH s₂.vm := hW₂
    have hs₂ : s₂ = ((({ U with heap := s₂.heap, slotsUsed := s₂.slotsUsed } : State).setVm s₂.vm).setTop g).pushFrame (.throwing q) := by
      refine e3.trans ?_
      rw [hf₂, State.calling_eq h.top, State.setFrames_setFrames, State.pushFrame, State.frames_setTop _ hr', State.setTop_of_frames _ hr', State.setFrames_setFrames, hr]
      rfl
    have hsame : U.sameButNew ({ U with heap := s₂.heap, slotsUsed := s₂.slotsUsed } : State) L mc ms := by
      refine ⟨?_, q2, q3, q4, q5, q6⟩
      obtain ⟨t, ht, -⟩ := State.frames_cons hr
      show ({ U with heap := s₂.heap, slotsUsed := s₂.slotsUsed } : State) = { U.setFrames U.frames with heap := s₂.heap, slotsUsed := s₂.slotsUsed }
      rw [State.setFrames_self ht]
    subst hg
    refine Or.inr ⟨q, ⟨(({ U with heap := s₂.heap, slotsUsed := s₂.slotsUsed } : State).setVm s₂.vm), Ls ++ L, c0 + mc, s0 + ms⟩,
      ⟨X.admits, X.cas, X.clock, X.frames, X.room, X.hears, X.method, X.code, (X.here.setHeapUsed s₂.heap s₂.slotsUsed).setVm hW'.alike, X.tail, State.WarmedH.trans X.warmed hW', X.limits, X.bytes, X.same.trans (hsame.setVm s.vm)⟩,
      ⟨g, mk, s₂, L, E, ce, rfl, rfl, hx, hce, hcv, hcl, rfl, hL, rfl, rfl⟩, ?_⟩
    show Steps p.tables e below _ (((({ U with heap := s₂.heap, slotsUsed := s₂.slotsUsed } : State).setVm s₂.vm).setTop g).pushFrame (.throwing q))
    rw [← hs₂]
    exact hsteps
end
variable {p : Program} {l : Launch} {e : Env} {R : Room} {s : State} {m : MethodId} {args : Array Value} {below : List Frame} {meth : Method} {c : Code} {T : State} {H : Heap} {locs : List Loc} {cells slots : Nat}
theorem vx_callVX (X : Stand p l e R s m args below meth c T locs cells slots) (hexec : p.tables.exec = Jvm.exec) {own C : String} {index : Nat} {y : MethodName} {bytes : ByteArray} {maxL : Nat} {ret : Option FieldType} {hh : List (Nat × Nat × Nat × Nat)}
    (hown : s.vm.findClass own = some m.cls) (hlink : (Cond.methodLink own index y).before args s = true) (hinst : (Cond.instanceMethod y).before args s = true) (hsel : (Cond.selects C y y).before args s = true)
    (hcode : (Cond.codeWith y bytes maxL ret hh).before args s = true) (hy : y.cls ≠ "java/lang/invoke/MethodHandle" ∧ y.cls ≠ "java/lang/invoke/VarHandle")
    {W9 : Nat} {Pre : Pt → Array Value → Prop} {Post : Pt → Array Value → Option Value → Pt → Prop} {PostX : Pt → Array Value → Addr → Pt → Prop} (hK : vx_Back l R p e below s args y 3 W9 Pre Post PostX)
    {b : Addr} {cellB : Cell} (hcell : T.heap[b]? = some cellB) (hobj : cellB.vm.isStatics = false) (hcls : s.vm.findClass C = some cellB.cls)
    {g : JFrame} (hg : g.method = m) (hsize : g.locals.size = c.maxLocals) {argsL rest : List Value} (hlen : ∀ sig, parseMethodDescriptor y.desc = some sig → argsL.length = sig.parameters.length)
    (hstack : g.stack = argsL.reverse ++ .ref b :: rest) (hW : 2 * g.monitorRoom + (rest.map fun v => v.category).sum ≤ W9) (hdg : decode c.code g.pc = .ok (.invokevirtual index, 3))
    (hpre : ∀ vm₁, s.WarmedH vm₁ → Pre ⟨T.setVm vm₁, locs, cells, slots⟩ (Value.ref b :: argsL).toArray) :
    (∃ (v : Option Value) (vm₁ : Vm) (B : Pt), s.WarmedH vm₁ ∧ Stand p l e R s m args below meth c B.U B.locs B.cells B.slots ∧ Post ⟨T.setVm vm₁, locs, cells, slots⟩ (Value.ref b :: argsL).toArray v B ∧
      ∀ target, Steps p.tables e below (B.U.setTop { g with pc := g.pc + 3, stack := v.toList ++ rest }) target → Steps p.tables e below (T.setTop g) target) ∨
    (∃ (q : Addr) (vm₁ : Vm) (B : Pt), s.WarmedH vm₁ ∧ Stand p l e R s m args below meth c B.U B.locs B.cells B.slots ∧ PostX ⟨T.setVm vm₁, locs, cells, slots⟩ (Value.ref b :: argsL).toArray q B ∧
      Steps p.tables e below (T.setTop g) ((B.U.setTop { g with stack := rest }).pushFrame (.throwing q))) := by
  obtain ⟨mk, methM, hnamed, hmethM, hstM, habM⟩ := Cond.instanceMethod_spec hinst
  obtain ⟨m8, methM', cM, hn8, hmethM', -, -, -, -, -, -, hsigM⟩ := Cond.codeWith_spec hcode
  cases Option.some.inj (hn8.symm.trans hnamed)
  cases hmethM.symm.trans hmethM'
  obtain ⟨c2, r2, m2, q1, q2, q3, q4, kP, hkP, hkPi⟩ := Cond.selects_spec hsel
  cases hcls.symm.trans q1
  cases (State.methodFound?_of_named hnamed hy).symm.trans q2
  cases hnamed.symm.trans q3
  have hselP : selectMethod e.platform s.vm cellB.cls mk = .method mk := by rw [Launch.admits_selectMethod X.admits]; exact q4
  obtain ⟨vm₁, X₁, hstep₁⟩ := X.invokevirtual hexec hown hlink hnamed hmethM hstM hkP hkPi hy (a := b) (cell := cellB) hcell
    (fun z h => by rw [h] at hobj; cases hobj) hselP hmethM habM hkP hkPi (g := g) hg (argsL := argsL) (rest := rest) (hlen _ hsigM) hstack hdg
  rcases hK m meth c ⟨T.setVm vm₁, locs, cells, slots⟩ { g with stack := rest } (.invokevirtual index) mk (Value.ref b :: argsL).toArray X₁ hg hsize hdg hW (X₁.named hnamed) (hpre vm₁ X₁.warmed) with ⟨v, B, X', hpost, hsteps⟩ | ⟨q, B, X', hpost, hsteps⟩
  · exact Or.inl ⟨v, vm₁, B, X₁.warmed, X', hpost, fun target h => hstep₁ _ fun acts => by rw [doInvoke_state]; exact hsteps.trans h⟩
  · exact Or.inr ⟨q, vm₁, B, X₁.warmed, X', hpost, hstep₁ _ fun acts => by rw [doInvoke_state]; exact hsteps⟩
theorem vx_callSX (X : Stand p l e R s m args below meth c T locs cells slots) (hexec : p.tables.exec = Jvm.exec) {own : String} {index : Nat} {y : MethodName} {bytes : ByteArray} {maxL : Nat} {ret : Option FieldType} {hh : List (Nat × Nat × Nat × Nat)}
    (hown : s.vm.findClass own = some m.cls) (hlink : (Cond.methodLink own index y).before args s = true) (hstat : (Cond.static y).before args s = true) (hinit : (Cond.initialized y.cls).before args s = true)
    (hcode : (Cond.codeWith y bytes maxL ret hh).before args s = true) (hy : y.cls ≠ "java/lang/invoke/MethodHandle" ∧ y.cls ≠ "java/lang/invoke/VarHandle")
    {W9 : Nat} {Pre : Pt → Array Value → Prop} {Post : Pt → Array Value → Option Value → Pt → Prop} {PostX : Pt → Array Value → Addr → Pt → Prop} (hK : vx_Back l R p e below s args y 3 W9 Pre Post PostX)
    {g : JFrame} (hg : g.method = m) (hsize : g.locals.size = c.maxLocals) {argsL rest : List Value} (hlen : ∀ sig, parseMethodDescriptor y.desc = some sig → argsL.length = sig.parameters.length)
    (hstack : g.stack = argsL.reverse ++ rest) (hW : 2 * g.monitorRoom + (rest.map fun v => v.category).sum ≤ W9) (hdg : decode c.code g.pc = .ok (.invokestatic index, 3))
    (hpre : ∀ vm₁, s.WarmedH vm₁ → Pre ⟨T.setVm vm₁, locs, cells, slots⟩ argsL.toArray) :
    (∃ (v : Option Value) (vm₁ : Vm) (B : Pt), s.WarmedH vm₁ ∧ Stand p l e R s m args below meth c B.U B.locs B.cells B.slots ∧ Post ⟨T.setVm vm₁, locs, cells, slots⟩ argsL.toArray v B ∧
      ∀ target, Steps p.tables e below (B.U.setTop { g with pc := g.pc + 3, stack := v.toList ++ rest }) target → Steps p.tables e below (T.setTop g) target) ∨
    (∃ (q : Addr) (vm₁ : Vm) (B : Pt), s.WarmedH vm₁ ∧ Stand p l e R s m args below meth c B.U B.locs B.cells B.slots ∧ PostX ⟨T.setVm vm₁, locs, cells, slots⟩ argsL.toArray q B ∧
      Steps p.tables e below (T.setTop g) ((B.U.setTop { g with stack := rest }).pushFrame (.throwing q))) := by
  obtain ⟨mk, methM, cM, hnamed, hmethM, -, -, -, -, -, -, hsigM⟩ := Cond.codeWith_spec hcode
  have hstatic : methM.isStatic = true := Cond.static_spec hnamed hmethM hstat
  obtain ⟨kP, hkP, -⟩ := className_of_methodNamed hnamed
  have hinitP : kP.init = .initialized := Cond.initialized_spec (findClass_of_methodNamed hnamed) hkP hinit
  obtain ⟨vm₁, X₁, hstep₁⟩ := X.invokestatic hexec hown hlink hnamed hmethM hstatic hkP hinitP hy (g := g) hg (argsL := argsL) (rest := rest) (hlen _ hsigM) hstack hdg
  rcases hK m meth c ⟨T.setVm vm₁, locs, cells, slots⟩ { g with stack := rest } (.invokestatic index) mk argsL.toArray X₁ hg hsize hdg hW (X₁.named hnamed) (hpre vm₁ X₁.warmed) with ⟨v, B, X', hpost, hsteps⟩ | ⟨q, B, X', hpost, hsteps⟩
  · exact Or.inl ⟨v, vm₁, B, X₁.warmed, X', hpost, fun target h => hstep₁ _ fun acts => by rw [doInvoke_state]; exact hsteps.trans h⟩
  · exact Or.inr ⟨q, vm₁, B, X₁.warmed, X', hpost, hstep₁ _ fun acts => by rw [doInvoke_state]; exact hsteps⟩
theorem vx_callVW (X : Stand p l e R s m args below meth c T locs cells slots) (hexec : p.tables.exec = Jvm.exec) {own C : String} {index : Nat} {y : MethodName} {bytes : ByteArray} {maxL : Nat} {ret : Option FieldType} {hh : List (Nat × Nat × Nat × Nat)}
    (hown : s.vm.findClass own = some m.cls) (hlink : (Cond.methodLink own index y).before args s = true) (hinst : (Cond.instanceMethod y).before args s = true) (hsel : (Cond.selects C y y).before args s = true)
    (hcode : (Cond.codeWith y bytes maxL ret hh).before args s = true) (hy : y.cls ≠ "java/lang/invoke/MethodHandle" ∧ y.cls ≠ "java/lang/invoke/VarHandle")
    {W9 : Nat} {Pre : Pt → Array Value → Prop} {Post : Pt → Array Value → Option Value → Pt → Prop} (hK : Back l R p e below s args y 3 W9 Pre Post)
    {b : Addr} {cellB : Cell} (hcell : T.heap[b]? = some cellB) (hobj : cellB.vm.isStatics = false) (hcls : s.vm.findClass C = some cellB.cls)
    {g : JFrame} (hg : g.method = m) (hsize : g.locals.size = c.maxLocals) {argsL rest : List Value} (hlen : ∀ sig, parseMethodDescriptor y.desc = some sig → argsL.length = sig.parameters.length)
    (hstack : g.stack = argsL.reverse ++ .ref b :: rest) (hW : 2 * g.monitorRoom + (rest.map fun v => v.category).sum ≤ W9) (hdg : decode c.code g.pc = .ok (.invokevirtual index, 3))
    (hpre : ∀ vm₁, s.WarmedH vm₁ → Pre ⟨T.setVm vm₁, locs, cells, slots⟩ (Value.ref b :: argsL).toArray) :
    ∃ (v : Option Value) (vm₁ : Vm) (B : Pt), s.WarmedH vm₁ ∧ Stand p l e R s m args below meth c B.U B.locs B.cells B.slots ∧ Post ⟨T.setVm vm₁, locs, cells, slots⟩ (Value.ref b :: argsL).toArray v B ∧
      ∀ target, Steps p.tables e below (B.U.setTop { g with pc := g.pc + 3, stack := v.toList ++ rest }) target → Steps p.tables e below (T.setTop g) target := by
  obtain ⟨mk, methM, hnamed, hmethM, hstM, habM⟩ := Cond.instanceMethod_spec hinst
  obtain ⟨m8, methM', cM, hn8, hmethM', -, -, -, -, -, -, hsigM⟩ := Cond.codeWith_spec hcode
  cases Option.some.inj (hn8.symm.trans hnamed)
  cases hmethM.symm.trans hmethM'
  obtain ⟨c2, r2, m2, q1, q2, q3, q4, kP, hkP, hkPi⟩ := Cond.selects_spec hsel
  cases hcls.symm.trans q1
  cases (State.methodFound?_of_named hnamed hy).symm.trans q2
  cases hnamed.symm.trans q3
  have hselP : selectMethod e.platform s.vm cellB.cls mk = .method mk := by rw [Launch.admits_selectMethod X.admits]; exact q4
  obtain ⟨vm₁, X₁, hstep₁⟩ := X.invokevirtual hexec hown hlink hnamed hmethM hstM hkP hkPi hy (a := b) (cell := cellB) hcell
    (fun z h => by rw [h] at hobj; cases hobj) hselP hmethM habM hkP hkPi (g := g) hg (argsL := argsL) (rest := rest) (hlen _ hsigM) hstack hdg
  obtain ⟨v, B, X', hpost, hsteps⟩ := hK m meth c ⟨T.setVm vm₁, locs, cells, slots⟩ { g with stack := rest } (.invokevirtual index) mk (Value.ref b :: argsL).toArray X₁ hg hsize hdg hW (X₁.named hnamed) (hpre vm₁ X₁.warmed)
  exact ⟨v, vm₁, B, X₁.warmed, X', hpost, fun target h => hstep₁ _ fun acts => by rw [doInvoke_state]; exact hsteps.trans h⟩
abbrev vx_CVW (R : Room) (s : State) (args : Array Value) (own C : String) (index : Nat) (y : MethodName) (bytes : ByteArray) (maxL : Nat) (ret : Option FieldType) (hh : List (Nat × Nat × Nat × Nat)) (ws : List Cond) (rm : Room) (mc ms n : Nat) : Prop :=
  (rm.cells = mc ∧ rm.slots = ms ∧ rm.frames + 1 ≤ R.frames ∧ 8 + (maxL + 11) + rm.locals ≤ R.locals ∧ (∀ w ∈ ws, ∀ (a' : Array Value) (U : State), s.WarmedH U.vm → w.before a' U = true) ∧ Cond.codeWith y bytes maxL ret hh ∈ ws) ∧
  (Cond.codeWith y bytes maxL ret hh).before args s = true ∧ (Cond.initialized y.cls).before args s = true ∧ (y.cls ≠ "java/lang/invoke/MethodHandle" ∧ y.cls ≠ "java/lang/invoke/VarHandle") ∧
  (∀ sig, parseMethodDescriptor y.desc = some sig → n = sig.parameters.length) ∧ (Cond.methodLink own index y).before args s = true ∧ (Cond.instanceMethod y).before args s = true ∧ (Cond.selects C y y).before args s = true
theorem vx_cwVW {own C : String} {index maxL mc ms : Nat} {y : MethodName} {bytes : ByteArray} {ret : Option FieldType} {hh : List (Nat × Nat × Nat × Nat)} {Ts ws ws' : List Cond} {rm : Room} (n : Nat) (ht : ∀ w ∈ Ts, w.before args s = true) (hT : GoodIn Ts (wsV own index C y ws)) (hw : ws = Cond.codeWith y bytes maxL ret hh :: ws') (hrc : rm.cells = mc) (hrs : rm.slots = ms)
    (hd : y.cls = C ∧ y.cls ≠ "java/lang/invoke/MethodHandle" ∧ y.cls ≠ "java/lang/invoke/VarHandle" ∧ (parseMethodDescriptor y.desc).map (fun d => d.parameters.length) = some n) (hR : rm.frames + 1 ≤ R.frames ∧ 8 + (maxL + 11) + rm.locals ≤ R.locals) :
    vx_CVW R s args own C index y bytes maxL ret hh ws rm mc ms n := by
  obtain ⟨hC, hd⟩ := hd
  subst hC
  have ok : ∀ w ∈ wsV own index y.cls y ws, w.before args s = true := fun w h => ht w (hT w h).1
  have hG : GoodIn Ts ws := fun w h => hT w (by unfold wsV; exact List.mem_append_right _ h)
  have hc : Cond.codeWith y bytes maxL ret hh ∈ ws := by rw [hw]; exact List.mem_cons_self
  refine ⟨⟨hrc, hrs, hR.1, hR.2, pay_in ht hG, hc⟩, ht _ (hG _ hc).1, ok _ (by simp [wsV]), ⟨hd.1, hd.2.1⟩, fun sig h => ?_, ok _ (by simp [wsV]), ok _ (by simp [wsV]), ok _ (by simp [wsV])⟩
  have h2 := hd.2.2
  rw [h] at h2
  exact (Option.some.inj h2).symm
theorem vx_runVW {y : MethodName} {bytes cc : ByteArray} {maxL nL mc ms n index : Nat} {ret : Option FieldType} {hh : List (Nat × Nat × Nat × Nat)} {ws : List Cond} {rm : Room} {Pc : Array Value → State → Prop} {Qc : Array Value → State → Outcome → State → Prop} {free : Addr → Prop} {Ts : List Cond} {own C : String} {b : Addr} {As rest : List Value} {g : JFrame}
    (S : CallFix p m c cc nL s args Ts own) (hM : Met l y ws rm Pc Qc mc ms free) (cw : vx_CVW R s args own C index y bytes maxL ret hh ws rm mc ms n) (hp : PreV s H C b Pc As)
    (hg : g.method = m) (hn : As.length = n) (hsize : g.locals.size = nL) (hstack : g.stack = As.reverse ++ .ref b :: rest) (hW : 2 * g.monitorRoom + (rest.map fun v => v.category).sum ≤ 8) (hdg : decode cc g.pc = .ok (.invokevirtual index, 3)) (hf : cells + mc ≤ R.cells ∧ slots + ms ≤ R.slots) :
    va_Run p l e R s m args below meth c H locs cells slots mc ms g rest (Qc (Value.ref b :: As).toArray) free := by
  obtain ⟨⟨hrc, hrs, hfr, hlo, hws, hcw⟩, hcode, hini, hy, hlen, hl, hin, hse⟩ := cw
  have hK : Back l R p e below s args y 3 8 (PreOf R mc ms Pc) (PostOf Qc mc ms free) := va_backW (hh := hh) (bytes := bytes) (maxL := maxL) (ret := ret) hM hp.1 hrc hrs hfr hlo hws hcw (fun a' U hW => word_at hW (Or.inl (by first | rfl | simp [Cond.onTables, Cond.keeps, Cond.steady])) hini)
  obtain ⟨hx, hb, hml, ho, -⟩ := S
  obtain ⟨-, ⟨cellB, hcB, hoB, hclB⟩, hPc⟩ := hp
  intro T hT X
  obtain ⟨v, vm₁, ⟨U', l2, c2, s2⟩, hW₁, X', ⟨g', mk, t, L, e1, e2, hq, h1, hL, h2, h3⟩, st⟩ := vx_callVW X hx (C := C) (hh := hh) (bytes := bytes) (maxL := maxL) (ret := ret) ho hl hin hse hcode hy hK (by rw [hT]; exact hcB) hoB hclB hg (hsize.trans hml.symm) (argsL := As) (rest := rest) (fun sig h => hn.trans (hlen sig h)) hstack hW (by rw [hb]; exact hdg)
    (fun vm₁ hW₁ => ⟨hf.1, hf.2, hPc (T.setVm vm₁) hT hW₁⟩)
  dsimp only [Pt.U, Pt.locs, Pt.cells, Pt.slots] at X' e1 e2 h1 h2 h3 st
  subst h1; subst h2; subst h3
  exact ⟨v, (T.setVm vm₁).calling g' mk (Value.ref b :: As).toArray, t, U', L, hT, X', hL, e1, e2, hq, st⟩
section
variable {y : MethodName} {bytes cc : ByteArray} {maxL nL mc ms n index : Nat} {ret : Option FieldType} {ws : List Cond} {rm : Room} {Pc : Array Value → State → Prop} {Qc : Array Value → State → Outcome → State → Prop} {XC : String → State → State → Prop} {free : Addr → Prop} {Ts : List Cond} {own C : String} {b : Addr} {As rest : List Value} {g : JFrame}
theorem vx_runVX {hh : List (Nat × Nat × Nat × Nat)} (S : CallFix p m c cc nL s args Ts own) (hM : vx_Met l y ws rm Pc Qc XC mc ms free) (cw : vx_CVW R s args own C index y bytes maxL ret hh ws rm mc ms n) (hp : PreV s H C b Pc As)
    (hg : g.method = m) (hn : As.length = n) (hsize : g.locals.size = nL) (hstack : g.stack = As.reverse ++ .ref b :: rest) (hW : 2 * g.monitorRoom + (rest.map fun v => v.category).sum ≤ 8) (hdg : decode cc g.pc = .ok (.invokevirtual index, 3)) (hf : cells + mc ≤ R.cells ∧ slots + ms ≤ R.slots) :
    vx_Run p l e R s m args below meth c H locs cells slots mc ms g rest (Qc (Value.ref b :: As).toArray) XC free := by
  obtain ⟨⟨hrc, hrs, hfr, hlo, hws, hcw⟩, hcode, hini, hy, hlen, hl, hin, hse⟩ := cw
  have hK : vx_Back l R p e below s args y 3 8 (PreOf R mc ms Pc) (PostOf Qc mc ms free) (vx_Post XC mc ms free) := vx_backW (hh := hh) (bytes := bytes) (maxL := maxL) (ret := ret) hM hp.1 hrc hrs hfr hlo hws hcw (fun a' U hW => word_at hW (Or.inl (by first | rfl | simp [Cond.onTables, Cond.keeps, Cond.steady])) hini)
  obtain ⟨hx, hb, hml, ho, -⟩ := S
  obtain ⟨-, ⟨cellB, hcB, hoB, hclB⟩, hPc⟩ := hp
  intro T hT X
  rcases vx_callVX X hx (C := C) (hh := hh) (bytes := bytes) (maxL := maxL) (ret := ret) ho hl hin hse hcode hy hK (by rw [hT]; exact hcB) hoB hclB hg (hsize.trans hml.symm) (argsL := As) (rest := rest) (fun sig h => hn.trans (hlen sig h)) hstack hW (by rw [hb]; exact hdg)
    (fun vm₁ hW₁ => ⟨hf.1, hf.2, hPc (T.setVm vm₁) hT hW₁⟩) with ⟨v, vm₁, ⟨U', l2, c2, s2⟩, hW₁, X', ⟨g', mk, t, L, e1, e2, hq, h1, hL, h2, h3⟩, st⟩ | ⟨q, vm₁, ⟨U', l2, c2, s2⟩, hW₁, X', ⟨g', mk, t, L, E, ce, e1, e2, hq, hce, hcv, hcl, h1, hL, h2, h3⟩, st⟩
  · dsimp only [Pt.U, Pt.locs, Pt.cells, Pt.slots] at X' e1 e2 h1 h2 h3 st
    subst h1; subst h2; subst h3
    exact Or.inl ⟨v, (T.setVm vm₁).calling g' mk (Value.ref b :: As).toArray, t, U', L, hT, X', hL, e1, e2, hq, st⟩
  · dsimp only [Pt.U, Pt.locs, Pt.cells, Pt.slots] at X' e1 e2 h1 h2 h3 st hcl
    subst h1; subst h2; subst h3
    exact Or.inr ⟨q, (T.setVm vm₁).calling g' mk (Value.ref b :: As).toArray, t, U', L, E, ce, hT, X', hL, e1, e2, hq, hce, hcv, vx_cls hW₁ hcl, st⟩
theorem vx_runSX {hh : List (Nat × Nat × Nat × Nat)} (S : CallFix p m c cc nL s args Ts own) (hM : vx_Met l y ws rm Pc Qc XC mc ms free) (cw : vx_CSW R s args own index y bytes maxL ret hh ws rm mc ms n) (hp : PreS s H Pc As)
    (hg : g.method = m) (hn : As.length = n) (hsize : g.locals.size = nL) (hstack : g.stack = As.reverse ++ rest) (hW : 2 * g.monitorRoom + (rest.map fun v => v.category).sum ≤ 8) (hdg : decode cc g.pc = .ok (.invokestatic index, 3)) (hf : cells + mc ≤ R.cells ∧ slots + ms ≤ R.slots) :
    vx_Run p l e R s m args below meth c H locs cells slots mc ms g rest (Qc As.toArray) XC free := by
  obtain ⟨⟨hrc, hrs, hfr, hlo, hws, hcw⟩, hcode, hini, hy, hlen, hl, hstt⟩ := cw
  have hK : vx_Back l R p e below s args y 3 8 (PreOf R mc ms Pc) (PostOf Qc mc ms free) (vx_Post XC mc ms free) := vx_backW (hh := hh) (bytes := bytes) (maxL := maxL) (ret := ret) hM hp.1 hrc hrs hfr hlo hws hcw (fun a' U hW => word_at hW (Or.inl (by first | rfl | simp [Cond.onTables, Cond.keeps, Cond.steady])) hini)
  obtain ⟨hx, hb, hml, ho, -⟩ := S
  intro T hT X
  rcases vx_callSX X hx (hh := hh) (bytes := bytes) (maxL := maxL) (ret := ret) ho hl hstt hini hcode hy hK hg (hsize.trans hml.symm) (argsL := As) (rest := rest) (fun sig h => hn.trans (hlen sig h)) hstack hW (by rw [hb]; exact hdg)
    (fun vm₁ hW₁ => ⟨hf.1, hf.2, hp.2 (T.setVm vm₁) hT hW₁⟩) with ⟨v, vm₁, ⟨U', l2, c2, s2⟩, hW₁, X', ⟨g', mk, t, L, e1, e2, hq, h1, hL, h2, h3⟩, st⟩ | ⟨q, vm₁, ⟨U', l2, c2, s2⟩, hW₁, X', ⟨g', mk, t, L, E, ce, e1, e2, hq, hce, hcv, hcl, h1, hL, h2, h3⟩, st⟩
  · dsimp only [Pt.U, Pt.locs, Pt.cells, Pt.slots] at X' e1 e2 h1 h2 h3 st
    subst h1; subst h2; subst h3
    exact Or.inl ⟨v, (T.setVm vm₁).calling g' mk As.toArray, t, U', L, hT, X', hL, e1, e2, hq, st⟩
  · dsimp only [Pt.U, Pt.locs, Pt.cells, Pt.slots] at X' e1 e2 h1 h2 h3 st hcl
    subst h1; subst h2; subst h3
    exact Or.inr ⟨q, (T.setVm vm₁).calling g' mk As.toArray, t, U', L, E, ce, hT, X', hL, e1, e2, hq, hce, hcv, vx_cls hW₁ hcl, st⟩
end
end VXH
theorem vx_ofWH {l : Launch} {y : MethodName} {ws ws' : List Cond} {rm : Room} {Pc : Array Value → State → Prop} {Qc : Array Value → State → Outcome → State → Prop} {XC : String → State → State → Prop} {mc ms : Nat} {free : Addr → Prop} {cc : ByteArray} {maxL : Nat} {ret : Option FieldType} {hh : List (Nat × Nat × Nat × Nat)}
    (hy : plainName y.cls = true) (hw : ws = Cond.codeWith y cc maxL ret hh :: ws')
    (body : ∀ p e s m args below meth c s₁, BodyLoose p l y (headSpec ws rm) cc maxL ret e s m args below meth c s₁ → c.maxLocals = maxL → Pc args s →
      W p l e (headSpec ws rm).room s m args below meth c s.heap [] 0 0 (vx_MQ below Qc XC args s mc ms free) (entryFrame m args maxL)) : vx_Met l y ws rm Pc Qc XC mc ms free := by
  refine MetFree.of_bodyS (code := cc) (maxLocals := maxL) (ret := ret) hy ?_ ?_
  · intro args s m h hn
    obtain ⟨m9, meth, c, hn9, h1, h2, h3, h4, -, h5, h6, -⟩ := Cond.codeWith_spec (atoms_spec (ws := ws) h _ (by rw [hw]; exact List.mem_cons_self))
    cases hn.symm.trans hn9
    exact ⟨meth, c, h1, h2, h3, h4, h5, h6⟩
  · intro p e s m args below meth c s₁ B hml hP _
    have hh0 : s₁.heap = s.heap := by rw [B.state]; rfl
    obtain ⟨t, a1, o, b1, b2, b3⟩ := body p e s m args below meth c s₁ B hml hP s₁ hh0 (Stand.of_body B)
    exact ⟨t, o, a1, b1, b2, b3⟩
/-! ===== END ===== -/
end
section
/-! ===== BEGIN printed: names, fields, word lists, decode rows ===== -/
def RX0 : String := "RoundCompiler$Code"
def TX0 : u_T := fun k => match k with
  | 0 => ("RoundCompiler$Code", "kinds", "[I", true)
  | 1 => ("RoundCompiler$Code", "firsts", "[I", true)
  | 2 => ("RoundCompiler$Code", "seconds", "[I", true)
  | 3 => ("RoundCompiler$Code", "size", "I", false)
  | 4 => ("RoundCompiler$Code", "statements", "I", false)
  | _ => ("RoundCompiler$Code", "operators", "I", false)
def tyX0 : Nat → FieldType := fun k => match k with
  | 0 => .array .int
  | 1 => .array .int
  | 2 => .array .int
  | 3 => .int
  | 4 => .int
  | _ => .int
abbrev wsX00 : List Cond := u_ws RX0 TX0 6
theorem nmX0 : ∀ a, a < 6 → ∀ b, b < 6 → a ≠ b → (TX0 a).2.1 ≠ (TX0 b).2.1 := by decide +kernel
theorem tyX0_ok : ∀ k, k < 6 → parseFieldDescriptor (TX0 k).2.2.1 = some (tyX0 k) := by decide +kernel
abbrev cX0_init : ByteArray := prog_2_method_1_code
def yX0_init : MethodName := ⟨RX0, "<init>", "()V"⟩
abbrev cX0_empty : ByteArray := prog_2_method_2_code
def yX0_empty : MethodName := ⟨RX0, "empty", "()V"⟩
abbrev cX0_add : ByteArray := prog_2_method_3_code
def yX0_add : MethodName := ⟨RX0, "add", "(III)V"⟩
abbrev cX0_addOfOne : ByteArray := prog_2_method_4_code
def yX0_addOfOne : MethodName := ⟨RX0, "addOfOne", "(II)V"⟩
abbrev cX0_addOfTwo : ByteArray := prog_2_method_5_code
def yX0_addOfTwo : MethodName := ⟨RX0, "addOfTwo", "(I)V"⟩
abbrev cX0_endsInNumbers : ByteArray := prog_2_method_6_code
def yX0_endsInNumbers : MethodName := ⟨RX0, "endsInNumbers", "(I)Z"⟩
abbrev cX0_setFirst : ByteArray := prog_2_method_7_code
def yX0_setFirst : MethodName := ⟨RX0, "setFirst", "(II)V"⟩
def RX1 : String := "RoundCompiler$Machine"
def TX1 : u_T := fun k => match k with
  | 0 => ("RoundCompiler$Machine", "memory", "[I", true)
  | 1 => ("RoundCompiler$Machine", "memoryBefore", "[I", true)
  | 2 => ("RoundCompiler$Machine", "values", "[I", true)
  | 3 => ("RoundCompiler$Machine", "names", "[I", true)
  | 4 => ("RoundCompiler$Machine", "stack", "[I", true)
  | 5 => ("RoundCompiler$Machine", "top", "I", false)
  | 6 => ("RoundCompiler$Machine", "steps", "I", false)
  | _ => ("RoundCompiler$Machine", "failed", "Z", false)
def tyX1 : Nat → FieldType := fun k => match k with
  | 0 => .array .int
  | 1 => .array .int
  | 2 => .array .int
  | 3 => .array .int
  | 4 => .array .int
  | 5 => .int
  | 6 => .int
  | _ => .boolean
abbrev wsX10 : List Cond := u_ws RX1 TX1 8
theorem nmX1 : ∀ a, a < 8 → ∀ b, b < 8 → a ≠ b → (TX1 a).2.1 ≠ (TX1 b).2.1 := by decide +kernel
theorem tyX1_ok : ∀ k, k < 8 → parseFieldDescriptor (TX1 k).2.2.1 = some (tyX1 k) := by decide +kernel
abbrev cX1_init : ByteArray := prog_3_method_1_code
def yX1_init : MethodName := ⟨RX1, "<init>", "()V"⟩
abbrev cX1_carriesOut : ByteArray := prog_3_method_2_code
def yX1_carriesOut : MethodName := ⟨RX1, "carriesOut", "(LRoundCompiler$Code;)Z"⟩
abbrev cX1_behind : ByteArray := prog_3_method_3_code
def yX1_behind : MethodName := ⟨RX1, "behind", "(LRoundCompiler$Code;I)I"⟩
abbrev cX1_turnsAgain : ByteArray := prog_3_method_4_code
def yX1_turnsAgain : MethodName := ⟨RX1, "turnsAgain", "(LRoundCompiler$Code;I)Z"⟩
abbrev cX1_loaded : ByteArray := prog_3_method_5_code
def yX1_loaded : MethodName := ⟨RX1, "loaded", "(I)I"⟩
abbrev cX1_store : ByteArray := prog_3_method_6_code
def yX1_store : MethodName := ⟨RX1, "store", "(II)V"⟩
abbrev cX1_named : ByteArray := prog_3_method_7_code
def yX1_named : MethodName := ⟨RX1, "named", "(I)I"⟩
abbrev cX1_name : ByteArray := prog_3_method_8_code
def yX1_name : MethodName := ⟨RX1, "name", "(II)V"⟩
abbrev cX1_push : ByteArray := prog_3_method_9_code
def yX1_push : MethodName := ⟨RX1, "push", "(I)V"⟩
abbrev cX1_pop : ByteArray := prog_3_method_10_code
def yX1_pop : MethodName := ⟨RX1, "pop", "()I"⟩
def RX2 : String := "RoundCompiler$Reader"
def TX2 : u_T := fun k => match k with
  | 0 => ("RoundCompiler$Reader", "text", "[C", true)
  | 1 => ("RoundCompiler$Reader", "length", "I", false)
  | 2 => ("RoundCompiler$Reader", "code", "LRoundCompiler$Code;", false)
  | 3 => ("RoundCompiler$Reader", "at", "I", false)
  | 4 => ("RoundCompiler$Reader", "faultPlace", "I", false)
  | 5 => ("RoundCompiler$Reader", "number", "J", false)
  | 6 => ("RoundCompiler$Reader", "loops", "I", false)
  | _ => ("RoundCompiler$Reader", "turns", "I", false)
def tyX2 : Nat → FieldType := fun k => match k with
  | 0 => .array .char
  | 1 => .int
  | 2 => .object "RoundCompiler$Code"
  | 3 => .int
  | 4 => .int
  | 5 => .long
  | 6 => .int
  | _ => .int
abbrev wsX20 : List Cond := u_ws RX2 TX2 8
theorem nmX2 : ∀ a, a < 8 → ∀ b, b < 8 → a ≠ b → (TX2 a).2.1 ≠ (TX2 b).2.1 := by decide +kernel
theorem tyX2_ok : ∀ k, k < 8 → parseFieldDescriptor (TX2 k).2.2.1 = some (tyX2 k) := by decide +kernel
abbrev cX2_init : ByteArray := prog_4_method_1_code
def yX2_init : MethodName := ⟨RX2, "<init>", "()V"⟩
abbrev cX2_append : ByteArray := prog_4_method_2_code
def yX2_append : MethodName := ⟨RX2, "append", "(I)V"⟩
abbrev cX2_exchanged : ByteArray := prog_4_method_3_code
def yX2_exchanged : MethodName := ⟨RX2, "exchanged", "(LRoundCompiler$Code;)LRoundCompiler$Code;"⟩
abbrev cX2_readText : ByteArray := prog_4_method_4_code
def yX2_readText : MethodName := ⟨RX2, "readText", "()Z"⟩
abbrev cX2_here : ByteArray := prog_4_method_5_code
def yX2_here : MethodName := ⟨RX2, "here", "()I"⟩
abbrev cX2_refuse : ByteArray := prog_4_method_6_code
def yX2_refuse : MethodName := ⟨RX2, "refuse", "(I)Z"⟩
abbrev cX2_expect : ByteArray := prog_4_method_7_code
def yX2_expect : MethodName := ⟨RX2, "expect", "(I)Z"⟩
abbrev cX2_readProgram : ByteArray := prog_4_method_8_code
def yX2_readProgram : MethodName := ⟨RX2, "readProgram", "(I)Z"⟩
abbrev cX2_readStatement : ByteArray := prog_4_method_9_code
def yX2_readStatement : MethodName := ⟨RX2, "readStatement", "(I)Z"⟩
abbrev cX2_readSet : ByteArray := prog_4_method_10_code
def yX2_readSet : MethodName := ⟨RX2, "readSet", "()Z"⟩
abbrev cX2_readStore : ByteArray := prog_4_method_11_code
def yX2_readStore : MethodName := ⟨RX2, "readStore", "()Z"⟩
abbrev cX2_readLoop : ByteArray := prog_4_method_12_code
def yX2_readLoop : MethodName := ⟨RX2, "readLoop", "(I)Z"⟩
abbrev cX2_readBranch : ByteArray := prog_4_method_13_code
def yX2_readBranch : MethodName := ⟨RX2, "readBranch", "(I)Z"⟩
abbrev cX2_readBlock : ByteArray := prog_4_method_14_code
def yX2_readBlock : MethodName := ⟨RX2, "readBlock", "(I)Z"⟩
abbrev cX2_readSum : ByteArray := prog_4_method_15_code
def yX2_readSum : MethodName := ⟨RX2, "readSum", "(I)Z"⟩
abbrev cX2_readTurned : ByteArray := prog_4_method_16_code
def yX2_readTurned : MethodName := ⟨RX2, "readTurned", "(I)Z"⟩
abbrev cX2_readFactor : ByteArray := prog_4_method_17_code
def yX2_readFactor : MethodName := ⟨RX2, "readFactor", "(I)Z"⟩
abbrev cX2_readNested : ByteArray := prog_4_method_18_code
def yX2_readNested : MethodName := ⟨RX2, "readNested", "(I)Z"⟩
abbrev cX2_readNumber : ByteArray := prog_4_method_19_code
def yX2_readNumber : MethodName := ⟨RX2, "readNumber", "(JJ)Z"⟩
abbrev cX2_freeName : ByteArray := prog_4_method_20_code
def yX2_freeName : MethodName := ⟨RX2, "freeName", "()I"⟩
abbrev cX2_nameOf : ByteArray := prog_4_method_21_code
def yX2_nameOf : MethodName := ⟨RX2, "nameOf", "(I)I"⟩
abbrev cX2_digitOf : ByteArray := prog_4_method_22_code
def yX2_digitOf : MethodName := ⟨RX2, "digitOf", "(II)I"⟩
abbrev cX2_isOperator : ByteArray := prog_4_method_23_code
def yX2_isOperator : MethodName := ⟨RX2, "isOperator", "(I)Z"⟩
def RX3 : String := "RoundCompiler"
def TX3 : u_T := fun k => match k with
  | 0 => ("RoundCompiler", "reader", "LRoundCompiler$Reader;", true)
  | 1 => ("RoundCompiler", "machine", "LRoundCompiler$Machine;", true)
  | 2 => ("RoundCompiler", "ready", "LRoundCompiler$Code;", false)
  | _ => ("RoundCompiler", "isReady", "Z", false)
def tyX3 : Nat → FieldType := fun k => match k with
  | 0 => .object "RoundCompiler$Reader"
  | 1 => .object "RoundCompiler$Machine"
  | 2 => .object "RoundCompiler$Code"
  | _ => .boolean
abbrev wsX30 : List Cond := u_ws RX3 TX3 4
theorem nmX3 : ∀ a, a < 4 → ∀ b, b < 4 → a ≠ b → (TX3 a).2.1 ≠ (TX3 b).2.1 := by decide +kernel
theorem tyX3_ok : ∀ k, k < 4 → parseFieldDescriptor (TX3 k).2.2.1 = some (tyX3 k) := by decide +kernel
abbrev cX3_init : ByteArray := prog_1_method_1_code
def yX3_init : MethodName := ⟨RX3, "<init>", "()V"⟩
abbrev cX3_write : ByteArray := prog_1_method_2_code
def yX3_write : MethodName := ⟨RX3, "write", "(J)Z"⟩
abbrev cX3_wipe : ByteArray := prog_1_method_3_code
def yX3_wipe : MethodName := ⟨RX3, "wipe", "()V"⟩
abbrev cX3_compile : ByteArray := prog_1_method_4_code
def yX3_compile : MethodName := ⟨RX3, "compile", "()I"⟩
abbrev cX3_fault : ByteArray := prog_1_method_5_code
def yX3_fault : MethodName := ⟨RX3, "fault", "()I"⟩
abbrev cX3_work : ByteArray := prog_1_method_6_code
def yX3_work : MethodName := ⟨RX3, "work", "()I"⟩
abbrev cX3_run : ByteArray := prog_1_method_7_code
def yX3_run : MethodName := ⟨RX3, "run", "()I"⟩
abbrev cX3_value : ByteArray := prog_1_method_8_code
def yX3_value : MethodName := ⟨RX3, "value", "(I)I"⟩
abbrev cX3_poke : ByteArray := prog_1_method_9_code
def yX3_poke : MethodName := ⟨RX3, "poke", "(II)V"⟩
abbrev cX3_peek : ByteArray := prog_1_method_10_code
def yX3_peek : MethodName := ⟨RX3, "peek", "(I)I"⟩
abbrev cX3_fill : ByteArray := prog_1_method_11_code
def yX3_fill : MethodName := ⟨RX3, "fill", "(III)V"⟩
abbrev cX3_mixed : ByteArray := prog_1_method_12_code
def yX3_mixed : MethodName := ⟨RX3, "mixed", "()I"⟩
abbrev cX3_byteOf : ByteArray := prog_1_method_13_code
def yX3_byteOf : MethodName := ⟨RX3, "byteOf", "(JI)I"⟩
abbrev cX3_isAddress : ByteArray := prog_1_method_14_code
def yX3_isAddress : MethodName := ⟨RX3, "isAddress", "(I)Z"⟩
abbrev cX3_ofOne : ByteArray := prog_1_method_15_code
def yX3_ofOne : MethodName := ⟨RX3, "ofOne", "(III)I"⟩
abbrev cX3_ofTwo : ByteArray := prog_1_method_16_code
def yX3_ofTwo : MethodName := ⟨RX3, "ofTwo", "(III)I"⟩
def RX4 : String := "RoundCompilerModel"
def TX4 : u_T := fun k => match k with
  | 0 => ("RoundCompilerModel", "thrown", "I", false)
  | 1 => ("RoundCompilerModel", "text", "[I", true)
  | 2 => ("RoundCompilerModel", "length", "I", false)
  | 3 => ("RoundCompilerModel", "fault", "I", false)
  | 4 => ("RoundCompilerModel", "memory", "[I", true)
  | 5 => ("RoundCompilerModel", "before", "[I", true)
  | 6 => ("RoundCompilerModel", "names", "[I", true)
  | 7 => ("RoundCompilerModel", "ended", "[I", true)
  | 8 => ("RoundCompilerModel", "draftOps", "[I", true)
  | 9 => ("RoundCompilerModel", "draftValues", "[I", true)
  | 10 => ("RoundCompilerModel", "draftSize", "I", false)
  | 11 => ("RoundCompilerModel", "draftWork", "I", false)
  | 12 => ("RoundCompilerModel", "ops", "[I", true)
  | 13 => ("RoundCompilerModel", "values", "[I", true)
  | 14 => ("RoundCompilerModel", "size", "I", false)
  | 15 => ("RoundCompilerModel", "work", "I", false)
  | 16 => ("RoundCompilerModel", "ready", "Z", false)
  | 17 => ("RoundCompilerModel", "open", "[I", true)
  | 18 => ("RoundCompilerModel", "pending", "[I", true)
  | 19 => ("RoundCompilerModel", "openSize", "I", false)
  | 20 => ("RoundCompilerModel", "nested", "I", false)
  | 21 => ("RoundCompilerModel", "settled", "[Z", true)
  | 22 => ("RoundCompilerModel", "settledSize", "I", false)
  | 23 => ("RoundCompilerModel", "assigned", "I", false)
  | 24 => ("RoundCompilerModel", "blockNames", "[I", true)
  | 25 => ("RoundCompilerModel", "blockStarts", "[I", true)
  | 26 => ("RoundCompilerModel", "products", "[I", true)
  | 27 => ("RoundCompilerModel", "blocks", "I", false)
  | 28 => ("RoundCompilerModel", "at", "I", false)
  | 29 => ("RoundCompilerModel", "number", "J", false)
  | 30 => ("RoundCompilerModel", "pile", "[I", true)
  | 31 => ("RoundCompilerModel", "top", "I", false)
  | _ => ("RoundCompilerModel", "statements", "I", false)
def tyX4 : Nat → FieldType := fun k => match k with
  | 0 => .int
  | 1 => .array .int
  | 2 => .int
  | 3 => .int
  | 4 => .array .int
  | 5 => .array .int
  | 6 => .array .int
  | 7 => .array .int
  | 8 => .array .int
  | 9 => .array .int
  | 10 => .int
  | 11 => .int
  | 12 => .array .int
  | 13 => .array .int
  | 14 => .int
  | 15 => .int
  | 16 => .boolean
  | 17 => .array .int
  | 18 => .array .int
  | 19 => .int
  | 20 => .int
  | 21 => .array .boolean
  | 22 => .int
  | 23 => .int
  | 24 => .array .int
  | 25 => .array .int
  | 26 => .array .int
  | 27 => .int
  | 28 => .int
  | 29 => .long
  | 30 => .array .int
  | 31 => .int
  | _ => .int
abbrev wsX40 : List Cond := u_ws RX4 TX4 33
theorem nmX4 : ∀ a, a < 33 → ∀ b, b < 33 → a ≠ b → (TX4 a).2.1 ≠ (TX4 b).2.1 := by decide +kernel
theorem tyX4_ok : ∀ k, k < 33 → parseFieldDescriptor (TX4 k).2.2.1 = some (tyX4 k) := by decide +kernel
abbrev cX4_init : ByteArray := prog_6_method_1_code
def yX4_init : MethodName := ⟨RX4, "<init>", "()V"⟩
abbrev cX4_thrown : ByteArray := prog_6_method_2_code
def yX4_thrown : MethodName := ⟨RX4, "thrown", "()I"⟩
abbrev cX4_write : ByteArray := prog_6_method_3_code
def yX4_write : MethodName := ⟨RX4, "write", "(J)Z"⟩
abbrev cX4_wipe : ByteArray := prog_6_method_4_code
def yX4_wipe : MethodName := ⟨RX4, "wipe", "()V"⟩
abbrev cX4_here : ByteArray := prog_6_method_5_code
def yX4_here : MethodName := ⟨RX4, "here", "()I"⟩
abbrev cX4_isLetter : ByteArray := prog_6_method_6_code
def yX4_isLetter : MethodName := ⟨RX4, "isLetter", "(I)Z"⟩
abbrev cX4_isDigit : ByteArray := prog_6_method_7_code
def yX4_isDigit : MethodName := ⟨RX4, "isDigit", "(I)Z"⟩
abbrev cX4_wrong : ByteArray := prog_6_method_8_code
def yX4_wrong : MethodName := ⟨RX4, "wrong", "(I)V"⟩
abbrev cX4_want : ByteArray := prog_6_method_9_code
def yX4_want : MethodName := ⟨RX4, "want", "(I)V"⟩
abbrev cX4_readNumber : ByteArray := prog_6_method_10_code
def yX4_readNumber : MethodName := ⟨RX4, "readNumber", "(JJ)V"⟩
abbrev cX4_step : ByteArray := prog_6_method_11_code
def yX4_step : MethodName := ⟨RX4, "step", "(II)V"⟩
abbrev cX4_push : ByteArray := prog_6_method_12_code
def yX4_push : MethodName := ⟨RX4, "push", "(I)V"⟩
abbrev cX4_settle : ByteArray := prog_6_method_13_code
def yX4_settle : MethodName := ⟨RX4, "settle", "(Z)V"⟩
abbrev cX4_isLoop : ByteArray := prog_6_method_14_code
def yX4_isLoop : MethodName := ⟨RX4, "isLoop", "(I)Z"⟩
abbrev cX4_statement : ByteArray := prog_6_method_15_code
def yX4_statement : MethodName := ⟨RX4, "statement", "()I"⟩
abbrev cX4_block : ByteArray := prog_6_method_16_code
def yX4_block : MethodName := ⟨RX4, "block", "(III)V"⟩
abbrev cX4_factor : ByteArray := prog_6_method_17_code
def yX4_factor : MethodName := ⟨RX4, "factor", "()I"⟩
abbrev cX4_whole : ByteArray := prog_6_method_18_code
def yX4_whole : MethodName := ⟨RX4, "whole", "()V"⟩
abbrev cX4_isOperator : ByteArray := prog_6_method_19_code
def yX4_isOperator : MethodName := ⟨RX4, "isOperator", "(I)Z"⟩
abbrev cX4_behind : ByteArray := prog_6_method_20_code
def yX4_behind : MethodName := ⟨RX4, "behind", "()I"⟩
abbrev cX4_compile : ByteArray := prog_6_method_21_code
def yX4_compile : MethodName := ⟨RX4, "compile", "()I"⟩
abbrev cX4_fault : ByteArray := prog_6_method_22_code
def yX4_fault : MethodName := ⟨RX4, "fault", "()I"⟩
abbrev cX4_work : ByteArray := prog_6_method_23_code
def yX4_work : MethodName := ⟨RX4, "work", "()I"⟩
abbrev cX4_operated : ByteArray := prog_6_method_24_code
def yX4_operated : MethodName := ⟨RX4, "operated", "(III)I"⟩
abbrev cX4_turned : ByteArray := prog_6_method_25_code
def yX4_turned : MethodName := ⟨RX4, "turned", "(II)I"⟩
abbrev cX4_isAddress : ByteArray := prog_6_method_26_code
def yX4_isAddress : MethodName := ⟨RX4, "isAddress", "(I)Z"⟩
abbrev cX4_run : ByteArray := prog_6_method_27_code
def yX4_run : MethodName := ⟨RX4, "run", "()I"⟩
abbrev cX4_end : ByteArray := prog_6_method_28_code
def yX4_end : MethodName := ⟨RX4, "end", "(II)V"⟩
abbrev cX4_reckon : ByteArray := prog_6_method_29_code
def yX4_reckon : MethodName := ⟨RX4, "reckon", "(II)V"⟩
abbrev cX4_value : ByteArray := prog_6_method_30_code
def yX4_value : MethodName := ⟨RX4, "value", "(I)I"⟩
abbrev cX4_poke : ByteArray := prog_6_method_31_code
def yX4_poke : MethodName := ⟨RX4, "poke", "(II)V"⟩
abbrev cX4_peek : ByteArray := prog_6_method_32_code
def yX4_peek : MethodName := ⟨RX4, "peek", "(I)I"⟩
abbrev cX4_fill : ByteArray := prog_6_method_33_code
def yX4_fill : MethodName := ⟨RX4, "fill", "(III)V"⟩
abbrev cX4_mixed : ByteArray := prog_6_method_34_code
def yX4_mixed : MethodName := ⟨RX4, "mixed", "()I"⟩
def RJ0 : String := "java/lang/String"
def TJ0 : u_T := fun k => match k with
  | _ => ("", "", "", false)
def tyJ0 : Nat → FieldType := fun k => match k with
  | _ => .int
abbrev wsJ00 : List Cond := u_ws RJ0 TJ0 0
theorem nmJ0 : ∀ a, a < 0 → ∀ b, b < 0 → a ≠ b → (TJ0 a).2.1 ≠ (TJ0 b).2.1 := by decide +kernel
theorem tyJ0_ok : ∀ k, k < 0 → parseFieldDescriptor (TJ0 k).2.2.1 = some (tyJ0 k) := by decide +kernel
def RJ10 : String := "java/lang/System"
def TJ10 : u_T := fun k => match k with
  | _ => ("", "", "", false)
def tyJ10 : Nat → FieldType := fun k => match k with
  | _ => .int
abbrev wsJ100 : List Cond := u_ws RJ10 TJ10 0
theorem nmJ10 : ∀ a, a < 0 → ∀ b, b < 0 → a ≠ b → (TJ10 a).2.1 ≠ (TJ10 b).2.1 := by decide +kernel
theorem tyJ10_ok : ∀ k, k < 0 → parseFieldDescriptor (TJ10 k).2.2.1 = some (tyJ10 k) := by decide +kernel
def RJ7 : String := "java/util/Arrays"
def TJ7 : u_T := fun k => match k with
  | _ => ("", "", "", false)
def tyJ7 : Nat → FieldType := fun k => match k with
  | _ => .int
abbrev wsJ70 : List Cond := u_ws RJ7 TJ7 0
theorem nmJ7 : ∀ a, a < 0 → ∀ b, b < 0 → a ≠ b → (TJ7 a).2.1 ≠ (TJ7 b).2.1 := by decide +kernel
theorem tyJ7_ok : ∀ k, k < 0 → parseFieldDescriptor (TJ7 k).2.2.1 = some (tyJ7 k) := by decide +kernel
abbrev cJ7_fill_53178 : ByteArray := prog_15_method_103_code
def yJ7_fill_53178 : MethodName := ⟨RJ7, "fill", "([II)V"⟩
def RL : String := "RoundCompilerLaw"
abbrev cL_compile : ByteArray := method_3_code
def yL_compile : MethodName := ⟨RL, "compile", "(LRoundCompiler;[J)I"⟩
abbrev cL_run : ByteArray := method_4_code
def yL_run : MethodName := ⟨RL, "run", "(LRoundCompiler;[J)I"⟩
abbrev cL_value : ByteArray := method_5_code
def yL_value : MethodName := ⟨RL, "value", "(LRoundCompiler;I[J)I"⟩
abbrev cL_poke : ByteArray := method_6_code
def yL_poke : MethodName := ⟨RL, "poke", "(LRoundCompiler;II)I"⟩
abbrev cL_peek : ByteArray := method_7_code
def yL_peek : MethodName := ⟨RL, "peek", "(LRoundCompiler;I[J)I"⟩
abbrev cL_fill : ByteArray := method_8_code
def yL_fill : MethodName := ⟨RL, "fill", "(LRoundCompiler;III)I"⟩
abbrev cL_law : ByteArray := code
def yL_law : MethodName := ⟨RL, "law", "([I)Z"⟩
def wsX0_init : List Cond := .code yX0_init cX0_init 1 none :: ([.methodLink RX0 3 objectInit, .instanceMethod objectInit, .code objectInit ⟨#[0xb1]⟩ 1 none, .arrayClass .int, .fieldLink RX0 9 "RoundCompiler$Code" "kinds" "[I", .fieldLink RX0 15 "RoundCompiler$Code" "firsts" "[I", .fieldLink RX0 18 "RoundCompiler$Code" "seconds" "[I"] ++ wsX00)
def wsX0_empty : List Cond := .code yX0_empty cX0_empty 1 none :: ([.fieldLink RX0 21 "RoundCompiler$Code" "size" "I", .fieldLink RX0 25 "RoundCompiler$Code" "statements" "I", .fieldLink RX0 28 "RoundCompiler$Code" "operators" "I"] ++ wsX00)
def wsX0_add : List Cond := .code yX0_add cX0_add 4 none :: ([.fieldLink RX0 21 "RoundCompiler$Code" "size" "I", .fieldLink RX0 9 "RoundCompiler$Code" "kinds" "[I", .fieldLink RX0 15 "RoundCompiler$Code" "firsts" "[I", .fieldLink RX0 18 "RoundCompiler$Code" "seconds" "[I"] ++ wsX00)
def wsX0_endsInNumbers : List Cond := .code yX0_endsInNumbers cX0_endsInNumbers 3 (some .boolean) :: ([.fieldLink RX0 21 "RoundCompiler$Code" "size" "I", .fieldLink RX0 9 "RoundCompiler$Code" "kinds" "[I"] ++ wsX00)
def wsX3_ofOne : List Cond := .code yX3_ofOne cX3_ofOne 3 (some .int) :: ([])
def wsX0_addOfOne : List Cond := .code yX0_addOfOne cX0_addOfOne 3 none :: ([.fieldLink RX0 15 "RoundCompiler$Code" "firsts" "[I", .fieldLink RX0 21 "RoundCompiler$Code" "size" "I", .fieldLink RX0 28 "RoundCompiler$Code" "operators" "I", .methodLink RX0 31 yX0_endsInNumbers, .instanceMethod yX0_endsInNumbers, .selects RX0 yX0_endsInNumbers yX0_endsInNumbers, .initialized RX0, .code yX0_endsInNumbers cX0_endsInNumbers 3 (some .boolean), .fieldLink RX0 9 "RoundCompiler$Code" "kinds" "[I", .static yX3_ofOne, .initialized RX3, .code yX3_ofOne cX3_ofOne 3 (some .int), .methodLink RX0 39 yX0_add, .instanceMethod yX0_add, .selects RX0 yX0_add yX0_add, .code yX0_add cX0_add 4 none, .fieldLink RX0 18 "RoundCompiler$Code" "seconds" "[I"] ++ wsX00)
def wsX3_ofTwo : List Cond := .code yX3_ofTwo cX3_ofTwo 3 (some .int) :: ([])
def wsX0_addOfTwo : List Cond := .code yX0_addOfTwo cX0_addOfTwo 2 none :: ([.fieldLink RX0 21 "RoundCompiler$Code" "size" "I", .fieldLink RX0 15 "RoundCompiler$Code" "firsts" "[I", .fieldLink RX0 28 "RoundCompiler$Code" "operators" "I", .methodLink RX0 31 yX0_endsInNumbers, .instanceMethod yX0_endsInNumbers, .selects RX0 yX0_endsInNumbers yX0_endsInNumbers, .initialized RX0, .code yX0_endsInNumbers cX0_endsInNumbers 3 (some .boolean), .fieldLink RX0 9 "RoundCompiler$Code" "kinds" "[I", .static yX3_ofTwo, .initialized RX3, .code yX3_ofTwo cX3_ofTwo 3 (some .int), .methodLink RX0 39 yX0_add, .instanceMethod yX0_add, .selects RX0 yX0_add yX0_add, .code yX0_add cX0_add 4 none, .fieldLink RX0 18 "RoundCompiler$Code" "seconds" "[I"] ++ wsX00)
def wsX0_setFirst : List Cond := .code yX0_setFirst cX0_setFirst 3 none :: ([.fieldLink RX0 21 "RoundCompiler$Code" "size" "I", .fieldLink RX0 15 "RoundCompiler$Code" "firsts" "[I"] ++ wsX00)
def wsX1_init : List Cond := .code yX1_init cX1_init 1 none :: ([.methodLink RX1 3 objectInit, .instanceMethod objectInit, .code objectInit ⟨#[0xb1]⟩ 1 none, .arrayClass .int, .fieldLink RX1 9 "RoundCompiler$Machine" "memory" "[I", .fieldLink RX1 15 "RoundCompiler$Machine" "memoryBefore" "[I", .fieldLink RX1 18 "RoundCompiler$Machine" "values" "[I", .fieldLink RX1 21 "RoundCompiler$Machine" "names" "[I", .fieldLink RX1 24 "RoundCompiler$Machine" "stack" "[I"] ++ wsX10)
def wsJ7_fill_53178 : List Cond := .code yJ7_fill_53178 cJ7_fill_53178 4 none :: ([])
def wsX1_push : List Cond := .code yX1_push cX1_push 2 none :: ([.fieldLink RX1 39 "RoundCompiler$Machine" "top" "I", .fieldLink RX1 24 "RoundCompiler$Machine" "stack" "[I"] ++ wsX10)
def wsX1_named : List Cond := .code yX1_named cX1_named 2 (some .int) :: ([.fieldLink RX1 21 "RoundCompiler$Machine" "names" "[I"] ++ wsX10)
def wsX1_pop : List Cond := .code yX1_pop cX1_pop 1 (some .int) :: ([.fieldLink RX1 39 "RoundCompiler$Machine" "top" "I", .fieldLink RX1 24 "RoundCompiler$Machine" "stack" "[I"] ++ wsX10)
def wsX3_isAddress : List Cond := .code yX3_isAddress cX3_isAddress 1 (some .boolean) :: ([])
def wsX1_loaded : List Cond := .code yX1_loaded cX1_loaded 2 (some .int) :: ([.fieldLink RX1 46 "RoundCompiler$Machine" "failed" "Z", .fieldLink RX1 9 "RoundCompiler$Machine" "memory" "[I", .static yX3_isAddress, .initialized RX3, .code yX3_isAddress cX3_isAddress 1 (some .boolean)] ++ wsX10)
def wsX1_name : List Cond := .code yX1_name cX1_name 3 none :: ([.fieldLink RX1 21 "RoundCompiler$Machine" "names" "[I"] ++ wsX10)
def wsX1_store : List Cond := .code yX1_store cX1_store 3 none :: ([.fieldLink RX1 9 "RoundCompiler$Machine" "memory" "[I", .fieldLink RX1 46 "RoundCompiler$Machine" "failed" "Z", .static yX3_isAddress, .initialized RX3, .code yX3_isAddress cX3_isAddress 1 (some .boolean)] ++ wsX10)
def wsX1_turnsAgain : List Cond := .code yX1_turnsAgain cX1_turnsAgain 5 (some .boolean) :: ([.methodLink RX1 70 yX1_named, .instanceMethod yX1_named, .selects RX1 yX1_named yX1_named, .initialized RX1, .code yX1_named cX1_named 2 (some .int), .fieldLink RX1 21 "RoundCompiler$Machine" "names" "[I", .methodLink RX1 81 yX1_name, .instanceMethod yX1_name, .selects RX1 yX1_name yX1_name, .code yX1_name cX1_name 3 none] ++ wsX00 ++ wsX10)
def wsX1_behind_r1 : List Cond := [Cond.fieldLink RX1 43 "RoundCompiler$Machine" "steps" "I", Cond.methodLink RX1 66 yX1_push, Cond.instanceMethod yX1_push, Cond.selects RX1 yX1_push yX1_push, Cond.initialized RX1, Cond.code yX1_push cX1_push 2 none, Cond.fieldLink RX1 39 "RoundCompiler$Machine" "top" "I", Cond.fieldLink RX1 24 "RoundCompiler$Machine" "stack" "[I", Cond.methodLink RX1 70 yX1_named, Cond.instanceMethod yX1_named, Cond.selects RX1 yX1_named yX1_named, Cond.code yX1_named cX1_named 2 (some .int), Cond.fieldLink RX1 21 "RoundCompiler$Machine" "names" "[I", Cond.methodLink RX1 74 yX1_pop, Cond.instanceMethod yX1_pop, Cond.selects RX1 yX1_pop yX1_pop, Cond.code yX1_pop cX1_pop 1 (some .int), Cond.methodLink RX1 78 yX1_loaded, Cond.instanceMethod yX1_loaded, Cond.selects RX1 yX1_loaded yX1_loaded, Cond.code yX1_loaded cX1_loaded 2 (some .int), Cond.fieldLink RX1 46 "RoundCompiler$Machine" "failed" "Z", Cond.fieldLink RX1 9 "RoundCompiler$Machine" "memory" "[I", Cond.static yX3_isAddress]
def wsX1_behind_r2 : List Cond := [Cond.initialized RX3, Cond.code yX3_isAddress cX3_isAddress 1 (some .boolean), Cond.methodLink RX1 81 yX1_name, Cond.instanceMethod yX1_name, Cond.selects RX1 yX1_name yX1_name, Cond.code yX1_name cX1_name 3 none, Cond.methodLink RX1 85 yX1_store, Cond.instanceMethod yX1_store, Cond.selects RX1 yX1_store yX1_store, Cond.code yX1_store cX1_store 3 none, Cond.methodLink RX1 88 yX1_turnsAgain, Cond.instanceMethod yX1_turnsAgain, Cond.selects RX1 yX1_turnsAgain yX1_turnsAgain, Cond.code yX1_turnsAgain cX1_turnsAgain 5 (some .boolean), Cond.static yX3_ofOne, Cond.code yX3_ofOne cX3_ofOne 3 (some .int), Cond.static yX3_ofTwo, Cond.code yX3_ofTwo cX3_ofTwo 3 (some .int)]
def wsX1_behind : List Cond := .code yX1_behind cX1_behind 6 (some .int) :: ((wsX1_behind_r1 ++ wsX1_behind_r2) ++ wsX00 ++ wsX10)
def wsX1_carriesOut_r1 : List Cond := [Cond.fieldLink RX1 9 "RoundCompiler$Machine" "memory" "[I", Cond.fieldLink RX1 15 "RoundCompiler$Machine" "memoryBefore" "[I", Cond.methodLink RX1 27 arraycopyName, Cond.native arraycopyName, Cond.static arraycopyName, Cond.initialized "java/lang/System", Cond.fieldLink RX1 21 "RoundCompiler$Machine" "names" "[I", Cond.fieldLink RX1 39 "RoundCompiler$Machine" "top" "I", Cond.fieldLink RX1 43 "RoundCompiler$Machine" "steps" "I", Cond.fieldLink RX1 46 "RoundCompiler$Machine" "failed" "Z", Cond.constant RX1 50 (307200), Cond.fieldLink RX1 18 "RoundCompiler$Machine" "values" "[I", Cond.methodLink RX1 33 yJ7_fill_53178, Cond.static yJ7_fill_53178, Cond.initialized RJ7, Cond.code yJ7_fill_53178 cJ7_fill_53178 4 none, Cond.methodLink RX1 56 yX1_behind, Cond.instanceMethod yX1_behind, Cond.selects RX1 yX1_behind yX1_behind, Cond.initialized RX1, Cond.code yX1_behind cX1_behind 6 (some .int), Cond.methodLink RX1 66 yX1_push, Cond.instanceMethod yX1_push, Cond.selects RX1 yX1_push yX1_push]
def wsX1_carriesOut_r2 : List Cond := [Cond.code yX1_push cX1_push 2 none, Cond.fieldLink RX1 24 "RoundCompiler$Machine" "stack" "[I", Cond.methodLink RX1 70 yX1_named, Cond.instanceMethod yX1_named, Cond.selects RX1 yX1_named yX1_named, Cond.code yX1_named cX1_named 2 (some .int), Cond.methodLink RX1 74 yX1_pop, Cond.instanceMethod yX1_pop, Cond.selects RX1 yX1_pop yX1_pop, Cond.code yX1_pop cX1_pop 1 (some .int), Cond.methodLink RX1 78 yX1_loaded, Cond.instanceMethod yX1_loaded, Cond.selects RX1 yX1_loaded yX1_loaded, Cond.code yX1_loaded cX1_loaded 2 (some .int), Cond.static yX3_isAddress, Cond.initialized RX3, Cond.code yX3_isAddress cX3_isAddress 1 (some .boolean), Cond.methodLink RX1 81 yX1_name, Cond.instanceMethod yX1_name, Cond.selects RX1 yX1_name yX1_name, Cond.code yX1_name cX1_name 3 none, Cond.methodLink RX1 85 yX1_store, Cond.instanceMethod yX1_store, Cond.selects RX1 yX1_store yX1_store]
def wsX1_carriesOut_r3 : List Cond := [Cond.code yX1_store cX1_store 3 none, Cond.methodLink RX1 88 yX1_turnsAgain, Cond.instanceMethod yX1_turnsAgain, Cond.selects RX1 yX1_turnsAgain yX1_turnsAgain, Cond.code yX1_turnsAgain cX1_turnsAgain 5 (some .boolean), Cond.static yX3_ofOne, Cond.code yX3_ofOne cX3_ofOne 3 (some .int), Cond.static yX3_ofTwo, Cond.code yX3_ofTwo cX3_ofTwo 3 (some .int)]
def wsX1_carriesOut : List Cond := .code yX1_carriesOut cX1_carriesOut 4 (some .boolean) :: ((wsX1_carriesOut_r1 ++ (wsX1_carriesOut_r2 ++ wsX1_carriesOut_r3)) ++ wsX10 ++ wsX00)
def wsX2_init : List Cond := .code yX2_init cX2_init 1 none :: ([.methodLink RX2 3 objectInit, .instanceMethod objectInit, .code objectInit ⟨#[0xb1]⟩ 1 none, .arrayClass .char, .fieldLink RX2 9 "RoundCompiler$Reader" "text" "[C", .classLink RX2 15 RX0, .instantiable RX0 6, .initialized RX0, .fieldLink RX2 18 "RoundCompiler$Reader" "code" "LRoundCompiler$Code;", .instanceMethod yX0_init, .code yX0_init cX0_init 1 none, .methodLink RX0 3 objectInit, .arrayClass .int, .fieldLink RX0 9 "RoundCompiler$Code" "kinds" "[I", .fieldLink RX0 15 "RoundCompiler$Code" "firsts" "[I", .fieldLink RX0 18 "RoundCompiler$Code" "seconds" "[I"] ++ wsX20 ++ wsX00)
def wsX2_append : List Cond := .code yX2_append cX2_append 2 none :: ([.fieldLink RX2 22 "RoundCompiler$Reader" "length" "I", .fieldLink RX2 9 "RoundCompiler$Reader" "text" "[C"] ++ wsX20)
def wsX2_exchanged : List Cond := .code yX2_exchanged cX2_exchanged 3 (some (.object "RoundCompiler$Code")) :: ([.fieldLink RX2 18 "RoundCompiler$Reader" "code" "LRoundCompiler$Code;"] ++ wsX20)
def wsX2_here : List Cond := .code yX2_here cX2_here 1 (some .int) :: ([.fieldLink RX2 29 "RoundCompiler$Reader" "at" "I", .fieldLink RX2 22 "RoundCompiler$Reader" "length" "I", .fieldLink RX2 9 "RoundCompiler$Reader" "text" "[C"] ++ wsX20)
def wsX2_refuse : List Cond := .code yX2_refuse cX2_refuse 2 (some .boolean) :: ([.fieldLink RX2 32 "RoundCompiler$Reader" "faultPlace" "I"] ++ wsX20)
def wsX2_expect : List Cond := .code yX2_expect cX2_expect 2 (some .boolean) :: ([.fieldLink RX2 29 "RoundCompiler$Reader" "at" "I", .methodLink RX2 48 yX2_here, .instanceMethod yX2_here, .selects RX2 yX2_here yX2_here, .initialized RX2, .code yX2_here cX2_here 1 (some .int), .fieldLink RX2 22 "RoundCompiler$Reader" "length" "I", .fieldLink RX2 9 "RoundCompiler$Reader" "text" "[C", .methodLink RX2 52 yX2_refuse, .instanceMethod yX2_refuse, .selects RX2 yX2_refuse yX2_refuse, .code yX2_refuse cX2_refuse 2 (some .boolean), .fieldLink RX2 32 "RoundCompiler$Reader" "faultPlace" "I"] ++ wsX20)
def wsX2_nameOf : List Cond := .code yX2_nameOf cX2_nameOf 1 (some .int) :: ([])
def wsX2_digitOf : List Cond := .code yX2_digitOf cX2_digitOf 2 (some .int) :: ([])
def wsX2_readNumber : List Cond := .code yX2_readNumber cX2_readNumber 10 (some .boolean) :: ([.fieldLink RX2 29 "RoundCompiler$Reader" "at" "I", .fieldLink RX2 90 "RoundCompiler$Reader" "number" "J", .methodLink RX2 48 yX2_here, .instanceMethod yX2_here, .selects RX2 yX2_here yX2_here, .initialized RX2, .code yX2_here cX2_here 1 (some .int), .fieldLink RX2 22 "RoundCompiler$Reader" "length" "I", .fieldLink RX2 9 "RoundCompiler$Reader" "text" "[C", .methodLink RX2 131 yX2_digitOf, .static yX2_digitOf, .code yX2_digitOf cX2_digitOf 2 (some .int), .methodLink RX2 52 yX2_refuse, .instanceMethod yX2_refuse, .selects RX2 yX2_refuse yX2_refuse, .code yX2_refuse cX2_refuse 2 (some .boolean), .fieldLink RX2 32 "RoundCompiler$Reader" "faultPlace" "I"] ++ wsX20)
def wsX2_isOperator : List Cond := .code yX2_isOperator cX2_isOperator 1 (some .boolean) :: ([])
def wsX2_readFactor_r1 : List Cond := [Cond.fieldLink RX2 29 "RoundCompiler$Reader" "at" "I", Cond.fieldLink RX2 18 "RoundCompiler$Reader" "code" "LRoundCompiler$Code;", Cond.constantLong RX2 129 (4294967295), Cond.fieldLink RX2 90 "RoundCompiler$Reader" "number" "J", Cond.methodLink RX2 48 yX2_here, Cond.instanceMethod yX2_here, Cond.selects RX2 yX2_here yX2_here, Cond.initialized RX2, Cond.code yX2_here cX2_here 1 (some .int), Cond.fieldLink RX2 22 "RoundCompiler$Reader" "length" "I", Cond.fieldLink RX2 9 "RoundCompiler$Reader" "text" "[C", Cond.methodLink RX2 122 yX2_nameOf, Cond.static yX2_nameOf, Cond.code yX2_nameOf cX2_nameOf 1 (some .int), Cond.instanceMethod yX0_add, Cond.initialized RX0, Cond.selects RX0 yX0_add yX0_add, Cond.code yX0_add cX0_add 4 none, Cond.fieldLink RX0 21 "RoundCompiler$Code" "size" "I", Cond.fieldLink RX0 9 "RoundCompiler$Code" "kinds" "[I", Cond.fieldLink RX0 15 "RoundCompiler$Code" "firsts" "[I", Cond.fieldLink RX0 18 "RoundCompiler$Code" "seconds" "[I", Cond.methodLink RX2 126 yX2_readNested, Cond.instanceMethod yX2_readNested]
def wsX2_readFactor_r2 : List Cond := [Cond.selects RX2 yX2_readNested yX2_readNested, Cond.methodLink RX2 52 yX2_refuse, Cond.instanceMethod yX2_refuse, Cond.selects RX2 yX2_refuse yX2_refuse, Cond.code yX2_refuse cX2_refuse 2 (some .boolean), Cond.fieldLink RX2 32 "RoundCompiler$Reader" "faultPlace" "I", Cond.methodLink RX2 86 yX2_readNumber, Cond.instanceMethod yX2_readNumber, Cond.selects RX2 yX2_readNumber yX2_readNumber, Cond.code yX2_readNumber cX2_readNumber 10 (some .boolean), Cond.methodLink RX2 131 yX2_digitOf, Cond.static yX2_digitOf, Cond.code yX2_digitOf cX2_digitOf 2 (some .int), Cond.code yX2_readNested cX2_readNested 3 (some .boolean), Cond.methodLink RX2 77 yX2_readSum, Cond.instanceMethod yX2_readSum, Cond.selects RX2 yX2_readSum yX2_readSum, Cond.methodLink RX2 45 yX2_expect, Cond.instanceMethod yX2_expect, Cond.selects RX2 yX2_expect yX2_expect, Cond.code yX2_expect cX2_expect 2 (some .boolean), Cond.methodLink RX2 114 yX2_readFactor, Cond.instanceMethod yX2_readFactor, Cond.selects RX2 yX2_readFactor yX2_readFactor]
def wsX2_readFactor_r3 : List Cond := [Cond.instanceMethod yX0_addOfOne, Cond.selects RX0 yX0_addOfOne yX0_addOfOne, Cond.code yX0_addOfOne cX0_addOfOne 3 none, Cond.fieldLink RX0 28 "RoundCompiler$Code" "operators" "I", Cond.methodLink RX0 31 yX0_endsInNumbers, Cond.instanceMethod yX0_endsInNumbers, Cond.selects RX0 yX0_endsInNumbers yX0_endsInNumbers, Cond.code yX0_endsInNumbers cX0_endsInNumbers 3 (some .boolean), Cond.static yX3_ofOne, Cond.initialized RX3, Cond.code yX3_ofOne cX3_ofOne 3 (some .int), Cond.methodLink RX0 39 yX0_add, Cond.code yX2_readSum cX2_readSum 4 (some .boolean), Cond.methodLink RX2 104 yX2_readTurned, Cond.instanceMethod yX2_readTurned, Cond.selects RX2 yX2_readTurned yX2_readTurned, Cond.methodLink RX2 107 yX2_isOperator, Cond.static yX2_isOperator, Cond.code yX2_isOperator cX2_isOperator 1 (some .boolean), Cond.instanceMethod yX0_addOfTwo, Cond.selects RX0 yX0_addOfTwo yX0_addOfTwo, Cond.code yX0_addOfTwo cX0_addOfTwo 2 none, Cond.static yX3_ofTwo, Cond.code yX3_ofTwo cX3_ofTwo 3 (some .int)]
def wsX2_readFactor_r4 : List Cond := [Cond.code yX2_readTurned cX2_readTurned 4 (some .boolean), Cond.constantLong RX2 117 (31)]
def wsX2_readFactor : List Cond := .code yX2_readFactor cX2_readFactor 3 (some .boolean) :: ((wsX2_readFactor_r1 ++ (wsX2_readFactor_r2 ++ (wsX2_readFactor_r3 ++ wsX2_readFactor_r4))) ++ wsX20 ++ wsX00)
def wsX2_readNested_r1 : List Cond := [Cond.fieldLink RX2 29 "RoundCompiler$Reader" "at" "I", Cond.fieldLink RX2 18 "RoundCompiler$Reader" "code" "LRoundCompiler$Code;", Cond.methodLink RX2 48 yX2_here, Cond.instanceMethod yX2_here, Cond.selects RX2 yX2_here yX2_here, Cond.initialized RX2, Cond.code yX2_here cX2_here 1 (some .int), Cond.fieldLink RX2 22 "RoundCompiler$Reader" "length" "I", Cond.fieldLink RX2 9 "RoundCompiler$Reader" "text" "[C", Cond.methodLink RX2 77 yX2_readSum, Cond.instanceMethod yX2_readSum, Cond.selects RX2 yX2_readSum yX2_readSum, Cond.methodLink RX2 45 yX2_expect, Cond.instanceMethod yX2_expect, Cond.selects RX2 yX2_expect yX2_expect, Cond.code yX2_expect cX2_expect 2 (some .boolean), Cond.methodLink RX2 52 yX2_refuse, Cond.instanceMethod yX2_refuse, Cond.selects RX2 yX2_refuse yX2_refuse, Cond.code yX2_refuse cX2_refuse 2 (some .boolean), Cond.fieldLink RX2 32 "RoundCompiler$Reader" "faultPlace" "I", Cond.methodLink RX2 114 yX2_readFactor, Cond.instanceMethod yX2_readFactor, Cond.selects RX2 yX2_readFactor yX2_readFactor]
def wsX2_readNested_r2 : List Cond := [Cond.instanceMethod yX0_addOfOne, Cond.initialized RX0, Cond.selects RX0 yX0_addOfOne yX0_addOfOne, Cond.code yX0_addOfOne cX0_addOfOne 3 none, Cond.fieldLink RX0 15 "RoundCompiler$Code" "firsts" "[I", Cond.fieldLink RX0 21 "RoundCompiler$Code" "size" "I", Cond.fieldLink RX0 28 "RoundCompiler$Code" "operators" "I", Cond.methodLink RX0 31 yX0_endsInNumbers, Cond.instanceMethod yX0_endsInNumbers, Cond.selects RX0 yX0_endsInNumbers yX0_endsInNumbers, Cond.code yX0_endsInNumbers cX0_endsInNumbers 3 (some .boolean), Cond.fieldLink RX0 9 "RoundCompiler$Code" "kinds" "[I", Cond.static yX3_ofOne, Cond.initialized RX3, Cond.code yX3_ofOne cX3_ofOne 3 (some .int), Cond.methodLink RX0 39 yX0_add, Cond.instanceMethod yX0_add, Cond.selects RX0 yX0_add yX0_add, Cond.code yX0_add cX0_add 4 none, Cond.fieldLink RX0 18 "RoundCompiler$Code" "seconds" "[I", Cond.code yX2_readFactor cX2_readFactor 3 (some .boolean), Cond.constantLong RX2 129 (4294967295), Cond.fieldLink RX2 90 "RoundCompiler$Reader" "number" "J", Cond.methodLink RX2 122 yX2_nameOf]
def wsX2_readNested_r3 : List Cond := [Cond.static yX2_nameOf, Cond.code yX2_nameOf cX2_nameOf 1 (some .int), Cond.methodLink RX2 126 yX2_readNested, Cond.instanceMethod yX2_readNested, Cond.selects RX2 yX2_readNested yX2_readNested, Cond.methodLink RX2 86 yX2_readNumber, Cond.instanceMethod yX2_readNumber, Cond.selects RX2 yX2_readNumber yX2_readNumber, Cond.code yX2_readNumber cX2_readNumber 10 (some .boolean), Cond.methodLink RX2 131 yX2_digitOf, Cond.static yX2_digitOf, Cond.code yX2_digitOf cX2_digitOf 2 (some .int), Cond.code yX2_readSum cX2_readSum 4 (some .boolean), Cond.methodLink RX2 104 yX2_readTurned, Cond.instanceMethod yX2_readTurned, Cond.selects RX2 yX2_readTurned yX2_readTurned, Cond.methodLink RX2 107 yX2_isOperator, Cond.static yX2_isOperator, Cond.code yX2_isOperator cX2_isOperator 1 (some .boolean), Cond.instanceMethod yX0_addOfTwo, Cond.selects RX0 yX0_addOfTwo yX0_addOfTwo, Cond.code yX0_addOfTwo cX0_addOfTwo 2 none, Cond.static yX3_ofTwo, Cond.code yX3_ofTwo cX3_ofTwo 3 (some .int)]
def wsX2_readNested_r4 : List Cond := [Cond.code yX2_readTurned cX2_readTurned 4 (some .boolean), Cond.constantLong RX2 117 (31)]
def wsX2_readNested : List Cond := .code yX2_readNested cX2_readNested 3 (some .boolean) :: ((wsX2_readNested_r1 ++ (wsX2_readNested_r2 ++ (wsX2_readNested_r3 ++ wsX2_readNested_r4))) ++ wsX20 ++ wsX00)
def wsX2_readSum_r1 : List Cond := [Cond.fieldLink RX2 29 "RoundCompiler$Reader" "at" "I", Cond.fieldLink RX2 18 "RoundCompiler$Reader" "code" "LRoundCompiler$Code;", Cond.methodLink RX2 104 yX2_readTurned, Cond.instanceMethod yX2_readTurned, Cond.selects RX2 yX2_readTurned yX2_readTurned, Cond.initialized RX2, Cond.methodLink RX2 48 yX2_here, Cond.instanceMethod yX2_here, Cond.selects RX2 yX2_here yX2_here, Cond.code yX2_here cX2_here 1 (some .int), Cond.fieldLink RX2 22 "RoundCompiler$Reader" "length" "I", Cond.fieldLink RX2 9 "RoundCompiler$Reader" "text" "[C", Cond.methodLink RX2 107 yX2_isOperator, Cond.static yX2_isOperator, Cond.code yX2_isOperator cX2_isOperator 1 (some .boolean), Cond.instanceMethod yX0_addOfTwo, Cond.initialized RX0, Cond.selects RX0 yX0_addOfTwo yX0_addOfTwo, Cond.code yX0_addOfTwo cX0_addOfTwo 2 none, Cond.fieldLink RX0 21 "RoundCompiler$Code" "size" "I", Cond.fieldLink RX0 15 "RoundCompiler$Code" "firsts" "[I", Cond.fieldLink RX0 28 "RoundCompiler$Code" "operators" "I", Cond.methodLink RX0 31 yX0_endsInNumbers, Cond.instanceMethod yX0_endsInNumbers]
def wsX2_readSum_r2 : List Cond := [Cond.selects RX0 yX0_endsInNumbers yX0_endsInNumbers, Cond.code yX0_endsInNumbers cX0_endsInNumbers 3 (some .boolean), Cond.fieldLink RX0 9 "RoundCompiler$Code" "kinds" "[I", Cond.static yX3_ofTwo, Cond.initialized RX3, Cond.code yX3_ofTwo cX3_ofTwo 3 (some .int), Cond.methodLink RX0 39 yX0_add, Cond.instanceMethod yX0_add, Cond.selects RX0 yX0_add yX0_add, Cond.code yX0_add cX0_add 4 none, Cond.fieldLink RX0 18 "RoundCompiler$Code" "seconds" "[I", Cond.code yX2_readFactor cX2_readFactor 3 (some .boolean), Cond.constantLong RX2 129 (4294967295), Cond.fieldLink RX2 90 "RoundCompiler$Reader" "number" "J", Cond.methodLink RX2 122 yX2_nameOf, Cond.static yX2_nameOf, Cond.code yX2_nameOf cX2_nameOf 1 (some .int), Cond.methodLink RX2 126 yX2_readNested, Cond.instanceMethod yX2_readNested, Cond.selects RX2 yX2_readNested yX2_readNested, Cond.methodLink RX2 52 yX2_refuse, Cond.instanceMethod yX2_refuse, Cond.selects RX2 yX2_refuse yX2_refuse, Cond.code yX2_refuse cX2_refuse 2 (some .boolean)]
def wsX2_readSum_r3 : List Cond := [Cond.fieldLink RX2 32 "RoundCompiler$Reader" "faultPlace" "I", Cond.methodLink RX2 86 yX2_readNumber, Cond.instanceMethod yX2_readNumber, Cond.selects RX2 yX2_readNumber yX2_readNumber, Cond.code yX2_readNumber cX2_readNumber 10 (some .boolean), Cond.methodLink RX2 131 yX2_digitOf, Cond.static yX2_digitOf, Cond.code yX2_digitOf cX2_digitOf 2 (some .int), Cond.code yX2_readNested cX2_readNested 3 (some .boolean), Cond.methodLink RX2 77 yX2_readSum, Cond.instanceMethod yX2_readSum, Cond.selects RX2 yX2_readSum yX2_readSum, Cond.methodLink RX2 45 yX2_expect, Cond.instanceMethod yX2_expect, Cond.selects RX2 yX2_expect yX2_expect, Cond.code yX2_expect cX2_expect 2 (some .boolean), Cond.methodLink RX2 114 yX2_readFactor, Cond.instanceMethod yX2_readFactor, Cond.selects RX2 yX2_readFactor yX2_readFactor, Cond.instanceMethod yX0_addOfOne, Cond.selects RX0 yX0_addOfOne yX0_addOfOne, Cond.code yX0_addOfOne cX0_addOfOne 3 none, Cond.static yX3_ofOne, Cond.code yX3_ofOne cX3_ofOne 3 (some .int)]
def wsX2_readSum_r4 : List Cond := [Cond.code yX2_readTurned cX2_readTurned 4 (some .boolean), Cond.constantLong RX2 117 (31)]
def wsX2_readSum : List Cond := .code yX2_readSum cX2_readSum 4 (some .boolean) :: ((wsX2_readSum_r1 ++ (wsX2_readSum_r2 ++ (wsX2_readSum_r3 ++ wsX2_readSum_r4))) ++ wsX20 ++ wsX00)
def wsX2_readTurned_r1 : List Cond := [Cond.fieldLink RX2 29 "RoundCompiler$Reader" "at" "I", Cond.constantLong RX2 117 (31), Cond.fieldLink RX2 18 "RoundCompiler$Reader" "code" "LRoundCompiler$Code;", Cond.fieldLink RX2 90 "RoundCompiler$Reader" "number" "J", Cond.methodLink RX2 114 yX2_readFactor, Cond.instanceMethod yX2_readFactor, Cond.selects RX2 yX2_readFactor yX2_readFactor, Cond.initialized RX2, Cond.methodLink RX2 48 yX2_here, Cond.instanceMethod yX2_here, Cond.selects RX2 yX2_here yX2_here, Cond.code yX2_here cX2_here 1 (some .int), Cond.fieldLink RX2 22 "RoundCompiler$Reader" "length" "I", Cond.fieldLink RX2 9 "RoundCompiler$Reader" "text" "[C", Cond.methodLink RX2 86 yX2_readNumber, Cond.instanceMethod yX2_readNumber, Cond.selects RX2 yX2_readNumber yX2_readNumber, Cond.code yX2_readNumber cX2_readNumber 10 (some .boolean), Cond.methodLink RX2 131 yX2_digitOf, Cond.static yX2_digitOf, Cond.code yX2_digitOf cX2_digitOf 2 (some .int), Cond.methodLink RX2 52 yX2_refuse, Cond.instanceMethod yX2_refuse, Cond.selects RX2 yX2_refuse yX2_refuse]
def wsX2_readTurned_r2 : List Cond := [Cond.code yX2_refuse cX2_refuse 2 (some .boolean), Cond.fieldLink RX2 32 "RoundCompiler$Reader" "faultPlace" "I", Cond.instanceMethod yX0_addOfOne, Cond.initialized RX0, Cond.selects RX0 yX0_addOfOne yX0_addOfOne, Cond.code yX0_addOfOne cX0_addOfOne 3 none, Cond.fieldLink RX0 15 "RoundCompiler$Code" "firsts" "[I", Cond.fieldLink RX0 21 "RoundCompiler$Code" "size" "I", Cond.fieldLink RX0 28 "RoundCompiler$Code" "operators" "I", Cond.methodLink RX0 31 yX0_endsInNumbers, Cond.instanceMethod yX0_endsInNumbers, Cond.selects RX0 yX0_endsInNumbers yX0_endsInNumbers, Cond.code yX0_endsInNumbers cX0_endsInNumbers 3 (some .boolean), Cond.fieldLink RX0 9 "RoundCompiler$Code" "kinds" "[I", Cond.static yX3_ofOne, Cond.initialized RX3, Cond.code yX3_ofOne cX3_ofOne 3 (some .int), Cond.methodLink RX0 39 yX0_add, Cond.instanceMethod yX0_add, Cond.selects RX0 yX0_add yX0_add, Cond.code yX0_add cX0_add 4 none, Cond.fieldLink RX0 18 "RoundCompiler$Code" "seconds" "[I", Cond.code yX2_readFactor cX2_readFactor 3 (some .boolean), Cond.constantLong RX2 129 (4294967295)]
def wsX2_readTurned_r3 : List Cond := [Cond.methodLink RX2 122 yX2_nameOf, Cond.static yX2_nameOf, Cond.code yX2_nameOf cX2_nameOf 1 (some .int), Cond.methodLink RX2 126 yX2_readNested, Cond.instanceMethod yX2_readNested, Cond.selects RX2 yX2_readNested yX2_readNested, Cond.code yX2_readNested cX2_readNested 3 (some .boolean), Cond.methodLink RX2 77 yX2_readSum, Cond.instanceMethod yX2_readSum, Cond.selects RX2 yX2_readSum yX2_readSum, Cond.methodLink RX2 45 yX2_expect, Cond.instanceMethod yX2_expect, Cond.selects RX2 yX2_expect yX2_expect, Cond.code yX2_expect cX2_expect 2 (some .boolean), Cond.code yX2_readSum cX2_readSum 4 (some .boolean), Cond.methodLink RX2 104 yX2_readTurned, Cond.instanceMethod yX2_readTurned, Cond.selects RX2 yX2_readTurned yX2_readTurned, Cond.methodLink RX2 107 yX2_isOperator, Cond.static yX2_isOperator, Cond.code yX2_isOperator cX2_isOperator 1 (some .boolean), Cond.instanceMethod yX0_addOfTwo, Cond.selects RX0 yX0_addOfTwo yX0_addOfTwo, Cond.code yX0_addOfTwo cX0_addOfTwo 2 none]
def wsX2_readTurned_r4 : List Cond := [Cond.static yX3_ofTwo, Cond.code yX3_ofTwo cX3_ofTwo 3 (some .int)]
def wsX2_readTurned : List Cond := .code yX2_readTurned cX2_readTurned 4 (some .boolean) :: ((wsX2_readTurned_r1 ++ (wsX2_readTurned_r2 ++ (wsX2_readTurned_r3 ++ wsX2_readTurned_r4))) ++ wsX20 ++ wsX00)
def wsX2_freeName : List Cond := .code yX2_freeName cX2_freeName 2 (some .int) :: ([.fieldLink RX2 35 "RoundCompiler$Reader" "loops" "I", .methodLink RX2 48 yX2_here, .instanceMethod yX2_here, .selects RX2 yX2_here yX2_here, .initialized RX2, .code yX2_here cX2_here 1 (some .int), .fieldLink RX2 29 "RoundCompiler$Reader" "at" "I", .fieldLink RX2 22 "RoundCompiler$Reader" "length" "I", .fieldLink RX2 9 "RoundCompiler$Reader" "text" "[C", .methodLink RX2 122 yX2_nameOf, .static yX2_nameOf, .code yX2_nameOf cX2_nameOf 1 (some .int)] ++ wsX20)
def wsX2_readStore_r1 : List Cond := [Cond.fieldLink RX2 29 "RoundCompiler$Reader" "at" "I", Cond.fieldLink RX2 18 "RoundCompiler$Reader" "code" "LRoundCompiler$Code;", Cond.methodLink RX2 45 yX2_expect, Cond.instanceMethod yX2_expect, Cond.selects RX2 yX2_expect yX2_expect, Cond.initialized RX2, Cond.code yX2_expect cX2_expect 2 (some .boolean), Cond.methodLink RX2 48 yX2_here, Cond.instanceMethod yX2_here, Cond.selects RX2 yX2_here yX2_here, Cond.code yX2_here cX2_here 1 (some .int), Cond.fieldLink RX2 22 "RoundCompiler$Reader" "length" "I", Cond.fieldLink RX2 9 "RoundCompiler$Reader" "text" "[C", Cond.methodLink RX2 52 yX2_refuse, Cond.instanceMethod yX2_refuse, Cond.selects RX2 yX2_refuse yX2_refuse, Cond.code yX2_refuse cX2_refuse 2 (some .boolean), Cond.fieldLink RX2 32 "RoundCompiler$Reader" "faultPlace" "I", Cond.methodLink RX2 77 yX2_readSum, Cond.instanceMethod yX2_readSum, Cond.selects RX2 yX2_readSum yX2_readSum, Cond.code yX2_readSum cX2_readSum 4 (some .boolean), Cond.methodLink RX2 104 yX2_readTurned, Cond.instanceMethod yX2_readTurned]
def wsX2_readStore_r2 : List Cond := [Cond.selects RX2 yX2_readTurned yX2_readTurned, Cond.methodLink RX2 107 yX2_isOperator, Cond.static yX2_isOperator, Cond.code yX2_isOperator cX2_isOperator 1 (some .boolean), Cond.instanceMethod yX0_addOfTwo, Cond.initialized RX0, Cond.selects RX0 yX0_addOfTwo yX0_addOfTwo, Cond.code yX0_addOfTwo cX0_addOfTwo 2 none, Cond.fieldLink RX0 21 "RoundCompiler$Code" "size" "I", Cond.fieldLink RX0 15 "RoundCompiler$Code" "firsts" "[I", Cond.fieldLink RX0 28 "RoundCompiler$Code" "operators" "I", Cond.methodLink RX0 31 yX0_endsInNumbers, Cond.instanceMethod yX0_endsInNumbers, Cond.selects RX0 yX0_endsInNumbers yX0_endsInNumbers, Cond.code yX0_endsInNumbers cX0_endsInNumbers 3 (some .boolean), Cond.fieldLink RX0 9 "RoundCompiler$Code" "kinds" "[I", Cond.static yX3_ofTwo, Cond.initialized RX3, Cond.code yX3_ofTwo cX3_ofTwo 3 (some .int), Cond.methodLink RX0 39 yX0_add, Cond.instanceMethod yX0_add, Cond.selects RX0 yX0_add yX0_add, Cond.code yX0_add cX0_add 4 none, Cond.fieldLink RX0 18 "RoundCompiler$Code" "seconds" "[I"]
def wsX2_readStore_r3 : List Cond := [Cond.code yX2_readFactor cX2_readFactor 3 (some .boolean), Cond.constantLong RX2 129 (4294967295), Cond.fieldLink RX2 90 "RoundCompiler$Reader" "number" "J", Cond.methodLink RX2 122 yX2_nameOf, Cond.static yX2_nameOf, Cond.code yX2_nameOf cX2_nameOf 1 (some .int), Cond.methodLink RX2 126 yX2_readNested, Cond.instanceMethod yX2_readNested, Cond.selects RX2 yX2_readNested yX2_readNested, Cond.methodLink RX2 86 yX2_readNumber, Cond.instanceMethod yX2_readNumber, Cond.selects RX2 yX2_readNumber yX2_readNumber, Cond.code yX2_readNumber cX2_readNumber 10 (some .boolean), Cond.methodLink RX2 131 yX2_digitOf, Cond.static yX2_digitOf, Cond.code yX2_digitOf cX2_digitOf 2 (some .int), Cond.code yX2_readNested cX2_readNested 3 (some .boolean), Cond.methodLink RX2 114 yX2_readFactor, Cond.instanceMethod yX2_readFactor, Cond.selects RX2 yX2_readFactor yX2_readFactor, Cond.instanceMethod yX0_addOfOne, Cond.selects RX0 yX0_addOfOne yX0_addOfOne, Cond.code yX0_addOfOne cX0_addOfOne 3 none, Cond.static yX3_ofOne]
def wsX2_readStore_r4 : List Cond := [Cond.code yX3_ofOne cX3_ofOne 3 (some .int), Cond.code yX2_readTurned cX2_readTurned 4 (some .boolean), Cond.constantLong RX2 117 (31)]
def wsX2_readStore : List Cond := .code yX2_readStore cX2_readStore 1 (some .boolean) :: ((wsX2_readStore_r1 ++ (wsX2_readStore_r2 ++ (wsX2_readStore_r3 ++ wsX2_readStore_r4))) ++ wsX20 ++ wsX00)
def wsX2_readSet_r1 : List Cond := [Cond.fieldLink RX2 29 "RoundCompiler$Reader" "at" "I", Cond.fieldLink RX2 18 "RoundCompiler$Reader" "code" "LRoundCompiler$Code;", Cond.methodLink RX2 74 yX2_freeName, Cond.instanceMethod yX2_freeName, Cond.selects RX2 yX2_freeName yX2_freeName, Cond.initialized RX2, Cond.code yX2_freeName cX2_freeName 2 (some .int), Cond.fieldLink RX2 35 "RoundCompiler$Reader" "loops" "I", Cond.methodLink RX2 48 yX2_here, Cond.instanceMethod yX2_here, Cond.selects RX2 yX2_here yX2_here, Cond.code yX2_here cX2_here 1 (some .int), Cond.fieldLink RX2 22 "RoundCompiler$Reader" "length" "I", Cond.fieldLink RX2 9 "RoundCompiler$Reader" "text" "[C", Cond.methodLink RX2 122 yX2_nameOf, Cond.static yX2_nameOf, Cond.code yX2_nameOf cX2_nameOf 1 (some .int), Cond.methodLink RX2 52 yX2_refuse, Cond.instanceMethod yX2_refuse, Cond.selects RX2 yX2_refuse yX2_refuse, Cond.code yX2_refuse cX2_refuse 2 (some .boolean), Cond.fieldLink RX2 32 "RoundCompiler$Reader" "faultPlace" "I", Cond.methodLink RX2 45 yX2_expect, Cond.instanceMethod yX2_expect]
def wsX2_readSet_r2 : List Cond := [Cond.selects RX2 yX2_expect yX2_expect, Cond.code yX2_expect cX2_expect 2 (some .boolean), Cond.methodLink RX2 77 yX2_readSum, Cond.instanceMethod yX2_readSum, Cond.selects RX2 yX2_readSum yX2_readSum, Cond.code yX2_readSum cX2_readSum 4 (some .boolean), Cond.methodLink RX2 104 yX2_readTurned, Cond.instanceMethod yX2_readTurned, Cond.selects RX2 yX2_readTurned yX2_readTurned, Cond.methodLink RX2 107 yX2_isOperator, Cond.static yX2_isOperator, Cond.code yX2_isOperator cX2_isOperator 1 (some .boolean), Cond.instanceMethod yX0_addOfTwo, Cond.initialized RX0, Cond.selects RX0 yX0_addOfTwo yX0_addOfTwo, Cond.code yX0_addOfTwo cX0_addOfTwo 2 none, Cond.fieldLink RX0 21 "RoundCompiler$Code" "size" "I", Cond.fieldLink RX0 15 "RoundCompiler$Code" "firsts" "[I", Cond.fieldLink RX0 28 "RoundCompiler$Code" "operators" "I", Cond.methodLink RX0 31 yX0_endsInNumbers, Cond.instanceMethod yX0_endsInNumbers, Cond.selects RX0 yX0_endsInNumbers yX0_endsInNumbers, Cond.code yX0_endsInNumbers cX0_endsInNumbers 3 (some .boolean), Cond.fieldLink RX0 9 "RoundCompiler$Code" "kinds" "[I"]
def wsX2_readSet_r3 : List Cond := [Cond.static yX3_ofTwo, Cond.initialized RX3, Cond.code yX3_ofTwo cX3_ofTwo 3 (some .int), Cond.methodLink RX0 39 yX0_add, Cond.instanceMethod yX0_add, Cond.selects RX0 yX0_add yX0_add, Cond.code yX0_add cX0_add 4 none, Cond.fieldLink RX0 18 "RoundCompiler$Code" "seconds" "[I", Cond.code yX2_readFactor cX2_readFactor 3 (some .boolean), Cond.constantLong RX2 129 (4294967295), Cond.fieldLink RX2 90 "RoundCompiler$Reader" "number" "J", Cond.methodLink RX2 126 yX2_readNested, Cond.instanceMethod yX2_readNested, Cond.selects RX2 yX2_readNested yX2_readNested, Cond.methodLink RX2 86 yX2_readNumber, Cond.instanceMethod yX2_readNumber, Cond.selects RX2 yX2_readNumber yX2_readNumber, Cond.code yX2_readNumber cX2_readNumber 10 (some .boolean), Cond.methodLink RX2 131 yX2_digitOf, Cond.static yX2_digitOf, Cond.code yX2_digitOf cX2_digitOf 2 (some .int), Cond.code yX2_readNested cX2_readNested 3 (some .boolean), Cond.methodLink RX2 114 yX2_readFactor, Cond.instanceMethod yX2_readFactor]
def wsX2_readSet_r4 : List Cond := [Cond.selects RX2 yX2_readFactor yX2_readFactor, Cond.instanceMethod yX0_addOfOne, Cond.selects RX0 yX0_addOfOne yX0_addOfOne, Cond.code yX0_addOfOne cX0_addOfOne 3 none, Cond.static yX3_ofOne, Cond.code yX3_ofOne cX3_ofOne 3 (some .int), Cond.code yX2_readTurned cX2_readTurned 4 (some .boolean), Cond.constantLong RX2 117 (31)]
def wsX2_readSet : List Cond := .code yX2_readSet cX2_readSet 2 (some .boolean) :: ((wsX2_readSet_r1 ++ (wsX2_readSet_r2 ++ (wsX2_readSet_r3 ++ wsX2_readSet_r4))) ++ wsX20 ++ wsX00)
def wsX2_readBlock_r1 : List Cond := [Cond.methodLink RX2 45 yX2_expect, Cond.instanceMethod yX2_expect, Cond.selects RX2 yX2_expect yX2_expect, Cond.initialized RX2, Cond.code yX2_expect cX2_expect 2 (some .boolean), Cond.fieldLink RX2 29 "RoundCompiler$Reader" "at" "I", Cond.methodLink RX2 48 yX2_here, Cond.instanceMethod yX2_here, Cond.selects RX2 yX2_here yX2_here, Cond.code yX2_here cX2_here 1 (some .int), Cond.fieldLink RX2 22 "RoundCompiler$Reader" "length" "I", Cond.fieldLink RX2 9 "RoundCompiler$Reader" "text" "[C", Cond.methodLink RX2 52 yX2_refuse, Cond.instanceMethod yX2_refuse, Cond.selects RX2 yX2_refuse yX2_refuse, Cond.code yX2_refuse cX2_refuse 2 (some .boolean), Cond.fieldLink RX2 32 "RoundCompiler$Reader" "faultPlace" "I", Cond.methodLink RX2 41 yX2_readProgram, Cond.instanceMethod yX2_readProgram, Cond.selects RX2 yX2_readProgram yX2_readProgram, Cond.code yX2_readBranch cX2_readBranch 3 (some .boolean), Cond.fieldLink RX2 18 "RoundCompiler$Reader" "code" "LRoundCompiler$Code;", Cond.methodLink RX2 77 yX2_readSum, Cond.instanceMethod yX2_readSum]
def wsX2_readBlock_r2 : List Cond := [Cond.selects RX2 yX2_readSum yX2_readSum, Cond.code yX2_readSum cX2_readSum 4 (some .boolean), Cond.methodLink RX2 104 yX2_readTurned, Cond.instanceMethod yX2_readTurned, Cond.selects RX2 yX2_readTurned yX2_readTurned, Cond.methodLink RX2 107 yX2_isOperator, Cond.static yX2_isOperator, Cond.code yX2_isOperator cX2_isOperator 1 (some .boolean), Cond.instanceMethod yX0_addOfTwo, Cond.initialized RX0, Cond.selects RX0 yX0_addOfTwo yX0_addOfTwo, Cond.code yX0_addOfTwo cX0_addOfTwo 2 none, Cond.fieldLink RX0 21 "RoundCompiler$Code" "size" "I", Cond.fieldLink RX0 15 "RoundCompiler$Code" "firsts" "[I", Cond.fieldLink RX0 28 "RoundCompiler$Code" "operators" "I", Cond.methodLink RX0 31 yX0_endsInNumbers, Cond.instanceMethod yX0_endsInNumbers, Cond.selects RX0 yX0_endsInNumbers yX0_endsInNumbers, Cond.code yX0_endsInNumbers cX0_endsInNumbers 3 (some .boolean), Cond.fieldLink RX0 9 "RoundCompiler$Code" "kinds" "[I", Cond.static yX3_ofTwo, Cond.initialized RX3, Cond.code yX3_ofTwo cX3_ofTwo 3 (some .int), Cond.methodLink RX0 39 yX0_add]
def wsX2_readBlock_r3 : List Cond := [Cond.instanceMethod yX0_add, Cond.selects RX0 yX0_add yX0_add, Cond.code yX0_add cX0_add 4 none, Cond.fieldLink RX0 18 "RoundCompiler$Code" "seconds" "[I", Cond.code yX2_readFactor cX2_readFactor 3 (some .boolean), Cond.constantLong RX2 129 (4294967295), Cond.fieldLink RX2 90 "RoundCompiler$Reader" "number" "J", Cond.methodLink RX2 122 yX2_nameOf, Cond.static yX2_nameOf, Cond.code yX2_nameOf cX2_nameOf 1 (some .int), Cond.methodLink RX2 126 yX2_readNested, Cond.instanceMethod yX2_readNested, Cond.selects RX2 yX2_readNested yX2_readNested, Cond.methodLink RX2 86 yX2_readNumber, Cond.instanceMethod yX2_readNumber, Cond.selects RX2 yX2_readNumber yX2_readNumber, Cond.code yX2_readNumber cX2_readNumber 10 (some .boolean), Cond.methodLink RX2 131 yX2_digitOf, Cond.static yX2_digitOf, Cond.code yX2_digitOf cX2_digitOf 2 (some .int), Cond.code yX2_readNested cX2_readNested 3 (some .boolean), Cond.methodLink RX2 114 yX2_readFactor, Cond.instanceMethod yX2_readFactor, Cond.selects RX2 yX2_readFactor yX2_readFactor]
def wsX2_readBlock_r4 : List Cond := [Cond.instanceMethod yX0_addOfOne, Cond.selects RX0 yX0_addOfOne yX0_addOfOne, Cond.code yX0_addOfOne cX0_addOfOne 3 none, Cond.static yX3_ofOne, Cond.code yX3_ofOne cX3_ofOne 3 (some .int), Cond.code yX2_readTurned cX2_readTurned 4 (some .boolean), Cond.constantLong RX2 117 (31), Cond.methodLink RX2 97 yX2_readBlock, Cond.instanceMethod yX2_readBlock, Cond.selects RX2 yX2_readBlock yX2_readBlock, Cond.instanceMethod yX0_setFirst, Cond.selects RX0 yX0_setFirst yX0_setFirst, Cond.code yX0_setFirst cX0_setFirst 3 none, Cond.code yX2_readLoop cX2_readLoop 7 (some .boolean), Cond.constantLong RX2 84 (64), Cond.fieldLink RX2 38 "RoundCompiler$Reader" "turns" "I", Cond.fieldLink RX2 35 "RoundCompiler$Reader" "loops" "I", Cond.methodLink RX2 74 yX2_freeName, Cond.instanceMethod yX2_freeName, Cond.selects RX2 yX2_freeName yX2_freeName, Cond.code yX2_freeName cX2_freeName 2 (some .int), Cond.code yX2_readProgram cX2_readProgram 3 (some .boolean), Cond.methodLink RX2 58 yX2_readStatement, Cond.instanceMethod yX2_readStatement]
def wsX2_readBlock_r5 : List Cond := [Cond.selects RX2 yX2_readStatement yX2_readStatement, Cond.code yX2_readStatement cX2_readStatement 2 (some .boolean), Cond.methodLink RX2 61 yX2_readStore, Cond.instanceMethod yX2_readStore, Cond.selects RX2 yX2_readStore yX2_readStore, Cond.code yX2_readStore cX2_readStore 1 (some .boolean), Cond.methodLink RX2 65 yX2_readLoop, Cond.instanceMethod yX2_readLoop, Cond.selects RX2 yX2_readLoop yX2_readLoop, Cond.methodLink RX2 68 yX2_readBranch, Cond.instanceMethod yX2_readBranch, Cond.selects RX2 yX2_readBranch yX2_readBranch, Cond.methodLink RX2 71 yX2_readSet, Cond.instanceMethod yX2_readSet, Cond.selects RX2 yX2_readSet yX2_readSet, Cond.code yX2_readSet cX2_readSet 2 (some .boolean)]
def wsX2_readBlock : List Cond := .code yX2_readBlock cX2_readBlock 2 (some .boolean) :: ((wsX2_readBlock_r1 ++ (wsX2_readBlock_r2 ++ (wsX2_readBlock_r3 ++ (wsX2_readBlock_r4 ++ wsX2_readBlock_r5)))) ++ wsX20 ++ wsX00)
def wsX2_readBranch_r1 : List Cond := [Cond.fieldLink RX2 29 "RoundCompiler$Reader" "at" "I", Cond.fieldLink RX2 18 "RoundCompiler$Reader" "code" "LRoundCompiler$Code;", Cond.methodLink RX2 77 yX2_readSum, Cond.instanceMethod yX2_readSum, Cond.selects RX2 yX2_readSum yX2_readSum, Cond.initialized RX2, Cond.code yX2_readSum cX2_readSum 4 (some .boolean), Cond.methodLink RX2 104 yX2_readTurned, Cond.instanceMethod yX2_readTurned, Cond.selects RX2 yX2_readTurned yX2_readTurned, Cond.methodLink RX2 48 yX2_here, Cond.instanceMethod yX2_here, Cond.selects RX2 yX2_here yX2_here, Cond.code yX2_here cX2_here 1 (some .int), Cond.fieldLink RX2 22 "RoundCompiler$Reader" "length" "I", Cond.fieldLink RX2 9 "RoundCompiler$Reader" "text" "[C", Cond.methodLink RX2 107 yX2_isOperator, Cond.static yX2_isOperator, Cond.code yX2_isOperator cX2_isOperator 1 (some .boolean), Cond.instanceMethod yX0_addOfTwo, Cond.initialized RX0, Cond.selects RX0 yX0_addOfTwo yX0_addOfTwo, Cond.code yX0_addOfTwo cX0_addOfTwo 2 none, Cond.fieldLink RX0 21 "RoundCompiler$Code" "size" "I"]
def wsX2_readBranch_r2 : List Cond := [Cond.fieldLink RX0 15 "RoundCompiler$Code" "firsts" "[I", Cond.fieldLink RX0 28 "RoundCompiler$Code" "operators" "I", Cond.methodLink RX0 31 yX0_endsInNumbers, Cond.instanceMethod yX0_endsInNumbers, Cond.selects RX0 yX0_endsInNumbers yX0_endsInNumbers, Cond.code yX0_endsInNumbers cX0_endsInNumbers 3 (some .boolean), Cond.fieldLink RX0 9 "RoundCompiler$Code" "kinds" "[I", Cond.static yX3_ofTwo, Cond.initialized RX3, Cond.code yX3_ofTwo cX3_ofTwo 3 (some .int), Cond.methodLink RX0 39 yX0_add, Cond.instanceMethod yX0_add, Cond.selects RX0 yX0_add yX0_add, Cond.code yX0_add cX0_add 4 none, Cond.fieldLink RX0 18 "RoundCompiler$Code" "seconds" "[I", Cond.code yX2_readFactor cX2_readFactor 3 (some .boolean), Cond.constantLong RX2 129 (4294967295), Cond.fieldLink RX2 90 "RoundCompiler$Reader" "number" "J", Cond.methodLink RX2 122 yX2_nameOf, Cond.static yX2_nameOf, Cond.code yX2_nameOf cX2_nameOf 1 (some .int), Cond.methodLink RX2 126 yX2_readNested, Cond.instanceMethod yX2_readNested, Cond.selects RX2 yX2_readNested yX2_readNested]
def wsX2_readBranch_r3 : List Cond := [Cond.methodLink RX2 52 yX2_refuse, Cond.instanceMethod yX2_refuse, Cond.selects RX2 yX2_refuse yX2_refuse, Cond.code yX2_refuse cX2_refuse 2 (some .boolean), Cond.fieldLink RX2 32 "RoundCompiler$Reader" "faultPlace" "I", Cond.methodLink RX2 86 yX2_readNumber, Cond.instanceMethod yX2_readNumber, Cond.selects RX2 yX2_readNumber yX2_readNumber, Cond.code yX2_readNumber cX2_readNumber 10 (some .boolean), Cond.methodLink RX2 131 yX2_digitOf, Cond.static yX2_digitOf, Cond.code yX2_digitOf cX2_digitOf 2 (some .int), Cond.code yX2_readNested cX2_readNested 3 (some .boolean), Cond.methodLink RX2 45 yX2_expect, Cond.instanceMethod yX2_expect, Cond.selects RX2 yX2_expect yX2_expect, Cond.code yX2_expect cX2_expect 2 (some .boolean), Cond.methodLink RX2 114 yX2_readFactor, Cond.instanceMethod yX2_readFactor, Cond.selects RX2 yX2_readFactor yX2_readFactor, Cond.instanceMethod yX0_addOfOne, Cond.selects RX0 yX0_addOfOne yX0_addOfOne, Cond.code yX0_addOfOne cX0_addOfOne 3 none, Cond.static yX3_ofOne]
def wsX2_readBranch_r4 : List Cond := [Cond.code yX3_ofOne cX3_ofOne 3 (some .int), Cond.code yX2_readTurned cX2_readTurned 4 (some .boolean), Cond.constantLong RX2 117 (31), Cond.methodLink RX2 97 yX2_readBlock, Cond.instanceMethod yX2_readBlock, Cond.selects RX2 yX2_readBlock yX2_readBlock, Cond.instanceMethod yX0_setFirst, Cond.selects RX0 yX0_setFirst yX0_setFirst, Cond.code yX0_setFirst cX0_setFirst 3 none, Cond.code yX2_readBlock cX2_readBlock 2 (some .boolean), Cond.methodLink RX2 41 yX2_readProgram, Cond.instanceMethod yX2_readProgram, Cond.selects RX2 yX2_readProgram yX2_readProgram, Cond.code yX2_readLoop cX2_readLoop 7 (some .boolean), Cond.constantLong RX2 84 (64), Cond.fieldLink RX2 38 "RoundCompiler$Reader" "turns" "I", Cond.fieldLink RX2 35 "RoundCompiler$Reader" "loops" "I", Cond.methodLink RX2 74 yX2_freeName, Cond.instanceMethod yX2_freeName, Cond.selects RX2 yX2_freeName yX2_freeName, Cond.code yX2_freeName cX2_freeName 2 (some .int), Cond.code yX2_readProgram cX2_readProgram 3 (some .boolean), Cond.methodLink RX2 58 yX2_readStatement, Cond.instanceMethod yX2_readStatement]
def wsX2_readBranch_r5 : List Cond := [Cond.selects RX2 yX2_readStatement yX2_readStatement, Cond.code yX2_readStatement cX2_readStatement 2 (some .boolean), Cond.methodLink RX2 61 yX2_readStore, Cond.instanceMethod yX2_readStore, Cond.selects RX2 yX2_readStore yX2_readStore, Cond.code yX2_readStore cX2_readStore 1 (some .boolean), Cond.methodLink RX2 65 yX2_readLoop, Cond.instanceMethod yX2_readLoop, Cond.selects RX2 yX2_readLoop yX2_readLoop, Cond.methodLink RX2 68 yX2_readBranch, Cond.instanceMethod yX2_readBranch, Cond.selects RX2 yX2_readBranch yX2_readBranch, Cond.methodLink RX2 71 yX2_readSet, Cond.instanceMethod yX2_readSet, Cond.selects RX2 yX2_readSet yX2_readSet, Cond.code yX2_readSet cX2_readSet 2 (some .boolean)]
def wsX2_readBranch : List Cond := .code yX2_readBranch cX2_readBranch 3 (some .boolean) :: ((wsX2_readBranch_r1 ++ (wsX2_readBranch_r2 ++ (wsX2_readBranch_r3 ++ (wsX2_readBranch_r4 ++ wsX2_readBranch_r5)))) ++ wsX20 ++ wsX00)
def wsX2_readLoop_r1 : List Cond := [Cond.fieldLink RX2 29 "RoundCompiler$Reader" "at" "I", Cond.constantLong RX2 84 (64), Cond.fieldLink RX2 90 "RoundCompiler$Reader" "number" "J", Cond.fieldLink RX2 38 "RoundCompiler$Reader" "turns" "I", Cond.fieldLink RX2 18 "RoundCompiler$Reader" "code" "LRoundCompiler$Code;", Cond.fieldLink RX2 35 "RoundCompiler$Reader" "loops" "I", Cond.methodLink RX2 74 yX2_freeName, Cond.instanceMethod yX2_freeName, Cond.selects RX2 yX2_freeName yX2_freeName, Cond.initialized RX2, Cond.code yX2_freeName cX2_freeName 2 (some .int), Cond.methodLink RX2 48 yX2_here, Cond.instanceMethod yX2_here, Cond.selects RX2 yX2_here yX2_here, Cond.code yX2_here cX2_here 1 (some .int), Cond.fieldLink RX2 22 "RoundCompiler$Reader" "length" "I", Cond.fieldLink RX2 9 "RoundCompiler$Reader" "text" "[C", Cond.methodLink RX2 122 yX2_nameOf, Cond.static yX2_nameOf, Cond.code yX2_nameOf cX2_nameOf 1 (some .int), Cond.methodLink RX2 52 yX2_refuse, Cond.instanceMethod yX2_refuse, Cond.selects RX2 yX2_refuse yX2_refuse, Cond.code yX2_refuse cX2_refuse 2 (some .boolean)]
def wsX2_readLoop_r2 : List Cond := [Cond.fieldLink RX2 32 "RoundCompiler$Reader" "faultPlace" "I", Cond.methodLink RX2 86 yX2_readNumber, Cond.instanceMethod yX2_readNumber, Cond.selects RX2 yX2_readNumber yX2_readNumber, Cond.code yX2_readNumber cX2_readNumber 10 (some .boolean), Cond.methodLink RX2 131 yX2_digitOf, Cond.static yX2_digitOf, Cond.code yX2_digitOf cX2_digitOf 2 (some .int), Cond.instanceMethod yX0_add, Cond.initialized RX0, Cond.selects RX0 yX0_add yX0_add, Cond.code yX0_add cX0_add 4 none, Cond.fieldLink RX0 21 "RoundCompiler$Code" "size" "I", Cond.fieldLink RX0 9 "RoundCompiler$Code" "kinds" "[I", Cond.fieldLink RX0 15 "RoundCompiler$Code" "firsts" "[I", Cond.fieldLink RX0 18 "RoundCompiler$Code" "seconds" "[I", Cond.methodLink RX2 97 yX2_readBlock, Cond.instanceMethod yX2_readBlock, Cond.selects RX2 yX2_readBlock yX2_readBlock, Cond.code yX2_readBlock cX2_readBlock 2 (some .boolean), Cond.methodLink RX2 45 yX2_expect, Cond.instanceMethod yX2_expect, Cond.selects RX2 yX2_expect yX2_expect, Cond.code yX2_expect cX2_expect 2 (some .boolean)]
def wsX2_readLoop_r3 : List Cond := [Cond.methodLink RX2 41 yX2_readProgram, Cond.instanceMethod yX2_readProgram, Cond.selects RX2 yX2_readProgram yX2_readProgram, Cond.code yX2_readBranch cX2_readBranch 3 (some .boolean), Cond.methodLink RX2 77 yX2_readSum, Cond.instanceMethod yX2_readSum, Cond.selects RX2 yX2_readSum yX2_readSum, Cond.code yX2_readSum cX2_readSum 4 (some .boolean), Cond.methodLink RX2 104 yX2_readTurned, Cond.instanceMethod yX2_readTurned, Cond.selects RX2 yX2_readTurned yX2_readTurned, Cond.methodLink RX2 107 yX2_isOperator, Cond.static yX2_isOperator, Cond.code yX2_isOperator cX2_isOperator 1 (some .boolean), Cond.instanceMethod yX0_addOfTwo, Cond.selects RX0 yX0_addOfTwo yX0_addOfTwo, Cond.code yX0_addOfTwo cX0_addOfTwo 2 none, Cond.fieldLink RX0 28 "RoundCompiler$Code" "operators" "I", Cond.methodLink RX0 31 yX0_endsInNumbers, Cond.instanceMethod yX0_endsInNumbers, Cond.selects RX0 yX0_endsInNumbers yX0_endsInNumbers, Cond.code yX0_endsInNumbers cX0_endsInNumbers 3 (some .boolean), Cond.static yX3_ofTwo, Cond.initialized RX3]
def wsX2_readLoop_r4 : List Cond := [Cond.code yX3_ofTwo cX3_ofTwo 3 (some .int), Cond.methodLink RX0 39 yX0_add, Cond.code yX2_readFactor cX2_readFactor 3 (some .boolean), Cond.constantLong RX2 129 (4294967295), Cond.methodLink RX2 126 yX2_readNested, Cond.instanceMethod yX2_readNested, Cond.selects RX2 yX2_readNested yX2_readNested, Cond.code yX2_readNested cX2_readNested 3 (some .boolean), Cond.methodLink RX2 114 yX2_readFactor, Cond.instanceMethod yX2_readFactor, Cond.selects RX2 yX2_readFactor yX2_readFactor, Cond.instanceMethod yX0_addOfOne, Cond.selects RX0 yX0_addOfOne yX0_addOfOne, Cond.code yX0_addOfOne cX0_addOfOne 3 none, Cond.static yX3_ofOne, Cond.code yX3_ofOne cX3_ofOne 3 (some .int), Cond.code yX2_readTurned cX2_readTurned 4 (some .boolean), Cond.constantLong RX2 117 (31), Cond.instanceMethod yX0_setFirst, Cond.selects RX0 yX0_setFirst yX0_setFirst, Cond.code yX0_setFirst cX0_setFirst 3 none, Cond.code yX2_readProgram cX2_readProgram 3 (some .boolean), Cond.methodLink RX2 58 yX2_readStatement, Cond.instanceMethod yX2_readStatement]
def wsX2_readLoop_r5 : List Cond := [Cond.selects RX2 yX2_readStatement yX2_readStatement, Cond.code yX2_readStatement cX2_readStatement 2 (some .boolean), Cond.methodLink RX2 61 yX2_readStore, Cond.instanceMethod yX2_readStore, Cond.selects RX2 yX2_readStore yX2_readStore, Cond.code yX2_readStore cX2_readStore 1 (some .boolean), Cond.methodLink RX2 65 yX2_readLoop, Cond.instanceMethod yX2_readLoop, Cond.selects RX2 yX2_readLoop yX2_readLoop, Cond.methodLink RX2 68 yX2_readBranch, Cond.instanceMethod yX2_readBranch, Cond.selects RX2 yX2_readBranch yX2_readBranch, Cond.methodLink RX2 71 yX2_readSet, Cond.instanceMethod yX2_readSet, Cond.selects RX2 yX2_readSet yX2_readSet, Cond.code yX2_readSet cX2_readSet 2 (some .boolean)]
def wsX2_readLoop : List Cond := .code yX2_readLoop cX2_readLoop 7 (some .boolean) :: ((wsX2_readLoop_r1 ++ (wsX2_readLoop_r2 ++ (wsX2_readLoop_r3 ++ (wsX2_readLoop_r4 ++ wsX2_readLoop_r5)))) ++ wsX20 ++ wsX00)
def wsX2_readProgram_r1 : List Cond := [Cond.fieldLink RX2 18 "RoundCompiler$Reader" "code" "LRoundCompiler$Code;", Cond.methodLink RX2 48 yX2_here, Cond.instanceMethod yX2_here, Cond.selects RX2 yX2_here yX2_here, Cond.initialized RX2, Cond.code yX2_here cX2_here 1 (some .int), Cond.fieldLink RX2 29 "RoundCompiler$Reader" "at" "I", Cond.fieldLink RX2 22 "RoundCompiler$Reader" "length" "I", Cond.fieldLink RX2 9 "RoundCompiler$Reader" "text" "[C", Cond.methodLink RX2 58 yX2_readStatement, Cond.instanceMethod yX2_readStatement, Cond.selects RX2 yX2_readStatement yX2_readStatement, Cond.code yX2_readBlock cX2_readBlock 2 (some .boolean), Cond.methodLink RX2 45 yX2_expect, Cond.instanceMethod yX2_expect, Cond.selects RX2 yX2_expect yX2_expect, Cond.code yX2_expect cX2_expect 2 (some .boolean), Cond.methodLink RX2 52 yX2_refuse, Cond.instanceMethod yX2_refuse, Cond.selects RX2 yX2_refuse yX2_refuse, Cond.code yX2_refuse cX2_refuse 2 (some .boolean), Cond.fieldLink RX2 32 "RoundCompiler$Reader" "faultPlace" "I", Cond.methodLink RX2 41 yX2_readProgram, Cond.instanceMethod yX2_readProgram]
def wsX2_readProgram_r2 : List Cond := [Cond.selects RX2 yX2_readProgram yX2_readProgram, Cond.code yX2_readBranch cX2_readBranch 3 (some .boolean), Cond.methodLink RX2 77 yX2_readSum, Cond.instanceMethod yX2_readSum, Cond.selects RX2 yX2_readSum yX2_readSum, Cond.code yX2_readSum cX2_readSum 4 (some .boolean), Cond.methodLink RX2 104 yX2_readTurned, Cond.instanceMethod yX2_readTurned, Cond.selects RX2 yX2_readTurned yX2_readTurned, Cond.methodLink RX2 107 yX2_isOperator, Cond.static yX2_isOperator, Cond.code yX2_isOperator cX2_isOperator 1 (some .boolean), Cond.instanceMethod yX0_addOfTwo, Cond.initialized RX0, Cond.selects RX0 yX0_addOfTwo yX0_addOfTwo, Cond.code yX0_addOfTwo cX0_addOfTwo 2 none, Cond.fieldLink RX0 21 "RoundCompiler$Code" "size" "I", Cond.fieldLink RX0 15 "RoundCompiler$Code" "firsts" "[I", Cond.fieldLink RX0 28 "RoundCompiler$Code" "operators" "I", Cond.methodLink RX0 31 yX0_endsInNumbers, Cond.instanceMethod yX0_endsInNumbers, Cond.selects RX0 yX0_endsInNumbers yX0_endsInNumbers, Cond.code yX0_endsInNumbers cX0_endsInNumbers 3 (some .boolean), Cond.fieldLink RX0 9 "RoundCompiler$Code" "kinds" "[I"]
def wsX2_readProgram_r3 : List Cond := [Cond.static yX3_ofTwo, Cond.initialized RX3, Cond.code yX3_ofTwo cX3_ofTwo 3 (some .int), Cond.methodLink RX0 39 yX0_add, Cond.instanceMethod yX0_add, Cond.selects RX0 yX0_add yX0_add, Cond.code yX0_add cX0_add 4 none, Cond.fieldLink RX0 18 "RoundCompiler$Code" "seconds" "[I", Cond.code yX2_readFactor cX2_readFactor 3 (some .boolean), Cond.constantLong RX2 129 (4294967295), Cond.fieldLink RX2 90 "RoundCompiler$Reader" "number" "J", Cond.methodLink RX2 122 yX2_nameOf, Cond.static yX2_nameOf, Cond.code yX2_nameOf cX2_nameOf 1 (some .int), Cond.methodLink RX2 126 yX2_readNested, Cond.instanceMethod yX2_readNested, Cond.selects RX2 yX2_readNested yX2_readNested, Cond.methodLink RX2 86 yX2_readNumber, Cond.instanceMethod yX2_readNumber, Cond.selects RX2 yX2_readNumber yX2_readNumber, Cond.code yX2_readNumber cX2_readNumber 10 (some .boolean), Cond.methodLink RX2 131 yX2_digitOf, Cond.static yX2_digitOf, Cond.code yX2_digitOf cX2_digitOf 2 (some .int)]
def wsX2_readProgram_r4 : List Cond := [Cond.code yX2_readNested cX2_readNested 3 (some .boolean), Cond.methodLink RX2 114 yX2_readFactor, Cond.instanceMethod yX2_readFactor, Cond.selects RX2 yX2_readFactor yX2_readFactor, Cond.instanceMethod yX0_addOfOne, Cond.selects RX0 yX0_addOfOne yX0_addOfOne, Cond.code yX0_addOfOne cX0_addOfOne 3 none, Cond.static yX3_ofOne, Cond.code yX3_ofOne cX3_ofOne 3 (some .int), Cond.code yX2_readTurned cX2_readTurned 4 (some .boolean), Cond.constantLong RX2 117 (31), Cond.methodLink RX2 97 yX2_readBlock, Cond.instanceMethod yX2_readBlock, Cond.selects RX2 yX2_readBlock yX2_readBlock, Cond.instanceMethod yX0_setFirst, Cond.selects RX0 yX0_setFirst yX0_setFirst, Cond.code yX0_setFirst cX0_setFirst 3 none, Cond.code yX2_readLoop cX2_readLoop 7 (some .boolean), Cond.constantLong RX2 84 (64), Cond.fieldLink RX2 38 "RoundCompiler$Reader" "turns" "I", Cond.fieldLink RX2 35 "RoundCompiler$Reader" "loops" "I", Cond.methodLink RX2 74 yX2_freeName, Cond.instanceMethod yX2_freeName, Cond.selects RX2 yX2_freeName yX2_freeName]
def wsX2_readProgram_r5 : List Cond := [Cond.code yX2_freeName cX2_freeName 2 (some .int), Cond.code yX2_readStatement cX2_readStatement 2 (some .boolean), Cond.methodLink RX2 61 yX2_readStore, Cond.instanceMethod yX2_readStore, Cond.selects RX2 yX2_readStore yX2_readStore, Cond.code yX2_readStore cX2_readStore 1 (some .boolean), Cond.methodLink RX2 65 yX2_readLoop, Cond.instanceMethod yX2_readLoop, Cond.selects RX2 yX2_readLoop yX2_readLoop, Cond.methodLink RX2 68 yX2_readBranch, Cond.instanceMethod yX2_readBranch, Cond.selects RX2 yX2_readBranch yX2_readBranch, Cond.methodLink RX2 71 yX2_readSet, Cond.instanceMethod yX2_readSet, Cond.selects RX2 yX2_readSet yX2_readSet, Cond.code yX2_readSet cX2_readSet 2 (some .boolean)]
def wsX2_readProgram : List Cond := .code yX2_readProgram cX2_readProgram 3 (some .boolean) :: ((wsX2_readProgram_r1 ++ (wsX2_readProgram_r2 ++ (wsX2_readProgram_r3 ++ (wsX2_readProgram_r4 ++ wsX2_readProgram_r5)))) ++ wsX20 ++ wsX00)
def wsX2_readStatement_r1 : List Cond := [Cond.fieldLink RX2 29 "RoundCompiler$Reader" "at" "I", Cond.methodLink RX2 48 yX2_here, Cond.instanceMethod yX2_here, Cond.selects RX2 yX2_here yX2_here, Cond.initialized RX2, Cond.code yX2_here cX2_here 1 (some .int), Cond.fieldLink RX2 22 "RoundCompiler$Reader" "length" "I", Cond.fieldLink RX2 9 "RoundCompiler$Reader" "text" "[C", Cond.methodLink RX2 61 yX2_readStore, Cond.instanceMethod yX2_readStore, Cond.selects RX2 yX2_readStore yX2_readStore, Cond.code yX2_readStore cX2_readStore 1 (some .boolean), Cond.fieldLink RX2 18 "RoundCompiler$Reader" "code" "LRoundCompiler$Code;", Cond.methodLink RX2 45 yX2_expect, Cond.instanceMethod yX2_expect, Cond.selects RX2 yX2_expect yX2_expect, Cond.code yX2_expect cX2_expect 2 (some .boolean), Cond.methodLink RX2 52 yX2_refuse, Cond.instanceMethod yX2_refuse, Cond.selects RX2 yX2_refuse yX2_refuse, Cond.code yX2_refuse cX2_refuse 2 (some .boolean), Cond.fieldLink RX2 32 "RoundCompiler$Reader" "faultPlace" "I", Cond.methodLink RX2 77 yX2_readSum, Cond.instanceMethod yX2_readSum]
def wsX2_readStatement_r2 : List Cond := [Cond.selects RX2 yX2_readSum yX2_readSum, Cond.code yX2_readSum cX2_readSum 4 (some .boolean), Cond.methodLink RX2 104 yX2_readTurned, Cond.instanceMethod yX2_readTurned, Cond.selects RX2 yX2_readTurned yX2_readTurned, Cond.methodLink RX2 107 yX2_isOperator, Cond.static yX2_isOperator, Cond.code yX2_isOperator cX2_isOperator 1 (some .boolean), Cond.instanceMethod yX0_addOfTwo, Cond.initialized RX0, Cond.selects RX0 yX0_addOfTwo yX0_addOfTwo, Cond.code yX0_addOfTwo cX0_addOfTwo 2 none, Cond.fieldLink RX0 21 "RoundCompiler$Code" "size" "I", Cond.fieldLink RX0 15 "RoundCompiler$Code" "firsts" "[I", Cond.fieldLink RX0 28 "RoundCompiler$Code" "operators" "I", Cond.methodLink RX0 31 yX0_endsInNumbers, Cond.instanceMethod yX0_endsInNumbers, Cond.selects RX0 yX0_endsInNumbers yX0_endsInNumbers, Cond.code yX0_endsInNumbers cX0_endsInNumbers 3 (some .boolean), Cond.fieldLink RX0 9 "RoundCompiler$Code" "kinds" "[I", Cond.static yX3_ofTwo, Cond.initialized RX3, Cond.code yX3_ofTwo cX3_ofTwo 3 (some .int), Cond.methodLink RX0 39 yX0_add]
def wsX2_readStatement_r3 : List Cond := [Cond.instanceMethod yX0_add, Cond.selects RX0 yX0_add yX0_add, Cond.code yX0_add cX0_add 4 none, Cond.fieldLink RX0 18 "RoundCompiler$Code" "seconds" "[I", Cond.code yX2_readFactor cX2_readFactor 3 (some .boolean), Cond.constantLong RX2 129 (4294967295), Cond.fieldLink RX2 90 "RoundCompiler$Reader" "number" "J", Cond.methodLink RX2 122 yX2_nameOf, Cond.static yX2_nameOf, Cond.code yX2_nameOf cX2_nameOf 1 (some .int), Cond.methodLink RX2 126 yX2_readNested, Cond.instanceMethod yX2_readNested, Cond.selects RX2 yX2_readNested yX2_readNested, Cond.methodLink RX2 86 yX2_readNumber, Cond.instanceMethod yX2_readNumber, Cond.selects RX2 yX2_readNumber yX2_readNumber, Cond.code yX2_readNumber cX2_readNumber 10 (some .boolean), Cond.methodLink RX2 131 yX2_digitOf, Cond.static yX2_digitOf, Cond.code yX2_digitOf cX2_digitOf 2 (some .int), Cond.code yX2_readNested cX2_readNested 3 (some .boolean), Cond.methodLink RX2 114 yX2_readFactor, Cond.instanceMethod yX2_readFactor, Cond.selects RX2 yX2_readFactor yX2_readFactor]
def wsX2_readStatement_r4 : List Cond := [Cond.instanceMethod yX0_addOfOne, Cond.selects RX0 yX0_addOfOne yX0_addOfOne, Cond.code yX0_addOfOne cX0_addOfOne 3 none, Cond.static yX3_ofOne, Cond.code yX3_ofOne cX3_ofOne 3 (some .int), Cond.code yX2_readTurned cX2_readTurned 4 (some .boolean), Cond.constantLong RX2 117 (31), Cond.methodLink RX2 65 yX2_readLoop, Cond.instanceMethod yX2_readLoop, Cond.selects RX2 yX2_readLoop yX2_readLoop, Cond.methodLink RX2 68 yX2_readBranch, Cond.instanceMethod yX2_readBranch, Cond.selects RX2 yX2_readBranch yX2_readBranch, Cond.methodLink RX2 71 yX2_readSet, Cond.instanceMethod yX2_readSet, Cond.selects RX2 yX2_readSet yX2_readSet, Cond.code yX2_readSet cX2_readSet 2 (some .boolean), Cond.methodLink RX2 74 yX2_freeName, Cond.instanceMethod yX2_freeName, Cond.selects RX2 yX2_freeName yX2_freeName, Cond.code yX2_freeName cX2_freeName 2 (some .int), Cond.fieldLink RX2 35 "RoundCompiler$Reader" "loops" "I", Cond.code yX2_readBlock cX2_readBlock 2 (some .boolean), Cond.methodLink RX2 41 yX2_readProgram]
def wsX2_readStatement_r5 : List Cond := [Cond.instanceMethod yX2_readProgram, Cond.selects RX2 yX2_readProgram yX2_readProgram, Cond.code yX2_readBranch cX2_readBranch 3 (some .boolean), Cond.methodLink RX2 97 yX2_readBlock, Cond.instanceMethod yX2_readBlock, Cond.selects RX2 yX2_readBlock yX2_readBlock, Cond.instanceMethod yX0_setFirst, Cond.selects RX0 yX0_setFirst yX0_setFirst, Cond.code yX0_setFirst cX0_setFirst 3 none, Cond.code yX2_readLoop cX2_readLoop 7 (some .boolean), Cond.constantLong RX2 84 (64), Cond.fieldLink RX2 38 "RoundCompiler$Reader" "turns" "I", Cond.code yX2_readProgram cX2_readProgram 3 (some .boolean), Cond.methodLink RX2 58 yX2_readStatement, Cond.instanceMethod yX2_readStatement, Cond.selects RX2 yX2_readStatement yX2_readStatement]
def wsX2_readStatement : List Cond := .code yX2_readStatement cX2_readStatement 2 (some .boolean) :: ((wsX2_readStatement_r1 ++ (wsX2_readStatement_r2 ++ (wsX2_readStatement_r3 ++ (wsX2_readStatement_r4 ++ wsX2_readStatement_r5)))) ++ wsX20 ++ wsX00)
def wsX2_readText_r1 : List Cond := [Cond.fieldLink RX2 18 "RoundCompiler$Reader" "code" "LRoundCompiler$Code;", Cond.fieldLink RX2 29 "RoundCompiler$Reader" "at" "I", Cond.fieldLink RX2 32 "RoundCompiler$Reader" "faultPlace" "I", Cond.fieldLink RX2 35 "RoundCompiler$Reader" "loops" "I", Cond.fieldLink RX2 38 "RoundCompiler$Reader" "turns" "I", Cond.instanceMethod yX0_empty, Cond.initialized RX0, Cond.selects RX0 yX0_empty yX0_empty, Cond.code yX0_empty cX0_empty 1 none, Cond.fieldLink RX0 21 "RoundCompiler$Code" "size" "I", Cond.fieldLink RX0 25 "RoundCompiler$Code" "statements" "I", Cond.fieldLink RX0 28 "RoundCompiler$Code" "operators" "I", Cond.methodLink RX2 41 yX2_readProgram, Cond.instanceMethod yX2_readProgram, Cond.selects RX2 yX2_readProgram yX2_readProgram, Cond.initialized RX2, Cond.code yX2_readProgram cX2_readProgram 3 (some .boolean), Cond.methodLink RX2 48 yX2_here, Cond.instanceMethod yX2_here, Cond.selects RX2 yX2_here yX2_here, Cond.code yX2_here cX2_here 1 (some .int), Cond.fieldLink RX2 22 "RoundCompiler$Reader" "length" "I", Cond.fieldLink RX2 9 "RoundCompiler$Reader" "text" "[C", Cond.methodLink RX2 58 yX2_readStatement]
def wsX2_readText_r2 : List Cond := [Cond.instanceMethod yX2_readStatement, Cond.selects RX2 yX2_readStatement yX2_readStatement, Cond.code yX2_readBlock cX2_readBlock 2 (some .boolean), Cond.methodLink RX2 45 yX2_expect, Cond.instanceMethod yX2_expect, Cond.selects RX2 yX2_expect yX2_expect, Cond.code yX2_expect cX2_expect 2 (some .boolean), Cond.methodLink RX2 52 yX2_refuse, Cond.instanceMethod yX2_refuse, Cond.selects RX2 yX2_refuse yX2_refuse, Cond.code yX2_refuse cX2_refuse 2 (some .boolean), Cond.code yX2_readBranch cX2_readBranch 3 (some .boolean), Cond.methodLink RX2 77 yX2_readSum, Cond.instanceMethod yX2_readSum, Cond.selects RX2 yX2_readSum yX2_readSum, Cond.code yX2_readSum cX2_readSum 4 (some .boolean), Cond.methodLink RX2 104 yX2_readTurned, Cond.instanceMethod yX2_readTurned, Cond.selects RX2 yX2_readTurned yX2_readTurned, Cond.methodLink RX2 107 yX2_isOperator, Cond.static yX2_isOperator, Cond.code yX2_isOperator cX2_isOperator 1 (some .boolean), Cond.instanceMethod yX0_addOfTwo, Cond.selects RX0 yX0_addOfTwo yX0_addOfTwo]
def wsX2_readText_r3 : List Cond := [Cond.code yX0_addOfTwo cX0_addOfTwo 2 none, Cond.fieldLink RX0 15 "RoundCompiler$Code" "firsts" "[I", Cond.methodLink RX0 31 yX0_endsInNumbers, Cond.instanceMethod yX0_endsInNumbers, Cond.selects RX0 yX0_endsInNumbers yX0_endsInNumbers, Cond.code yX0_endsInNumbers cX0_endsInNumbers 3 (some .boolean), Cond.fieldLink RX0 9 "RoundCompiler$Code" "kinds" "[I", Cond.static yX3_ofTwo, Cond.initialized RX3, Cond.code yX3_ofTwo cX3_ofTwo 3 (some .int), Cond.methodLink RX0 39 yX0_add, Cond.instanceMethod yX0_add, Cond.selects RX0 yX0_add yX0_add, Cond.code yX0_add cX0_add 4 none, Cond.fieldLink RX0 18 "RoundCompiler$Code" "seconds" "[I", Cond.code yX2_readFactor cX2_readFactor 3 (some .boolean), Cond.constantLong RX2 129 (4294967295), Cond.fieldLink RX2 90 "RoundCompiler$Reader" "number" "J", Cond.methodLink RX2 122 yX2_nameOf, Cond.static yX2_nameOf, Cond.code yX2_nameOf cX2_nameOf 1 (some .int), Cond.methodLink RX2 126 yX2_readNested, Cond.instanceMethod yX2_readNested, Cond.selects RX2 yX2_readNested yX2_readNested]
def wsX2_readText_r4 : List Cond := [Cond.methodLink RX2 86 yX2_readNumber, Cond.instanceMethod yX2_readNumber, Cond.selects RX2 yX2_readNumber yX2_readNumber, Cond.code yX2_readNumber cX2_readNumber 10 (some .boolean), Cond.methodLink RX2 131 yX2_digitOf, Cond.static yX2_digitOf, Cond.code yX2_digitOf cX2_digitOf 2 (some .int), Cond.code yX2_readNested cX2_readNested 3 (some .boolean), Cond.methodLink RX2 114 yX2_readFactor, Cond.instanceMethod yX2_readFactor, Cond.selects RX2 yX2_readFactor yX2_readFactor, Cond.instanceMethod yX0_addOfOne, Cond.selects RX0 yX0_addOfOne yX0_addOfOne, Cond.code yX0_addOfOne cX0_addOfOne 3 none, Cond.static yX3_ofOne, Cond.code yX3_ofOne cX3_ofOne 3 (some .int), Cond.code yX2_readTurned cX2_readTurned 4 (some .boolean), Cond.constantLong RX2 117 (31), Cond.methodLink RX2 97 yX2_readBlock, Cond.instanceMethod yX2_readBlock, Cond.selects RX2 yX2_readBlock yX2_readBlock, Cond.instanceMethod yX0_setFirst, Cond.selects RX0 yX0_setFirst yX0_setFirst, Cond.code yX0_setFirst cX0_setFirst 3 none]
def wsX2_readText_r5 : List Cond := [Cond.code yX2_readLoop cX2_readLoop 7 (some .boolean), Cond.constantLong RX2 84 (64), Cond.methodLink RX2 74 yX2_freeName, Cond.instanceMethod yX2_freeName, Cond.selects RX2 yX2_freeName yX2_freeName, Cond.code yX2_freeName cX2_freeName 2 (some .int), Cond.code yX2_readStatement cX2_readStatement 2 (some .boolean), Cond.methodLink RX2 61 yX2_readStore, Cond.instanceMethod yX2_readStore, Cond.selects RX2 yX2_readStore yX2_readStore, Cond.code yX2_readStore cX2_readStore 1 (some .boolean), Cond.methodLink RX2 65 yX2_readLoop, Cond.instanceMethod yX2_readLoop, Cond.selects RX2 yX2_readLoop yX2_readLoop, Cond.methodLink RX2 68 yX2_readBranch, Cond.instanceMethod yX2_readBranch, Cond.selects RX2 yX2_readBranch yX2_readBranch, Cond.methodLink RX2 71 yX2_readSet, Cond.instanceMethod yX2_readSet, Cond.selects RX2 yX2_readSet yX2_readSet, Cond.code yX2_readSet cX2_readSet 2 (some .boolean)]
def wsX2_readText : List Cond := .code yX2_readText cX2_readText 1 (some .boolean) :: ((wsX2_readText_r1 ++ (wsX2_readText_r2 ++ (wsX2_readText_r3 ++ (wsX2_readText_r4 ++ wsX2_readText_r5)))) ++ wsX20 ++ wsX00)
def wsX3_init_r1 : List Cond := [Cond.methodLink RX3 1 objectInit, Cond.instanceMethod objectInit, Cond.code objectInit ⟨#[0xb1]⟩ 1 none, Cond.classLink RX3 7 RX2, Cond.instantiable RX2 8, Cond.initialized RX2, Cond.fieldLink RX3 10 "RoundCompiler" "reader" "LRoundCompiler$Reader;", Cond.classLink RX3 16 RX1, Cond.instantiable RX1 8, Cond.initialized RX1, Cond.fieldLink RX3 19 "RoundCompiler" "machine" "LRoundCompiler$Machine;", Cond.classLink RX3 23 RX0, Cond.instantiable RX0 6, Cond.initialized RX0, Cond.fieldLink RX3 26 "RoundCompiler" "ready" "LRoundCompiler$Code;", Cond.fieldLink RX3 30 "RoundCompiler" "isReady" "Z", Cond.instanceMethod yX2_init, Cond.code yX2_init cX2_init 1 none, Cond.methodLink RX2 3 objectInit, Cond.arrayClass .char, Cond.fieldLink RX2 9 "RoundCompiler$Reader" "text" "[C", Cond.classLink RX2 15 RX0, Cond.fieldLink RX2 18 "RoundCompiler$Reader" "code" "LRoundCompiler$Code;", Cond.instanceMethod yX0_init]
def wsX3_init_r2 : List Cond := [Cond.code yX0_init cX0_init 1 none, Cond.methodLink RX0 3 objectInit, Cond.arrayClass .int, Cond.fieldLink RX0 9 "RoundCompiler$Code" "kinds" "[I", Cond.fieldLink RX0 15 "RoundCompiler$Code" "firsts" "[I", Cond.fieldLink RX0 18 "RoundCompiler$Code" "seconds" "[I", Cond.instanceMethod yX1_init, Cond.code yX1_init cX1_init 1 none, Cond.methodLink RX1 3 objectInit, Cond.fieldLink RX1 9 "RoundCompiler$Machine" "memory" "[I", Cond.fieldLink RX1 15 "RoundCompiler$Machine" "memoryBefore" "[I", Cond.fieldLink RX1 18 "RoundCompiler$Machine" "values" "[I", Cond.fieldLink RX1 21 "RoundCompiler$Machine" "names" "[I", Cond.fieldLink RX1 24 "RoundCompiler$Machine" "stack" "[I"]
def wsX3_init : List Cond := .code yX3_init cX3_init 1 none :: ((wsX3_init_r1 ++ wsX3_init_r2) ++ wsX20 ++ wsX30 ++ wsX10 ++ wsX00)
def wsX3_byteOf : List Cond := .code yX3_byteOf cX3_byteOf 3 (some .int) :: ([])
def wsX3_write : List Cond := .code yX3_write cX3_write 6 (some .boolean) :: ([.fieldLink RX3 10 "RoundCompiler" "reader" "LRoundCompiler$Reader;", .methodLink RX3 34 yX3_byteOf, .static yX3_byteOf, .initialized RX3, .code yX3_byteOf cX3_byteOf 3 (some .int), .instanceMethod yX2_append, .initialized RX2, .selects RX2 yX2_append yX2_append, .code yX2_append cX2_append 2 none, .fieldLink RX2 22 "RoundCompiler$Reader" "length" "I", .fieldLink RX2 9 "RoundCompiler$Reader" "text" "[C"] ++ wsX30 ++ wsX20)
def wsX3_wipe : List Cond := .code yX3_wipe cX3_wipe 1 none :: ([.fieldLink RX3 10 "RoundCompiler" "reader" "LRoundCompiler$Reader;"] ++ wsX30 ++ wsX20)
def wsX3_compile_r1 : List Cond := [Cond.classLink RX3 50 "java/lang/IllegalArgumentException", Cond.initialized "java/lang/IllegalArgumentException", Cond.fieldLink RX3 10 "RoundCompiler" "reader" "LRoundCompiler$Reader;", Cond.fieldLink RX3 26 "RoundCompiler" "ready" "LRoundCompiler$Code;", Cond.fieldLink RX3 30 "RoundCompiler" "isReady" "Z", Cond.instanceMethod yX2_readText, Cond.initialized RX2, Cond.selects RX2 yX2_readText yX2_readText, Cond.code yX2_readText cX2_readText 1 (some .boolean), Cond.fieldLink RX2 18 "RoundCompiler$Reader" "code" "LRoundCompiler$Code;", Cond.fieldLink RX2 29 "RoundCompiler$Reader" "at" "I", Cond.fieldLink RX2 32 "RoundCompiler$Reader" "faultPlace" "I", Cond.fieldLink RX2 35 "RoundCompiler$Reader" "loops" "I", Cond.fieldLink RX2 38 "RoundCompiler$Reader" "turns" "I", Cond.instanceMethod yX0_empty, Cond.initialized RX0, Cond.selects RX0 yX0_empty yX0_empty, Cond.code yX0_empty cX0_empty 1 none, Cond.fieldLink RX0 21 "RoundCompiler$Code" "size" "I", Cond.fieldLink RX0 25 "RoundCompiler$Code" "statements" "I", Cond.fieldLink RX0 28 "RoundCompiler$Code" "operators" "I", Cond.methodLink RX2 41 yX2_readProgram, Cond.instanceMethod yX2_readProgram, Cond.selects RX2 yX2_readProgram yX2_readProgram]
def wsX3_compile_r2 : List Cond := [Cond.code yX2_readProgram cX2_readProgram 3 (some .boolean), Cond.methodLink RX2 48 yX2_here, Cond.instanceMethod yX2_here, Cond.selects RX2 yX2_here yX2_here, Cond.code yX2_here cX2_here 1 (some .int), Cond.fieldLink RX2 22 "RoundCompiler$Reader" "length" "I", Cond.fieldLink RX2 9 "RoundCompiler$Reader" "text" "[C", Cond.methodLink RX2 58 yX2_readStatement, Cond.instanceMethod yX2_readStatement, Cond.selects RX2 yX2_readStatement yX2_readStatement, Cond.code yX2_readBlock cX2_readBlock 2 (some .boolean), Cond.methodLink RX2 45 yX2_expect, Cond.instanceMethod yX2_expect, Cond.selects RX2 yX2_expect yX2_expect, Cond.code yX2_expect cX2_expect 2 (some .boolean), Cond.methodLink RX2 52 yX2_refuse, Cond.instanceMethod yX2_refuse, Cond.selects RX2 yX2_refuse yX2_refuse, Cond.code yX2_refuse cX2_refuse 2 (some .boolean), Cond.code yX2_readBranch cX2_readBranch 3 (some .boolean), Cond.methodLink RX2 77 yX2_readSum, Cond.instanceMethod yX2_readSum, Cond.selects RX2 yX2_readSum yX2_readSum, Cond.code yX2_readSum cX2_readSum 4 (some .boolean)]
def wsX3_compile_r3 : List Cond := [Cond.methodLink RX2 104 yX2_readTurned, Cond.instanceMethod yX2_readTurned, Cond.selects RX2 yX2_readTurned yX2_readTurned, Cond.methodLink RX2 107 yX2_isOperator, Cond.static yX2_isOperator, Cond.code yX2_isOperator cX2_isOperator 1 (some .boolean), Cond.instanceMethod yX0_addOfTwo, Cond.selects RX0 yX0_addOfTwo yX0_addOfTwo, Cond.code yX0_addOfTwo cX0_addOfTwo 2 none, Cond.fieldLink RX0 15 "RoundCompiler$Code" "firsts" "[I", Cond.methodLink RX0 31 yX0_endsInNumbers, Cond.instanceMethod yX0_endsInNumbers, Cond.selects RX0 yX0_endsInNumbers yX0_endsInNumbers, Cond.code yX0_endsInNumbers cX0_endsInNumbers 3 (some .boolean), Cond.fieldLink RX0 9 "RoundCompiler$Code" "kinds" "[I", Cond.static yX3_ofTwo, Cond.initialized RX3, Cond.code yX3_ofTwo cX3_ofTwo 3 (some .int), Cond.methodLink RX0 39 yX0_add, Cond.instanceMethod yX0_add, Cond.selects RX0 yX0_add yX0_add, Cond.code yX0_add cX0_add 4 none, Cond.fieldLink RX0 18 "RoundCompiler$Code" "seconds" "[I", Cond.code yX2_readFactor cX2_readFactor 3 (some .boolean)]
def wsX3_compile_r4 : List Cond := [Cond.constantLong RX2 129 (4294967295), Cond.fieldLink RX2 90 "RoundCompiler$Reader" "number" "J", Cond.methodLink RX2 122 yX2_nameOf, Cond.static yX2_nameOf, Cond.code yX2_nameOf cX2_nameOf 1 (some .int), Cond.methodLink RX2 126 yX2_readNested, Cond.instanceMethod yX2_readNested, Cond.selects RX2 yX2_readNested yX2_readNested, Cond.methodLink RX2 86 yX2_readNumber, Cond.instanceMethod yX2_readNumber, Cond.selects RX2 yX2_readNumber yX2_readNumber, Cond.code yX2_readNumber cX2_readNumber 10 (some .boolean), Cond.methodLink RX2 131 yX2_digitOf, Cond.static yX2_digitOf, Cond.code yX2_digitOf cX2_digitOf 2 (some .int), Cond.code yX2_readNested cX2_readNested 3 (some .boolean), Cond.methodLink RX2 114 yX2_readFactor, Cond.instanceMethod yX2_readFactor, Cond.selects RX2 yX2_readFactor yX2_readFactor, Cond.instanceMethod yX0_addOfOne, Cond.selects RX0 yX0_addOfOne yX0_addOfOne, Cond.code yX0_addOfOne cX0_addOfOne 3 none, Cond.static yX3_ofOne, Cond.code yX3_ofOne cX3_ofOne 3 (some .int)]
def wsX3_compile_r5 : List Cond := [Cond.code yX2_readTurned cX2_readTurned 4 (some .boolean), Cond.constantLong RX2 117 (31), Cond.methodLink RX2 97 yX2_readBlock, Cond.instanceMethod yX2_readBlock, Cond.selects RX2 yX2_readBlock yX2_readBlock, Cond.instanceMethod yX0_setFirst, Cond.selects RX0 yX0_setFirst yX0_setFirst, Cond.code yX0_setFirst cX0_setFirst 3 none, Cond.code yX2_readLoop cX2_readLoop 7 (some .boolean), Cond.constantLong RX2 84 (64), Cond.methodLink RX2 74 yX2_freeName, Cond.instanceMethod yX2_freeName, Cond.selects RX2 yX2_freeName yX2_freeName, Cond.code yX2_freeName cX2_freeName 2 (some .int), Cond.code yX2_readStatement cX2_readStatement 2 (some .boolean), Cond.methodLink RX2 61 yX2_readStore, Cond.instanceMethod yX2_readStore, Cond.selects RX2 yX2_readStore yX2_readStore, Cond.code yX2_readStore cX2_readStore 1 (some .boolean), Cond.methodLink RX2 65 yX2_readLoop, Cond.instanceMethod yX2_readLoop, Cond.selects RX2 yX2_readLoop yX2_readLoop, Cond.methodLink RX2 68 yX2_readBranch, Cond.instanceMethod yX2_readBranch]
def wsX3_compile_r6 : List Cond := [Cond.selects RX2 yX2_readBranch yX2_readBranch, Cond.methodLink RX2 71 yX2_readSet, Cond.instanceMethod yX2_readSet, Cond.selects RX2 yX2_readSet yX2_readSet, Cond.code yX2_readSet cX2_readSet 2 (some .boolean), Cond.instanceMethod yX2_exchanged, Cond.selects RX2 yX2_exchanged yX2_exchanged, Cond.code yX2_exchanged cX2_exchanged 3 (some (.object "RoundCompiler$Code"))]
def wsX3_compile : List Cond := .code yX3_compile cX3_compile 1 (some .int) :: ((wsX3_compile_r1 ++ (wsX3_compile_r2 ++ (wsX3_compile_r3 ++ (wsX3_compile_r4 ++ (wsX3_compile_r5 ++ wsX3_compile_r6))))) ++ wsX30 ++ wsX00 ++ wsX20 ++ (vx_atS RX3 54 "java/lang/IllegalArgumentException" ["java/lang/RuntimeException", "java/lang/Exception"]).filter goodWord)
def wsX3_fault : List Cond := .code yX3_fault cX3_fault 1 (some .int) :: ([.fieldLink RX3 10 "RoundCompiler" "reader" "LRoundCompiler$Reader;"] ++ wsX30 ++ wsX20)
def wsX3_work : List Cond := .code yX3_work cX3_work 1 (some .int) :: ([.fieldLink RX3 26 "RoundCompiler" "ready" "LRoundCompiler$Code;"] ++ wsX30 ++ wsX00)
def wsX3_run_r1 : List Cond := [Cond.classLink RX3 70 "java/lang/IllegalStateException", Cond.initialized "java/lang/IllegalStateException", Cond.classLink RX3 79 "java/lang/IndexOutOfBoundsException", Cond.initialized "java/lang/IndexOutOfBoundsException", Cond.fieldLink RX3 30 "RoundCompiler" "isReady" "Z", Cond.fieldLink RX3 19 "RoundCompiler" "machine" "LRoundCompiler$Machine;", Cond.fieldLink RX3 26 "RoundCompiler" "ready" "LRoundCompiler$Code;", Cond.instanceMethod yX1_carriesOut, Cond.initialized RX1, Cond.selects RX1 yX1_carriesOut yX1_carriesOut, Cond.code yX1_carriesOut cX1_carriesOut 4 (some .boolean), Cond.fieldLink RX1 9 "RoundCompiler$Machine" "memory" "[I", Cond.fieldLink RX1 15 "RoundCompiler$Machine" "memoryBefore" "[I", Cond.methodLink RX1 27 arraycopyName, Cond.native arraycopyName, Cond.static arraycopyName, Cond.initialized "java/lang/System", Cond.fieldLink RX1 21 "RoundCompiler$Machine" "names" "[I", Cond.fieldLink RX1 39 "RoundCompiler$Machine" "top" "I", Cond.fieldLink RX1 43 "RoundCompiler$Machine" "steps" "I", Cond.fieldLink RX1 46 "RoundCompiler$Machine" "failed" "Z", Cond.constant RX1 50 (307200), Cond.fieldLink RX1 18 "RoundCompiler$Machine" "values" "[I", Cond.methodLink RX1 33 yJ7_fill_53178]
def wsX3_run_r2 : List Cond := [Cond.static yJ7_fill_53178, Cond.initialized RJ7, Cond.code yJ7_fill_53178 cJ7_fill_53178 4 none, Cond.methodLink RX1 56 yX1_behind, Cond.instanceMethod yX1_behind, Cond.selects RX1 yX1_behind yX1_behind, Cond.code yX1_behind cX1_behind 6 (some .int), Cond.methodLink RX1 66 yX1_push, Cond.instanceMethod yX1_push, Cond.selects RX1 yX1_push yX1_push, Cond.code yX1_push cX1_push 2 none, Cond.fieldLink RX1 24 "RoundCompiler$Machine" "stack" "[I", Cond.methodLink RX1 70 yX1_named, Cond.instanceMethod yX1_named, Cond.selects RX1 yX1_named yX1_named, Cond.code yX1_named cX1_named 2 (some .int), Cond.methodLink RX1 74 yX1_pop, Cond.instanceMethod yX1_pop, Cond.selects RX1 yX1_pop yX1_pop, Cond.code yX1_pop cX1_pop 1 (some .int), Cond.methodLink RX1 78 yX1_loaded, Cond.instanceMethod yX1_loaded, Cond.selects RX1 yX1_loaded yX1_loaded, Cond.code yX1_loaded cX1_loaded 2 (some .int)]
def wsX3_run_r3 : List Cond := [Cond.static yX3_isAddress, Cond.initialized RX3, Cond.code yX3_isAddress cX3_isAddress 1 (some .boolean), Cond.methodLink RX1 81 yX1_name, Cond.instanceMethod yX1_name, Cond.selects RX1 yX1_name yX1_name, Cond.code yX1_name cX1_name 3 none, Cond.methodLink RX1 85 yX1_store, Cond.instanceMethod yX1_store, Cond.selects RX1 yX1_store yX1_store, Cond.code yX1_store cX1_store 3 none, Cond.methodLink RX1 88 yX1_turnsAgain, Cond.instanceMethod yX1_turnsAgain, Cond.selects RX1 yX1_turnsAgain yX1_turnsAgain, Cond.code yX1_turnsAgain cX1_turnsAgain 5 (some .boolean), Cond.static yX3_ofOne, Cond.code yX3_ofOne cX3_ofOne 3 (some .int), Cond.static yX3_ofTwo, Cond.code yX3_ofTwo cX3_ofTwo 3 (some .int)]
def wsX3_run : List Cond := .code yX3_run cX3_run 1 (some .int) :: ((wsX3_run_r1 ++ (wsX3_run_r2 ++ wsX3_run_r3)) ++ wsX30 ++ wsX10 ++ wsX00 ++ (vx_atS RX3 74 "java/lang/IllegalStateException" ["java/lang/RuntimeException", "java/lang/Exception"]).filter goodWord ++ (vx_atS RX3 83 "java/lang/IndexOutOfBoundsException" ["java/lang/RuntimeException", "java/lang/Exception"]).filter goodWord)
def wsX3_value : List Cond := .code yX3_value cX3_value 2 (some .int) :: ([.classLink RX3 79 "java/lang/IndexOutOfBoundsException", .initialized "java/lang/IndexOutOfBoundsException", .fieldLink RX3 19 "RoundCompiler" "machine" "LRoundCompiler$Machine;"] ++ wsX30 ++ wsX10 ++ (vx_atS RX3 83 "java/lang/IndexOutOfBoundsException" ["java/lang/RuntimeException", "java/lang/Exception"]).filter goodWord)
def wsX3_poke : List Cond := .code yX3_poke cX3_poke 3 none :: ([.classLink RX3 79 "java/lang/IndexOutOfBoundsException", .initialized "java/lang/IndexOutOfBoundsException", .fieldLink RX3 19 "RoundCompiler" "machine" "LRoundCompiler$Machine;", .methodLink RX3 93 yX3_isAddress, .static yX3_isAddress, .initialized RX3, .code yX3_isAddress cX3_isAddress 1 (some .boolean)] ++ wsX30 ++ wsX10 ++ (vx_atS RX3 83 "java/lang/IndexOutOfBoundsException" ["java/lang/RuntimeException", "java/lang/Exception"]).filter goodWord)
def wsX3_peek : List Cond := .code yX3_peek cX3_peek 2 (some .int) :: ([.classLink RX3 79 "java/lang/IndexOutOfBoundsException", .initialized "java/lang/IndexOutOfBoundsException", .fieldLink RX3 19 "RoundCompiler" "machine" "LRoundCompiler$Machine;", .methodLink RX3 93 yX3_isAddress, .static yX3_isAddress, .initialized RX3, .code yX3_isAddress cX3_isAddress 1 (some .boolean)] ++ wsX30 ++ wsX10 ++ (vx_atS RX3 83 "java/lang/IndexOutOfBoundsException" ["java/lang/RuntimeException", "java/lang/Exception"]).filter goodWord)
def wsX3_fill : List Cond := .code yX3_fill cX3_fill 5 none :: ([.classLink RX3 50 "java/lang/IllegalArgumentException", .initialized "java/lang/IllegalArgumentException", .fieldLink RX3 19 "RoundCompiler" "machine" "LRoundCompiler$Machine;"] ++ wsX30 ++ wsX10 ++ (vx_atS RX3 54 "java/lang/IllegalArgumentException" ["java/lang/RuntimeException", "java/lang/Exception"]).filter goodWord)
def wsX3_mixed : List Cond := .code yX3_mixed cX3_mixed 3 (some .int) :: ([.fieldLink RX3 19 "RoundCompiler" "machine" "LRoundCompiler$Machine;", .methodLink RX3 104 yX3_ofOne, .static yX3_ofOne, .initialized RX3, .code yX3_ofOne cX3_ofOne 3 (some .int)] ++ wsX30 ++ wsX10)
def wsX4_init : List Cond := .code yX4_init cX4_init 1 none :: ([.methodLink RX4 1 objectInit, .instanceMethod objectInit, .code objectInit ⟨#[0xb1]⟩ 1 none, .arrayClass .int, .fieldLink RX4 7 "RoundCompilerModel" "text" "[I", .fieldLink RX4 13 "RoundCompilerModel" "memory" "[I", .fieldLink RX4 16 "RoundCompilerModel" "before" "[I", .fieldLink RX4 19 "RoundCompilerModel" "names" "[I", .fieldLink RX4 22 "RoundCompilerModel" "ended" "[I", .fieldLink RX4 25 "RoundCompilerModel" "draftOps" "[I", .fieldLink RX4 28 "RoundCompilerModel" "draftValues" "[I", .fieldLink RX4 31 "RoundCompilerModel" "ops" "[I", .fieldLink RX4 34 "RoundCompilerModel" "values" "[I", .fieldLink RX4 37 "RoundCompilerModel" "open" "[I", .fieldLink RX4 40 "RoundCompilerModel" "pending" "[I", .arrayClass .boolean, .fieldLink RX4 43 "RoundCompilerModel" "settled" "[Z", .fieldLink RX4 47 "RoundCompilerModel" "blockNames" "[I", .fieldLink RX4 50 "RoundCompilerModel" "blockStarts" "[I", .fieldLink RX4 53 "RoundCompilerModel" "products" "[I", .fieldLink RX4 56 "RoundCompilerModel" "pile" "[I"] ++ wsX40)
def wsX4_thrown : List Cond := .code yX4_thrown cX4_thrown 1 (some .int) :: ([.fieldLink RX4 59 "RoundCompilerModel" "thrown" "I"] ++ wsX40)
def wsX4_write : List Cond := .code yX4_write cX4_write 7 (some .boolean) :: ([.fieldLink RX4 59 "RoundCompilerModel" "thrown" "I", .constantLong RX4 63 (255), .fieldLink RX4 65 "RoundCompilerModel" "length" "I", .fieldLink RX4 7 "RoundCompilerModel" "text" "[I"] ++ wsX40)
def wsX4_wipe : List Cond := .code yX4_wipe cX4_wipe 1 none :: ([.fieldLink RX4 59 "RoundCompilerModel" "thrown" "I", .fieldLink RX4 65 "RoundCompilerModel" "length" "I"] ++ wsX40)
def wsX4_here : List Cond := .code yX4_here cX4_here 1 (some .int) :: ([.fieldLink RX4 68 "RoundCompilerModel" "at" "I", .fieldLink RX4 65 "RoundCompilerModel" "length" "I", .fieldLink RX4 7 "RoundCompilerModel" "text" "[I"] ++ wsX40)
def wsX4_isLetter : List Cond := .code yX4_isLetter cX4_isLetter 1 (some .boolean) :: ([])
def wsX4_isDigit : List Cond := .code yX4_isDigit cX4_isDigit 1 (some .boolean) :: ([])
def wsX4_wrong : List Cond := .code yX4_wrong cX4_wrong 2 none :: ([.fieldLink RX4 71 "RoundCompilerModel" "fault" "I"] ++ wsX40)
def wsX4_want : List Cond := .code yX4_want cX4_want 2 none :: ([.fieldLink RX4 68 "RoundCompilerModel" "at" "I", .methodLink RX4 74 yX4_here, .instanceMethod yX4_here, .selects RX4 yX4_here yX4_here, .initialized RX4, .code yX4_here cX4_here 1 (some .int), .fieldLink RX4 65 "RoundCompilerModel" "length" "I", .fieldLink RX4 7 "RoundCompilerModel" "text" "[I", .methodLink RX4 78 yX4_wrong, .instanceMethod yX4_wrong, .selects RX4 yX4_wrong yX4_wrong, .code yX4_wrong cX4_wrong 2 none, .fieldLink RX4 71 "RoundCompilerModel" "fault" "I"] ++ wsX40)
def wsX4_readNumber : List Cond := .code yX4_readNumber cX4_readNumber 9 none :: ([.fieldLink RX4 68 "RoundCompilerModel" "at" "I", .fieldLink RX4 82 "RoundCompilerModel" "number" "J", .constantLong RX4 90 (16), .constantLong RX4 92 (10), .methodLink RX4 74 yX4_here, .instanceMethod yX4_here, .selects RX4 yX4_here yX4_here, .initialized RX4, .code yX4_here cX4_here 1 (some .int), .fieldLink RX4 65 "RoundCompilerModel" "length" "I", .fieldLink RX4 7 "RoundCompilerModel" "text" "[I", .methodLink RX4 86 yX4_isDigit, .static yX4_isDigit, .code yX4_isDigit cX4_isDigit 1 (some .boolean), .methodLink RX4 78 yX4_wrong, .instanceMethod yX4_wrong, .selects RX4 yX4_wrong yX4_wrong, .code yX4_wrong cX4_wrong 2 none, .fieldLink RX4 71 "RoundCompilerModel" "fault" "I"] ++ wsX40)
def wsX4_step : List Cond := .code yX4_step cX4_step 3 none :: ([.fieldLink RX4 25 "RoundCompilerModel" "draftOps" "[I", .fieldLink RX4 94 "RoundCompilerModel" "draftSize" "I", .fieldLink RX4 28 "RoundCompilerModel" "draftValues" "[I"] ++ wsX40)
def wsX4_push : List Cond := .code yX4_push cX4_push 2 none :: ([.fieldLink RX4 37 "RoundCompilerModel" "open" "[I", .fieldLink RX4 97 "RoundCompilerModel" "openSize" "I", .fieldLink RX4 40 "RoundCompilerModel" "pending" "[I"] ++ wsX40)
def wsX4_settle : List Cond := .code yX4_settle cX4_settle 2 none :: ([.fieldLink RX4 43 "RoundCompilerModel" "settled" "[Z", .fieldLink RX4 100 "RoundCompilerModel" "settledSize" "I"] ++ wsX40)
def wsX4_isLoop : List Cond := .code yX4_isLoop cX4_isLoop 4 (some .boolean) :: ([.fieldLink RX4 103 "RoundCompilerModel" "blocks" "I", .fieldLink RX4 47 "RoundCompilerModel" "blockNames" "[I"] ++ wsX40)
def wsX4_block : List Cond := .code yX4_block cX4_block 4 none :: ([.fieldLink RX4 47 "RoundCompilerModel" "blockNames" "[I", .fieldLink RX4 103 "RoundCompilerModel" "blocks" "I", .fieldLink RX4 50 "RoundCompilerModel" "blockStarts" "[I", .fieldLink RX4 53 "RoundCompilerModel" "products" "[I"] ++ wsX40)
def wsX4_statement_r1 : List Cond := [Cond.fieldLink RX4 103 "RoundCompilerModel" "blocks" "I", Cond.fieldLink RX4 68 "RoundCompilerModel" "at" "I", Cond.fieldLink RX4 47 "RoundCompilerModel" "blockNames" "[I", Cond.fieldLink RX4 50 "RoundCompilerModel" "blockStarts" "[I", Cond.fieldLink RX4 28 "RoundCompilerModel" "draftValues" "[I", Cond.fieldLink RX4 94 "RoundCompilerModel" "draftSize" "I", Cond.fieldLink RX4 110 "RoundCompilerModel" "statements" "I", Cond.fieldLink RX4 116 "RoundCompilerModel" "assigned" "I", Cond.constantLong RX4 128 (64), Cond.fieldLink RX4 71 "RoundCompilerModel" "fault" "I", Cond.fieldLink RX4 53 "RoundCompilerModel" "products" "[I", Cond.fieldLink RX4 82 "RoundCompilerModel" "number" "J", Cond.methodLink RX4 74 yX4_here, Cond.instanceMethod yX4_here, Cond.selects RX4 yX4_here yX4_here, Cond.initialized RX4, Cond.code yX4_here cX4_here 1 (some .int), Cond.fieldLink RX4 65 "RoundCompilerModel" "length" "I", Cond.fieldLink RX4 7 "RoundCompilerModel" "text" "[I", Cond.methodLink RX4 106 yX4_step, Cond.instanceMethod yX4_step, Cond.selects RX4 yX4_step yX4_step, Cond.code yX4_step cX4_step 3 none, Cond.fieldLink RX4 25 "RoundCompilerModel" "draftOps" "[I"]
def wsX4_statement_r2 : List Cond := [Cond.methodLink RX4 113 yX4_isLetter, Cond.static yX4_isLetter, Cond.code yX4_isLetter cX4_isLetter 1 (some .boolean), Cond.methodLink RX4 119 yX4_isLoop, Cond.instanceMethod yX4_isLoop, Cond.selects RX4 yX4_isLoop yX4_isLoop, Cond.code yX4_isLoop cX4_isLoop 4 (some .boolean), Cond.methodLink RX4 78 yX4_wrong, Cond.instanceMethod yX4_wrong, Cond.selects RX4 yX4_wrong yX4_wrong, Cond.code yX4_wrong cX4_wrong 2 none, Cond.methodLink RX4 122 yX4_want, Cond.instanceMethod yX4_want, Cond.selects RX4 yX4_want yX4_want, Cond.code yX4_want cX4_want 2 none, Cond.methodLink RX4 125 yX4_push, Cond.instanceMethod yX4_push, Cond.selects RX4 yX4_push yX4_push, Cond.code yX4_push cX4_push 2 none, Cond.fieldLink RX4 37 "RoundCompilerModel" "open" "[I", Cond.fieldLink RX4 97 "RoundCompilerModel" "openSize" "I", Cond.fieldLink RX4 40 "RoundCompilerModel" "pending" "[I", Cond.methodLink RX4 130 yX4_readNumber, Cond.instanceMethod yX4_readNumber]
def wsX4_statement_r3 : List Cond := [Cond.selects RX4 yX4_readNumber yX4_readNumber, Cond.code yX4_readNumber cX4_readNumber 9 none, Cond.constantLong RX4 90 (16), Cond.constantLong RX4 92 (10), Cond.methodLink RX4 86 yX4_isDigit, Cond.static yX4_isDigit, Cond.code yX4_isDigit cX4_isDigit 1 (some .boolean), Cond.methodLink RX4 134 yX4_block, Cond.instanceMethod yX4_block, Cond.selects RX4 yX4_block yX4_block, Cond.code yX4_block cX4_block 4 none]
def wsX4_statement : List Cond := .code yX4_statement cX4_statement 4 (some .int) :: ((wsX4_statement_r1 ++ (wsX4_statement_r2 ++ wsX4_statement_r3)) ++ wsX40)
def wsX4_whole : List Cond := .code yX4_whole cX4_whole 1 none :: ([.fieldLink RX4 97 "RoundCompilerModel" "openSize" "I", .fieldLink RX4 37 "RoundCompilerModel" "open" "[I", .fieldLink RX4 138 "RoundCompilerModel" "nested" "I", .fieldLink RX4 43 "RoundCompilerModel" "settled" "[Z", .fieldLink RX4 100 "RoundCompilerModel" "settledSize" "I", .fieldLink RX4 150 "RoundCompilerModel" "draftWork" "I", .methodLink RX4 106 yX4_step, .instanceMethod yX4_step, .selects RX4 yX4_step yX4_step, .initialized RX4, .code yX4_step cX4_step 3 none, .fieldLink RX4 25 "RoundCompilerModel" "draftOps" "[I", .fieldLink RX4 94 "RoundCompilerModel" "draftSize" "I", .fieldLink RX4 28 "RoundCompilerModel" "draftValues" "[I"] ++ wsX40)
def wsX4_factor_r1 : List Cond := [Cond.fieldLink RX4 138 "RoundCompilerModel" "nested" "I", Cond.fieldLink RX4 68 "RoundCompilerModel" "at" "I", Cond.constantLong RX4 145 (4294967295), Cond.fieldLink RX4 82 "RoundCompilerModel" "number" "J", Cond.methodLink RX4 74 yX4_here, Cond.instanceMethod yX4_here, Cond.selects RX4 yX4_here yX4_here, Cond.initialized RX4, Cond.code yX4_here cX4_here 1 (some .int), Cond.fieldLink RX4 65 "RoundCompilerModel" "length" "I", Cond.fieldLink RX4 7 "RoundCompilerModel" "text" "[I", Cond.methodLink RX4 78 yX4_wrong, Cond.instanceMethod yX4_wrong, Cond.selects RX4 yX4_wrong yX4_wrong, Cond.code yX4_wrong cX4_wrong 2 none, Cond.fieldLink RX4 71 "RoundCompilerModel" "fault" "I", Cond.methodLink RX4 125 yX4_push, Cond.instanceMethod yX4_push, Cond.selects RX4 yX4_push yX4_push, Cond.code yX4_push cX4_push 2 none, Cond.fieldLink RX4 37 "RoundCompilerModel" "open" "[I", Cond.fieldLink RX4 97 "RoundCompilerModel" "openSize" "I", Cond.fieldLink RX4 40 "RoundCompilerModel" "pending" "[I", Cond.methodLink RX4 122 yX4_want]
def wsX4_factor_r2 : List Cond := [Cond.instanceMethod yX4_want, Cond.selects RX4 yX4_want yX4_want, Cond.code yX4_want cX4_want 2 none, Cond.methodLink RX4 113 yX4_isLetter, Cond.static yX4_isLetter, Cond.code yX4_isLetter cX4_isLetter 1 (some .boolean), Cond.methodLink RX4 106 yX4_step, Cond.instanceMethod yX4_step, Cond.selects RX4 yX4_step yX4_step, Cond.code yX4_step cX4_step 3 none, Cond.fieldLink RX4 25 "RoundCompilerModel" "draftOps" "[I", Cond.fieldLink RX4 94 "RoundCompilerModel" "draftSize" "I", Cond.fieldLink RX4 28 "RoundCompilerModel" "draftValues" "[I", Cond.methodLink RX4 141 yX4_settle, Cond.instanceMethod yX4_settle, Cond.selects RX4 yX4_settle yX4_settle, Cond.code yX4_settle cX4_settle 2 none, Cond.fieldLink RX4 43 "RoundCompilerModel" "settled" "[Z", Cond.fieldLink RX4 100 "RoundCompilerModel" "settledSize" "I", Cond.methodLink RX4 86 yX4_isDigit, Cond.static yX4_isDigit, Cond.code yX4_isDigit cX4_isDigit 1 (some .boolean), Cond.methodLink RX4 130 yX4_readNumber, Cond.instanceMethod yX4_readNumber]
def wsX4_factor_r3 : List Cond := [Cond.selects RX4 yX4_readNumber yX4_readNumber, Cond.code yX4_readNumber cX4_readNumber 9 none, Cond.constantLong RX4 90 (16), Cond.constantLong RX4 92 (10), Cond.methodLink RX4 147 yX4_whole, Cond.instanceMethod yX4_whole, Cond.selects RX4 yX4_whole yX4_whole, Cond.code yX4_whole cX4_whole 1 none, Cond.fieldLink RX4 150 "RoundCompilerModel" "draftWork" "I"]
def wsX4_factor : List Cond := .code yX4_factor cX4_factor 2 (some .int) :: ((wsX4_factor_r1 ++ (wsX4_factor_r2 ++ wsX4_factor_r3)) ++ wsX40)
def wsX4_isOperator : List Cond := .code yX4_isOperator cX4_isOperator 1 (some .boolean) :: ([])
def wsX4_behind_r1 : List Cond := [Cond.fieldLink RX4 68 "RoundCompilerModel" "at" "I", Cond.constantLong RX4 153 (31), Cond.fieldLink RX4 82 "RoundCompilerModel" "number" "J", Cond.fieldLink RX4 43 "RoundCompilerModel" "settled" "[Z", Cond.fieldLink RX4 100 "RoundCompilerModel" "settledSize" "I", Cond.fieldLink RX4 150 "RoundCompilerModel" "draftWork" "I", Cond.fieldLink RX4 97 "RoundCompilerModel" "openSize" "I", Cond.fieldLink RX4 40 "RoundCompilerModel" "pending" "[I", Cond.fieldLink RX4 37 "RoundCompilerModel" "open" "[I", Cond.fieldLink RX4 138 "RoundCompilerModel" "nested" "I", Cond.fieldLink RX4 94 "RoundCompilerModel" "draftSize" "I", Cond.fieldLink RX4 53 "RoundCompilerModel" "products" "[I", Cond.fieldLink RX4 103 "RoundCompilerModel" "blocks" "I", Cond.fieldLink RX4 116 "RoundCompilerModel" "assigned" "I", Cond.methodLink RX4 74 yX4_here, Cond.instanceMethod yX4_here, Cond.selects RX4 yX4_here yX4_here, Cond.initialized RX4, Cond.code yX4_here cX4_here 1 (some .int), Cond.fieldLink RX4 65 "RoundCompilerModel" "length" "I", Cond.fieldLink RX4 7 "RoundCompilerModel" "text" "[I", Cond.methodLink RX4 130 yX4_readNumber, Cond.instanceMethod yX4_readNumber, Cond.selects RX4 yX4_readNumber yX4_readNumber]
def wsX4_behind_r2 : List Cond := [Cond.code yX4_readNumber cX4_readNumber 9 none, Cond.constantLong RX4 90 (16), Cond.constantLong RX4 92 (10), Cond.methodLink RX4 86 yX4_isDigit, Cond.static yX4_isDigit, Cond.code yX4_isDigit cX4_isDigit 1 (some .boolean), Cond.methodLink RX4 78 yX4_wrong, Cond.instanceMethod yX4_wrong, Cond.selects RX4 yX4_wrong yX4_wrong, Cond.code yX4_wrong cX4_wrong 2 none, Cond.fieldLink RX4 71 "RoundCompilerModel" "fault" "I", Cond.methodLink RX4 106 yX4_step, Cond.instanceMethod yX4_step, Cond.selects RX4 yX4_step yX4_step, Cond.code yX4_step cX4_step 3 none, Cond.fieldLink RX4 25 "RoundCompilerModel" "draftOps" "[I", Cond.fieldLink RX4 28 "RoundCompilerModel" "draftValues" "[I", Cond.methodLink RX4 155 yX4_isOperator, Cond.static yX4_isOperator, Cond.code yX4_isOperator cX4_isOperator 1 (some .boolean), Cond.methodLink RX4 147 yX4_whole, Cond.instanceMethod yX4_whole, Cond.selects RX4 yX4_whole yX4_whole, Cond.code yX4_whole cX4_whole 1 none]
def wsX4_behind_r3 : List Cond := [Cond.methodLink RX4 122 yX4_want, Cond.instanceMethod yX4_want, Cond.selects RX4 yX4_want yX4_want, Cond.code yX4_want cX4_want 2 none, Cond.methodLink RX4 125 yX4_push, Cond.instanceMethod yX4_push, Cond.selects RX4 yX4_push yX4_push, Cond.code yX4_push cX4_push 2 none, Cond.methodLink RX4 134 yX4_block, Cond.instanceMethod yX4_block, Cond.selects RX4 yX4_block yX4_block, Cond.code yX4_block cX4_block 4 none, Cond.fieldLink RX4 47 "RoundCompilerModel" "blockNames" "[I", Cond.fieldLink RX4 50 "RoundCompilerModel" "blockStarts" "[I"]
def wsX4_behind : List Cond := .code yX4_behind cX4_behind 5 (some .int) :: ((wsX4_behind_r1 ++ (wsX4_behind_r2 ++ wsX4_behind_r3)) ++ wsX40)
def wsX4_compile_r1 : List Cond := [Cond.fieldLink RX4 71 "RoundCompilerModel" "fault" "I", Cond.fieldLink RX4 68 "RoundCompilerModel" "at" "I", Cond.fieldLink RX4 110 "RoundCompilerModel" "statements" "I", Cond.fieldLink RX4 94 "RoundCompilerModel" "draftSize" "I", Cond.fieldLink RX4 150 "RoundCompilerModel" "draftWork" "I", Cond.fieldLink RX4 97 "RoundCompilerModel" "openSize" "I", Cond.fieldLink RX4 138 "RoundCompilerModel" "nested" "I", Cond.fieldLink RX4 100 "RoundCompilerModel" "settledSize" "I", Cond.fieldLink RX4 103 "RoundCompilerModel" "blocks" "I", Cond.fieldLink RX4 53 "RoundCompilerModel" "products" "[I", Cond.fieldLink RX4 65 "RoundCompilerModel" "length" "I", Cond.fieldLink RX4 59 "RoundCompilerModel" "thrown" "I", Cond.fieldLink RX4 31 "RoundCompilerModel" "ops" "[I", Cond.fieldLink RX4 25 "RoundCompilerModel" "draftOps" "[I", Cond.fieldLink RX4 34 "RoundCompilerModel" "values" "[I", Cond.fieldLink RX4 28 "RoundCompilerModel" "draftValues" "[I", Cond.fieldLink RX4 167 "RoundCompilerModel" "size" "I", Cond.fieldLink RX4 170 "RoundCompilerModel" "work" "I", Cond.fieldLink RX4 173 "RoundCompilerModel" "ready" "Z", Cond.methodLink RX4 158 yX4_statement, Cond.instanceMethod yX4_statement, Cond.selects RX4 yX4_statement yX4_statement, Cond.initialized RX4, Cond.code yX4_statement cX4_statement 4 (some .int)]
def wsX4_compile_r2 : List Cond := [Cond.fieldLink RX4 47 "RoundCompilerModel" "blockNames" "[I", Cond.fieldLink RX4 50 "RoundCompilerModel" "blockStarts" "[I", Cond.fieldLink RX4 116 "RoundCompilerModel" "assigned" "I", Cond.constantLong RX4 128 (64), Cond.fieldLink RX4 82 "RoundCompilerModel" "number" "J", Cond.methodLink RX4 74 yX4_here, Cond.instanceMethod yX4_here, Cond.selects RX4 yX4_here yX4_here, Cond.code yX4_here cX4_here 1 (some .int), Cond.fieldLink RX4 7 "RoundCompilerModel" "text" "[I", Cond.methodLink RX4 106 yX4_step, Cond.instanceMethod yX4_step, Cond.selects RX4 yX4_step yX4_step, Cond.code yX4_step cX4_step 3 none, Cond.methodLink RX4 113 yX4_isLetter, Cond.static yX4_isLetter, Cond.code yX4_isLetter cX4_isLetter 1 (some .boolean), Cond.methodLink RX4 119 yX4_isLoop, Cond.instanceMethod yX4_isLoop, Cond.selects RX4 yX4_isLoop yX4_isLoop, Cond.code yX4_isLoop cX4_isLoop 4 (some .boolean), Cond.methodLink RX4 78 yX4_wrong, Cond.instanceMethod yX4_wrong, Cond.selects RX4 yX4_wrong yX4_wrong]
def wsX4_compile_r3 : List Cond := [Cond.code yX4_wrong cX4_wrong 2 none, Cond.methodLink RX4 122 yX4_want, Cond.instanceMethod yX4_want, Cond.selects RX4 yX4_want yX4_want, Cond.code yX4_want cX4_want 2 none, Cond.methodLink RX4 125 yX4_push, Cond.instanceMethod yX4_push, Cond.selects RX4 yX4_push yX4_push, Cond.code yX4_push cX4_push 2 none, Cond.fieldLink RX4 37 "RoundCompilerModel" "open" "[I", Cond.fieldLink RX4 40 "RoundCompilerModel" "pending" "[I", Cond.methodLink RX4 130 yX4_readNumber, Cond.instanceMethod yX4_readNumber, Cond.selects RX4 yX4_readNumber yX4_readNumber, Cond.code yX4_readNumber cX4_readNumber 9 none, Cond.constantLong RX4 90 (16), Cond.constantLong RX4 92 (10), Cond.methodLink RX4 86 yX4_isDigit, Cond.static yX4_isDigit, Cond.code yX4_isDigit cX4_isDigit 1 (some .boolean), Cond.methodLink RX4 134 yX4_block, Cond.instanceMethod yX4_block, Cond.selects RX4 yX4_block yX4_block, Cond.code yX4_block cX4_block 4 none]
def wsX4_compile_r4 : List Cond := [Cond.methodLink RX4 161 yX4_factor, Cond.instanceMethod yX4_factor, Cond.selects RX4 yX4_factor yX4_factor, Cond.code yX4_factor cX4_factor 2 (some .int), Cond.constantLong RX4 145 (4294967295), Cond.methodLink RX4 141 yX4_settle, Cond.instanceMethod yX4_settle, Cond.selects RX4 yX4_settle yX4_settle, Cond.code yX4_settle cX4_settle 2 none, Cond.fieldLink RX4 43 "RoundCompilerModel" "settled" "[Z", Cond.methodLink RX4 147 yX4_whole, Cond.instanceMethod yX4_whole, Cond.selects RX4 yX4_whole yX4_whole, Cond.code yX4_whole cX4_whole 1 none, Cond.methodLink RX4 164 yX4_behind, Cond.instanceMethod yX4_behind, Cond.selects RX4 yX4_behind yX4_behind, Cond.code yX4_behind cX4_behind 5 (some .int), Cond.constantLong RX4 153 (31), Cond.methodLink RX4 155 yX4_isOperator, Cond.static yX4_isOperator, Cond.code yX4_isOperator cX4_isOperator 1 (some .boolean)]
def wsX4_compile : List Cond := .code yX4_compile cX4_compile 3 (some .int) :: ((wsX4_compile_r1 ++ (wsX4_compile_r2 ++ (wsX4_compile_r3 ++ wsX4_compile_r4))) ++ wsX40)
def wsX4_fault : List Cond := .code yX4_fault cX4_fault 1 (some .int) :: ([.fieldLink RX4 59 "RoundCompilerModel" "thrown" "I", .fieldLink RX4 71 "RoundCompilerModel" "fault" "I"] ++ wsX40)
def wsX4_work : List Cond := .code yX4_work cX4_work 1 (some .int) :: ([.fieldLink RX4 59 "RoundCompilerModel" "thrown" "I", .fieldLink RX4 173 "RoundCompilerModel" "ready" "Z", .fieldLink RX4 170 "RoundCompilerModel" "work" "I"] ++ wsX40)
def wsX4_operated : List Cond := .code yX4_operated cX4_operated 3 (some .int) :: ([])
def wsX4_turned : List Cond := .code yX4_turned cX4_turned 2 (some .int) :: ([])
def wsX4_isAddress : List Cond := .code yX4_isAddress cX4_isAddress 1 (some .boolean) :: ([])
def wsX4_end : List Cond := .code yX4_end cX4_end 4 none :: ([.fieldLink RX4 177 "RoundCompilerModel" "top" "I", .fieldLink RX4 56 "RoundCompilerModel" "pile" "[I", .fieldLink RX4 19 "RoundCompilerModel" "names" "[I", .fieldLink RX4 13 "RoundCompilerModel" "memory" "[I", .fieldLink RX4 59 "RoundCompilerModel" "thrown" "I", .methodLink RX4 186 yX4_isAddress, .static yX4_isAddress, .initialized RX4, .code yX4_isAddress cX4_isAddress 1 (some .boolean)] ++ wsX40)
def wsX4_reckon : List Cond := .code yX4_reckon cX4_reckon 4 none :: ([.fieldLink RX4 56 "RoundCompilerModel" "pile" "[I", .fieldLink RX4 177 "RoundCompilerModel" "top" "I", .fieldLink RX4 19 "RoundCompilerModel" "names" "[I", .fieldLink RX4 13 "RoundCompilerModel" "memory" "[I", .fieldLink RX4 59 "RoundCompilerModel" "thrown" "I", .methodLink RX4 189 yX4_operated, .static yX4_operated, .initialized RX4, .code yX4_operated cX4_operated 3 (some .int), .methodLink RX4 193 yX4_turned, .static yX4_turned, .code yX4_turned cX4_turned 2 (some .int), .methodLink RX4 186 yX4_isAddress, .static yX4_isAddress, .code yX4_isAddress cX4_isAddress 1 (some .boolean)] ++ wsX40)
def wsX4_run_r1 : List Cond := [Cond.fieldLink RX4 173 "RoundCompilerModel" "ready" "Z", Cond.fieldLink RX4 59 "RoundCompilerModel" "thrown" "I", Cond.fieldLink RX4 16 "RoundCompilerModel" "before" "[I", Cond.fieldLink RX4 13 "RoundCompilerModel" "memory" "[I", Cond.fieldLink RX4 19 "RoundCompilerModel" "names" "[I", Cond.fieldLink RX4 177 "RoundCompilerModel" "top" "I", Cond.fieldLink RX4 167 "RoundCompilerModel" "size" "I", Cond.fieldLink RX4 31 "RoundCompilerModel" "ops" "[I", Cond.fieldLink RX4 34 "RoundCompilerModel" "values" "[I", Cond.fieldLink RX4 56 "RoundCompilerModel" "pile" "[I", Cond.fieldLink RX4 22 "RoundCompilerModel" "ended" "[I", Cond.methodLink RX4 180 yX4_end, Cond.instanceMethod yX4_end, Cond.selects RX4 yX4_end yX4_end, Cond.initialized RX4, Cond.code yX4_end cX4_end 4 none, Cond.methodLink RX4 186 yX4_isAddress, Cond.static yX4_isAddress, Cond.code yX4_isAddress cX4_isAddress 1 (some .boolean), Cond.methodLink RX4 183 yX4_reckon, Cond.instanceMethod yX4_reckon, Cond.selects RX4 yX4_reckon yX4_reckon, Cond.code yX4_reckon cX4_reckon 4 none, Cond.methodLink RX4 189 yX4_operated]
def wsX4_run_r2 : List Cond := [Cond.static yX4_operated, Cond.code yX4_operated cX4_operated 3 (some .int), Cond.methodLink RX4 193 yX4_turned, Cond.static yX4_turned, Cond.code yX4_turned cX4_turned 2 (some .int)]
def wsX4_run : List Cond := .code yX4_run cX4_run 6 (some .int) :: ((wsX4_run_r1 ++ wsX4_run_r2) ++ wsX40)
def wsX4_value : List Cond := .code yX4_value cX4_value 2 (some .int) :: ([.fieldLink RX4 59 "RoundCompilerModel" "thrown" "I", .fieldLink RX4 22 "RoundCompilerModel" "ended" "[I"] ++ wsX40)
def wsX4_poke : List Cond := .code yX4_poke cX4_poke 3 none :: ([.fieldLink RX4 59 "RoundCompilerModel" "thrown" "I", .fieldLink RX4 13 "RoundCompilerModel" "memory" "[I", .methodLink RX4 186 yX4_isAddress, .static yX4_isAddress, .initialized RX4, .code yX4_isAddress cX4_isAddress 1 (some .boolean)] ++ wsX40)
def wsX4_peek : List Cond := .code yX4_peek cX4_peek 2 (some .int) :: ([.fieldLink RX4 59 "RoundCompilerModel" "thrown" "I", .fieldLink RX4 13 "RoundCompilerModel" "memory" "[I", .methodLink RX4 186 yX4_isAddress, .static yX4_isAddress, .initialized RX4, .code yX4_isAddress cX4_isAddress 1 (some .boolean)] ++ wsX40)
def wsX4_fill : List Cond := .code yX4_fill cX4_fill 5 none :: ([.fieldLink RX4 59 "RoundCompilerModel" "thrown" "I", .fieldLink RX4 13 "RoundCompilerModel" "memory" "[I"] ++ wsX40)
def wsX4_mixed : List Cond := .code yX4_mixed cX4_mixed 3 (some .int) :: ([.fieldLink RX4 59 "RoundCompilerModel" "thrown" "I", .fieldLink RX4 13 "RoundCompilerModel" "memory" "[I", .methodLink RX4 193 yX4_turned, .static yX4_turned, .initialized RX4, .code yX4_turned cX4_turned 2 (some .int)] ++ wsX40)
def wsL_compile_r1 : List Cond := [Cond.classLink RL 13 "java/lang/IllegalArgumentException", Cond.methodLink RL 7 yX3_compile, Cond.instanceMethod yX3_compile, Cond.selects RX3 yX3_compile yX3_compile, Cond.initialized RX3, Cond.code yX3_compile cX3_compile 1 (some .int), Cond.classLink RX3 50 "java/lang/IllegalArgumentException", Cond.initialized "java/lang/IllegalArgumentException", Cond.fieldLink RX3 10 "RoundCompiler" "reader" "LRoundCompiler$Reader;", Cond.fieldLink RX3 26 "RoundCompiler" "ready" "LRoundCompiler$Code;", Cond.fieldLink RX3 30 "RoundCompiler" "isReady" "Z", Cond.instanceMethod yX2_readText, Cond.initialized RX2, Cond.selects RX2 yX2_readText yX2_readText, Cond.code yX2_readText cX2_readText 1 (some .boolean), Cond.fieldLink RX2 18 "RoundCompiler$Reader" "code" "LRoundCompiler$Code;", Cond.fieldLink RX2 29 "RoundCompiler$Reader" "at" "I", Cond.fieldLink RX2 32 "RoundCompiler$Reader" "faultPlace" "I", Cond.fieldLink RX2 35 "RoundCompiler$Reader" "loops" "I", Cond.fieldLink RX2 38 "RoundCompiler$Reader" "turns" "I", Cond.instanceMethod yX0_empty, Cond.initialized RX0, Cond.selects RX0 yX0_empty yX0_empty, Cond.code yX0_empty cX0_empty 1 none]
def wsL_compile_r2 : List Cond := [Cond.fieldLink RX0 21 "RoundCompiler$Code" "size" "I", Cond.fieldLink RX0 25 "RoundCompiler$Code" "statements" "I", Cond.fieldLink RX0 28 "RoundCompiler$Code" "operators" "I", Cond.methodLink RX2 41 yX2_readProgram, Cond.instanceMethod yX2_readProgram, Cond.selects RX2 yX2_readProgram yX2_readProgram, Cond.code yX2_readProgram cX2_readProgram 3 (some .boolean), Cond.methodLink RX2 48 yX2_here, Cond.instanceMethod yX2_here, Cond.selects RX2 yX2_here yX2_here, Cond.code yX2_here cX2_here 1 (some .int), Cond.fieldLink RX2 22 "RoundCompiler$Reader" "length" "I", Cond.fieldLink RX2 9 "RoundCompiler$Reader" "text" "[C", Cond.methodLink RX2 58 yX2_readStatement, Cond.instanceMethod yX2_readStatement, Cond.selects RX2 yX2_readStatement yX2_readStatement, Cond.code yX2_readBlock cX2_readBlock 2 (some .boolean), Cond.methodLink RX2 45 yX2_expect, Cond.instanceMethod yX2_expect, Cond.selects RX2 yX2_expect yX2_expect, Cond.code yX2_expect cX2_expect 2 (some .boolean), Cond.methodLink RX2 52 yX2_refuse, Cond.instanceMethod yX2_refuse, Cond.selects RX2 yX2_refuse yX2_refuse]
def wsL_compile_r3 : List Cond := [Cond.code yX2_refuse cX2_refuse 2 (some .boolean), Cond.code yX2_readBranch cX2_readBranch 3 (some .boolean), Cond.methodLink RX2 77 yX2_readSum, Cond.instanceMethod yX2_readSum, Cond.selects RX2 yX2_readSum yX2_readSum, Cond.code yX2_readSum cX2_readSum 4 (some .boolean), Cond.methodLink RX2 104 yX2_readTurned, Cond.instanceMethod yX2_readTurned, Cond.selects RX2 yX2_readTurned yX2_readTurned, Cond.methodLink RX2 107 yX2_isOperator, Cond.static yX2_isOperator, Cond.code yX2_isOperator cX2_isOperator 1 (some .boolean), Cond.instanceMethod yX0_addOfTwo, Cond.selects RX0 yX0_addOfTwo yX0_addOfTwo, Cond.code yX0_addOfTwo cX0_addOfTwo 2 none, Cond.fieldLink RX0 15 "RoundCompiler$Code" "firsts" "[I", Cond.methodLink RX0 31 yX0_endsInNumbers, Cond.instanceMethod yX0_endsInNumbers, Cond.selects RX0 yX0_endsInNumbers yX0_endsInNumbers, Cond.code yX0_endsInNumbers cX0_endsInNumbers 3 (some .boolean), Cond.fieldLink RX0 9 "RoundCompiler$Code" "kinds" "[I", Cond.static yX3_ofTwo, Cond.code yX3_ofTwo cX3_ofTwo 3 (some .int), Cond.methodLink RX0 39 yX0_add]
def wsL_compile_r4 : List Cond := [Cond.instanceMethod yX0_add, Cond.selects RX0 yX0_add yX0_add, Cond.code yX0_add cX0_add 4 none, Cond.fieldLink RX0 18 "RoundCompiler$Code" "seconds" "[I", Cond.code yX2_readFactor cX2_readFactor 3 (some .boolean), Cond.constantLong RX2 129 (4294967295), Cond.fieldLink RX2 90 "RoundCompiler$Reader" "number" "J", Cond.methodLink RX2 122 yX2_nameOf, Cond.static yX2_nameOf, Cond.code yX2_nameOf cX2_nameOf 1 (some .int), Cond.methodLink RX2 126 yX2_readNested, Cond.instanceMethod yX2_readNested, Cond.selects RX2 yX2_readNested yX2_readNested, Cond.methodLink RX2 86 yX2_readNumber, Cond.instanceMethod yX2_readNumber, Cond.selects RX2 yX2_readNumber yX2_readNumber, Cond.code yX2_readNumber cX2_readNumber 10 (some .boolean), Cond.methodLink RX2 131 yX2_digitOf, Cond.static yX2_digitOf, Cond.code yX2_digitOf cX2_digitOf 2 (some .int), Cond.code yX2_readNested cX2_readNested 3 (some .boolean), Cond.methodLink RX2 114 yX2_readFactor, Cond.instanceMethod yX2_readFactor, Cond.selects RX2 yX2_readFactor yX2_readFactor]
def wsL_compile_r5 : List Cond := [Cond.instanceMethod yX0_addOfOne, Cond.selects RX0 yX0_addOfOne yX0_addOfOne, Cond.code yX0_addOfOne cX0_addOfOne 3 none, Cond.static yX3_ofOne, Cond.code yX3_ofOne cX3_ofOne 3 (some .int), Cond.code yX2_readTurned cX2_readTurned 4 (some .boolean), Cond.constantLong RX2 117 (31), Cond.methodLink RX2 97 yX2_readBlock, Cond.instanceMethod yX2_readBlock, Cond.selects RX2 yX2_readBlock yX2_readBlock, Cond.instanceMethod yX0_setFirst, Cond.selects RX0 yX0_setFirst yX0_setFirst, Cond.code yX0_setFirst cX0_setFirst 3 none, Cond.code yX2_readLoop cX2_readLoop 7 (some .boolean), Cond.constantLong RX2 84 (64), Cond.methodLink RX2 74 yX2_freeName, Cond.instanceMethod yX2_freeName, Cond.selects RX2 yX2_freeName yX2_freeName, Cond.code yX2_freeName cX2_freeName 2 (some .int), Cond.code yX2_readStatement cX2_readStatement 2 (some .boolean), Cond.methodLink RX2 61 yX2_readStore, Cond.instanceMethod yX2_readStore, Cond.selects RX2 yX2_readStore yX2_readStore, Cond.code yX2_readStore cX2_readStore 1 (some .boolean)]
def wsL_compile_r6 : List Cond := [Cond.methodLink RX2 65 yX2_readLoop, Cond.instanceMethod yX2_readLoop, Cond.selects RX2 yX2_readLoop yX2_readLoop, Cond.methodLink RX2 68 yX2_readBranch, Cond.instanceMethod yX2_readBranch, Cond.selects RX2 yX2_readBranch yX2_readBranch, Cond.methodLink RX2 71 yX2_readSet, Cond.instanceMethod yX2_readSet, Cond.selects RX2 yX2_readSet yX2_readSet, Cond.code yX2_readSet cX2_readSet 2 (some .boolean), Cond.instanceMethod yX2_exchanged, Cond.selects RX2 yX2_exchanged yX2_exchanged, Cond.code yX2_exchanged cX2_exchanged 3 (some (.object "RoundCompiler$Code"))]
def wsL_compile : List Cond := .codeWith yL_compile cL_compile 3 (some .int) [(0, 8, 11, 13)] :: ((wsL_compile_r1 ++ (wsL_compile_r2 ++ (wsL_compile_r3 ++ (wsL_compile_r4 ++ (wsL_compile_r5 ++ wsL_compile_r6))))) ++ wsX30 ++ wsX00 ++ wsX20 ++ (vx_atS RX3 54 "java/lang/IllegalArgumentException" ["java/lang/RuntimeException", "java/lang/Exception"]).filter goodWord)
def wsL_run_r1 : List Cond := [Cond.classLink RL 18 "java/lang/IllegalStateException", Cond.classLink RL 20 "java/lang/IndexOutOfBoundsException", Cond.methodLink RL 15 yX3_run, Cond.instanceMethod yX3_run, Cond.selects RX3 yX3_run yX3_run, Cond.initialized RX3, Cond.code yX3_run cX3_run 1 (some .int), Cond.classLink RX3 70 "java/lang/IllegalStateException", Cond.initialized "java/lang/IllegalStateException", Cond.classLink RX3 79 "java/lang/IndexOutOfBoundsException", Cond.initialized "java/lang/IndexOutOfBoundsException", Cond.fieldLink RX3 30 "RoundCompiler" "isReady" "Z", Cond.fieldLink RX3 19 "RoundCompiler" "machine" "LRoundCompiler$Machine;", Cond.fieldLink RX3 26 "RoundCompiler" "ready" "LRoundCompiler$Code;", Cond.instanceMethod yX1_carriesOut, Cond.initialized RX1, Cond.selects RX1 yX1_carriesOut yX1_carriesOut, Cond.code yX1_carriesOut cX1_carriesOut 4 (some .boolean), Cond.fieldLink RX1 9 "RoundCompiler$Machine" "memory" "[I", Cond.fieldLink RX1 15 "RoundCompiler$Machine" "memoryBefore" "[I", Cond.methodLink RX1 27 arraycopyName, Cond.native arraycopyName, Cond.static arraycopyName, Cond.initialized "java/lang/System"]
def wsL_run_r2 : List Cond := [Cond.fieldLink RX1 21 "RoundCompiler$Machine" "names" "[I", Cond.fieldLink RX1 39 "RoundCompiler$Machine" "top" "I", Cond.fieldLink RX1 43 "RoundCompiler$Machine" "steps" "I", Cond.fieldLink RX1 46 "RoundCompiler$Machine" "failed" "Z", Cond.constant RX1 50 (307200), Cond.fieldLink RX1 18 "RoundCompiler$Machine" "values" "[I", Cond.methodLink RX1 33 yJ7_fill_53178, Cond.static yJ7_fill_53178, Cond.initialized RJ7, Cond.code yJ7_fill_53178 cJ7_fill_53178 4 none, Cond.methodLink RX1 56 yX1_behind, Cond.instanceMethod yX1_behind, Cond.selects RX1 yX1_behind yX1_behind, Cond.code yX1_behind cX1_behind 6 (some .int), Cond.methodLink RX1 66 yX1_push, Cond.instanceMethod yX1_push, Cond.selects RX1 yX1_push yX1_push, Cond.code yX1_push cX1_push 2 none, Cond.fieldLink RX1 24 "RoundCompiler$Machine" "stack" "[I", Cond.methodLink RX1 70 yX1_named, Cond.instanceMethod yX1_named, Cond.selects RX1 yX1_named yX1_named, Cond.code yX1_named cX1_named 2 (some .int), Cond.methodLink RX1 74 yX1_pop]
def wsL_run_r3 : List Cond := [Cond.instanceMethod yX1_pop, Cond.selects RX1 yX1_pop yX1_pop, Cond.code yX1_pop cX1_pop 1 (some .int), Cond.methodLink RX1 78 yX1_loaded, Cond.instanceMethod yX1_loaded, Cond.selects RX1 yX1_loaded yX1_loaded, Cond.code yX1_loaded cX1_loaded 2 (some .int), Cond.static yX3_isAddress, Cond.code yX3_isAddress cX3_isAddress 1 (some .boolean), Cond.methodLink RX1 81 yX1_name, Cond.instanceMethod yX1_name, Cond.selects RX1 yX1_name yX1_name, Cond.code yX1_name cX1_name 3 none, Cond.methodLink RX1 85 yX1_store, Cond.instanceMethod yX1_store, Cond.selects RX1 yX1_store yX1_store, Cond.code yX1_store cX1_store 3 none, Cond.methodLink RX1 88 yX1_turnsAgain, Cond.instanceMethod yX1_turnsAgain, Cond.selects RX1 yX1_turnsAgain yX1_turnsAgain, Cond.code yX1_turnsAgain cX1_turnsAgain 5 (some .boolean), Cond.static yX3_ofOne, Cond.code yX3_ofOne cX3_ofOne 3 (some .int), Cond.static yX3_ofTwo]
def wsL_run_r4 : List Cond := [Cond.code yX3_ofTwo cX3_ofTwo 3 (some .int)]
def wsL_run : List Cond := .codeWith yL_run cL_run 3 (some .int) [(0, 8, 11, 18), (0, 8, 14, 20)] :: ((wsL_run_r1 ++ (wsL_run_r2 ++ (wsL_run_r3 ++ wsL_run_r4))) ++ wsX30 ++ wsX10 ++ wsX00 ++ (vx_atS RX3 74 "java/lang/IllegalStateException" ["java/lang/RuntimeException", "java/lang/Exception"]).filter goodWord ++ (vx_atS RX3 83 "java/lang/IndexOutOfBoundsException" ["java/lang/RuntimeException", "java/lang/Exception"]).filter goodWord)
def wsL_value : List Cond := .codeWith yL_value cL_value 4 (some .int) [(0, 9, 12, 20)] :: ([.classLink RL 20 "java/lang/IndexOutOfBoundsException", .methodLink RL 22 yX3_value, .instanceMethod yX3_value, .selects RX3 yX3_value yX3_value, .initialized RX3, .code yX3_value cX3_value 2 (some .int), .classLink RX3 79 "java/lang/IndexOutOfBoundsException", .initialized "java/lang/IndexOutOfBoundsException", .fieldLink RX3 19 "RoundCompiler" "machine" "LRoundCompiler$Machine;"] ++ wsX30 ++ wsX10 ++ (vx_atS RX3 83 "java/lang/IndexOutOfBoundsException" ["java/lang/RuntimeException", "java/lang/Exception"]).filter goodWord)
def wsL_poke : List Cond := .codeWith yL_poke cL_poke 4 (some .int) [(0, 6, 9, 20)] :: ([.classLink RL 20 "java/lang/IndexOutOfBoundsException", .methodLink RL 26 yX3_poke, .instanceMethod yX3_poke, .selects RX3 yX3_poke yX3_poke, .initialized RX3, .code yX3_poke cX3_poke 3 none, .classLink RX3 79 "java/lang/IndexOutOfBoundsException", .initialized "java/lang/IndexOutOfBoundsException", .fieldLink RX3 19 "RoundCompiler" "machine" "LRoundCompiler$Machine;", .methodLink RX3 93 yX3_isAddress, .static yX3_isAddress, .code yX3_isAddress cX3_isAddress 1 (some .boolean)] ++ wsX30 ++ wsX10 ++ (vx_atS RX3 83 "java/lang/IndexOutOfBoundsException" ["java/lang/RuntimeException", "java/lang/Exception"]).filter goodWord)
def wsL_peek : List Cond := .codeWith yL_peek cL_peek 4 (some .int) [(0, 9, 12, 20)] :: ([.classLink RL 20 "java/lang/IndexOutOfBoundsException", .methodLink RL 30 yX3_peek, .instanceMethod yX3_peek, .selects RX3 yX3_peek yX3_peek, .initialized RX3, .code yX3_peek cX3_peek 2 (some .int), .classLink RX3 79 "java/lang/IndexOutOfBoundsException", .initialized "java/lang/IndexOutOfBoundsException", .fieldLink RX3 19 "RoundCompiler" "machine" "LRoundCompiler$Machine;", .methodLink RX3 93 yX3_isAddress, .static yX3_isAddress, .code yX3_isAddress cX3_isAddress 1 (some .boolean)] ++ wsX30 ++ wsX10 ++ (vx_atS RX3 83 "java/lang/IndexOutOfBoundsException" ["java/lang/RuntimeException", "java/lang/Exception"]).filter goodWord)
def wsL_fill : List Cond := .codeWith yL_fill cL_fill 5 (some .int) [(0, 7, 10, 13)] :: ([.classLink RL 13 "java/lang/IllegalArgumentException", .methodLink RL 33 yX3_fill, .instanceMethod yX3_fill, .selects RX3 yX3_fill yX3_fill, .initialized RX3, .code yX3_fill cX3_fill 5 none, .classLink RX3 50 "java/lang/IllegalArgumentException", .initialized "java/lang/IllegalArgumentException", .fieldLink RX3 19 "RoundCompiler" "machine" "LRoundCompiler$Machine;"] ++ wsX30 ++ wsX10 ++ (vx_atS RX3 54 "java/lang/IllegalArgumentException" ["java/lang/RuntimeException", "java/lang/Exception"]).filter goodWord)
def wsL_law0_r1 : List Cond := [Cond.classLink RL 8 RX3, Cond.instantiable RX3 4, Cond.initialized RX3, Cond.classLink RL 38 RX4, Cond.instantiable RX4 33, Cond.initialized RX4, Cond.arrayClass .long, Cond.constantLong RL 41 (4294967295), Cond.methodLink RL 37 yX3_init, Cond.instanceMethod yX3_init, Cond.code yX3_init cX3_init 1 none, Cond.methodLink RX3 1 objectInit, Cond.instanceMethod objectInit, Cond.code objectInit ⟨#[0xb1]⟩ 1 none, Cond.classLink RX3 7 RX2, Cond.instantiable RX2 8, Cond.initialized RX2, Cond.fieldLink RX3 10 "RoundCompiler" "reader" "LRoundCompiler$Reader;", Cond.classLink RX3 16 RX1, Cond.instantiable RX1 8, Cond.initialized RX1, Cond.fieldLink RX3 19 "RoundCompiler" "machine" "LRoundCompiler$Machine;", Cond.classLink RX3 23 RX0, Cond.instantiable RX0 6]
def wsL_law0_r2 : List Cond := [Cond.initialized RX0, Cond.fieldLink RX3 26 "RoundCompiler" "ready" "LRoundCompiler$Code;", Cond.fieldLink RX3 30 "RoundCompiler" "isReady" "Z", Cond.instanceMethod yX2_init, Cond.code yX2_init cX2_init 1 none, Cond.methodLink RX2 3 objectInit, Cond.arrayClass .char, Cond.fieldLink RX2 9 "RoundCompiler$Reader" "text" "[C", Cond.classLink RX2 15 RX0, Cond.fieldLink RX2 18 "RoundCompiler$Reader" "code" "LRoundCompiler$Code;", Cond.instanceMethod yX0_init, Cond.code yX0_init cX0_init 1 none, Cond.methodLink RX0 3 objectInit, Cond.arrayClass .int, Cond.fieldLink RX0 9 "RoundCompiler$Code" "kinds" "[I", Cond.fieldLink RX0 15 "RoundCompiler$Code" "firsts" "[I", Cond.fieldLink RX0 18 "RoundCompiler$Code" "seconds" "[I", Cond.instanceMethod yX1_init, Cond.code yX1_init cX1_init 1 none, Cond.methodLink RX1 3 objectInit, Cond.fieldLink RX1 9 "RoundCompiler$Machine" "memory" "[I", Cond.fieldLink RX1 15 "RoundCompiler$Machine" "memoryBefore" "[I", Cond.fieldLink RX1 18 "RoundCompiler$Machine" "values" "[I", Cond.fieldLink RX1 21 "RoundCompiler$Machine" "names" "[I"]
def wsL_law0_r3 : List Cond := [Cond.fieldLink RX1 24 "RoundCompiler$Machine" "stack" "[I", Cond.methodLink RL 40 yX4_init, Cond.instanceMethod yX4_init, Cond.code yX4_init cX4_init 1 none, Cond.methodLink RX4 1 objectInit, Cond.fieldLink RX4 7 "RoundCompilerModel" "text" "[I", Cond.fieldLink RX4 13 "RoundCompilerModel" "memory" "[I", Cond.fieldLink RX4 16 "RoundCompilerModel" "before" "[I", Cond.fieldLink RX4 19 "RoundCompilerModel" "names" "[I", Cond.fieldLink RX4 22 "RoundCompilerModel" "ended" "[I", Cond.fieldLink RX4 25 "RoundCompilerModel" "draftOps" "[I", Cond.fieldLink RX4 28 "RoundCompilerModel" "draftValues" "[I", Cond.fieldLink RX4 31 "RoundCompilerModel" "ops" "[I", Cond.fieldLink RX4 34 "RoundCompilerModel" "values" "[I", Cond.fieldLink RX4 37 "RoundCompilerModel" "open" "[I", Cond.fieldLink RX4 40 "RoundCompilerModel" "pending" "[I", Cond.arrayClass .boolean, Cond.fieldLink RX4 43 "RoundCompilerModel" "settled" "[Z", Cond.fieldLink RX4 47 "RoundCompilerModel" "blockNames" "[I", Cond.fieldLink RX4 50 "RoundCompilerModel" "blockStarts" "[I", Cond.fieldLink RX4 53 "RoundCompilerModel" "products" "[I", Cond.fieldLink RX4 56 "RoundCompilerModel" "pile" "[I", Cond.methodLink RL 43 yX3_write, Cond.instanceMethod yX3_write]
def wsL_law0_r4 : List Cond := [Cond.selects RX3 yX3_write yX3_write, Cond.code yX3_write cX3_write 6 (some .boolean), Cond.methodLink RX3 34 yX3_byteOf, Cond.static yX3_byteOf, Cond.code yX3_byteOf cX3_byteOf 3 (some .int), Cond.instanceMethod yX2_append, Cond.selects RX2 yX2_append yX2_append, Cond.code yX2_append cX2_append 2 none, Cond.fieldLink RX2 22 "RoundCompiler$Reader" "length" "I", Cond.methodLink RL 47 yX4_write, Cond.instanceMethod yX4_write, Cond.selects RX4 yX4_write yX4_write, Cond.code yX4_write cX4_write 7 (some .boolean), Cond.fieldLink RX4 59 "RoundCompilerModel" "thrown" "I", Cond.constantLong RX4 63 (255), Cond.fieldLink RX4 65 "RoundCompilerModel" "length" "I", Cond.methodLink RL 48 yX3_wipe, Cond.instanceMethod yX3_wipe, Cond.selects RX3 yX3_wipe yX3_wipe, Cond.code yX3_wipe cX3_wipe 1 none, Cond.methodLink RL 51 yX4_wipe, Cond.instanceMethod yX4_wipe, Cond.selects RX4 yX4_wipe yX4_wipe, Cond.code yX4_wipe cX4_wipe 1 none]
def wsL_law0_r5 : List Cond := [Cond.methodLink RL 52 yL_compile, Cond.static yL_compile, Cond.initialized RL, Cond.codeWith yL_compile cL_compile 3 (some .int) [(0, 8, 11, 13)], Cond.classLink RL 13 "java/lang/IllegalArgumentException", Cond.methodLink RL 7 yX3_compile, Cond.instanceMethod yX3_compile, Cond.selects RX3 yX3_compile yX3_compile, Cond.code yX3_compile cX3_compile 1 (some .int), Cond.classLink RX3 50 "java/lang/IllegalArgumentException", Cond.initialized "java/lang/IllegalArgumentException", Cond.instanceMethod yX2_readText, Cond.selects RX2 yX2_readText yX2_readText, Cond.code yX2_readText cX2_readText 1 (some .boolean), Cond.fieldLink RX2 29 "RoundCompiler$Reader" "at" "I", Cond.fieldLink RX2 32 "RoundCompiler$Reader" "faultPlace" "I", Cond.fieldLink RX2 35 "RoundCompiler$Reader" "loops" "I", Cond.fieldLink RX2 38 "RoundCompiler$Reader" "turns" "I", Cond.instanceMethod yX0_empty, Cond.selects RX0 yX0_empty yX0_empty, Cond.code yX0_empty cX0_empty 1 none, Cond.fieldLink RX0 21 "RoundCompiler$Code" "size" "I", Cond.fieldLink RX0 25 "RoundCompiler$Code" "statements" "I", Cond.fieldLink RX0 28 "RoundCompiler$Code" "operators" "I"]
def wsL_law0_r6 : List Cond := [Cond.methodLink RX2 41 yX2_readProgram, Cond.instanceMethod yX2_readProgram, Cond.selects RX2 yX2_readProgram yX2_readProgram, Cond.code yX2_readProgram cX2_readProgram 3 (some .boolean), Cond.methodLink RX2 48 yX2_here, Cond.instanceMethod yX2_here, Cond.selects RX2 yX2_here yX2_here, Cond.code yX2_here cX2_here 1 (some .int), Cond.methodLink RX2 58 yX2_readStatement, Cond.instanceMethod yX2_readStatement, Cond.selects RX2 yX2_readStatement yX2_readStatement, Cond.code yX2_readBlock cX2_readBlock 2 (some .boolean), Cond.methodLink RX2 45 yX2_expect, Cond.instanceMethod yX2_expect, Cond.selects RX2 yX2_expect yX2_expect, Cond.code yX2_expect cX2_expect 2 (some .boolean), Cond.methodLink RX2 52 yX2_refuse, Cond.instanceMethod yX2_refuse, Cond.selects RX2 yX2_refuse yX2_refuse, Cond.code yX2_refuse cX2_refuse 2 (some .boolean), Cond.code yX2_readBranch cX2_readBranch 3 (some .boolean), Cond.methodLink RX2 77 yX2_readSum, Cond.instanceMethod yX2_readSum, Cond.selects RX2 yX2_readSum yX2_readSum]
def wsL_law0_r7 : List Cond := [Cond.code yX2_readSum cX2_readSum 4 (some .boolean), Cond.methodLink RX2 104 yX2_readTurned, Cond.instanceMethod yX2_readTurned, Cond.selects RX2 yX2_readTurned yX2_readTurned, Cond.methodLink RX2 107 yX2_isOperator, Cond.static yX2_isOperator, Cond.code yX2_isOperator cX2_isOperator 1 (some .boolean), Cond.instanceMethod yX0_addOfTwo, Cond.selects RX0 yX0_addOfTwo yX0_addOfTwo, Cond.code yX0_addOfTwo cX0_addOfTwo 2 none, Cond.methodLink RX0 31 yX0_endsInNumbers, Cond.instanceMethod yX0_endsInNumbers, Cond.selects RX0 yX0_endsInNumbers yX0_endsInNumbers, Cond.code yX0_endsInNumbers cX0_endsInNumbers 3 (some .boolean), Cond.static yX3_ofTwo, Cond.code yX3_ofTwo cX3_ofTwo 3 (some .int), Cond.methodLink RX0 39 yX0_add, Cond.instanceMethod yX0_add, Cond.selects RX0 yX0_add yX0_add, Cond.code yX0_add cX0_add 4 none, Cond.code yX2_readFactor cX2_readFactor 3 (some .boolean), Cond.constantLong RX2 129 (4294967295), Cond.fieldLink RX2 90 "RoundCompiler$Reader" "number" "J", Cond.methodLink RX2 122 yX2_nameOf]
def wsL_law0_r8 : List Cond := [Cond.static yX2_nameOf, Cond.code yX2_nameOf cX2_nameOf 1 (some .int), Cond.methodLink RX2 126 yX2_readNested, Cond.instanceMethod yX2_readNested, Cond.selects RX2 yX2_readNested yX2_readNested, Cond.methodLink RX2 86 yX2_readNumber, Cond.instanceMethod yX2_readNumber, Cond.selects RX2 yX2_readNumber yX2_readNumber, Cond.code yX2_readNumber cX2_readNumber 10 (some .boolean), Cond.methodLink RX2 131 yX2_digitOf, Cond.static yX2_digitOf, Cond.code yX2_digitOf cX2_digitOf 2 (some .int), Cond.code yX2_readNested cX2_readNested 3 (some .boolean), Cond.methodLink RX2 114 yX2_readFactor, Cond.instanceMethod yX2_readFactor, Cond.selects RX2 yX2_readFactor yX2_readFactor, Cond.instanceMethod yX0_addOfOne, Cond.selects RX0 yX0_addOfOne yX0_addOfOne, Cond.code yX0_addOfOne cX0_addOfOne 3 none, Cond.static yX3_ofOne, Cond.code yX3_ofOne cX3_ofOne 3 (some .int), Cond.code yX2_readTurned cX2_readTurned 4 (some .boolean), Cond.constantLong RX2 117 (31), Cond.methodLink RX2 97 yX2_readBlock]
def wsL_law0_r9 : List Cond := [Cond.instanceMethod yX2_readBlock, Cond.selects RX2 yX2_readBlock yX2_readBlock, Cond.instanceMethod yX0_setFirst, Cond.selects RX0 yX0_setFirst yX0_setFirst, Cond.code yX0_setFirst cX0_setFirst 3 none, Cond.code yX2_readLoop cX2_readLoop 7 (some .boolean), Cond.constantLong RX2 84 (64), Cond.methodLink RX2 74 yX2_freeName, Cond.instanceMethod yX2_freeName, Cond.selects RX2 yX2_freeName yX2_freeName, Cond.code yX2_freeName cX2_freeName 2 (some .int), Cond.code yX2_readStatement cX2_readStatement 2 (some .boolean), Cond.methodLink RX2 61 yX2_readStore, Cond.instanceMethod yX2_readStore, Cond.selects RX2 yX2_readStore yX2_readStore, Cond.code yX2_readStore cX2_readStore 1 (some .boolean), Cond.methodLink RX2 65 yX2_readLoop, Cond.instanceMethod yX2_readLoop, Cond.selects RX2 yX2_readLoop yX2_readLoop, Cond.methodLink RX2 68 yX2_readBranch, Cond.instanceMethod yX2_readBranch, Cond.selects RX2 yX2_readBranch yX2_readBranch, Cond.methodLink RX2 71 yX2_readSet, Cond.instanceMethod yX2_readSet]
def wsL_law0_r10 : List Cond := [Cond.selects RX2 yX2_readSet yX2_readSet, Cond.code yX2_readSet cX2_readSet 2 (some .boolean), Cond.instanceMethod yX2_exchanged, Cond.selects RX2 yX2_exchanged yX2_exchanged, Cond.code yX2_exchanged cX2_exchanged 3 (some (.object "RoundCompiler$Code")), Cond.methodLink RL 57 yX4_compile, Cond.instanceMethod yX4_compile, Cond.selects RX4 yX4_compile yX4_compile, Cond.code yX4_compile cX4_compile 3 (some .int), Cond.fieldLink RX4 71 "RoundCompilerModel" "fault" "I", Cond.fieldLink RX4 68 "RoundCompilerModel" "at" "I", Cond.fieldLink RX4 110 "RoundCompilerModel" "statements" "I", Cond.fieldLink RX4 94 "RoundCompilerModel" "draftSize" "I", Cond.fieldLink RX4 150 "RoundCompilerModel" "draftWork" "I", Cond.fieldLink RX4 97 "RoundCompilerModel" "openSize" "I", Cond.fieldLink RX4 138 "RoundCompilerModel" "nested" "I", Cond.fieldLink RX4 100 "RoundCompilerModel" "settledSize" "I", Cond.fieldLink RX4 103 "RoundCompilerModel" "blocks" "I", Cond.fieldLink RX4 167 "RoundCompilerModel" "size" "I", Cond.fieldLink RX4 170 "RoundCompilerModel" "work" "I", Cond.fieldLink RX4 173 "RoundCompilerModel" "ready" "Z", Cond.methodLink RX4 158 yX4_statement, Cond.instanceMethod yX4_statement, Cond.selects RX4 yX4_statement yX4_statement]
def wsL_law0_r11 : List Cond := [Cond.code yX4_statement cX4_statement 4 (some .int), Cond.fieldLink RX4 116 "RoundCompilerModel" "assigned" "I", Cond.constantLong RX4 128 (64), Cond.fieldLink RX4 82 "RoundCompilerModel" "number" "J", Cond.methodLink RX4 74 yX4_here, Cond.instanceMethod yX4_here, Cond.selects RX4 yX4_here yX4_here, Cond.code yX4_here cX4_here 1 (some .int), Cond.methodLink RX4 106 yX4_step, Cond.instanceMethod yX4_step, Cond.selects RX4 yX4_step yX4_step, Cond.code yX4_step cX4_step 3 none, Cond.methodLink RX4 113 yX4_isLetter, Cond.static yX4_isLetter, Cond.code yX4_isLetter cX4_isLetter 1 (some .boolean), Cond.methodLink RX4 119 yX4_isLoop, Cond.instanceMethod yX4_isLoop, Cond.selects RX4 yX4_isLoop yX4_isLoop, Cond.code yX4_isLoop cX4_isLoop 4 (some .boolean), Cond.methodLink RX4 78 yX4_wrong, Cond.instanceMethod yX4_wrong, Cond.selects RX4 yX4_wrong yX4_wrong, Cond.code yX4_wrong cX4_wrong 2 none, Cond.methodLink RX4 122 yX4_want]
def wsL_law0_r12 : List Cond := [Cond.instanceMethod yX4_want, Cond.selects RX4 yX4_want yX4_want, Cond.code yX4_want cX4_want 2 none, Cond.methodLink RX4 125 yX4_push, Cond.instanceMethod yX4_push, Cond.selects RX4 yX4_push yX4_push, Cond.code yX4_push cX4_push 2 none, Cond.methodLink RX4 130 yX4_readNumber, Cond.instanceMethod yX4_readNumber, Cond.selects RX4 yX4_readNumber yX4_readNumber, Cond.code yX4_readNumber cX4_readNumber 9 none, Cond.constantLong RX4 90 (16), Cond.constantLong RX4 92 (10), Cond.methodLink RX4 86 yX4_isDigit, Cond.static yX4_isDigit, Cond.code yX4_isDigit cX4_isDigit 1 (some .boolean), Cond.methodLink RX4 134 yX4_block, Cond.instanceMethod yX4_block, Cond.selects RX4 yX4_block yX4_block, Cond.code yX4_block cX4_block 4 none, Cond.methodLink RX4 161 yX4_factor, Cond.instanceMethod yX4_factor, Cond.selects RX4 yX4_factor yX4_factor, Cond.code yX4_factor cX4_factor 2 (some .int)]
def wsL_law0_r13 : List Cond := [Cond.constantLong RX4 145 (4294967295), Cond.methodLink RX4 141 yX4_settle, Cond.instanceMethod yX4_settle, Cond.selects RX4 yX4_settle yX4_settle, Cond.code yX4_settle cX4_settle 2 none, Cond.methodLink RX4 147 yX4_whole, Cond.instanceMethod yX4_whole, Cond.selects RX4 yX4_whole yX4_whole, Cond.code yX4_whole cX4_whole 1 none, Cond.methodLink RX4 164 yX4_behind, Cond.instanceMethod yX4_behind, Cond.selects RX4 yX4_behind yX4_behind, Cond.code yX4_behind cX4_behind 5 (some .int), Cond.constantLong RX4 153 (31), Cond.methodLink RX4 155 yX4_isOperator, Cond.static yX4_isOperator, Cond.code yX4_isOperator cX4_isOperator 1 (some .boolean), Cond.methodLink RL 58 yX4_thrown, Cond.instanceMethod yX4_thrown, Cond.selects RX4 yX4_thrown yX4_thrown, Cond.code yX4_thrown cX4_thrown 1 (some .int), Cond.methodLink RL 61 yX3_fault, Cond.instanceMethod yX3_fault, Cond.selects RX3 yX3_fault yX3_fault]
def wsL_law0_r14 : List Cond := [Cond.code yX3_fault cX3_fault 1 (some .int), Cond.methodLink RL 64 yX4_fault, Cond.instanceMethod yX4_fault, Cond.selects RX4 yX4_fault yX4_fault, Cond.code yX4_fault cX4_fault 1 (some .int), Cond.methodLink RL 65 yX3_work, Cond.instanceMethod yX3_work, Cond.selects RX3 yX3_work yX3_work, Cond.code yX3_work cX3_work 1 (some .int), Cond.methodLink RL 68 yX4_work, Cond.instanceMethod yX4_work, Cond.selects RX4 yX4_work yX4_work, Cond.code yX4_work cX4_work 1 (some .int), Cond.methodLink RL 69 yL_run, Cond.static yL_run, Cond.codeWith yL_run cL_run 3 (some .int) [(0, 8, 11, 18), (0, 8, 14, 20)], Cond.classLink RL 18 "java/lang/IllegalStateException", Cond.classLink RL 20 "java/lang/IndexOutOfBoundsException", Cond.methodLink RL 15 yX3_run, Cond.instanceMethod yX3_run, Cond.selects RX3 yX3_run yX3_run, Cond.code yX3_run cX3_run 1 (some .int), Cond.classLink RX3 70 "java/lang/IllegalStateException", Cond.initialized "java/lang/IllegalStateException"]
def wsL_law0_r15 : List Cond := [Cond.classLink RX3 79 "java/lang/IndexOutOfBoundsException", Cond.initialized "java/lang/IndexOutOfBoundsException", Cond.instanceMethod yX1_carriesOut, Cond.selects RX1 yX1_carriesOut yX1_carriesOut, Cond.code yX1_carriesOut cX1_carriesOut 4 (some .boolean), Cond.methodLink RX1 27 arraycopyName, Cond.native arraycopyName, Cond.static arraycopyName, Cond.initialized "java/lang/System", Cond.fieldLink RX1 39 "RoundCompiler$Machine" "top" "I", Cond.fieldLink RX1 43 "RoundCompiler$Machine" "steps" "I", Cond.fieldLink RX1 46 "RoundCompiler$Machine" "failed" "Z", Cond.constant RX1 50 (307200), Cond.methodLink RX1 33 yJ7_fill_53178, Cond.static yJ7_fill_53178, Cond.initialized RJ7, Cond.code yJ7_fill_53178 cJ7_fill_53178 4 none, Cond.methodLink RX1 56 yX1_behind, Cond.instanceMethod yX1_behind, Cond.selects RX1 yX1_behind yX1_behind, Cond.code yX1_behind cX1_behind 6 (some .int), Cond.methodLink RX1 66 yX1_push, Cond.instanceMethod yX1_push, Cond.selects RX1 yX1_push yX1_push]
def wsL_law0_r16 : List Cond := [Cond.code yX1_push cX1_push 2 none, Cond.methodLink RX1 70 yX1_named, Cond.instanceMethod yX1_named, Cond.selects RX1 yX1_named yX1_named, Cond.code yX1_named cX1_named 2 (some .int), Cond.methodLink RX1 74 yX1_pop, Cond.instanceMethod yX1_pop, Cond.selects RX1 yX1_pop yX1_pop, Cond.code yX1_pop cX1_pop 1 (some .int), Cond.methodLink RX1 78 yX1_loaded, Cond.instanceMethod yX1_loaded, Cond.selects RX1 yX1_loaded yX1_loaded, Cond.code yX1_loaded cX1_loaded 2 (some .int), Cond.static yX3_isAddress, Cond.code yX3_isAddress cX3_isAddress 1 (some .boolean), Cond.methodLink RX1 81 yX1_name, Cond.instanceMethod yX1_name, Cond.selects RX1 yX1_name yX1_name, Cond.code yX1_name cX1_name 3 none, Cond.methodLink RX1 85 yX1_store, Cond.instanceMethod yX1_store, Cond.selects RX1 yX1_store yX1_store, Cond.code yX1_store cX1_store 3 none, Cond.methodLink RX1 88 yX1_turnsAgain]
def wsL_law0_r17 : List Cond := [Cond.instanceMethod yX1_turnsAgain, Cond.selects RX1 yX1_turnsAgain yX1_turnsAgain, Cond.code yX1_turnsAgain cX1_turnsAgain 5 (some .boolean), Cond.methodLink RL 71 yX4_run, Cond.instanceMethod yX4_run, Cond.selects RX4 yX4_run yX4_run, Cond.code yX4_run cX4_run 6 (some .int), Cond.fieldLink RX4 177 "RoundCompilerModel" "top" "I", Cond.methodLink RX4 180 yX4_end, Cond.instanceMethod yX4_end, Cond.selects RX4 yX4_end yX4_end, Cond.code yX4_end cX4_end 4 none, Cond.methodLink RX4 186 yX4_isAddress, Cond.static yX4_isAddress, Cond.code yX4_isAddress cX4_isAddress 1 (some .boolean), Cond.methodLink RX4 183 yX4_reckon, Cond.instanceMethod yX4_reckon, Cond.selects RX4 yX4_reckon yX4_reckon, Cond.code yX4_reckon cX4_reckon 4 none, Cond.methodLink RX4 189 yX4_operated, Cond.static yX4_operated, Cond.code yX4_operated cX4_operated 3 (some .int), Cond.methodLink RX4 193 yX4_turned, Cond.static yX4_turned]
def wsL_law0_r18 : List Cond := [Cond.code yX4_turned cX4_turned 2 (some .int), Cond.methodLink RL 72 yL_value, Cond.static yL_value, Cond.codeWith yL_value cL_value 4 (some .int) [(0, 9, 12, 20)], Cond.methodLink RL 22 yX3_value, Cond.instanceMethod yX3_value, Cond.selects RX3 yX3_value yX3_value, Cond.code yX3_value cX3_value 2 (some .int), Cond.methodLink RL 75 yX4_value, Cond.instanceMethod yX4_value, Cond.selects RX4 yX4_value yX4_value, Cond.code yX4_value cX4_value 2 (some .int), Cond.methodLink RL 76 yL_poke, Cond.static yL_poke, Cond.codeWith yL_poke cL_poke 4 (some .int) [(0, 6, 9, 20)], Cond.methodLink RL 26 yX3_poke, Cond.instanceMethod yX3_poke, Cond.selects RX3 yX3_poke yX3_poke, Cond.code yX3_poke cX3_poke 3 none, Cond.methodLink RX3 93 yX3_isAddress, Cond.methodLink RL 79 yX4_poke, Cond.instanceMethod yX4_poke, Cond.selects RX4 yX4_poke yX4_poke, Cond.code yX4_poke cX4_poke 3 none]
def wsL_law0_r19 : List Cond := [Cond.methodLink RL 80 yL_peek, Cond.static yL_peek, Cond.codeWith yL_peek cL_peek 4 (some .int) [(0, 9, 12, 20)], Cond.methodLink RL 30 yX3_peek, Cond.instanceMethod yX3_peek, Cond.selects RX3 yX3_peek yX3_peek, Cond.code yX3_peek cX3_peek 2 (some .int), Cond.methodLink RL 82 yX4_peek, Cond.instanceMethod yX4_peek, Cond.selects RX4 yX4_peek yX4_peek, Cond.code yX4_peek cX4_peek 2 (some .int), Cond.methodLink RL 83 yL_fill, Cond.static yL_fill, Cond.codeWith yL_fill cL_fill 5 (some .int) [(0, 7, 10, 13)], Cond.methodLink RL 33 yX3_fill, Cond.instanceMethod yX3_fill, Cond.selects RX3 yX3_fill yX3_fill, Cond.code yX3_fill cX3_fill 5 none, Cond.methodLink RL 86 yX4_fill, Cond.instanceMethod yX4_fill, Cond.selects RX4 yX4_fill yX4_fill, Cond.code yX4_fill cX4_fill 5 none, Cond.methodLink RL 87 yX3_mixed, Cond.instanceMethod yX3_mixed]
def wsL_law0_r20 : List Cond := [Cond.selects RX3 yX3_mixed yX3_mixed, Cond.code yX3_mixed cX3_mixed 3 (some .int), Cond.methodLink RX3 104 yX3_ofOne, Cond.methodLink RL 90 yX4_mixed, Cond.instanceMethod yX4_mixed, Cond.selects RX4 yX4_mixed yX4_mixed, Cond.code yX4_mixed cX4_mixed 3 (some .int)]
def wsL_law0 : List Cond := (wsL_law0_r1 ++ (wsL_law0_r2 ++ (wsL_law0_r3 ++ (wsL_law0_r4 ++ (wsL_law0_r5 ++ (wsL_law0_r6 ++ (wsL_law0_r7 ++ (wsL_law0_r8 ++ (wsL_law0_r9 ++ (wsL_law0_r10 ++ (wsL_law0_r11 ++ (wsL_law0_r12 ++ (wsL_law0_r13 ++ (wsL_law0_r14 ++ (wsL_law0_r15 ++ (wsL_law0_r16 ++ (wsL_law0_r17 ++ (wsL_law0_r18 ++ (wsL_law0_r19 ++ wsL_law0_r20))))))))))))))))))) ++ wsX30 ++ wsX40 ++ wsX20 ++ wsX10 ++ wsX00 ++ ([] : List Cond)
def wsL_law : List Cond := wsL_law0 ++ (vx_atS RX3 54 "java/lang/IllegalArgumentException" ["java/lang/RuntimeException", "java/lang/Exception"]).filter goodWord ++ (vx_atS RX3 74 "java/lang/IllegalStateException" ["java/lang/RuntimeException", "java/lang/Exception"]).filter goodWord ++ (vx_atS RX3 83 "java/lang/IndexOutOfBoundsException" ["java/lang/RuntimeException", "java/lang/Exception"]).filter goodWord
abbrev vwCl : List vw_C := [(RX0, TX0, 6), (RX1, TX1, 8), (RX2, TX2, 8), (RX3, TX3, 4), (RX4, TX4, 33)]
end
section
theorem dX0_init_0 : decode cX0_init 0 = .ok (.aload_n 0, 1) := by decide +kernel
theorem dX0_init_1 : decode cX0_init 1 = .ok (.invokespecial 3, 3) := by decide +kernel
theorem dX0_init_4 : decode cX0_init 4 = .ok (.aload_n 0, 1) := by decide +kernel
theorem dX0_init_5 : decode cX0_init 5 = .ok (.sipush 480, 3) := by decide +kernel
theorem dX0_init_8 : decode cX0_init 8 = .ok (.newarray .int, 2) := by decide +kernel
theorem dX0_init_10 : decode cX0_init 10 = .ok (.putfield 9, 3) := by decide +kernel
theorem dX0_init_13 : decode cX0_init 13 = .ok (.aload_n 0, 1) := by decide +kernel
theorem dX0_init_14 : decode cX0_init 14 = .ok (.sipush 480, 3) := by decide +kernel
theorem dX0_init_17 : decode cX0_init 17 = .ok (.newarray .int, 2) := by decide +kernel
theorem dX0_init_19 : decode cX0_init 19 = .ok (.putfield 15, 3) := by decide +kernel
theorem dX0_init_22 : decode cX0_init 22 = .ok (.aload_n 0, 1) := by decide +kernel
theorem dX0_init_23 : decode cX0_init 23 = .ok (.sipush 480, 3) := by decide +kernel
theorem dX0_init_26 : decode cX0_init 26 = .ok (.newarray .int, 2) := by decide +kernel
theorem dX0_init_28 : decode cX0_init 28 = .ok (.putfield 18, 3) := by decide +kernel
theorem dX0_init_31 : decode cX0_init 31 = .ok (.return_, 1) := by decide +kernel
theorem dX0_empty_0 : decode cX0_empty 0 = .ok (.aload_n 0, 1) := by decide +kernel
theorem dX0_empty_1 : decode cX0_empty 1 = .ok (.iconst 0, 1) := by decide +kernel
theorem dX0_empty_2 : decode cX0_empty 2 = .ok (.putfield 21, 3) := by decide +kernel
theorem dX0_empty_5 : decode cX0_empty 5 = .ok (.aload_n 0, 1) := by decide +kernel
theorem dX0_empty_6 : decode cX0_empty 6 = .ok (.iconst 0, 1) := by decide +kernel
theorem dX0_empty_7 : decode cX0_empty 7 = .ok (.putfield 25, 3) := by decide +kernel
theorem dX0_empty_10 : decode cX0_empty 10 = .ok (.aload_n 0, 1) := by decide +kernel
theorem dX0_empty_11 : decode cX0_empty 11 = .ok (.iconst 0, 1) := by decide +kernel
theorem dX0_empty_12 : decode cX0_empty 12 = .ok (.putfield 28, 3) := by decide +kernel
theorem dX0_empty_15 : decode cX0_empty 15 = .ok (.return_, 1) := by decide +kernel
theorem dX0_add_0 : decode cX0_add 0 = .ok (.aload_n 0, 1) := by decide +kernel
theorem dX0_add_1 : decode cX0_add 1 = .ok (.getfield 21, 3) := by decide +kernel
theorem dX0_add_4 : decode cX0_add 4 = .ok (.aload_n 0, 1) := by decide +kernel
theorem dX0_add_5 : decode cX0_add 5 = .ok (.getfield 9, 3) := by decide +kernel
theorem dX0_add_8 : decode cX0_add 8 = .ok (.arraylength, 1) := by decide +kernel
theorem dX0_add_9 : decode cX0_add 9 = .ok (.if_icmp .ge 43, 3) := by decide +kernel
theorem dX0_add_12 : decode cX0_add 12 = .ok (.aload_n 0, 1) := by decide +kernel
theorem dX0_add_13 : decode cX0_add 13 = .ok (.getfield 9, 3) := by decide +kernel
theorem dX0_add_16 : decode cX0_add 16 = .ok (.aload_n 0, 1) := by decide +kernel
theorem dX0_add_17 : decode cX0_add 17 = .ok (.getfield 21, 3) := by decide +kernel
theorem dX0_add_20 : decode cX0_add 20 = .ok (.iload_n 1, 1) := by decide +kernel
theorem dX0_add_21 : decode cX0_add 21 = .ok (.iastore, 1) := by decide +kernel
theorem dX0_add_22 : decode cX0_add 22 = .ok (.aload_n 0, 1) := by decide +kernel
theorem dX0_add_23 : decode cX0_add 23 = .ok (.getfield 15, 3) := by decide +kernel
theorem dX0_add_26 : decode cX0_add 26 = .ok (.aload_n 0, 1) := by decide +kernel
theorem dX0_add_27 : decode cX0_add 27 = .ok (.getfield 21, 3) := by decide +kernel
theorem dX0_add_30 : decode cX0_add 30 = .ok (.iload_n 2, 1) := by decide +kernel
theorem dX0_add_31 : decode cX0_add 31 = .ok (.iastore, 1) := by decide +kernel
theorem dX0_add_32 : decode cX0_add 32 = .ok (.aload_n 0, 1) := by decide +kernel
theorem dX0_add_33 : decode cX0_add 33 = .ok (.getfield 18, 3) := by decide +kernel
theorem dX0_add_36 : decode cX0_add 36 = .ok (.aload_n 0, 1) := by decide +kernel
theorem dX0_add_37 : decode cX0_add 37 = .ok (.getfield 21, 3) := by decide +kernel
theorem dX0_add_40 : decode cX0_add 40 = .ok (.iload_n 3, 1) := by decide +kernel
theorem dX0_add_41 : decode cX0_add 41 = .ok (.iastore, 1) := by decide +kernel
theorem dX0_add_42 : decode cX0_add 42 = .ok (.aload_n 0, 1) := by decide +kernel
theorem dX0_add_43 : decode cX0_add 43 = .ok (.dup, 1) := by decide +kernel
theorem dX0_add_44 : decode cX0_add 44 = .ok (.getfield 21, 3) := by decide +kernel
theorem dX0_add_47 : decode cX0_add 47 = .ok (.iconst 1, 1) := by decide +kernel
theorem dX0_add_48 : decode cX0_add 48 = .ok (.iadd, 1) := by decide +kernel
theorem dX0_add_49 : decode cX0_add 49 = .ok (.putfield 21, 3) := by decide +kernel
theorem dX0_add_52 : decode cX0_add 52 = .ok (.return_, 1) := by decide +kernel
set_option maxRecDepth 20000 in
theorem ggX0_addOfOne_X0_endsInNumbers : GoodIn wsX0_addOfOne wsX0_endsInNumbers := goodIn_r _ [8, 2, 9, 18, 19, 20, 21, 22, 23] (by decide +kernel) (by decide +kernel)
set_option maxRecDepth 20000 in
theorem gX0_addOfOne_X0_endsInNumbers : GoodIn wsX0_addOfOne (wsV RX0 31 RX0 yX0_endsInNumbers wsX0_endsInNumbers) := goodIn_app (goodIn_of _ (by decide +kernel)) ggX0_addOfOne_X0_endsInNumbers
set_option maxRecDepth 20000 in
theorem ggX0_addOfOne_X3_ofOne : GoodIn wsX0_addOfOne wsX3_ofOne := goodIn_r _ [12] (by decide +kernel) (by decide +kernel)
set_option maxRecDepth 20000 in
theorem gX0_addOfOne_X3_ofOne_n35 : GoodIn wsX0_addOfOne (wsX3_ofOne) := ggX0_addOfOne_X3_ofOne
set_option maxRecDepth 20000 in
theorem ggX0_addOfOne_X0_add : GoodIn wsX0_addOfOne wsX0_add := goodIn_r _ [16, 2, 9, 1, 17, 18, 19, 20, 21, 22, 23] (by decide +kernel) (by decide +kernel)
set_option maxRecDepth 20000 in
theorem gX0_addOfOne_X0_add : GoodIn wsX0_addOfOne (wsV RX0 39 RX0 yX0_add wsX0_add) := goodIn_app (goodIn_of _ (by decide +kernel)) ggX0_addOfOne_X0_add
theorem dX0_addOfOne_0 : decode cX0_addOfOne 0 = .ok (.aload_n 0, 1) := by decide +kernel
theorem dX0_addOfOne_1 : decode cX0_addOfOne 1 = .ok (.iconst 1, 1) := by decide +kernel
theorem dX0_addOfOne_2 : decode cX0_addOfOne 2 = .ok (.invokevirtual 31, 3) := by decide +kernel
theorem dX0_addOfOne_5 : decode cX0_addOfOne 5 = .ok (.ifCond .eq 33, 3) := by decide +kernel
theorem dX0_addOfOne_8 : decode cX0_addOfOne 8 = .ok (.aload_n 0, 1) := by decide +kernel
theorem dX0_addOfOne_9 : decode cX0_addOfOne 9 = .ok (.getfield 15, 3) := by decide +kernel
theorem dX0_addOfOne_12 : decode cX0_addOfOne 12 = .ok (.aload_n 0, 1) := by decide +kernel
theorem dX0_addOfOne_13 : decode cX0_addOfOne 13 = .ok (.getfield 21, 3) := by decide +kernel
theorem dX0_addOfOne_16 : decode cX0_addOfOne 16 = .ok (.iconst 1, 1) := by decide +kernel
theorem dX0_addOfOne_17 : decode cX0_addOfOne 17 = .ok (.isub, 1) := by decide +kernel
theorem dX0_addOfOne_18 : decode cX0_addOfOne 18 = .ok (.iload_n 1, 1) := by decide +kernel
theorem dX0_addOfOne_19 : decode cX0_addOfOne 19 = .ok (.aload_n 0, 1) := by decide +kernel
theorem dX0_addOfOne_20 : decode cX0_addOfOne 20 = .ok (.getfield 15, 3) := by decide +kernel
theorem dX0_addOfOne_23 : decode cX0_addOfOne 23 = .ok (.aload_n 0, 1) := by decide +kernel
theorem dX0_addOfOne_24 : decode cX0_addOfOne 24 = .ok (.getfield 21, 3) := by decide +kernel
theorem dX0_addOfOne_27 : decode cX0_addOfOne 27 = .ok (.iconst 1, 1) := by decide +kernel
theorem dX0_addOfOne_28 : decode cX0_addOfOne 28 = .ok (.isub, 1) := by decide +kernel
theorem dX0_addOfOne_29 : decode cX0_addOfOne 29 = .ok (.iaload, 1) := by decide +kernel
theorem dX0_addOfOne_30 : decode cX0_addOfOne 30 = .ok (.iload_n 2, 1) := by decide +kernel
theorem dX0_addOfOne_31 : decode cX0_addOfOne 31 = .ok (.invokestatic 35, 3) := by decide +kernel
theorem dX0_addOfOne_34 : decode cX0_addOfOne 34 = .ok (.iastore, 1) := by decide +kernel
theorem dX0_addOfOne_35 : decode cX0_addOfOne 35 = .ok (.goto 20, 3) := by decide +kernel
theorem dX0_addOfOne_38 : decode cX0_addOfOne 38 = .ok (.aload_n 0, 1) := by decide +kernel
theorem dX0_addOfOne_39 : decode cX0_addOfOne 39 = .ok (.iload_n 1, 1) := by decide +kernel
theorem dX0_addOfOne_40 : decode cX0_addOfOne 40 = .ok (.iload_n 2, 1) := by decide +kernel
theorem dX0_addOfOne_41 : decode cX0_addOfOne 41 = .ok (.iconst 0, 1) := by decide +kernel
theorem dX0_addOfOne_42 : decode cX0_addOfOne 42 = .ok (.invokevirtual 39, 3) := by decide +kernel
theorem dX0_addOfOne_45 : decode cX0_addOfOne 45 = .ok (.aload_n 0, 1) := by decide +kernel
theorem dX0_addOfOne_46 : decode cX0_addOfOne 46 = .ok (.dup, 1) := by decide +kernel
theorem dX0_addOfOne_47 : decode cX0_addOfOne 47 = .ok (.getfield 28, 3) := by decide +kernel
theorem dX0_addOfOne_50 : decode cX0_addOfOne 50 = .ok (.iconst 1, 1) := by decide +kernel
theorem dX0_addOfOne_51 : decode cX0_addOfOne 51 = .ok (.iadd, 1) := by decide +kernel
theorem dX0_addOfOne_52 : decode cX0_addOfOne 52 = .ok (.putfield 28, 3) := by decide +kernel
theorem dX0_addOfOne_55 : decode cX0_addOfOne 55 = .ok (.return_, 1) := by decide +kernel
set_option maxRecDepth 20000 in
theorem ggX0_addOfTwo_X0_endsInNumbers : GoodIn wsX0_addOfTwo wsX0_endsInNumbers := goodIn_r _ [8, 1, 9, 18, 19, 20, 21, 22, 23] (by decide +kernel) (by decide +kernel)
set_option maxRecDepth 20000 in
theorem gX0_addOfTwo_X0_endsInNumbers : GoodIn wsX0_addOfTwo (wsV RX0 31 RX0 yX0_endsInNumbers wsX0_endsInNumbers) := goodIn_app (goodIn_of _ (by decide +kernel)) ggX0_addOfTwo_X0_endsInNumbers
set_option maxRecDepth 20000 in
theorem ggX0_addOfTwo_X3_ofTwo : GoodIn wsX0_addOfTwo wsX3_ofTwo := goodIn_r _ [12] (by decide +kernel) (by decide +kernel)
set_option maxRecDepth 20000 in
theorem gX0_addOfTwo_X3_ofTwo_n43 : GoodIn wsX0_addOfTwo (wsX3_ofTwo) := ggX0_addOfTwo_X3_ofTwo
set_option maxRecDepth 20000 in
theorem ggX0_addOfTwo_X0_add : GoodIn wsX0_addOfTwo wsX0_add := goodIn_r _ [16, 1, 9, 2, 17, 18, 19, 20, 21, 22, 23] (by decide +kernel) (by decide +kernel)
set_option maxRecDepth 20000 in
theorem gX0_addOfTwo_X0_add : GoodIn wsX0_addOfTwo (wsV RX0 39 RX0 yX0_add wsX0_add) := goodIn_app (goodIn_of _ (by decide +kernel)) ggX0_addOfTwo_X0_add
theorem dX0_addOfTwo_0 : decode cX0_addOfTwo 0 = .ok (.aload_n 0, 1) := by decide +kernel
theorem dX0_addOfTwo_1 : decode cX0_addOfTwo 1 = .ok (.iconst 2, 1) := by decide +kernel
theorem dX0_addOfTwo_2 : decode cX0_addOfTwo 2 = .ok (.invokevirtual 31, 3) := by decide +kernel
theorem dX0_addOfTwo_5 : decode cX0_addOfTwo 5 = .ok (.ifCond .eq 51, 3) := by decide +kernel
theorem dX0_addOfTwo_8 : decode cX0_addOfTwo 8 = .ok (.aload_n 0, 1) := by decide +kernel
theorem dX0_addOfTwo_9 : decode cX0_addOfTwo 9 = .ok (.dup, 1) := by decide +kernel
theorem dX0_addOfTwo_10 : decode cX0_addOfTwo 10 = .ok (.getfield 21, 3) := by decide +kernel
theorem dX0_addOfTwo_13 : decode cX0_addOfTwo 13 = .ok (.iconst 1, 1) := by decide +kernel
theorem dX0_addOfTwo_14 : decode cX0_addOfTwo 14 = .ok (.isub, 1) := by decide +kernel
theorem dX0_addOfTwo_15 : decode cX0_addOfTwo 15 = .ok (.putfield 21, 3) := by decide +kernel
theorem dX0_addOfTwo_18 : decode cX0_addOfTwo 18 = .ok (.aload_n 0, 1) := by decide +kernel
theorem dX0_addOfTwo_19 : decode cX0_addOfTwo 19 = .ok (.getfield 15, 3) := by decide +kernel
theorem dX0_addOfTwo_22 : decode cX0_addOfTwo 22 = .ok (.aload_n 0, 1) := by decide +kernel
theorem dX0_addOfTwo_23 : decode cX0_addOfTwo 23 = .ok (.getfield 21, 3) := by decide +kernel
theorem dX0_addOfTwo_26 : decode cX0_addOfTwo 26 = .ok (.iconst 1, 1) := by decide +kernel
theorem dX0_addOfTwo_27 : decode cX0_addOfTwo 27 = .ok (.isub, 1) := by decide +kernel
theorem dX0_addOfTwo_28 : decode cX0_addOfTwo 28 = .ok (.iload_n 1, 1) := by decide +kernel
theorem dX0_addOfTwo_29 : decode cX0_addOfTwo 29 = .ok (.aload_n 0, 1) := by decide +kernel
theorem dX0_addOfTwo_30 : decode cX0_addOfTwo 30 = .ok (.getfield 15, 3) := by decide +kernel
theorem dX0_addOfTwo_33 : decode cX0_addOfTwo 33 = .ok (.aload_n 0, 1) := by decide +kernel
theorem dX0_addOfTwo_34 : decode cX0_addOfTwo 34 = .ok (.getfield 21, 3) := by decide +kernel
theorem dX0_addOfTwo_37 : decode cX0_addOfTwo 37 = .ok (.iconst 1, 1) := by decide +kernel
theorem dX0_addOfTwo_38 : decode cX0_addOfTwo 38 = .ok (.isub, 1) := by decide +kernel
theorem dX0_addOfTwo_39 : decode cX0_addOfTwo 39 = .ok (.iaload, 1) := by decide +kernel
theorem dX0_addOfTwo_40 : decode cX0_addOfTwo 40 = .ok (.aload_n 0, 1) := by decide +kernel
theorem dX0_addOfTwo_41 : decode cX0_addOfTwo 41 = .ok (.getfield 15, 3) := by decide +kernel
theorem dX0_addOfTwo_44 : decode cX0_addOfTwo 44 = .ok (.aload_n 0, 1) := by decide +kernel
theorem dX0_addOfTwo_45 : decode cX0_addOfTwo 45 = .ok (.getfield 21, 3) := by decide +kernel
theorem dX0_addOfTwo_48 : decode cX0_addOfTwo 48 = .ok (.iaload, 1) := by decide +kernel
theorem dX0_addOfTwo_49 : decode cX0_addOfTwo 49 = .ok (.invokestatic 43, 3) := by decide +kernel
theorem dX0_addOfTwo_52 : decode cX0_addOfTwo 52 = .ok (.iastore, 1) := by decide +kernel
theorem dX0_addOfTwo_53 : decode cX0_addOfTwo 53 = .ok (.goto 20, 3) := by decide +kernel
theorem dX0_addOfTwo_56 : decode cX0_addOfTwo 56 = .ok (.aload_n 0, 1) := by decide +kernel
theorem dX0_addOfTwo_57 : decode cX0_addOfTwo 57 = .ok (.iload_n 1, 1) := by decide +kernel
theorem dX0_addOfTwo_58 : decode cX0_addOfTwo 58 = .ok (.iconst 0, 1) := by decide +kernel
theorem dX0_addOfTwo_59 : decode cX0_addOfTwo 59 = .ok (.iconst 0, 1) := by decide +kernel
theorem dX0_addOfTwo_60 : decode cX0_addOfTwo 60 = .ok (.invokevirtual 39, 3) := by decide +kernel
theorem dX0_addOfTwo_63 : decode cX0_addOfTwo 63 = .ok (.aload_n 0, 1) := by decide +kernel
theorem dX0_addOfTwo_64 : decode cX0_addOfTwo 64 = .ok (.dup, 1) := by decide +kernel
theorem dX0_addOfTwo_65 : decode cX0_addOfTwo 65 = .ok (.getfield 28, 3) := by decide +kernel
theorem dX0_addOfTwo_68 : decode cX0_addOfTwo 68 = .ok (.iconst 1, 1) := by decide +kernel
theorem dX0_addOfTwo_69 : decode cX0_addOfTwo 69 = .ok (.iadd, 1) := by decide +kernel
theorem dX0_addOfTwo_70 : decode cX0_addOfTwo 70 = .ok (.putfield 28, 3) := by decide +kernel
theorem dX0_addOfTwo_73 : decode cX0_addOfTwo 73 = .ok (.return_, 1) := by decide +kernel
theorem dX0_endsInNumbers_0 : decode cX0_endsInNumbers 0 = .ok (.aload_n 0, 1) := by decide +kernel
theorem dX0_endsInNumbers_1 : decode cX0_endsInNumbers 1 = .ok (.getfield 21, 3) := by decide +kernel
theorem dX0_endsInNumbers_4 : decode cX0_endsInNumbers 4 = .ok (.iload_n 1, 1) := by decide +kernel
theorem dX0_endsInNumbers_5 : decode cX0_endsInNumbers 5 = .ok (.if_icmp .ge 5, 3) := by decide +kernel
theorem dX0_endsInNumbers_8 : decode cX0_endsInNumbers 8 = .ok (.iconst 0, 1) := by decide +kernel
theorem dX0_endsInNumbers_9 : decode cX0_endsInNumbers 9 = .ok (.ireturn, 1) := by decide +kernel
theorem dX0_endsInNumbers_10 : decode cX0_endsInNumbers 10 = .ok (.iconst 1, 1) := by decide +kernel
theorem dX0_endsInNumbers_11 : decode cX0_endsInNumbers 11 = .ok (.istore_n 2, 1) := by decide +kernel
theorem dX0_endsInNumbers_12 : decode cX0_endsInNumbers 12 = .ok (.iload_n 2, 1) := by decide +kernel
theorem dX0_endsInNumbers_13 : decode cX0_endsInNumbers 13 = .ok (.iload_n 1, 1) := by decide +kernel
theorem dX0_endsInNumbers_14 : decode cX0_endsInNumbers 14 = .ok (.if_icmp .gt 26, 3) := by decide +kernel
theorem dX0_endsInNumbers_17 : decode cX0_endsInNumbers 17 = .ok (.aload_n 0, 1) := by decide +kernel
theorem dX0_endsInNumbers_18 : decode cX0_endsInNumbers 18 = .ok (.getfield 9, 3) := by decide +kernel
theorem dX0_endsInNumbers_21 : decode cX0_endsInNumbers 21 = .ok (.aload_n 0, 1) := by decide +kernel
theorem dX0_endsInNumbers_22 : decode cX0_endsInNumbers 22 = .ok (.getfield 21, 3) := by decide +kernel
theorem dX0_endsInNumbers_25 : decode cX0_endsInNumbers 25 = .ok (.iload_n 2, 1) := by decide +kernel
theorem dX0_endsInNumbers_26 : decode cX0_endsInNumbers 26 = .ok (.isub, 1) := by decide +kernel
theorem dX0_endsInNumbers_27 : decode cX0_endsInNumbers 27 = .ok (.iaload, 1) := by decide +kernel
theorem dX0_endsInNumbers_28 : decode cX0_endsInNumbers 28 = .ok (.iconst 1, 1) := by decide +kernel
theorem dX0_endsInNumbers_29 : decode cX0_endsInNumbers 29 = .ok (.if_icmp .eq 5, 3) := by decide +kernel
theorem dX0_endsInNumbers_32 : decode cX0_endsInNumbers 32 = .ok (.iconst 0, 1) := by decide +kernel
theorem dX0_endsInNumbers_33 : decode cX0_endsInNumbers 33 = .ok (.ireturn, 1) := by decide +kernel
theorem dX0_endsInNumbers_34 : decode cX0_endsInNumbers 34 = .ok (.iinc 2 1, 3) := by decide +kernel
theorem dX0_endsInNumbers_37 : decode cX0_endsInNumbers 37 = .ok (.goto (-25), 3) := by decide +kernel
theorem dX0_endsInNumbers_40 : decode cX0_endsInNumbers 40 = .ok (.iconst 1, 1) := by decide +kernel
theorem dX0_endsInNumbers_41 : decode cX0_endsInNumbers 41 = .ok (.ireturn, 1) := by decide +kernel
theorem dX0_setFirst_0 : decode cX0_setFirst 0 = .ok (.iload_n 1, 1) := by decide +kernel
theorem dX0_setFirst_1 : decode cX0_setFirst 1 = .ok (.ifCond .lt 18, 3) := by decide +kernel
theorem dX0_setFirst_4 : decode cX0_setFirst 4 = .ok (.iload_n 1, 1) := by decide +kernel
theorem dX0_setFirst_5 : decode cX0_setFirst 5 = .ok (.aload_n 0, 1) := by decide +kernel
theorem dX0_setFirst_6 : decode cX0_setFirst 6 = .ok (.getfield 21, 3) := by decide +kernel
theorem dX0_setFirst_9 : decode cX0_setFirst 9 = .ok (.if_icmp .ge 10, 3) := by decide +kernel
theorem dX0_setFirst_12 : decode cX0_setFirst 12 = .ok (.aload_n 0, 1) := by decide +kernel
theorem dX0_setFirst_13 : decode cX0_setFirst 13 = .ok (.getfield 15, 3) := by decide +kernel
theorem dX0_setFirst_16 : decode cX0_setFirst 16 = .ok (.iload_n 1, 1) := by decide +kernel
theorem dX0_setFirst_17 : decode cX0_setFirst 17 = .ok (.iload_n 2, 1) := by decide +kernel
theorem dX0_setFirst_18 : decode cX0_setFirst 18 = .ok (.iastore, 1) := by decide +kernel
theorem dX0_setFirst_19 : decode cX0_setFirst 19 = .ok (.return_, 1) := by decide +kernel
theorem dX1_init_0 : decode cX1_init 0 = .ok (.aload_n 0, 1) := by decide +kernel
theorem dX1_init_1 : decode cX1_init 1 = .ok (.invokespecial 3, 3) := by decide +kernel
theorem dX1_init_4 : decode cX1_init 4 = .ok (.aload_n 0, 1) := by decide +kernel
theorem dX1_init_5 : decode cX1_init 5 = .ok (.sipush 192, 3) := by decide +kernel
theorem dX1_init_8 : decode cX1_init 8 = .ok (.newarray .int, 2) := by decide +kernel
theorem dX1_init_10 : decode cX1_init 10 = .ok (.putfield 9, 3) := by decide +kernel
theorem dX1_init_13 : decode cX1_init 13 = .ok (.aload_n 0, 1) := by decide +kernel
theorem dX1_init_14 : decode cX1_init 14 = .ok (.sipush 192, 3) := by decide +kernel
theorem dX1_init_17 : decode cX1_init 17 = .ok (.newarray .int, 2) := by decide +kernel
theorem dX1_init_19 : decode cX1_init 19 = .ok (.putfield 15, 3) := by decide +kernel
theorem dX1_init_22 : decode cX1_init 22 = .ok (.aload_n 0, 1) := by decide +kernel
theorem dX1_init_23 : decode cX1_init 23 = .ok (.bipush 26, 2) := by decide +kernel
theorem dX1_init_25 : decode cX1_init 25 = .ok (.newarray .int, 2) := by decide +kernel
theorem dX1_init_27 : decode cX1_init 27 = .ok (.putfield 18, 3) := by decide +kernel
theorem dX1_init_30 : decode cX1_init 30 = .ok (.aload_n 0, 1) := by decide +kernel
theorem dX1_init_31 : decode cX1_init 31 = .ok (.bipush 26, 2) := by decide +kernel
theorem dX1_init_33 : decode cX1_init 33 = .ok (.newarray .int, 2) := by decide +kernel
theorem dX1_init_35 : decode cX1_init 35 = .ok (.putfield 21, 3) := by decide +kernel
theorem dX1_init_38 : decode cX1_init 38 = .ok (.aload_n 0, 1) := by decide +kernel
theorem dX1_init_39 : decode cX1_init 39 = .ok (.bipush 16, 2) := by decide +kernel
theorem dX1_init_41 : decode cX1_init 41 = .ok (.newarray .int, 2) := by decide +kernel
theorem dX1_init_43 : decode cX1_init 43 = .ok (.putfield 24, 3) := by decide +kernel
theorem dX1_init_46 : decode cX1_init 46 = .ok (.return_, 1) := by decide +kernel
set_option maxRecDepth 20000 in
theorem ggX1_carriesOut_J7_fill_53178 : GoodIn wsX1_carriesOut wsJ7_fill_53178 := goodIn_r _ [16] (by decide +kernel) (by decide +kernel)
set_option maxRecDepth 20000 in
theorem gX1_carriesOut_J7_fill_53178 : GoodIn wsX1_carriesOut (va_wsS RX1 33 yJ7_fill_53178 wsJ7_fill_53178) := goodIn_app (goodIn_of _ (by decide +kernel)) ggX1_carriesOut_J7_fill_53178
set_option maxRecDepth 20000 in
theorem ggX1_carriesOut_X1_behind : GoodIn wsX1_carriesOut wsX1_behind := goodIn_r _ [21, 9, 22, 23, 24, 20, 25, 8, 26, 27, 28, 29, 30, 7, 31, 32, 33, 34, 35, 36, 37, 38, 10, 1, 39, 40, 41, 42, 43, 44, 45, 46, 47, 48, 49, 50, 51, 52, 53, 54, 55, 56, 57, 66, 67, 68, 69, 70, 71, 58, 59, 60, 61, 62, 63, 64, 65] (by decide +kernel) (by decide +kernel)
set_option maxRecDepth 20000 in
theorem gX1_carriesOut_X1_behind : GoodIn wsX1_carriesOut (wsV RX1 56 RX1 yX1_behind wsX1_behind) := goodIn_app (goodIn_of _ (by decide +kernel)) ggX1_carriesOut_X1_behind
theorem dX1_carriesOut_0 : decode cX1_carriesOut 0 = .ok (.aload_n 0, 1) := by decide +kernel
theorem dX1_carriesOut_1 : decode cX1_carriesOut 1 = .ok (.getfield 9, 3) := by decide +kernel
theorem dX1_carriesOut_4 : decode cX1_carriesOut 4 = .ok (.iconst 0, 1) := by decide +kernel
theorem dX1_carriesOut_5 : decode cX1_carriesOut 5 = .ok (.aload_n 0, 1) := by decide +kernel
theorem dX1_carriesOut_6 : decode cX1_carriesOut 6 = .ok (.getfield 15, 3) := by decide +kernel
theorem dX1_carriesOut_9 : decode cX1_carriesOut 9 = .ok (.iconst 0, 1) := by decide +kernel
theorem dX1_carriesOut_10 : decode cX1_carriesOut 10 = .ok (.sipush 192, 3) := by decide +kernel
theorem dX1_carriesOut_13 : decode cX1_carriesOut 13 = .ok (.invokestatic 27, 3) := by decide +kernel
theorem dX1_carriesOut_16 : decode cX1_carriesOut 16 = .ok (.aload_n 0, 1) := by decide +kernel
theorem dX1_carriesOut_17 : decode cX1_carriesOut 17 = .ok (.getfield 21, 3) := by decide +kernel
theorem dX1_carriesOut_20 : decode cX1_carriesOut 20 = .ok (.iconst 0, 1) := by decide +kernel
theorem dX1_carriesOut_21 : decode cX1_carriesOut 21 = .ok (.invokestatic 33, 3) := by decide +kernel
theorem dX1_carriesOut_24 : decode cX1_carriesOut 24 = .ok (.aload_n 0, 1) := by decide +kernel
theorem dX1_carriesOut_25 : decode cX1_carriesOut 25 = .ok (.iconst 0, 1) := by decide +kernel
theorem dX1_carriesOut_26 : decode cX1_carriesOut 26 = .ok (.putfield 39, 3) := by decide +kernel
theorem dX1_carriesOut_29 : decode cX1_carriesOut 29 = .ok (.aload_n 0, 1) := by decide +kernel
theorem dX1_carriesOut_30 : decode cX1_carriesOut 30 = .ok (.iconst 0, 1) := by decide +kernel
theorem dX1_carriesOut_31 : decode cX1_carriesOut 31 = .ok (.putfield 43, 3) := by decide +kernel
theorem dX1_carriesOut_34 : decode cX1_carriesOut 34 = .ok (.aload_n 0, 1) := by decide +kernel
theorem dX1_carriesOut_35 : decode cX1_carriesOut 35 = .ok (.iconst 0, 1) := by decide +kernel
theorem dX1_carriesOut_36 : decode cX1_carriesOut 36 = .ok (.putfield 46, 3) := by decide +kernel
theorem dX1_carriesOut_39 : decode cX1_carriesOut 39 = .ok (.iconst 0, 1) := by decide +kernel
theorem dX1_carriesOut_40 : decode cX1_carriesOut 40 = .ok (.istore_n 2, 1) := by decide +kernel
theorem dX1_carriesOut_41 : decode cX1_carriesOut 41 = .ok (.iconst 0, 1) := by decide +kernel
theorem dX1_carriesOut_42 : decode cX1_carriesOut 42 = .ok (.istore_n 3, 1) := by decide +kernel
theorem dX1_carriesOut_43 : decode cX1_carriesOut 43 = .ok (.iload_n 3, 1) := by decide +kernel
theorem dX1_carriesOut_44 : decode cX1_carriesOut 44 = .ok (.ldc 50, 2) := by decide +kernel
theorem dX1_carriesOut_46 : decode cX1_carriesOut 46 = .ok (.if_icmp .ge 31, 3) := by decide +kernel
theorem dX1_carriesOut_49 : decode cX1_carriesOut 49 = .ok (.iload_n 2, 1) := by decide +kernel
theorem dX1_carriesOut_50 : decode cX1_carriesOut 50 = .ok (.aload_n 1, 1) := by decide +kernel
theorem dX1_carriesOut_51 : decode cX1_carriesOut 51 = .ok (.getfield 51, 3) := by decide +kernel
theorem dX1_carriesOut_54 : decode cX1_carriesOut 54 = .ok (.if_icmp .ge 23, 3) := by decide +kernel
theorem dX1_carriesOut_57 : decode cX1_carriesOut 57 = .ok (.aload_n 0, 1) := by decide +kernel
theorem dX1_carriesOut_58 : decode cX1_carriesOut 58 = .ok (.getfield 46, 3) := by decide +kernel
theorem dX1_carriesOut_61 : decode cX1_carriesOut 61 = .ok (.ifCond .ne 16, 3) := by decide +kernel
theorem dX1_carriesOut_64 : decode cX1_carriesOut 64 = .ok (.aload_n 0, 1) := by decide +kernel
theorem dX1_carriesOut_65 : decode cX1_carriesOut 65 = .ok (.aload_n 1, 1) := by decide +kernel
theorem dX1_carriesOut_66 : decode cX1_carriesOut 66 = .ok (.iload_n 2, 1) := by decide +kernel
theorem dX1_carriesOut_67 : decode cX1_carriesOut 67 = .ok (.invokevirtual 56, 3) := by decide +kernel
theorem dX1_carriesOut_70 : decode cX1_carriesOut 70 = .ok (.istore_n 2, 1) := by decide +kernel
theorem dX1_carriesOut_71 : decode cX1_carriesOut 71 = .ok (.iinc 3 1, 3) := by decide +kernel
theorem dX1_carriesOut_74 : decode cX1_carriesOut 74 = .ok (.goto (-31), 3) := by decide +kernel
theorem dX1_carriesOut_77 : decode cX1_carriesOut 77 = .ok (.aload_n 0, 1) := by decide +kernel
theorem dX1_carriesOut_78 : decode cX1_carriesOut 78 = .ok (.getfield 46, 3) := by decide +kernel
theorem dX1_carriesOut_81 : decode cX1_carriesOut 81 = .ok (.ifCond .eq 22, 3) := by decide +kernel
theorem dX1_carriesOut_84 : decode cX1_carriesOut 84 = .ok (.aload_n 0, 1) := by decide +kernel
theorem dX1_carriesOut_85 : decode cX1_carriesOut 85 = .ok (.getfield 15, 3) := by decide +kernel
theorem dX1_carriesOut_88 : decode cX1_carriesOut 88 = .ok (.iconst 0, 1) := by decide +kernel
theorem dX1_carriesOut_89 : decode cX1_carriesOut 89 = .ok (.aload_n 0, 1) := by decide +kernel
theorem dX1_carriesOut_90 : decode cX1_carriesOut 90 = .ok (.getfield 9, 3) := by decide +kernel
theorem dX1_carriesOut_93 : decode cX1_carriesOut 93 = .ok (.iconst 0, 1) := by decide +kernel
theorem dX1_carriesOut_94 : decode cX1_carriesOut 94 = .ok (.sipush 192, 3) := by decide +kernel
theorem dX1_carriesOut_97 : decode cX1_carriesOut 97 = .ok (.invokestatic 27, 3) := by decide +kernel
theorem dX1_carriesOut_100 : decode cX1_carriesOut 100 = .ok (.goto 18, 3) := by decide +kernel
theorem dX1_carriesOut_103 : decode cX1_carriesOut 103 = .ok (.aload_n 0, 1) := by decide +kernel
theorem dX1_carriesOut_104 : decode cX1_carriesOut 104 = .ok (.getfield 21, 3) := by decide +kernel
theorem dX1_carriesOut_107 : decode cX1_carriesOut 107 = .ok (.iconst 0, 1) := by decide +kernel
theorem dX1_carriesOut_108 : decode cX1_carriesOut 108 = .ok (.aload_n 0, 1) := by decide +kernel
theorem dX1_carriesOut_109 : decode cX1_carriesOut 109 = .ok (.getfield 18, 3) := by decide +kernel
theorem dX1_carriesOut_112 : decode cX1_carriesOut 112 = .ok (.iconst 0, 1) := by decide +kernel
theorem dX1_carriesOut_113 : decode cX1_carriesOut 113 = .ok (.bipush 26, 2) := by decide +kernel
theorem dX1_carriesOut_115 : decode cX1_carriesOut 115 = .ok (.invokestatic 27, 3) := by decide +kernel
theorem dX1_carriesOut_118 : decode cX1_carriesOut 118 = .ok (.aload_n 0, 1) := by decide +kernel
theorem dX1_carriesOut_119 : decode cX1_carriesOut 119 = .ok (.getfield 46, 3) := by decide +kernel
theorem dX1_carriesOut_122 : decode cX1_carriesOut 122 = .ok (.ifCond .ne 7, 3) := by decide +kernel
theorem dX1_carriesOut_125 : decode cX1_carriesOut 125 = .ok (.iconst 1, 1) := by decide +kernel
theorem dX1_carriesOut_126 : decode cX1_carriesOut 126 = .ok (.goto 4, 3) := by decide +kernel
theorem dX1_carriesOut_129 : decode cX1_carriesOut 129 = .ok (.iconst 0, 1) := by decide +kernel
theorem dX1_carriesOut_130 : decode cX1_carriesOut 130 = .ok (.ireturn, 1) := by decide +kernel
set_option maxRecDepth 20000 in
theorem ggX1_behind_X1_push : GoodIn wsX1_behind wsX1_push := goodIn_r _ [6, 7, 8, 49, 50, 51, 52, 53, 54, 55, 56] (by decide +kernel) (by decide +kernel)
set_option maxRecDepth 20000 in
theorem gX1_behind_X1_push : GoodIn wsX1_behind (wsV RX1 66 RX1 yX1_push wsX1_push) := goodIn_app (goodIn_of _ (by decide +kernel)) ggX1_behind_X1_push
set_option maxRecDepth 20000 in
theorem ggX1_behind_X1_named : GoodIn wsX1_behind wsX1_named := goodIn_r _ [12, 13, 49, 50, 51, 52, 53, 54, 55, 56] (by decide +kernel) (by decide +kernel)
set_option maxRecDepth 20000 in
theorem gX1_behind_X1_named : GoodIn wsX1_behind (wsV RX1 70 RX1 yX1_named wsX1_named) := goodIn_app (goodIn_of _ (by decide +kernel)) ggX1_behind_X1_named
set_option maxRecDepth 20000 in
theorem ggX1_behind_X1_pop : GoodIn wsX1_behind wsX1_pop := goodIn_r _ [17, 7, 8, 49, 50, 51, 52, 53, 54, 55, 56] (by decide +kernel) (by decide +kernel)
set_option maxRecDepth 20000 in
theorem gX1_behind_X1_pop : GoodIn wsX1_behind (wsV RX1 74 RX1 yX1_pop wsX1_pop) := goodIn_app (goodIn_of _ (by decide +kernel)) ggX1_behind_X1_pop
set_option maxRecDepth 20000 in
theorem ggX1_behind_X1_loaded : GoodIn wsX1_behind wsX1_loaded := goodIn_r _ [21, 22, 23, 24, 25, 26, 49, 50, 51, 52, 53, 54, 55, 56] (by decide +kernel) (by decide +kernel)
set_option maxRecDepth 20000 in
theorem gX1_behind_X1_loaded : GoodIn wsX1_behind (wsV RX1 78 RX1 yX1_loaded wsX1_loaded) := goodIn_app (goodIn_of _ (by decide +kernel)) ggX1_behind_X1_loaded
set_option maxRecDepth 20000 in
theorem ggX1_behind_X1_name : GoodIn wsX1_behind wsX1_name := goodIn_r _ [30, 13, 49, 50, 51, 52, 53, 54, 55, 56] (by decide +kernel) (by decide +kernel)
set_option maxRecDepth 20000 in
theorem gX1_behind_X1_name : GoodIn wsX1_behind (wsV RX1 81 RX1 yX1_name wsX1_name) := goodIn_app (goodIn_of _ (by decide +kernel)) ggX1_behind_X1_name
set_option maxRecDepth 20000 in
theorem ggX1_behind_X1_store : GoodIn wsX1_behind wsX1_store := goodIn_r _ [34, 23, 22, 24, 25, 26, 49, 50, 51, 52, 53, 54, 55, 56] (by decide +kernel) (by decide +kernel)
set_option maxRecDepth 20000 in
theorem gX1_behind_X1_store : GoodIn wsX1_behind (wsV RX1 85 RX1 yX1_store wsX1_store) := goodIn_app (goodIn_of _ (by decide +kernel)) ggX1_behind_X1_store
set_option maxRecDepth 20000 in
theorem ggX1_behind_X1_turnsAgain : GoodIn wsX1_behind wsX1_turnsAgain := goodIn_r _ [38, 9, 10, 11, 5, 12, 13, 27, 28, 29, 30, 43, 44, 45, 46, 47, 48, 49, 50, 51, 52, 53, 54, 55, 56] (by decide +kernel) (by decide +kernel)
set_option maxRecDepth 20000 in
theorem gX1_behind_X1_turnsAgain : GoodIn wsX1_behind (wsV RX1 88 RX1 yX1_turnsAgain wsX1_turnsAgain) := goodIn_app (goodIn_of _ (by decide +kernel)) ggX1_behind_X1_turnsAgain
set_option maxRecDepth 20000 in
theorem ggX1_behind_X3_ofOne : GoodIn wsX1_behind wsX3_ofOne := goodIn_r _ [40] (by decide +kernel) (by decide +kernel)
set_option maxRecDepth 20000 in
theorem gX1_behind_X3_ofOne_n92 : GoodIn wsX1_behind (wsX3_ofOne) := ggX1_behind_X3_ofOne
set_option maxRecDepth 20000 in
theorem ggX1_behind_X3_ofTwo : GoodIn wsX1_behind wsX3_ofTwo := goodIn_r _ [42] (by decide +kernel) (by decide +kernel)
set_option maxRecDepth 20000 in
theorem gX1_behind_X3_ofTwo_n96 : GoodIn wsX1_behind (wsX3_ofTwo) := ggX1_behind_X3_ofTwo
theorem dX1_behind_0 : decode cX1_behind 0 = .ok (.iload_n 2, 1) := by decide +kernel
theorem dX1_behind_1 : decode cX1_behind 1 = .ok (.ifCond .lt 11, 3) := by decide +kernel
theorem dX1_behind_4 : decode cX1_behind 4 = .ok (.iload_n 2, 1) := by decide +kernel
theorem dX1_behind_5 : decode cX1_behind 5 = .ok (.aload_n 1, 1) := by decide +kernel
theorem dX1_behind_6 : decode cX1_behind 6 = .ok (.getfield 51, 3) := by decide +kernel
theorem dX1_behind_9 : decode cX1_behind 9 = .ok (.if_icmp .lt 8, 3) := by decide +kernel
theorem dX1_behind_12 : decode cX1_behind 12 = .ok (.aload_n 1, 1) := by decide +kernel
theorem dX1_behind_13 : decode cX1_behind 13 = .ok (.getfield 51, 3) := by decide +kernel
theorem dX1_behind_16 : decode cX1_behind 16 = .ok (.ireturn, 1) := by decide +kernel
theorem dX1_behind_17 : decode cX1_behind 17 = .ok (.aload_n 1, 1) := by decide +kernel
theorem dX1_behind_18 : decode cX1_behind 18 = .ok (.getfield 60, 3) := by decide +kernel
theorem dX1_behind_21 : decode cX1_behind 21 = .ok (.iload_n 2, 1) := by decide +kernel
theorem dX1_behind_22 : decode cX1_behind 22 = .ok (.iaload, 1) := by decide +kernel
theorem dX1_behind_23 : decode cX1_behind 23 = .ok (.istore_n 3, 1) := by decide +kernel
theorem dX1_behind_24 : decode cX1_behind 24 = .ok (.aload_n 1, 1) := by decide +kernel
theorem dX1_behind_25 : decode cX1_behind 25 = .ok (.getfield 63, 3) := by decide +kernel
theorem dX1_behind_28 : decode cX1_behind 28 = .ok (.iload_n 2, 1) := by decide +kernel
theorem dX1_behind_29 : decode cX1_behind 29 = .ok (.iaload, 1) := by decide +kernel
theorem dX1_behind_30 : decode cX1_behind 30 = .ok (.lookupswitch 248 #[(1, 98), (2, 106), (3, 118), (4, 133), (5, 155), (6, 184), (7, 193), (8, 212), (60, 227), (62, 227), (126, 227)], 98) := by decide +kernel
theorem dX1_behind_128 : decode cX1_behind 128 = .ok (.aload_n 0, 1) := by decide +kernel
theorem dX1_behind_129 : decode cX1_behind 129 = .ok (.iload_n 3, 1) := by decide +kernel
theorem dX1_behind_130 : decode cX1_behind 130 = .ok (.invokevirtual 66, 3) := by decide +kernel
theorem dX1_behind_133 : decode cX1_behind 133 = .ok (.goto 170, 3) := by decide +kernel
theorem dX1_behind_136 : decode cX1_behind 136 = .ok (.aload_n 0, 1) := by decide +kernel
theorem dX1_behind_137 : decode cX1_behind 137 = .ok (.aload_n 0, 1) := by decide +kernel
theorem dX1_behind_138 : decode cX1_behind 138 = .ok (.iload_n 3, 1) := by decide +kernel
theorem dX1_behind_139 : decode cX1_behind 139 = .ok (.invokevirtual 70, 3) := by decide +kernel
theorem dX1_behind_142 : decode cX1_behind 142 = .ok (.invokevirtual 66, 3) := by decide +kernel
theorem dX1_behind_145 : decode cX1_behind 145 = .ok (.goto 158, 3) := by decide +kernel
theorem dX1_behind_148 : decode cX1_behind 148 = .ok (.aload_n 0, 1) := by decide +kernel
theorem dX1_behind_149 : decode cX1_behind 149 = .ok (.aload_n 0, 1) := by decide +kernel
theorem dX1_behind_150 : decode cX1_behind 150 = .ok (.aload_n 0, 1) := by decide +kernel
theorem dX1_behind_151 : decode cX1_behind 151 = .ok (.invokevirtual 74, 3) := by decide +kernel
theorem dX1_behind_154 : decode cX1_behind 154 = .ok (.invokevirtual 78, 3) := by decide +kernel
theorem dX1_behind_157 : decode cX1_behind 157 = .ok (.invokevirtual 66, 3) := by decide +kernel
theorem dX1_behind_160 : decode cX1_behind 160 = .ok (.goto 143, 3) := by decide +kernel
theorem dX1_behind_163 : decode cX1_behind 163 = .ok (.aload_n 0, 1) := by decide +kernel
theorem dX1_behind_164 : decode cX1_behind 164 = .ok (.iload_n 3, 1) := by decide +kernel
theorem dX1_behind_165 : decode cX1_behind 165 = .ok (.aload_n 0, 1) := by decide +kernel
theorem dX1_behind_166 : decode cX1_behind 166 = .ok (.invokevirtual 74, 3) := by decide +kernel
theorem dX1_behind_169 : decode cX1_behind 169 = .ok (.invokevirtual 81, 3) := by decide +kernel
theorem dX1_behind_172 : decode cX1_behind 172 = .ok (.aload_n 0, 1) := by decide +kernel
theorem dX1_behind_173 : decode cX1_behind 173 = .ok (.dup, 1) := by decide +kernel
theorem dX1_behind_174 : decode cX1_behind 174 = .ok (.getfield 43, 3) := by decide +kernel
theorem dX1_behind_177 : decode cX1_behind 177 = .ok (.iconst 1, 1) := by decide +kernel
theorem dX1_behind_178 : decode cX1_behind 178 = .ok (.iadd, 1) := by decide +kernel
theorem dX1_behind_179 : decode cX1_behind 179 = .ok (.putfield 43, 3) := by decide +kernel
theorem dX1_behind_182 : decode cX1_behind 182 = .ok (.goto 121, 3) := by decide +kernel
theorem dX1_behind_185 : decode cX1_behind 185 = .ok (.aload_n 0, 1) := by decide +kernel
theorem dX1_behind_186 : decode cX1_behind 186 = .ok (.invokevirtual 74, 3) := by decide +kernel
theorem dX1_behind_189 : decode cX1_behind 189 = .ok (.istore 4, 2) := by decide +kernel
theorem dX1_behind_191 : decode cX1_behind 191 = .ok (.aload_n 0, 1) := by decide +kernel
theorem dX1_behind_192 : decode cX1_behind 192 = .ok (.aload_n 0, 1) := by decide +kernel
theorem dX1_behind_193 : decode cX1_behind 193 = .ok (.invokevirtual 74, 3) := by decide +kernel
theorem dX1_behind_196 : decode cX1_behind 196 = .ok (.iload 4, 2) := by decide +kernel
theorem dX1_behind_198 : decode cX1_behind 198 = .ok (.invokevirtual 85, 3) := by decide +kernel
theorem dX1_behind_201 : decode cX1_behind 201 = .ok (.aload_n 0, 1) := by decide +kernel
theorem dX1_behind_202 : decode cX1_behind 202 = .ok (.dup, 1) := by decide +kernel
theorem dX1_behind_203 : decode cX1_behind 203 = .ok (.getfield 43, 3) := by decide +kernel
theorem dX1_behind_206 : decode cX1_behind 206 = .ok (.iconst 1, 1) := by decide +kernel
theorem dX1_behind_207 : decode cX1_behind 207 = .ok (.iadd, 1) := by decide +kernel
theorem dX1_behind_208 : decode cX1_behind 208 = .ok (.putfield 43, 3) := by decide +kernel
theorem dX1_behind_211 : decode cX1_behind 211 = .ok (.goto 92, 3) := by decide +kernel
theorem dX1_behind_214 : decode cX1_behind 214 = .ok (.aload_n 0, 1) := by decide +kernel
theorem dX1_behind_215 : decode cX1_behind 215 = .ok (.iload_n 3, 1) := by decide +kernel
theorem dX1_behind_216 : decode cX1_behind 216 = .ok (.iconst 0, 1) := by decide +kernel
theorem dX1_behind_217 : decode cX1_behind 217 = .ok (.invokevirtual 81, 3) := by decide +kernel
theorem dX1_behind_220 : decode cX1_behind 220 = .ok (.goto 83, 3) := by decide +kernel
theorem dX1_behind_223 : decode cX1_behind 223 = .ok (.aload_n 0, 1) := by decide +kernel
theorem dX1_behind_224 : decode cX1_behind 224 = .ok (.aload_n 1, 1) := by decide +kernel
theorem dX1_behind_225 : decode cX1_behind 225 = .ok (.iload_n 3, 1) := by decide +kernel
theorem dX1_behind_226 : decode cX1_behind 226 = .ok (.invokevirtual 88, 3) := by decide +kernel
theorem dX1_behind_229 : decode cX1_behind 229 = .ok (.ifCond .eq 9, 3) := by decide +kernel
theorem dX1_behind_232 : decode cX1_behind 232 = .ok (.iload_n 3, 1) := by decide +kernel
theorem dX1_behind_233 : decode cX1_behind 233 = .ok (.iconst 1, 1) := by decide +kernel
theorem dX1_behind_234 : decode cX1_behind 234 = .ok (.iadd, 1) := by decide +kernel
theorem dX1_behind_235 : decode cX1_behind 235 = .ok (.goto 6, 3) := by decide +kernel
theorem dX1_behind_238 : decode cX1_behind 238 = .ok (.iload_n 2, 1) := by decide +kernel
theorem dX1_behind_239 : decode cX1_behind 239 = .ok (.iconst 1, 1) := by decide +kernel
theorem dX1_behind_240 : decode cX1_behind 240 = .ok (.iadd, 1) := by decide +kernel
theorem dX1_behind_241 : decode cX1_behind 241 = .ok (.ireturn, 1) := by decide +kernel
theorem dX1_behind_242 : decode cX1_behind 242 = .ok (.aload_n 0, 1) := by decide +kernel
theorem dX1_behind_243 : decode cX1_behind 243 = .ok (.invokevirtual 74, 3) := by decide +kernel
theorem dX1_behind_246 : decode cX1_behind 246 = .ok (.ifCond .ne 7, 3) := by decide +kernel
theorem dX1_behind_249 : decode cX1_behind 249 = .ok (.iload_n 3, 1) := by decide +kernel
theorem dX1_behind_250 : decode cX1_behind 250 = .ok (.goto 6, 3) := by decide +kernel
theorem dX1_behind_253 : decode cX1_behind 253 = .ok (.iload_n 2, 1) := by decide +kernel
theorem dX1_behind_254 : decode cX1_behind 254 = .ok (.iconst 1, 1) := by decide +kernel
theorem dX1_behind_255 : decode cX1_behind 255 = .ok (.iadd, 1) := by decide +kernel
theorem dX1_behind_256 : decode cX1_behind 256 = .ok (.ireturn, 1) := by decide +kernel
theorem dX1_behind_257 : decode cX1_behind 257 = .ok (.aload_n 0, 1) := by decide +kernel
theorem dX1_behind_258 : decode cX1_behind 258 = .ok (.aload_n 1, 1) := by decide +kernel
theorem dX1_behind_259 : decode cX1_behind 259 = .ok (.getfield 63, 3) := by decide +kernel
theorem dX1_behind_262 : decode cX1_behind 262 = .ok (.iload_n 2, 1) := by decide +kernel
theorem dX1_behind_263 : decode cX1_behind 263 = .ok (.iaload, 1) := by decide +kernel
theorem dX1_behind_264 : decode cX1_behind 264 = .ok (.aload_n 0, 1) := by decide +kernel
theorem dX1_behind_265 : decode cX1_behind 265 = .ok (.invokevirtual 74, 3) := by decide +kernel
theorem dX1_behind_268 : decode cX1_behind 268 = .ok (.iload_n 3, 1) := by decide +kernel
theorem dX1_behind_269 : decode cX1_behind 269 = .ok (.invokestatic 92, 3) := by decide +kernel
theorem dX1_behind_272 : decode cX1_behind 272 = .ok (.invokevirtual 66, 3) := by decide +kernel
theorem dX1_behind_275 : decode cX1_behind 275 = .ok (.goto 28, 3) := by decide +kernel
theorem dX1_behind_278 : decode cX1_behind 278 = .ok (.aload_n 0, 1) := by decide +kernel
theorem dX1_behind_279 : decode cX1_behind 279 = .ok (.invokevirtual 74, 3) := by decide +kernel
theorem dX1_behind_282 : decode cX1_behind 282 = .ok (.istore 5, 2) := by decide +kernel
theorem dX1_behind_284 : decode cX1_behind 284 = .ok (.aload_n 0, 1) := by decide +kernel
theorem dX1_behind_285 : decode cX1_behind 285 = .ok (.aload_n 1, 1) := by decide +kernel
theorem dX1_behind_286 : decode cX1_behind 286 = .ok (.getfield 63, 3) := by decide +kernel
theorem dX1_behind_289 : decode cX1_behind 289 = .ok (.iload_n 2, 1) := by decide +kernel
theorem dX1_behind_290 : decode cX1_behind 290 = .ok (.iaload, 1) := by decide +kernel
theorem dX1_behind_291 : decode cX1_behind 291 = .ok (.aload_n 0, 1) := by decide +kernel
theorem dX1_behind_292 : decode cX1_behind 292 = .ok (.invokevirtual 74, 3) := by decide +kernel
theorem dX1_behind_295 : decode cX1_behind 295 = .ok (.iload 5, 2) := by decide +kernel
theorem dX1_behind_297 : decode cX1_behind 297 = .ok (.invokestatic 96, 3) := by decide +kernel
theorem dX1_behind_300 : decode cX1_behind 300 = .ok (.invokevirtual 66, 3) := by decide +kernel
theorem dX1_behind_303 : decode cX1_behind 303 = .ok (.iload_n 2, 1) := by decide +kernel
theorem dX1_behind_304 : decode cX1_behind 304 = .ok (.iconst 1, 1) := by decide +kernel
theorem dX1_behind_305 : decode cX1_behind 305 = .ok (.iadd, 1) := by decide +kernel
theorem dX1_behind_306 : decode cX1_behind 306 = .ok (.ireturn, 1) := by decide +kernel
set_option maxRecDepth 20000 in
theorem ggX1_turnsAgain_X1_named : GoodIn wsX1_turnsAgain wsX1_named := goodIn_r _ [5, 6, 17, 18, 19, 20, 21, 22, 23, 24] (by decide +kernel) (by decide +kernel)
set_option maxRecDepth 20000 in
theorem gX1_turnsAgain_X1_named : GoodIn wsX1_turnsAgain (wsV RX1 70 RX1 yX1_named wsX1_named) := goodIn_app (goodIn_of _ (by decide +kernel)) ggX1_turnsAgain_X1_named
set_option maxRecDepth 20000 in
theorem ggX1_turnsAgain_X1_name : GoodIn wsX1_turnsAgain wsX1_name := goodIn_r _ [10, 6, 17, 18, 19, 20, 21, 22, 23, 24] (by decide +kernel) (by decide +kernel)
set_option maxRecDepth 20000 in
theorem gX1_turnsAgain_X1_name : GoodIn wsX1_turnsAgain (wsV RX1 81 RX1 yX1_name wsX1_name) := goodIn_app (goodIn_of _ (by decide +kernel)) ggX1_turnsAgain_X1_name
theorem dX1_turnsAgain_0 : decode cX1_turnsAgain 0 = .ok (.iload_n 2, 1) := by decide +kernel
theorem dX1_turnsAgain_1 : decode cX1_turnsAgain 1 = .ok (.ifCond .lt 11, 3) := by decide +kernel
theorem dX1_turnsAgain_4 : decode cX1_turnsAgain 4 = .ok (.iload_n 2, 1) := by decide +kernel
theorem dX1_turnsAgain_5 : decode cX1_turnsAgain 5 = .ok (.aload_n 1, 1) := by decide +kernel
theorem dX1_turnsAgain_6 : decode cX1_turnsAgain 6 = .ok (.getfield 51, 3) := by decide +kernel
theorem dX1_turnsAgain_9 : decode cX1_turnsAgain 9 = .ok (.if_icmp .lt 5, 3) := by decide +kernel
theorem dX1_turnsAgain_12 : decode cX1_turnsAgain 12 = .ok (.iconst 0, 1) := by decide +kernel
theorem dX1_turnsAgain_13 : decode cX1_turnsAgain 13 = .ok (.ireturn, 1) := by decide +kernel
theorem dX1_turnsAgain_14 : decode cX1_turnsAgain 14 = .ok (.aload_n 1, 1) := by decide +kernel
theorem dX1_turnsAgain_15 : decode cX1_turnsAgain 15 = .ok (.getfield 60, 3) := by decide +kernel
theorem dX1_turnsAgain_18 : decode cX1_turnsAgain 18 = .ok (.iload_n 2, 1) := by decide +kernel
theorem dX1_turnsAgain_19 : decode cX1_turnsAgain 19 = .ok (.iaload, 1) := by decide +kernel
theorem dX1_turnsAgain_20 : decode cX1_turnsAgain 20 = .ok (.istore_n 3, 1) := by decide +kernel
theorem dX1_turnsAgain_21 : decode cX1_turnsAgain 21 = .ok (.aload_n 0, 1) := by decide +kernel
theorem dX1_turnsAgain_22 : decode cX1_turnsAgain 22 = .ok (.iload_n 3, 1) := by decide +kernel
theorem dX1_turnsAgain_23 : decode cX1_turnsAgain 23 = .ok (.invokevirtual 70, 3) := by decide +kernel
theorem dX1_turnsAgain_26 : decode cX1_turnsAgain 26 = .ok (.iconst 1, 1) := by decide +kernel
theorem dX1_turnsAgain_27 : decode cX1_turnsAgain 27 = .ok (.iadd, 1) := by decide +kernel
theorem dX1_turnsAgain_28 : decode cX1_turnsAgain 28 = .ok (.istore 4, 2) := by decide +kernel
theorem dX1_turnsAgain_30 : decode cX1_turnsAgain 30 = .ok (.iload 4, 2) := by decide +kernel
theorem dX1_turnsAgain_32 : decode cX1_turnsAgain 32 = .ok (.aload_n 1, 1) := by decide +kernel
theorem dX1_turnsAgain_33 : decode cX1_turnsAgain 33 = .ok (.getfield 99, 3) := by decide +kernel
theorem dX1_turnsAgain_36 : decode cX1_turnsAgain 36 = .ok (.iload_n 2, 1) := by decide +kernel
theorem dX1_turnsAgain_37 : decode cX1_turnsAgain 37 = .ok (.iaload, 1) := by decide +kernel
theorem dX1_turnsAgain_38 : decode cX1_turnsAgain 38 = .ok (.if_icmp .lt 5, 3) := by decide +kernel
theorem dX1_turnsAgain_41 : decode cX1_turnsAgain 41 = .ok (.iconst 0, 1) := by decide +kernel
theorem dX1_turnsAgain_42 : decode cX1_turnsAgain 42 = .ok (.ireturn, 1) := by decide +kernel
theorem dX1_turnsAgain_43 : decode cX1_turnsAgain 43 = .ok (.aload_n 0, 1) := by decide +kernel
theorem dX1_turnsAgain_44 : decode cX1_turnsAgain 44 = .ok (.iload_n 3, 1) := by decide +kernel
theorem dX1_turnsAgain_45 : decode cX1_turnsAgain 45 = .ok (.iload 4, 2) := by decide +kernel
theorem dX1_turnsAgain_47 : decode cX1_turnsAgain 47 = .ok (.invokevirtual 81, 3) := by decide +kernel
theorem dX1_turnsAgain_50 : decode cX1_turnsAgain 50 = .ok (.iconst 1, 1) := by decide +kernel
theorem dX1_turnsAgain_51 : decode cX1_turnsAgain 51 = .ok (.ireturn, 1) := by decide +kernel
set_option maxRecDepth 20000 in
theorem ggX1_loaded_X3_isAddress : GoodIn wsX1_loaded wsX3_isAddress := goodIn_r _ [5] (by decide +kernel) (by decide +kernel)
set_option maxRecDepth 20000 in
theorem gX1_loaded_X3_isAddress_n102 : GoodIn wsX1_loaded (wsX3_isAddress) := ggX1_loaded_X3_isAddress
theorem dX1_loaded_0 : decode cX1_loaded 0 = .ok (.iload_n 1, 1) := by decide +kernel
theorem dX1_loaded_1 : decode cX1_loaded 1 = .ok (.invokestatic 102, 3) := by decide +kernel
theorem dX1_loaded_4 : decode cX1_loaded 4 = .ok (.ifCond .ne 10, 3) := by decide +kernel
theorem dX1_loaded_7 : decode cX1_loaded 7 = .ok (.aload_n 0, 1) := by decide +kernel
theorem dX1_loaded_8 : decode cX1_loaded 8 = .ok (.iconst 1, 1) := by decide +kernel
theorem dX1_loaded_9 : decode cX1_loaded 9 = .ok (.putfield 46, 3) := by decide +kernel
theorem dX1_loaded_12 : decode cX1_loaded 12 = .ok (.iconst 0, 1) := by decide +kernel
theorem dX1_loaded_13 : decode cX1_loaded 13 = .ok (.ireturn, 1) := by decide +kernel
theorem dX1_loaded_14 : decode cX1_loaded 14 = .ok (.aload_n 0, 1) := by decide +kernel
theorem dX1_loaded_15 : decode cX1_loaded 15 = .ok (.getfield 9, 3) := by decide +kernel
theorem dX1_loaded_18 : decode cX1_loaded 18 = .ok (.iload_n 1, 1) := by decide +kernel
theorem dX1_loaded_19 : decode cX1_loaded 19 = .ok (.iaload, 1) := by decide +kernel
theorem dX1_loaded_20 : decode cX1_loaded 20 = .ok (.ireturn, 1) := by decide +kernel
set_option maxRecDepth 20000 in
theorem ggX1_store_X3_isAddress : GoodIn wsX1_store wsX3_isAddress := goodIn_r _ [5] (by decide +kernel) (by decide +kernel)
set_option maxRecDepth 20000 in
theorem gX1_store_X3_isAddress_n102 : GoodIn wsX1_store (wsX3_isAddress) := ggX1_store_X3_isAddress
theorem dX1_store_0 : decode cX1_store 0 = .ok (.iload_n 1, 1) := by decide +kernel
theorem dX1_store_1 : decode cX1_store 1 = .ok (.invokestatic 102, 3) := by decide +kernel
theorem dX1_store_4 : decode cX1_store 4 = .ok (.ifCond .eq 13, 3) := by decide +kernel
theorem dX1_store_7 : decode cX1_store 7 = .ok (.aload_n 0, 1) := by decide +kernel
theorem dX1_store_8 : decode cX1_store 8 = .ok (.getfield 9, 3) := by decide +kernel
theorem dX1_store_11 : decode cX1_store 11 = .ok (.iload_n 1, 1) := by decide +kernel
theorem dX1_store_12 : decode cX1_store 12 = .ok (.iload_n 2, 1) := by decide +kernel
theorem dX1_store_13 : decode cX1_store 13 = .ok (.iastore, 1) := by decide +kernel
theorem dX1_store_14 : decode cX1_store 14 = .ok (.goto 8, 3) := by decide +kernel
theorem dX1_store_17 : decode cX1_store 17 = .ok (.aload_n 0, 1) := by decide +kernel
theorem dX1_store_18 : decode cX1_store 18 = .ok (.iconst 1, 1) := by decide +kernel
theorem dX1_store_19 : decode cX1_store 19 = .ok (.putfield 46, 3) := by decide +kernel
theorem dX1_store_22 : decode cX1_store 22 = .ok (.return_, 1) := by decide +kernel
theorem dX1_named_0 : decode cX1_named 0 = .ok (.iload_n 1, 1) := by decide +kernel
theorem dX1_named_1 : decode cX1_named 1 = .ok (.ifCond .lt 18, 3) := by decide +kernel
theorem dX1_named_4 : decode cX1_named 4 = .ok (.iload_n 1, 1) := by decide +kernel
theorem dX1_named_5 : decode cX1_named 5 = .ok (.bipush 26, 2) := by decide +kernel
theorem dX1_named_7 : decode cX1_named 7 = .ok (.if_icmp .ge 12, 3) := by decide +kernel
theorem dX1_named_10 : decode cX1_named 10 = .ok (.aload_n 0, 1) := by decide +kernel
theorem dX1_named_11 : decode cX1_named 11 = .ok (.getfield 21, 3) := by decide +kernel
theorem dX1_named_14 : decode cX1_named 14 = .ok (.iload_n 1, 1) := by decide +kernel
theorem dX1_named_15 : decode cX1_named 15 = .ok (.iaload, 1) := by decide +kernel
theorem dX1_named_16 : decode cX1_named 16 = .ok (.goto 4, 3) := by decide +kernel
theorem dX1_named_19 : decode cX1_named 19 = .ok (.iconst 0, 1) := by decide +kernel
theorem dX1_named_20 : decode cX1_named 20 = .ok (.ireturn, 1) := by decide +kernel
theorem dX1_name_0 : decode cX1_name 0 = .ok (.iload_n 1, 1) := by decide +kernel
theorem dX1_name_1 : decode cX1_name 1 = .ok (.ifCond .lt 16, 3) := by decide +kernel
theorem dX1_name_4 : decode cX1_name 4 = .ok (.iload_n 1, 1) := by decide +kernel
theorem dX1_name_5 : decode cX1_name 5 = .ok (.bipush 26, 2) := by decide +kernel
theorem dX1_name_7 : decode cX1_name 7 = .ok (.if_icmp .ge 10, 3) := by decide +kernel
end
section
theorem dX1_name_10 : decode cX1_name 10 = .ok (.aload_n 0, 1) := by decide +kernel
theorem dX1_name_11 : decode cX1_name 11 = .ok (.getfield 21, 3) := by decide +kernel
theorem dX1_name_14 : decode cX1_name 14 = .ok (.iload_n 1, 1) := by decide +kernel
theorem dX1_name_15 : decode cX1_name 15 = .ok (.iload_n 2, 1) := by decide +kernel
theorem dX1_name_16 : decode cX1_name 16 = .ok (.iastore, 1) := by decide +kernel
theorem dX1_name_17 : decode cX1_name 17 = .ok (.return_, 1) := by decide +kernel
theorem dX1_push_0 : decode cX1_push 0 = .ok (.aload_n 0, 1) := by decide +kernel
theorem dX1_push_1 : decode cX1_push 1 = .ok (.getfield 39, 3) := by decide +kernel
theorem dX1_push_4 : decode cX1_push 4 = .ok (.aload_n 0, 1) := by decide +kernel
theorem dX1_push_5 : decode cX1_push 5 = .ok (.getfield 24, 3) := by decide +kernel
theorem dX1_push_8 : decode cX1_push 8 = .ok (.arraylength, 1) := by decide +kernel
theorem dX1_push_9 : decode cX1_push 9 = .ok (.if_icmp .ge 23, 3) := by decide +kernel
theorem dX1_push_12 : decode cX1_push 12 = .ok (.aload_n 0, 1) := by decide +kernel
theorem dX1_push_13 : decode cX1_push 13 = .ok (.getfield 24, 3) := by decide +kernel
theorem dX1_push_16 : decode cX1_push 16 = .ok (.aload_n 0, 1) := by decide +kernel
theorem dX1_push_17 : decode cX1_push 17 = .ok (.getfield 39, 3) := by decide +kernel
theorem dX1_push_20 : decode cX1_push 20 = .ok (.iload_n 1, 1) := by decide +kernel
theorem dX1_push_21 : decode cX1_push 21 = .ok (.iastore, 1) := by decide +kernel
theorem dX1_push_22 : decode cX1_push 22 = .ok (.aload_n 0, 1) := by decide +kernel
theorem dX1_push_23 : decode cX1_push 23 = .ok (.dup, 1) := by decide +kernel
theorem dX1_push_24 : decode cX1_push 24 = .ok (.getfield 39, 3) := by decide +kernel
theorem dX1_push_27 : decode cX1_push 27 = .ok (.iconst 1, 1) := by decide +kernel
theorem dX1_push_28 : decode cX1_push 28 = .ok (.iadd, 1) := by decide +kernel
theorem dX1_push_29 : decode cX1_push 29 = .ok (.putfield 39, 3) := by decide +kernel
theorem dX1_push_32 : decode cX1_push 32 = .ok (.return_, 1) := by decide +kernel
theorem dX1_pop_0 : decode cX1_pop 0 = .ok (.aload_n 0, 1) := by decide +kernel
theorem dX1_pop_1 : decode cX1_pop 1 = .ok (.getfield 39, 3) := by decide +kernel
theorem dX1_pop_4 : decode cX1_pop 4 = .ok (.ifCond .gt 5, 3) := by decide +kernel
theorem dX1_pop_7 : decode cX1_pop 7 = .ok (.iconst 0, 1) := by decide +kernel
theorem dX1_pop_8 : decode cX1_pop 8 = .ok (.ireturn, 1) := by decide +kernel
theorem dX1_pop_9 : decode cX1_pop 9 = .ok (.aload_n 0, 1) := by decide +kernel
theorem dX1_pop_10 : decode cX1_pop 10 = .ok (.dup, 1) := by decide +kernel
theorem dX1_pop_11 : decode cX1_pop 11 = .ok (.getfield 39, 3) := by decide +kernel
theorem dX1_pop_14 : decode cX1_pop 14 = .ok (.iconst 1, 1) := by decide +kernel
theorem dX1_pop_15 : decode cX1_pop 15 = .ok (.isub, 1) := by decide +kernel
theorem dX1_pop_16 : decode cX1_pop 16 = .ok (.putfield 39, 3) := by decide +kernel
theorem dX1_pop_19 : decode cX1_pop 19 = .ok (.aload_n 0, 1) := by decide +kernel
theorem dX1_pop_20 : decode cX1_pop 20 = .ok (.getfield 24, 3) := by decide +kernel
theorem dX1_pop_23 : decode cX1_pop 23 = .ok (.aload_n 0, 1) := by decide +kernel
theorem dX1_pop_24 : decode cX1_pop 24 = .ok (.getfield 39, 3) := by decide +kernel
theorem dX1_pop_27 : decode cX1_pop 27 = .ok (.iaload, 1) := by decide +kernel
theorem dX1_pop_28 : decode cX1_pop 28 = .ok (.ireturn, 1) := by decide +kernel
set_option maxRecDepth 20000 in
theorem ggX2_init_X0_init : GoodIn wsX2_init wsX0_init := goodIn_r _ [11, 12, 2, 3, 13, 14, 15, 16, 25, 26, 27, 28, 29, 30] (by decide +kernel) (by decide +kernel)
set_option maxRecDepth 20000 in
theorem gX2_init_X0_init_n17 : GoodIn wsX2_init (wsX0_init) := ggX2_init_X0_init
theorem dX2_init_0 : decode cX2_init 0 = .ok (.aload_n 0, 1) := by decide +kernel
theorem dX2_init_1 : decode cX2_init 1 = .ok (.invokespecial 3, 3) := by decide +kernel
theorem dX2_init_4 : decode cX2_init 4 = .ok (.aload_n 0, 1) := by decide +kernel
theorem dX2_init_5 : decode cX2_init 5 = .ok (.sipush 480, 3) := by decide +kernel
theorem dX2_init_8 : decode cX2_init 8 = .ok (.newarray .char, 2) := by decide +kernel
theorem dX2_init_10 : decode cX2_init 10 = .ok (.putfield 9, 3) := by decide +kernel
theorem dX2_init_13 : decode cX2_init 13 = .ok (.aload_n 0, 1) := by decide +kernel
theorem dX2_init_14 : decode cX2_init 14 = .ok (.new 15, 3) := by decide +kernel
theorem dX2_init_17 : decode cX2_init 17 = .ok (.dup, 1) := by decide +kernel
theorem dX2_init_18 : decode cX2_init 18 = .ok (.invokespecial 17, 3) := by decide +kernel
theorem dX2_init_21 : decode cX2_init 21 = .ok (.putfield 18, 3) := by decide +kernel
theorem dX2_init_24 : decode cX2_init 24 = .ok (.return_, 1) := by decide +kernel
theorem dX2_append_0 : decode cX2_append 0 = .ok (.aload_n 0, 1) := by decide +kernel
theorem dX2_append_1 : decode cX2_append 1 = .ok (.getfield 22, 3) := by decide +kernel
theorem dX2_append_4 : decode cX2_append 4 = .ok (.aload_n 0, 1) := by decide +kernel
theorem dX2_append_5 : decode cX2_append 5 = .ok (.getfield 9, 3) := by decide +kernel
theorem dX2_append_8 : decode cX2_append 8 = .ok (.arraylength, 1) := by decide +kernel
theorem dX2_append_9 : decode cX2_append 9 = .ok (.if_icmp .ge 24, 3) := by decide +kernel
theorem dX2_append_12 : decode cX2_append 12 = .ok (.aload_n 0, 1) := by decide +kernel
theorem dX2_append_13 : decode cX2_append 13 = .ok (.getfield 9, 3) := by decide +kernel
theorem dX2_append_16 : decode cX2_append 16 = .ok (.aload_n 0, 1) := by decide +kernel
theorem dX2_append_17 : decode cX2_append 17 = .ok (.getfield 22, 3) := by decide +kernel
theorem dX2_append_20 : decode cX2_append 20 = .ok (.iload_n 1, 1) := by decide +kernel
theorem dX2_append_21 : decode cX2_append 21 = .ok (.i2c, 1) := by decide +kernel
theorem dX2_append_22 : decode cX2_append 22 = .ok (.castore, 1) := by decide +kernel
theorem dX2_append_23 : decode cX2_append 23 = .ok (.aload_n 0, 1) := by decide +kernel
theorem dX2_append_24 : decode cX2_append 24 = .ok (.dup, 1) := by decide +kernel
theorem dX2_append_25 : decode cX2_append 25 = .ok (.getfield 22, 3) := by decide +kernel
theorem dX2_append_28 : decode cX2_append 28 = .ok (.iconst 1, 1) := by decide +kernel
theorem dX2_append_29 : decode cX2_append 29 = .ok (.iadd, 1) := by decide +kernel
theorem dX2_append_30 : decode cX2_append 30 = .ok (.putfield 22, 3) := by decide +kernel
theorem dX2_append_33 : decode cX2_append 33 = .ok (.return_, 1) := by decide +kernel
theorem dX2_exchanged_0 : decode cX2_exchanged 0 = .ok (.aload_n 0, 1) := by decide +kernel
theorem dX2_exchanged_1 : decode cX2_exchanged 1 = .ok (.getfield 18, 3) := by decide +kernel
theorem dX2_exchanged_4 : decode cX2_exchanged 4 = .ok (.astore_n 2, 1) := by decide +kernel
theorem dX2_exchanged_5 : decode cX2_exchanged 5 = .ok (.aload_n 0, 1) := by decide +kernel
theorem dX2_exchanged_6 : decode cX2_exchanged 6 = .ok (.aload_n 1, 1) := by decide +kernel
theorem dX2_exchanged_7 : decode cX2_exchanged 7 = .ok (.putfield 18, 3) := by decide +kernel
theorem dX2_exchanged_10 : decode cX2_exchanged 10 = .ok (.aload_n 2, 1) := by decide +kernel
theorem dX2_exchanged_11 : decode cX2_exchanged 11 = .ok (.areturn, 1) := by decide +kernel
set_option maxRecDepth 20000 in
theorem ggX2_readText_X0_empty : GoodIn wsX2_readText wsX0_empty := goodIn_r _ [9, 10, 11, 12, 126, 127, 128, 129, 130, 131] (by decide +kernel) (by decide +kernel)
set_option maxRecDepth 20000 in
theorem gX2_readText_X0_empty_n26 : GoodIn wsX2_readText (wsX0_empty) := ggX2_readText_X0_empty
set_option maxRecDepth 20000 in
theorem ggX2_readText_X2_readProgram : GoodIn wsX2_readText wsX2_readProgram := goodIn_r _ [17, 1, 18, 19, 20, 16, 21, 2, 22, 23, 24, 25, 26, 27, 28, 29, 30, 31, 32, 33, 34, 35, 3, 13, 14, 15, 36, 37, 38, 39, 40, 41, 42, 43, 44, 45, 46, 47, 7, 48, 49, 10, 50, 12, 51, 52, 53, 54, 55, 56, 57, 58, 59, 60, 61, 62, 63, 64, 65, 66, 67, 68, 69, 70, 71, 72, 73, 74, 75, 76, 77, 78, 79, 80, 81, 82, 83, 84, 85, 86, 87, 88, 89, 90, 91, 92, 93, 94, 95, 96, 97, 98, 5, 4, 99, 100, 101, 102, 103, 104, 105, 106, 107, 108, 109, 110, 111, 112, 113, 114, 115, 116, 117, 118, 119, 120, 121, 122, 123, 124, 125, 126, 127, 128, 129, 130, 131] (by decide +kernel) (by decide +kernel)
set_option maxRecDepth 20000 in
theorem gX2_readText_X2_readProgram : GoodIn wsX2_readText (wsV RX2 41 RX2 yX2_readProgram wsX2_readProgram) := goodIn_app (goodIn_of _ (by decide +kernel)) ggX2_readText_X2_readProgram
set_option maxRecDepth 20000 in
theorem ggX2_readText_X2_expect : GoodIn wsX2_readText wsX2_expect := goodIn_r _ [31, 2, 18, 19, 20, 16, 21, 22, 23, 32, 33, 34, 35, 3, 118, 119, 120, 121, 122, 123, 124, 125] (by decide +kernel) (by decide +kernel)
set_option maxRecDepth 20000 in
theorem gX2_readText_X2_expect : GoodIn wsX2_readText (wsV RX2 45 RX2 yX2_expect wsX2_expect) := goodIn_app (goodIn_of _ (by decide +kernel)) ggX2_readText_X2_expect
theorem dX2_readText_0 : decode cX2_readText 0 = .ok (.aload_n 0, 1) := by decide +kernel
theorem dX2_readText_1 : decode cX2_readText 1 = .ok (.getfield 18, 3) := by decide +kernel
theorem dX2_readText_4 : decode cX2_readText 4 = .ok (.invokevirtual 26, 3) := by decide +kernel
theorem dX2_readText_7 : decode cX2_readText 7 = .ok (.aload_n 0, 1) := by decide +kernel
theorem dX2_readText_8 : decode cX2_readText 8 = .ok (.iconst 0, 1) := by decide +kernel
theorem dX2_readText_9 : decode cX2_readText 9 = .ok (.putfield 29, 3) := by decide +kernel
theorem dX2_readText_12 : decode cX2_readText 12 = .ok (.aload_n 0, 1) := by decide +kernel
theorem dX2_readText_13 : decode cX2_readText 13 = .ok (.iconst 0, 1) := by decide +kernel
theorem dX2_readText_14 : decode cX2_readText 14 = .ok (.putfield 32, 3) := by decide +kernel
theorem dX2_readText_17 : decode cX2_readText 17 = .ok (.aload_n 0, 1) := by decide +kernel
theorem dX2_readText_18 : decode cX2_readText 18 = .ok (.iconst 0, 1) := by decide +kernel
theorem dX2_readText_19 : decode cX2_readText 19 = .ok (.putfield 35, 3) := by decide +kernel
theorem dX2_readText_22 : decode cX2_readText 22 = .ok (.aload_n 0, 1) := by decide +kernel
theorem dX2_readText_23 : decode cX2_readText 23 = .ok (.iconst 1, 1) := by decide +kernel
theorem dX2_readText_24 : decode cX2_readText 24 = .ok (.putfield 38, 3) := by decide +kernel
theorem dX2_readText_27 : decode cX2_readText 27 = .ok (.aload_n 0, 1) := by decide +kernel
theorem dX2_readText_28 : decode cX2_readText 28 = .ok (.iconst 0, 1) := by decide +kernel
theorem dX2_readText_29 : decode cX2_readText 29 = .ok (.invokevirtual 41, 3) := by decide +kernel
theorem dX2_readText_32 : decode cX2_readText 32 = .ok (.ifCond .eq 15, 3) := by decide +kernel
theorem dX2_readText_35 : decode cX2_readText 35 = .ok (.aload_n 0, 1) := by decide +kernel
theorem dX2_readText_36 : decode cX2_readText 36 = .ok (.iconst 0, 1) := by decide +kernel
theorem dX2_readText_37 : decode cX2_readText 37 = .ok (.invokevirtual 45, 3) := by decide +kernel
theorem dX2_readText_40 : decode cX2_readText 40 = .ok (.ifCond .eq 7, 3) := by decide +kernel
theorem dX2_readText_43 : decode cX2_readText 43 = .ok (.iconst 1, 1) := by decide +kernel
theorem dX2_readText_44 : decode cX2_readText 44 = .ok (.goto 4, 3) := by decide +kernel
theorem dX2_readText_47 : decode cX2_readText 47 = .ok (.iconst 0, 1) := by decide +kernel
theorem dX2_readText_48 : decode cX2_readText 48 = .ok (.ireturn, 1) := by decide +kernel
theorem dX2_here_0 : decode cX2_here 0 = .ok (.aload_n 0, 1) := by decide +kernel
theorem dX2_here_1 : decode cX2_here 1 = .ok (.getfield 29, 3) := by decide +kernel
theorem dX2_here_4 : decode cX2_here 4 = .ok (.aload_n 0, 1) := by decide +kernel
theorem dX2_here_5 : decode cX2_here 5 = .ok (.getfield 22, 3) := by decide +kernel
theorem dX2_here_8 : decode cX2_here 8 = .ok (.if_icmp .ge 27, 3) := by decide +kernel
theorem dX2_here_11 : decode cX2_here 11 = .ok (.aload_n 0, 1) := by decide +kernel
theorem dX2_here_12 : decode cX2_here 12 = .ok (.getfield 29, 3) := by decide +kernel
theorem dX2_here_15 : decode cX2_here 15 = .ok (.aload_n 0, 1) := by decide +kernel
theorem dX2_here_16 : decode cX2_here 16 = .ok (.getfield 9, 3) := by decide +kernel
theorem dX2_here_19 : decode cX2_here 19 = .ok (.arraylength, 1) := by decide +kernel
theorem dX2_here_20 : decode cX2_here 20 = .ok (.if_icmp .ge 15, 3) := by decide +kernel
theorem dX2_here_23 : decode cX2_here 23 = .ok (.aload_n 0, 1) := by decide +kernel
theorem dX2_here_24 : decode cX2_here 24 = .ok (.getfield 9, 3) := by decide +kernel
theorem dX2_here_27 : decode cX2_here 27 = .ok (.aload_n 0, 1) := by decide +kernel
theorem dX2_here_28 : decode cX2_here 28 = .ok (.getfield 29, 3) := by decide +kernel
theorem dX2_here_31 : decode cX2_here 31 = .ok (.caload, 1) := by decide +kernel
theorem dX2_here_32 : decode cX2_here 32 = .ok (.goto 4, 3) := by decide +kernel
theorem dX2_here_35 : decode cX2_here 35 = .ok (.iconst 0, 1) := by decide +kernel
theorem dX2_here_36 : decode cX2_here 36 = .ok (.ireturn, 1) := by decide +kernel
theorem dX2_refuse_0 : decode cX2_refuse 0 = .ok (.aload_n 0, 1) := by decide +kernel
theorem dX2_refuse_1 : decode cX2_refuse 1 = .ok (.iload_n 1, 1) := by decide +kernel
theorem dX2_refuse_2 : decode cX2_refuse 2 = .ok (.iconst 1, 1) := by decide +kernel
theorem dX2_refuse_3 : decode cX2_refuse 3 = .ok (.iadd, 1) := by decide +kernel
theorem dX2_refuse_4 : decode cX2_refuse 4 = .ok (.putfield 32, 3) := by decide +kernel
theorem dX2_refuse_7 : decode cX2_refuse 7 = .ok (.iconst 0, 1) := by decide +kernel
theorem dX2_refuse_8 : decode cX2_refuse 8 = .ok (.ireturn, 1) := by decide +kernel
set_option maxRecDepth 20000 in
theorem ggX2_expect_X2_here : GoodIn wsX2_expect wsX2_here := goodIn_r _ [6, 1, 7, 8, 14, 15, 16, 17, 18, 19, 20, 21] (by decide +kernel) (by decide +kernel)
set_option maxRecDepth 20000 in
theorem gX2_expect_X2_here : GoodIn wsX2_expect (wsV RX2 48 RX2 yX2_here wsX2_here) := goodIn_app (goodIn_of _ (by decide +kernel)) ggX2_expect_X2_here
set_option maxRecDepth 20000 in
theorem ggX2_expect_X2_refuse : GoodIn wsX2_expect wsX2_refuse := goodIn_r _ [12, 13, 14, 15, 16, 17, 18, 19, 20, 21] (by decide +kernel) (by decide +kernel)
set_option maxRecDepth 20000 in
theorem gX2_expect_X2_refuse : GoodIn wsX2_expect (wsV RX2 52 RX2 yX2_refuse wsX2_refuse) := goodIn_app (goodIn_of _ (by decide +kernel)) ggX2_expect_X2_refuse
theorem dX2_expect_0 : decode cX2_expect 0 = .ok (.aload_n 0, 1) := by decide +kernel
theorem dX2_expect_1 : decode cX2_expect 1 = .ok (.invokevirtual 48, 3) := by decide +kernel
theorem dX2_expect_4 : decode cX2_expect 4 = .ok (.iload_n 1, 1) := by decide +kernel
theorem dX2_expect_5 : decode cX2_expect 5 = .ok (.if_icmp .eq 12, 3) := by decide +kernel
theorem dX2_expect_8 : decode cX2_expect 8 = .ok (.aload_n 0, 1) := by decide +kernel
theorem dX2_expect_9 : decode cX2_expect 9 = .ok (.aload_n 0, 1) := by decide +kernel
theorem dX2_expect_10 : decode cX2_expect 10 = .ok (.getfield 29, 3) := by decide +kernel
theorem dX2_expect_13 : decode cX2_expect 13 = .ok (.invokevirtual 52, 3) := by decide +kernel
theorem dX2_expect_16 : decode cX2_expect 16 = .ok (.ireturn, 1) := by decide +kernel
theorem dX2_expect_17 : decode cX2_expect 17 = .ok (.aload_n 0, 1) := by decide +kernel
theorem dX2_expect_18 : decode cX2_expect 18 = .ok (.dup, 1) := by decide +kernel
theorem dX2_expect_19 : decode cX2_expect 19 = .ok (.getfield 29, 3) := by decide +kernel
theorem dX2_expect_22 : decode cX2_expect 22 = .ok (.iconst 1, 1) := by decide +kernel
theorem dX2_expect_23 : decode cX2_expect 23 = .ok (.iadd, 1) := by decide +kernel
theorem dX2_expect_24 : decode cX2_expect 24 = .ok (.putfield 29, 3) := by decide +kernel
theorem dX2_expect_27 : decode cX2_expect 27 = .ok (.iconst 1, 1) := by decide +kernel
theorem dX2_expect_28 : decode cX2_expect 28 = .ok (.ireturn, 1) := by decide +kernel
set_option maxRecDepth 20000 in
theorem ggX2_readProgram_X2_here : GoodIn wsX2_readProgram wsX2_here := goodIn_r _ [6, 7, 8, 9, 113, 114, 115, 116, 117, 118, 119, 120] (by decide +kernel) (by decide +kernel)
set_option maxRecDepth 20000 in
theorem gX2_readProgram_X2_here : GoodIn wsX2_readProgram (wsV RX2 48 RX2 yX2_here wsX2_here) := goodIn_app (goodIn_of _ (by decide +kernel)) ggX2_readProgram_X2_here
set_option maxRecDepth 20000 in
theorem ggX2_readProgram_X2_readStatement : GoodIn wsX2_readProgram wsX2_readStatement := goodIn_r _ [98, 7, 2, 3, 4, 5, 6, 8, 9, 99, 100, 101, 102, 1, 14, 15, 16, 17, 18, 19, 20, 21, 22, 27, 28, 29, 30, 31, 32, 33, 34, 35, 36, 37, 38, 39, 40, 41, 42, 43, 44, 45, 46, 47, 48, 49, 50, 51, 52, 53, 54, 55, 56, 57, 58, 59, 60, 61, 62, 63, 64, 65, 66, 67, 68, 69, 70, 71, 72, 73, 74, 75, 76, 77, 78, 79, 80, 81, 82, 83, 103, 104, 105, 106, 107, 108, 109, 110, 111, 112, 94, 95, 96, 97, 93, 13, 23, 24, 25, 26, 84, 85, 86, 87, 88, 89, 90, 91, 92, 0, 10, 11, 12, 113, 114, 115, 116, 117, 118, 119, 120, 121, 122, 123, 124, 125, 126] (by decide +kernel) (by decide +kernel)
set_option maxRecDepth 20000 in
theorem gX2_readProgram_X2_readStatement : GoodIn wsX2_readProgram (wsV RX2 58 RX2 yX2_readStatement wsX2_readStatement) := goodIn_app (goodIn_of _ (by decide +kernel)) ggX2_readProgram_X2_readStatement
theorem dX2_readProgram_0 : decode cX2_readProgram 0 = .ok (.iconst 0, 1) := by decide +kernel
theorem dX2_readProgram_1 : decode cX2_readProgram 1 = .ok (.istore_n 2, 1) := by decide +kernel
theorem dX2_readProgram_2 : decode cX2_readProgram 2 = .ok (.iload_n 2, 1) := by decide +kernel
theorem dX2_readProgram_3 : decode cX2_readProgram 3 = .ok (.sipush 480, 3) := by decide +kernel
theorem dX2_readProgram_6 : decode cX2_readProgram 6 = .ok (.if_icmp .ge 48, 3) := by decide +kernel
theorem dX2_readProgram_9 : decode cX2_readProgram 9 = .ok (.aload_n 0, 1) := by decide +kernel
theorem dX2_readProgram_10 : decode cX2_readProgram 10 = .ok (.invokevirtual 48, 3) := by decide +kernel
theorem dX2_readProgram_13 : decode cX2_readProgram 13 = .ok (.ifCond .eq 41, 3) := by decide +kernel
theorem dX2_readProgram_16 : decode cX2_readProgram 16 = .ok (.aload_n 0, 1) := by decide +kernel
theorem dX2_readProgram_17 : decode cX2_readProgram 17 = .ok (.invokevirtual 48, 3) := by decide +kernel
theorem dX2_readProgram_20 : decode cX2_readProgram 20 = .ok (.bipush 125, 2) := by decide +kernel
theorem dX2_readProgram_22 : decode cX2_readProgram 22 = .ok (.if_icmp .eq 32, 3) := by decide +kernel
theorem dX2_readProgram_25 : decode cX2_readProgram 25 = .ok (.aload_n 0, 1) := by decide +kernel
theorem dX2_readProgram_26 : decode cX2_readProgram 26 = .ok (.getfield 18, 3) := by decide +kernel
theorem dX2_readProgram_29 : decode cX2_readProgram 29 = .ok (.dup, 1) := by decide +kernel
theorem dX2_readProgram_30 : decode cX2_readProgram 30 = .ok (.getfield 55, 3) := by decide +kernel
theorem dX2_readProgram_33 : decode cX2_readProgram 33 = .ok (.iconst 1, 1) := by decide +kernel
theorem dX2_readProgram_34 : decode cX2_readProgram 34 = .ok (.iadd, 1) := by decide +kernel
theorem dX2_readProgram_35 : decode cX2_readProgram 35 = .ok (.putfield 55, 3) := by decide +kernel
theorem dX2_readProgram_38 : decode cX2_readProgram 38 = .ok (.aload_n 0, 1) := by decide +kernel
theorem dX2_readProgram_39 : decode cX2_readProgram 39 = .ok (.iload_n 1, 1) := by decide +kernel
theorem dX2_readProgram_40 : decode cX2_readProgram 40 = .ok (.invokevirtual 58, 3) := by decide +kernel
theorem dX2_readProgram_43 : decode cX2_readProgram 43 = .ok (.ifCond .ne 5, 3) := by decide +kernel
theorem dX2_readProgram_46 : decode cX2_readProgram 46 = .ok (.iconst 0, 1) := by decide +kernel
theorem dX2_readProgram_47 : decode cX2_readProgram 47 = .ok (.ireturn, 1) := by decide +kernel
theorem dX2_readProgram_48 : decode cX2_readProgram 48 = .ok (.iinc 2 1, 3) := by decide +kernel
theorem dX2_readProgram_51 : decode cX2_readProgram 51 = .ok (.goto (-49), 3) := by decide +kernel
theorem dX2_readProgram_54 : decode cX2_readProgram 54 = .ok (.iconst 1, 1) := by decide +kernel
theorem dX2_readProgram_55 : decode cX2_readProgram 55 = .ok (.ireturn, 1) := by decide +kernel
set_option maxRecDepth 20000 in
theorem ggX2_readStatement_X2_here : GoodIn wsX2_readStatement wsX2_here := goodIn_r _ [6, 1, 7, 8, 113, 114, 115, 116, 117, 118, 119, 120] (by decide +kernel) (by decide +kernel)
set_option maxRecDepth 20000 in
theorem gX2_readStatement_X2_here : GoodIn wsX2_readStatement (wsV RX2 48 RX2 yX2_here wsX2_here) := goodIn_app (goodIn_of _ (by decide +kernel)) ggX2_readStatement_X2_here
set_option maxRecDepth 20000 in
theorem ggX2_readStatement_X2_readStore : GoodIn wsX2_readStatement wsX2_readStore := goodIn_r _ [12, 1, 13, 14, 15, 16, 5, 17, 2, 3, 4, 6, 7, 8, 18, 19, 20, 21, 22, 23, 24, 25, 26, 27, 28, 29, 30, 31, 32, 33, 34, 35, 36, 37, 38, 39, 40, 41, 42, 43, 44, 45, 46, 47, 48, 49, 50, 51, 52, 53, 54, 55, 56, 57, 58, 59, 60, 61, 62, 63, 64, 65, 66, 67, 68, 69, 70, 71, 72, 73, 74, 75, 76, 77, 78, 79, 113, 114, 115, 116, 117, 118, 119, 120, 121, 122, 123, 124, 125, 126] (by decide +kernel) (by decide +kernel)
set_option maxRecDepth 20000 in
theorem gX2_readStatement_X2_readStore : GoodIn wsX2_readStatement (wsV RX2 61 RX2 yX2_readStore wsX2_readStore) := goodIn_app (goodIn_of _ (by decide +kernel)) ggX2_readStatement_X2_readStore
set_option maxRecDepth 20000 in
theorem ggX2_readStatement_X2_readLoop : GoodIn wsX2_readStatement wsX2_readLoop := goodIn_r _ [106, 1, 107, 55, 108, 13, 94, 90, 91, 92, 5, 93, 2, 3, 4, 6, 7, 8, 56, 57, 58, 18, 19, 20, 21, 22, 62, 63, 64, 65, 66, 67, 68, 49, 34, 50, 51, 37, 44, 38, 52, 100, 101, 102, 95, 14, 15, 16, 17, 96, 97, 98, 99, 23, 24, 25, 26, 27, 28, 29, 30, 31, 32, 33, 35, 36, 39, 40, 41, 42, 43, 45, 46, 47, 48, 53, 54, 59, 60, 61, 69, 70, 71, 72, 73, 74, 75, 76, 77, 78, 79, 103, 104, 105, 109, 110, 111, 112, 0, 9, 10, 11, 12, 80, 81, 82, 83, 84, 85, 86, 87, 88, 89, 113, 114, 115, 116, 117, 118, 119, 120, 121, 122, 123, 124, 125, 126] (by decide +kernel) (by decide +kernel)
set_option maxRecDepth 20000 in
theorem gX2_readStatement_X2_readLoop : GoodIn wsX2_readStatement (wsV RX2 65 RX2 yX2_readLoop wsX2_readLoop) := goodIn_app (goodIn_of _ (by decide +kernel)) ggX2_readStatement_X2_readLoop
set_option maxRecDepth 20000 in
theorem ggX2_readStatement_X2_refuse : GoodIn wsX2_readStatement wsX2_refuse := goodIn_r _ [21, 22, 113, 114, 115, 116, 117, 118, 119, 120] (by decide +kernel) (by decide +kernel)
set_option maxRecDepth 20000 in
theorem gX2_readStatement_X2_refuse : GoodIn wsX2_readStatement (wsV RX2 52 RX2 yX2_refuse wsX2_refuse) := goodIn_app (goodIn_of _ (by decide +kernel)) ggX2_readStatement_X2_refuse
set_option maxRecDepth 20000 in
theorem ggX2_readStatement_X2_readBranch : GoodIn wsX2_readStatement wsX2_readBranch := goodIn_r _ [99, 1, 13, 23, 24, 25, 5, 26, 27, 28, 29, 2, 3, 4, 6, 7, 8, 30, 31, 32, 33, 34, 35, 36, 37, 38, 39, 40, 41, 42, 43, 44, 45, 46, 47, 48, 49, 50, 51, 52, 53, 54, 55, 56, 57, 58, 59, 60, 61, 18, 19, 20, 21, 22, 62, 63, 64, 65, 66, 67, 68, 69, 14, 15, 16, 17, 70, 71, 72, 73, 74, 75, 76, 77, 78, 79, 100, 101, 102, 103, 104, 105, 95, 96, 97, 98, 106, 107, 108, 94, 90, 91, 92, 93, 109, 110, 111, 112, 0, 9, 10, 11, 12, 80, 81, 82, 83, 84, 85, 86, 87, 88, 89, 113, 114, 115, 116, 117, 118, 119, 120, 121, 122, 123, 124, 125, 126] (by decide +kernel) (by decide +kernel)
set_option maxRecDepth 20000 in
theorem gX2_readStatement_X2_readBranch : GoodIn wsX2_readStatement (wsV RX2 68 RX2 yX2_readBranch wsX2_readBranch) := goodIn_app (goodIn_of _ (by decide +kernel)) ggX2_readStatement_X2_readBranch
set_option maxRecDepth 20000 in
theorem ggX2_readStatement_X2_readSet : GoodIn wsX2_readStatement wsX2_readSet := goodIn_r _ [89, 1, 13, 90, 91, 92, 5, 93, 94, 2, 3, 4, 6, 7, 8, 56, 57, 58, 18, 19, 20, 21, 22, 14, 15, 16, 17, 23, 24, 25, 26, 27, 28, 29, 30, 31, 32, 33, 34, 35, 36, 37, 38, 39, 40, 41, 42, 43, 44, 45, 46, 47, 48, 49, 50, 51, 52, 53, 54, 55, 59, 60, 61, 62, 63, 64, 65, 66, 67, 68, 69, 70, 71, 72, 73, 74, 75, 76, 77, 78, 79, 113, 114, 115, 116, 117, 118, 119, 120, 121, 122, 123, 124, 125, 126] (by decide +kernel) (by decide +kernel)
set_option maxRecDepth 20000 in
theorem gX2_readStatement_X2_readSet : GoodIn wsX2_readStatement (wsV RX2 71 RX2 yX2_readSet wsX2_readSet) := goodIn_app (goodIn_of _ (by decide +kernel)) ggX2_readStatement_X2_readSet
theorem dX2_readStatement_0 : decode cX2_readStatement 0 = .ok (.aload_n 0, 1) := by decide +kernel
theorem dX2_readStatement_1 : decode cX2_readStatement 1 = .ok (.invokevirtual 48, 3) := by decide +kernel
theorem dX2_readStatement_4 : decode cX2_readStatement 4 = .ok (.lookupswitch 87 #[(35, 41), (63, 64), (64, 36)], 36) := by decide +kernel
theorem dX2_readStatement_40 : decode cX2_readStatement 40 = .ok (.aload_n 0, 1) := by decide +kernel
theorem dX2_readStatement_41 : decode cX2_readStatement 41 = .ok (.invokevirtual 61, 3) := by decide +kernel
theorem dX2_readStatement_44 : decode cX2_readStatement 44 = .ok (.ireturn, 1) := by decide +kernel
theorem dX2_readStatement_45 : decode cX2_readStatement 45 = .ok (.iload_n 1, 1) := by decide +kernel
theorem dX2_readStatement_46 : decode cX2_readStatement 46 = .ok (.bipush 8, 2) := by decide +kernel
theorem dX2_readStatement_48 : decode cX2_readStatement 48 = .ok (.if_icmp .ge 11, 3) := by decide +kernel
theorem dX2_readStatement_51 : decode cX2_readStatement 51 = .ok (.aload_n 0, 1) := by decide +kernel
theorem dX2_readStatement_52 : decode cX2_readStatement 52 = .ok (.iload_n 1, 1) := by decide +kernel
theorem dX2_readStatement_53 : decode cX2_readStatement 53 = .ok (.invokevirtual 65, 3) := by decide +kernel
theorem dX2_readStatement_56 : decode cX2_readStatement 56 = .ok (.goto 11, 3) := by decide +kernel
theorem dX2_readStatement_59 : decode cX2_readStatement 59 = .ok (.aload_n 0, 1) := by decide +kernel
theorem dX2_readStatement_60 : decode cX2_readStatement 60 = .ok (.aload_n 0, 1) := by decide +kernel
theorem dX2_readStatement_61 : decode cX2_readStatement 61 = .ok (.getfield 29, 3) := by decide +kernel
theorem dX2_readStatement_64 : decode cX2_readStatement 64 = .ok (.invokevirtual 52, 3) := by decide +kernel
theorem dX2_readStatement_67 : decode cX2_readStatement 67 = .ok (.ireturn, 1) := by decide +kernel
theorem dX2_readStatement_68 : decode cX2_readStatement 68 = .ok (.iload_n 1, 1) := by decide +kernel
theorem dX2_readStatement_69 : decode cX2_readStatement 69 = .ok (.bipush 8, 2) := by decide +kernel
theorem dX2_readStatement_71 : decode cX2_readStatement 71 = .ok (.if_icmp .ge 11, 3) := by decide +kernel
theorem dX2_readStatement_74 : decode cX2_readStatement 74 = .ok (.aload_n 0, 1) := by decide +kernel
theorem dX2_readStatement_75 : decode cX2_readStatement 75 = .ok (.iload_n 1, 1) := by decide +kernel
theorem dX2_readStatement_76 : decode cX2_readStatement 76 = .ok (.invokevirtual 68, 3) := by decide +kernel
theorem dX2_readStatement_79 : decode cX2_readStatement 79 = .ok (.goto 11, 3) := by decide +kernel
theorem dX2_readStatement_82 : decode cX2_readStatement 82 = .ok (.aload_n 0, 1) := by decide +kernel
theorem dX2_readStatement_83 : decode cX2_readStatement 83 = .ok (.aload_n 0, 1) := by decide +kernel
theorem dX2_readStatement_84 : decode cX2_readStatement 84 = .ok (.getfield 29, 3) := by decide +kernel
theorem dX2_readStatement_87 : decode cX2_readStatement 87 = .ok (.invokevirtual 52, 3) := by decide +kernel
theorem dX2_readStatement_90 : decode cX2_readStatement 90 = .ok (.ireturn, 1) := by decide +kernel
theorem dX2_readStatement_91 : decode cX2_readStatement 91 = .ok (.aload_n 0, 1) := by decide +kernel
theorem dX2_readStatement_92 : decode cX2_readStatement 92 = .ok (.invokevirtual 71, 3) := by decide +kernel
theorem dX2_readStatement_95 : decode cX2_readStatement 95 = .ok (.ireturn, 1) := by decide +kernel
set_option maxRecDepth 20000 in
theorem ggX2_readSet_X2_freeName : GoodIn wsX2_readSet wsX2_freeName := goodIn_r _ [7, 8, 9, 10, 11, 6, 12, 1, 13, 14, 15, 16, 17, 81, 82, 83, 84, 85, 86, 87, 88] (by decide +kernel) (by decide +kernel)
set_option maxRecDepth 20000 in
theorem gX2_readSet_X2_freeName : GoodIn wsX2_readSet (wsV RX2 74 RX2 yX2_freeName wsX2_freeName) := goodIn_app (goodIn_of _ (by decide +kernel)) ggX2_readSet_X2_freeName
set_option maxRecDepth 20000 in
theorem ggX2_readSet_X2_refuse : GoodIn wsX2_readSet wsX2_refuse := goodIn_r _ [21, 22, 81, 82, 83, 84, 85, 86, 87, 88] (by decide +kernel) (by decide +kernel)
set_option maxRecDepth 20000 in
theorem gX2_readSet_X2_refuse : GoodIn wsX2_readSet (wsV RX2 52 RX2 yX2_refuse wsX2_refuse) := goodIn_app (goodIn_of _ (by decide +kernel)) ggX2_readSet_X2_refuse
set_option maxRecDepth 20000 in
theorem ggX2_readSet_X2_expect : GoodIn wsX2_readSet wsX2_expect := goodIn_r _ [26, 1, 9, 10, 11, 6, 12, 13, 14, 18, 19, 20, 21, 22, 81, 82, 83, 84, 85, 86, 87, 88] (by decide +kernel) (by decide +kernel)
set_option maxRecDepth 20000 in
theorem gX2_readSet_X2_expect : GoodIn wsX2_readSet (wsV RX2 45 RX2 yX2_expect wsX2_expect) := goodIn_app (goodIn_of _ (by decide +kernel)) ggX2_readSet_X2_expect
set_option maxRecDepth 20000 in
theorem ggX2_readSet_X2_readSum : GoodIn wsX2_readSet wsX2_readSum := goodIn_r _ [30, 1, 2, 31, 32, 33, 6, 9, 10, 11, 12, 13, 14, 34, 35, 36, 37, 38, 39, 40, 41, 42, 43, 44, 45, 46, 47, 48, 49, 50, 51, 52, 53, 54, 55, 56, 57, 58, 59, 15, 16, 17, 60, 61, 62, 18, 19, 20, 21, 22, 63, 64, 65, 66, 67, 68, 69, 70, 27, 28, 29, 23, 24, 25, 26, 71, 72, 73, 74, 75, 76, 77, 78, 79, 80, 81, 82, 83, 84, 85, 86, 87, 88, 89, 90, 91, 92, 93, 94] (by decide +kernel) (by decide +kernel)
set_option maxRecDepth 20000 in
theorem gX2_readSet_X2_readSum : GoodIn wsX2_readSet (wsV RX2 77 RX2 yX2_readSum wsX2_readSum) := goodIn_app (goodIn_of _ (by decide +kernel)) ggX2_readSet_X2_readSum
set_option maxRecDepth 20000 in
theorem ggX2_readSet_X0_add : GoodIn wsX2_readSet wsX0_add := goodIn_r _ [55, 41, 48, 42, 56, 89, 90, 91, 92, 93, 94] (by decide +kernel) (by decide +kernel)
set_option maxRecDepth 20000 in
theorem gX2_readSet_X0_add_n80 : GoodIn wsX2_readSet (wsX0_add) := ggX2_readSet_X0_add
theorem dX2_readSet_0 : decode cX2_readSet 0 = .ok (.aload_n 0, 1) := by decide +kernel
theorem dX2_readSet_1 : decode cX2_readSet 1 = .ok (.invokevirtual 74, 3) := by decide +kernel
theorem dX2_readSet_4 : decode cX2_readSet 4 = .ok (.istore_n 1, 1) := by decide +kernel
theorem dX2_readSet_5 : decode cX2_readSet 5 = .ok (.iload_n 1, 1) := by decide +kernel
theorem dX2_readSet_6 : decode cX2_readSet 6 = .ok (.ifCond .ge 12, 3) := by decide +kernel
theorem dX2_readSet_9 : decode cX2_readSet 9 = .ok (.aload_n 0, 1) := by decide +kernel
theorem dX2_readSet_10 : decode cX2_readSet 10 = .ok (.aload_n 0, 1) := by decide +kernel
theorem dX2_readSet_11 : decode cX2_readSet 11 = .ok (.getfield 29, 3) := by decide +kernel
theorem dX2_readSet_14 : decode cX2_readSet 14 = .ok (.invokevirtual 52, 3) := by decide +kernel
theorem dX2_readSet_17 : decode cX2_readSet 17 = .ok (.ireturn, 1) := by decide +kernel
theorem dX2_readSet_18 : decode cX2_readSet 18 = .ok (.aload_n 0, 1) := by decide +kernel
theorem dX2_readSet_19 : decode cX2_readSet 19 = .ok (.dup, 1) := by decide +kernel
theorem dX2_readSet_20 : decode cX2_readSet 20 = .ok (.getfield 29, 3) := by decide +kernel
theorem dX2_readSet_23 : decode cX2_readSet 23 = .ok (.iconst 1, 1) := by decide +kernel
theorem dX2_readSet_24 : decode cX2_readSet 24 = .ok (.iadd, 1) := by decide +kernel
theorem dX2_readSet_25 : decode cX2_readSet 25 = .ok (.putfield 29, 3) := by decide +kernel
theorem dX2_readSet_28 : decode cX2_readSet 28 = .ok (.aload_n 0, 1) := by decide +kernel
theorem dX2_readSet_29 : decode cX2_readSet 29 = .ok (.bipush 61, 2) := by decide +kernel
theorem dX2_readSet_31 : decode cX2_readSet 31 = .ok (.invokevirtual 45, 3) := by decide +kernel
theorem dX2_readSet_34 : decode cX2_readSet 34 = .ok (.ifCond .eq 20, 3) := by decide +kernel
theorem dX2_readSet_37 : decode cX2_readSet 37 = .ok (.aload_n 0, 1) := by decide +kernel
theorem dX2_readSet_38 : decode cX2_readSet 38 = .ok (.iconst 0, 1) := by decide +kernel
theorem dX2_readSet_39 : decode cX2_readSet 39 = .ok (.invokevirtual 77, 3) := by decide +kernel
theorem dX2_readSet_42 : decode cX2_readSet 42 = .ok (.ifCond .eq 12, 3) := by decide +kernel
theorem dX2_readSet_45 : decode cX2_readSet 45 = .ok (.aload_n 0, 1) := by decide +kernel
theorem dX2_readSet_46 : decode cX2_readSet 46 = .ok (.bipush 59, 2) := by decide +kernel
theorem dX2_readSet_48 : decode cX2_readSet 48 = .ok (.invokevirtual 45, 3) := by decide +kernel
theorem dX2_readSet_51 : decode cX2_readSet 51 = .ok (.ifCond .ne 5, 3) := by decide +kernel
theorem dX2_readSet_54 : decode cX2_readSet 54 = .ok (.iconst 0, 1) := by decide +kernel
theorem dX2_readSet_55 : decode cX2_readSet 55 = .ok (.ireturn, 1) := by decide +kernel
theorem dX2_readSet_56 : decode cX2_readSet 56 = .ok (.aload_n 0, 1) := by decide +kernel
theorem dX2_readSet_57 : decode cX2_readSet 57 = .ok (.getfield 18, 3) := by decide +kernel
theorem dX2_readSet_60 : decode cX2_readSet 60 = .ok (.iconst 4, 1) := by decide +kernel
theorem dX2_readSet_61 : decode cX2_readSet 61 = .ok (.iload_n 1, 1) := by decide +kernel
theorem dX2_readSet_62 : decode cX2_readSet 62 = .ok (.iconst 0, 1) := by decide +kernel
theorem dX2_readSet_63 : decode cX2_readSet 63 = .ok (.invokevirtual 80, 3) := by decide +kernel
theorem dX2_readSet_66 : decode cX2_readSet 66 = .ok (.iconst 1, 1) := by decide +kernel
theorem dX2_readSet_67 : decode cX2_readSet 67 = .ok (.ireturn, 1) := by decide +kernel
set_option maxRecDepth 20000 in
theorem ggX2_readStore_X2_expect : GoodIn wsX2_readStore wsX2_expect := goodIn_r _ [7, 1, 8, 9, 10, 6, 11, 12, 13, 14, 15, 16, 17, 18, 76, 77, 78, 79, 80, 81, 82, 83] (by decide +kernel) (by decide +kernel)
set_option maxRecDepth 20000 in
theorem gX2_readStore_X2_expect : GoodIn wsX2_readStore (wsV RX2 45 RX2 yX2_expect wsX2_expect) := goodIn_app (goodIn_of _ (by decide +kernel)) ggX2_readStore_X2_expect
set_option maxRecDepth 20000 in
theorem ggX2_readStore_X2_readSum : GoodIn wsX2_readStore wsX2_readSum := goodIn_r _ [22, 1, 2, 23, 24, 25, 6, 8, 9, 10, 11, 12, 13, 26, 27, 28, 29, 30, 31, 32, 33, 34, 35, 36, 37, 38, 39, 40, 41, 42, 43, 44, 45, 46, 47, 48, 49, 50, 51, 52, 53, 54, 55, 56, 57, 14, 15, 16, 17, 18, 58, 59, 60, 61, 62, 63, 64, 65, 19, 20, 21, 3, 4, 5, 7, 66, 67, 68, 69, 70, 71, 72, 73, 74, 75, 76, 77, 78, 79, 80, 81, 82, 83, 84, 85, 86, 87, 88, 89] (by decide +kernel) (by decide +kernel)
set_option maxRecDepth 20000 in
theorem gX2_readStore_X2_readSum : GoodIn wsX2_readStore (wsV RX2 77 RX2 yX2_readSum wsX2_readSum) := goodIn_app (goodIn_of _ (by decide +kernel)) ggX2_readStore_X2_readSum
set_option maxRecDepth 20000 in
theorem ggX2_readStore_X0_add : GoodIn wsX2_readStore wsX0_add := goodIn_r _ [47, 33, 40, 34, 48, 84, 85, 86, 87, 88, 89] (by decide +kernel) (by decide +kernel)
set_option maxRecDepth 20000 in
theorem gX2_readStore_X0_add_n80 : GoodIn wsX2_readStore (wsX0_add) := ggX2_readStore_X0_add
theorem dX2_readStore_0 : decode cX2_readStore 0 = .ok (.aload_n 0, 1) := by decide +kernel
theorem dX2_readStore_1 : decode cX2_readStore 1 = .ok (.dup, 1) := by decide +kernel
theorem dX2_readStore_2 : decode cX2_readStore 2 = .ok (.getfield 29, 3) := by decide +kernel
theorem dX2_readStore_5 : decode cX2_readStore 5 = .ok (.iconst 1, 1) := by decide +kernel
theorem dX2_readStore_6 : decode cX2_readStore 6 = .ok (.iadd, 1) := by decide +kernel
theorem dX2_readStore_7 : decode cX2_readStore 7 = .ok (.putfield 29, 3) := by decide +kernel
theorem dX2_readStore_10 : decode cX2_readStore 10 = .ok (.aload_n 0, 1) := by decide +kernel
theorem dX2_readStore_11 : decode cX2_readStore 11 = .ok (.bipush 91, 2) := by decide +kernel
theorem dX2_readStore_13 : decode cX2_readStore 13 = .ok (.invokevirtual 45, 3) := by decide +kernel
theorem dX2_readStore_16 : decode cX2_readStore 16 = .ok (.ifCond .eq 20, 3) := by decide +kernel
theorem dX2_readStore_19 : decode cX2_readStore 19 = .ok (.aload_n 0, 1) := by decide +kernel
theorem dX2_readStore_20 : decode cX2_readStore 20 = .ok (.iconst 0, 1) := by decide +kernel
theorem dX2_readStore_21 : decode cX2_readStore 21 = .ok (.invokevirtual 77, 3) := by decide +kernel
theorem dX2_readStore_24 : decode cX2_readStore 24 = .ok (.ifCond .eq 12, 3) := by decide +kernel
theorem dX2_readStore_27 : decode cX2_readStore 27 = .ok (.aload_n 0, 1) := by decide +kernel
theorem dX2_readStore_28 : decode cX2_readStore 28 = .ok (.bipush 93, 2) := by decide +kernel
theorem dX2_readStore_30 : decode cX2_readStore 30 = .ok (.invokevirtual 45, 3) := by decide +kernel
theorem dX2_readStore_33 : decode cX2_readStore 33 = .ok (.ifCond .ne 5, 3) := by decide +kernel
theorem dX2_readStore_36 : decode cX2_readStore 36 = .ok (.iconst 0, 1) := by decide +kernel
theorem dX2_readStore_37 : decode cX2_readStore 37 = .ok (.ireturn, 1) := by decide +kernel
theorem dX2_readStore_38 : decode cX2_readStore 38 = .ok (.aload_n 0, 1) := by decide +kernel
theorem dX2_readStore_39 : decode cX2_readStore 39 = .ok (.bipush 61, 2) := by decide +kernel
theorem dX2_readStore_41 : decode cX2_readStore 41 = .ok (.invokevirtual 45, 3) := by decide +kernel
theorem dX2_readStore_44 : decode cX2_readStore 44 = .ok (.ifCond .eq 20, 3) := by decide +kernel
theorem dX2_readStore_47 : decode cX2_readStore 47 = .ok (.aload_n 0, 1) := by decide +kernel
theorem dX2_readStore_48 : decode cX2_readStore 48 = .ok (.iconst 0, 1) := by decide +kernel
theorem dX2_readStore_49 : decode cX2_readStore 49 = .ok (.invokevirtual 77, 3) := by decide +kernel
theorem dX2_readStore_52 : decode cX2_readStore 52 = .ok (.ifCond .eq 12, 3) := by decide +kernel
theorem dX2_readStore_55 : decode cX2_readStore 55 = .ok (.aload_n 0, 1) := by decide +kernel
theorem dX2_readStore_56 : decode cX2_readStore 56 = .ok (.bipush 59, 2) := by decide +kernel
theorem dX2_readStore_58 : decode cX2_readStore 58 = .ok (.invokevirtual 45, 3) := by decide +kernel
theorem dX2_readStore_61 : decode cX2_readStore 61 = .ok (.ifCond .ne 5, 3) := by decide +kernel
theorem dX2_readStore_64 : decode cX2_readStore 64 = .ok (.iconst 0, 1) := by decide +kernel
theorem dX2_readStore_65 : decode cX2_readStore 65 = .ok (.ireturn, 1) := by decide +kernel
theorem dX2_readStore_66 : decode cX2_readStore 66 = .ok (.aload_n 0, 1) := by decide +kernel
theorem dX2_readStore_67 : decode cX2_readStore 67 = .ok (.getfield 18, 3) := by decide +kernel
theorem dX2_readStore_70 : decode cX2_readStore 70 = .ok (.iconst 5, 1) := by decide +kernel
theorem dX2_readStore_71 : decode cX2_readStore 71 = .ok (.iconst 0, 1) := by decide +kernel
theorem dX2_readStore_72 : decode cX2_readStore 72 = .ok (.iconst 0, 1) := by decide +kernel
theorem dX2_readStore_73 : decode cX2_readStore 73 = .ok (.invokevirtual 80, 3) := by decide +kernel
theorem dX2_readStore_76 : decode cX2_readStore 76 = .ok (.iconst 1, 1) := by decide +kernel
theorem dX2_readStore_77 : decode cX2_readStore 77 = .ok (.ireturn, 1) := by decide +kernel
set_option maxRecDepth 20000 in
theorem ggX2_readLoop_X2_freeName : GoodIn wsX2_readLoop wsX2_freeName := goodIn_r _ [11, 6, 12, 13, 14, 10, 15, 1, 16, 17, 18, 19, 20, 113, 114, 115, 116, 117, 118, 119, 120] (by decide +kernel) (by decide +kernel)
set_option maxRecDepth 20000 in
theorem gX2_readLoop_X2_freeName : GoodIn wsX2_readLoop (wsV RX2 74 RX2 yX2_freeName wsX2_freeName) := goodIn_app (goodIn_of _ (by decide +kernel)) ggX2_readLoop_X2_freeName
set_option maxRecDepth 20000 in
theorem ggX2_readLoop_X2_refuse : GoodIn wsX2_readLoop wsX2_refuse := goodIn_r _ [24, 25, 113, 114, 115, 116, 117, 118, 119, 120] (by decide +kernel) (by decide +kernel)
set_option maxRecDepth 20000 in
theorem gX2_readLoop_X2_refuse : GoodIn wsX2_readLoop (wsV RX2 52 RX2 yX2_refuse wsX2_refuse) := goodIn_app (goodIn_of _ (by decide +kernel)) ggX2_readLoop_X2_refuse
set_option maxRecDepth 20000 in
theorem ggX2_readLoop_X2_readNumber : GoodIn wsX2_readLoop wsX2_readNumber := goodIn_r _ [29, 1, 3, 12, 13, 14, 10, 15, 16, 17, 30, 31, 32, 21, 22, 23, 24, 25, 113, 114, 115, 116, 117, 118, 119, 120] (by decide +kernel) (by decide +kernel)
set_option maxRecDepth 20000 in
theorem gX2_readLoop_X2_readNumber : GoodIn wsX2_readLoop (wsV RX2 86 RX2 yX2_readNumber wsX2_readNumber) := goodIn_app (goodIn_of _ (by decide +kernel)) ggX2_readLoop_X2_readNumber
set_option maxRecDepth 20000 in
theorem ggX2_readLoop_X0_add : GoodIn wsX2_readLoop wsX0_add := goodIn_r _ [36, 37, 38, 39, 40, 121, 122, 123, 124, 125, 126] (by decide +kernel) (by decide +kernel)
set_option maxRecDepth 20000 in
theorem gX2_readLoop_X0_add_n80 : GoodIn wsX2_readLoop (wsX0_add) := ggX2_readLoop_X0_add
set_option maxRecDepth 20000 in
theorem ggX2_readLoop_X2_readBlock : GoodIn wsX2_readLoop wsX2_readBlock := goodIn_r _ [44, 45, 46, 47, 10, 48, 1, 12, 13, 14, 15, 16, 17, 21, 22, 23, 24, 25, 49, 50, 51, 52, 5, 53, 54, 55, 56, 57, 58, 59, 60, 61, 62, 63, 34, 64, 65, 37, 39, 66, 67, 68, 69, 70, 38, 71, 72, 73, 74, 33, 35, 36, 40, 75, 76, 3, 18, 19, 20, 77, 78, 79, 26, 27, 28, 29, 30, 31, 32, 80, 81, 82, 83, 84, 85, 86, 87, 88, 89, 90, 41, 42, 43, 91, 92, 93, 0, 2, 4, 6, 7, 8, 9, 11, 94, 95, 96, 97, 98, 99, 100, 101, 102, 103, 104, 105, 106, 107, 108, 109, 110, 111, 112, 113, 114, 115, 116, 117, 118, 119, 120, 121, 122, 123, 124, 125, 126] (by decide +kernel) (by decide +kernel)
set_option maxRecDepth 20000 in
theorem gX2_readLoop_X2_readBlock : GoodIn wsX2_readLoop (wsV RX2 97 RX2 yX2_readBlock wsX2_readBlock) := goodIn_app (goodIn_of _ (by decide +kernel)) ggX2_readLoop_X2_readBlock
theorem dX2_readLoop_0 : decode cX2_readLoop 0 = .ok (.aload_n 0, 1) := by decide +kernel
theorem dX2_readLoop_1 : decode cX2_readLoop 1 = .ok (.dup, 1) := by decide +kernel
theorem dX2_readLoop_2 : decode cX2_readLoop 2 = .ok (.getfield 29, 3) := by decide +kernel
theorem dX2_readLoop_5 : decode cX2_readLoop 5 = .ok (.iconst 1, 1) := by decide +kernel
theorem dX2_readLoop_6 : decode cX2_readLoop 6 = .ok (.iadd, 1) := by decide +kernel
theorem dX2_readLoop_7 : decode cX2_readLoop 7 = .ok (.putfield 29, 3) := by decide +kernel
theorem dX2_readLoop_10 : decode cX2_readLoop 10 = .ok (.aload_n 0, 1) := by decide +kernel
theorem dX2_readLoop_11 : decode cX2_readLoop 11 = .ok (.invokevirtual 74, 3) := by decide +kernel
theorem dX2_readLoop_14 : decode cX2_readLoop 14 = .ok (.istore_n 2, 1) := by decide +kernel
theorem dX2_readLoop_15 : decode cX2_readLoop 15 = .ok (.iload_n 2, 1) := by decide +kernel
theorem dX2_readLoop_16 : decode cX2_readLoop 16 = .ok (.ifCond .ge 12, 3) := by decide +kernel
theorem dX2_readLoop_19 : decode cX2_readLoop 19 = .ok (.aload_n 0, 1) := by decide +kernel
theorem dX2_readLoop_20 : decode cX2_readLoop 20 = .ok (.aload_n 0, 1) := by decide +kernel
theorem dX2_readLoop_21 : decode cX2_readLoop 21 = .ok (.getfield 29, 3) := by decide +kernel
theorem dX2_readLoop_24 : decode cX2_readLoop 24 = .ok (.invokevirtual 52, 3) := by decide +kernel
theorem dX2_readLoop_27 : decode cX2_readLoop 27 = .ok (.ireturn, 1) := by decide +kernel
theorem dX2_readLoop_28 : decode cX2_readLoop 28 = .ok (.aload_n 0, 1) := by decide +kernel
theorem dX2_readLoop_29 : decode cX2_readLoop 29 = .ok (.dup, 1) := by decide +kernel
theorem dX2_readLoop_30 : decode cX2_readLoop 30 = .ok (.getfield 29, 3) := by decide +kernel
theorem dX2_readLoop_33 : decode cX2_readLoop 33 = .ok (.iconst 1, 1) := by decide +kernel
theorem dX2_readLoop_34 : decode cX2_readLoop 34 = .ok (.iadd, 1) := by decide +kernel
theorem dX2_readLoop_35 : decode cX2_readLoop 35 = .ok (.putfield 29, 3) := by decide +kernel
theorem dX2_readLoop_38 : decode cX2_readLoop 38 = .ok (.aload_n 0, 1) := by decide +kernel
theorem dX2_readLoop_39 : decode cX2_readLoop 39 = .ok (.getfield 29, 3) := by decide +kernel
theorem dX2_readLoop_42 : decode cX2_readLoop 42 = .ok (.istore_n 3, 1) := by decide +kernel
theorem dX2_readLoop_43 : decode cX2_readLoop 43 = .ok (.aload_n 0, 1) := by decide +kernel
theorem dX2_readLoop_44 : decode cX2_readLoop 44 = .ok (.lconst 1, 1) := by decide +kernel
theorem dX2_readLoop_45 : decode cX2_readLoop 45 = .ok (.ldc2_w 84, 3) := by decide +kernel
theorem dX2_readLoop_48 : decode cX2_readLoop 48 = .ok (.invokevirtual 86, 3) := by decide +kernel
theorem dX2_readLoop_51 : decode cX2_readLoop 51 = .ok (.ifCond .ne 5, 3) := by decide +kernel
theorem dX2_readLoop_54 : decode cX2_readLoop 54 = .ok (.iconst 0, 1) := by decide +kernel
theorem dX2_readLoop_55 : decode cX2_readLoop 55 = .ok (.ireturn, 1) := by decide +kernel
theorem dX2_readLoop_56 : decode cX2_readLoop 56 = .ok (.aload_n 0, 1) := by decide +kernel
theorem dX2_readLoop_57 : decode cX2_readLoop 57 = .ok (.getfield 90, 3) := by decide +kernel
theorem dX2_readLoop_60 : decode cX2_readLoop 60 = .ok (.l2i, 1) := by decide +kernel
theorem dX2_readLoop_61 : decode cX2_readLoop 61 = .ok (.istore 4, 2) := by decide +kernel
theorem dX2_readLoop_63 : decode cX2_readLoop 63 = .ok (.aload_n 0, 1) := by decide +kernel
theorem dX2_readLoop_64 : decode cX2_readLoop 64 = .ok (.getfield 38, 3) := by decide +kernel
theorem dX2_readLoop_67 : decode cX2_readLoop 67 = .ok (.iload 4, 2) := by decide +kernel
theorem dX2_readLoop_69 : decode cX2_readLoop 69 = .ok (.imul, 1) := by decide +kernel
theorem dX2_readLoop_70 : decode cX2_readLoop 70 = .ok (.sipush 640, 3) := by decide +kernel
theorem dX2_readLoop_73 : decode cX2_readLoop 73 = .ok (.if_icmp .le 9, 3) := by decide +kernel
theorem dX2_readLoop_76 : decode cX2_readLoop 76 = .ok (.aload_n 0, 1) := by decide +kernel
theorem dX2_readLoop_77 : decode cX2_readLoop 77 = .ok (.iload_n 3, 1) := by decide +kernel
theorem dX2_readLoop_78 : decode cX2_readLoop 78 = .ok (.invokevirtual 52, 3) := by decide +kernel
theorem dX2_readLoop_81 : decode cX2_readLoop 81 = .ok (.ireturn, 1) := by decide +kernel
theorem dX2_readLoop_82 : decode cX2_readLoop 82 = .ok (.aload_n 0, 1) := by decide +kernel
theorem dX2_readLoop_83 : decode cX2_readLoop 83 = .ok (.getfield 18, 3) := by decide +kernel
theorem dX2_readLoop_86 : decode cX2_readLoop 86 = .ok (.getfield 94, 3) := by decide +kernel
theorem dX2_readLoop_89 : decode cX2_readLoop 89 = .ok (.istore 5, 2) := by decide +kernel
theorem dX2_readLoop_91 : decode cX2_readLoop 91 = .ok (.aload_n 0, 1) := by decide +kernel
theorem dX2_readLoop_92 : decode cX2_readLoop 92 = .ok (.getfield 18, 3) := by decide +kernel
theorem dX2_readLoop_95 : decode cX2_readLoop 95 = .ok (.bipush 6, 2) := by decide +kernel
theorem dX2_readLoop_97 : decode cX2_readLoop 97 = .ok (.iload_n 2, 1) := by decide +kernel
theorem dX2_readLoop_98 : decode cX2_readLoop 98 = .ok (.iload 4, 2) := by decide +kernel
theorem dX2_readLoop_100 : decode cX2_readLoop 100 = .ok (.invokevirtual 80, 3) := by decide +kernel
theorem dX2_readLoop_103 : decode cX2_readLoop 103 = .ok (.aload_n 0, 1) := by decide +kernel
theorem dX2_readLoop_104 : decode cX2_readLoop 104 = .ok (.getfield 38, 3) := by decide +kernel
theorem dX2_readLoop_107 : decode cX2_readLoop 107 = .ok (.istore 6, 2) := by decide +kernel
theorem dX2_readLoop_109 : decode cX2_readLoop 109 = .ok (.aload_n 0, 1) := by decide +kernel
theorem dX2_readLoop_110 : decode cX2_readLoop 110 = .ok (.dup, 1) := by decide +kernel
theorem dX2_readLoop_111 : decode cX2_readLoop 111 = .ok (.getfield 38, 3) := by decide +kernel
theorem dX2_readLoop_114 : decode cX2_readLoop 114 = .ok (.iload 4, 2) := by decide +kernel
theorem dX2_readLoop_116 : decode cX2_readLoop 116 = .ok (.imul, 1) := by decide +kernel
theorem dX2_readLoop_117 : decode cX2_readLoop 117 = .ok (.putfield 38, 3) := by decide +kernel
theorem dX2_readLoop_120 : decode cX2_readLoop 120 = .ok (.aload_n 0, 1) := by decide +kernel
theorem dX2_readLoop_121 : decode cX2_readLoop 121 = .ok (.dup, 1) := by decide +kernel
theorem dX2_readLoop_122 : decode cX2_readLoop 122 = .ok (.getfield 35, 3) := by decide +kernel
theorem dX2_readLoop_125 : decode cX2_readLoop 125 = .ok (.iconst 1, 1) := by decide +kernel
theorem dX2_readLoop_126 : decode cX2_readLoop 126 = .ok (.iload_n 2, 1) := by decide +kernel
theorem dX2_readLoop_127 : decode cX2_readLoop 127 = .ok (.ishl, 1) := by decide +kernel
theorem dX2_readLoop_128 : decode cX2_readLoop 128 = .ok (.ior, 1) := by decide +kernel
theorem dX2_readLoop_129 : decode cX2_readLoop 129 = .ok (.putfield 35, 3) := by decide +kernel
theorem dX2_readLoop_132 : decode cX2_readLoop 132 = .ok (.aload_n 0, 1) := by decide +kernel
theorem dX2_readLoop_133 : decode cX2_readLoop 133 = .ok (.iload_n 1, 1) := by decide +kernel
theorem dX2_readLoop_134 : decode cX2_readLoop 134 = .ok (.invokevirtual 97, 3) := by decide +kernel
theorem dX2_readLoop_137 : decode cX2_readLoop 137 = .ok (.ifCond .ne 5, 3) := by decide +kernel
theorem dX2_readLoop_140 : decode cX2_readLoop 140 = .ok (.iconst 0, 1) := by decide +kernel
theorem dX2_readLoop_141 : decode cX2_readLoop 141 = .ok (.ireturn, 1) := by decide +kernel
theorem dX2_readLoop_142 : decode cX2_readLoop 142 = .ok (.aload_n 0, 1) := by decide +kernel
theorem dX2_readLoop_143 : decode cX2_readLoop 143 = .ok (.dup, 1) := by decide +kernel
theorem dX2_readLoop_144 : decode cX2_readLoop 144 = .ok (.getfield 35, 3) := by decide +kernel
theorem dX2_readLoop_147 : decode cX2_readLoop 147 = .ok (.iconst 1, 1) := by decide +kernel
theorem dX2_readLoop_148 : decode cX2_readLoop 148 = .ok (.iload_n 2, 1) := by decide +kernel
theorem dX2_readLoop_149 : decode cX2_readLoop 149 = .ok (.ishl, 1) := by decide +kernel
theorem dX2_readLoop_150 : decode cX2_readLoop 150 = .ok (.iconst (-1), 1) := by decide +kernel
theorem dX2_readLoop_151 : decode cX2_readLoop 151 = .ok (.ixor, 1) := by decide +kernel
theorem dX2_readLoop_152 : decode cX2_readLoop 152 = .ok (.iand, 1) := by decide +kernel
theorem dX2_readLoop_153 : decode cX2_readLoop 153 = .ok (.putfield 35, 3) := by decide +kernel
theorem dX2_readLoop_156 : decode cX2_readLoop 156 = .ok (.aload_n 0, 1) := by decide +kernel
theorem dX2_readLoop_157 : decode cX2_readLoop 157 = .ok (.iload 6, 2) := by decide +kernel
theorem dX2_readLoop_159 : decode cX2_readLoop 159 = .ok (.putfield 38, 3) := by decide +kernel
theorem dX2_readLoop_162 : decode cX2_readLoop 162 = .ok (.aload_n 0, 1) := by decide +kernel
theorem dX2_readLoop_163 : decode cX2_readLoop 163 = .ok (.getfield 18, 3) := by decide +kernel
theorem dX2_readLoop_166 : decode cX2_readLoop 166 = .ok (.bipush 7, 2) := by decide +kernel
theorem dX2_readLoop_168 : decode cX2_readLoop 168 = .ok (.iload 5, 2) := by decide +kernel
theorem dX2_readLoop_170 : decode cX2_readLoop 170 = .ok (.iconst 0, 1) := by decide +kernel
theorem dX2_readLoop_171 : decode cX2_readLoop 171 = .ok (.invokevirtual 80, 3) := by decide +kernel
theorem dX2_readLoop_174 : decode cX2_readLoop 174 = .ok (.iconst 1, 1) := by decide +kernel
theorem dX2_readLoop_175 : decode cX2_readLoop 175 = .ok (.ireturn, 1) := by decide +kernel
set_option maxRecDepth 20000 in
theorem ggX2_readBranch_X2_readSum : GoodIn wsX2_readBranch wsX2_readSum := goodIn_r _ [7, 1, 2, 8, 9, 10, 6, 11, 12, 13, 14, 15, 16, 17, 18, 19, 20, 21, 22, 23, 24, 25, 26, 27, 28, 29, 30, 31, 32, 33, 34, 35, 36, 37, 38, 39, 40, 41, 42, 43, 44, 45, 46, 47, 48, 49, 50, 51, 52, 53, 54, 55, 56, 57, 58, 59, 60, 61, 3, 4, 5, 62, 63, 64, 65, 66, 67, 68, 69, 70, 71, 72, 73, 74, 75, 113, 114, 115, 116, 117, 118, 119, 120, 121, 122, 123, 124, 125, 126] (by decide +kernel) (by decide +kernel)
set_option maxRecDepth 20000 in
theorem gX2_readBranch_X2_readSum : GoodIn wsX2_readBranch (wsV RX2 77 RX2 yX2_readSum wsX2_readSum) := goodIn_app (goodIn_of _ (by decide +kernel)) ggX2_readBranch_X2_readSum
set_option maxRecDepth 20000 in
theorem ggX2_readBranch_X0_add : GoodIn wsX2_readBranch wsX0_add := goodIn_r _ [38, 24, 31, 25, 39, 121, 122, 123, 124, 125, 126] (by decide +kernel) (by decide +kernel)
set_option maxRecDepth 20000 in
theorem gX2_readBranch_X0_add_n80 : GoodIn wsX2_readBranch (wsX0_add) := ggX2_readBranch_X0_add
set_option maxRecDepth 20000 in
theorem ggX2_readBranch_X2_readBlock : GoodIn wsX2_readBranch wsX2_readBlock := goodIn_r _ [82, 62, 63, 64, 6, 65, 1, 11, 12, 13, 14, 15, 16, 49, 50, 51, 52, 53, 83, 84, 85, 0, 2, 3, 4, 5, 7, 8, 9, 10, 17, 18, 19, 20, 21, 22, 23, 24, 25, 26, 27, 28, 29, 30, 31, 32, 33, 34, 35, 36, 37, 38, 39, 40, 41, 42, 43, 44, 45, 46, 47, 48, 54, 55, 56, 57, 58, 59, 60, 61, 66, 67, 68, 69, 70, 71, 72, 73, 74, 75, 76, 77, 78, 79, 80, 81, 86, 87, 88, 89, 90, 91, 92, 93, 94, 95, 96, 97, 98, 99, 100, 101, 102, 103, 104, 105, 106, 107, 108, 109, 110, 111, 112, 113, 114, 115, 116, 117, 118, 119, 120, 121, 122, 123, 124, 125, 126] (by decide +kernel) (by decide +kernel)
set_option maxRecDepth 20000 in
theorem gX2_readBranch_X2_readBlock : GoodIn wsX2_readBranch (wsV RX2 97 RX2 yX2_readBlock wsX2_readBlock) := goodIn_app (goodIn_of _ (by decide +kernel)) ggX2_readBranch_X2_readBlock
set_option maxRecDepth 20000 in
theorem ggX2_readBranch_X0_setFirst : GoodIn wsX2_readBranch wsX0_setFirst := goodIn_r _ [81, 24, 25, 121, 122, 123, 124, 125, 126] (by decide +kernel) (by decide +kernel)
set_option maxRecDepth 20000 in
theorem gX2_readBranch_X0_setFirst_n100 : GoodIn wsX2_readBranch (wsX0_setFirst) := ggX2_readBranch_X0_setFirst
theorem dX2_readBranch_0 : decode cX2_readBranch 0 = .ok (.aload_n 0, 1) := by decide +kernel
theorem dX2_readBranch_1 : decode cX2_readBranch 1 = .ok (.dup, 1) := by decide +kernel
theorem dX2_readBranch_2 : decode cX2_readBranch 2 = .ok (.getfield 29, 3) := by decide +kernel
theorem dX2_readBranch_5 : decode cX2_readBranch 5 = .ok (.iconst 1, 1) := by decide +kernel
theorem dX2_readBranch_6 : decode cX2_readBranch 6 = .ok (.iadd, 1) := by decide +kernel
theorem dX2_readBranch_7 : decode cX2_readBranch 7 = .ok (.putfield 29, 3) := by decide +kernel
theorem dX2_readBranch_10 : decode cX2_readBranch 10 = .ok (.aload_n 0, 1) := by decide +kernel
theorem dX2_readBranch_11 : decode cX2_readBranch 11 = .ok (.iconst 0, 1) := by decide +kernel
theorem dX2_readBranch_12 : decode cX2_readBranch 12 = .ok (.invokevirtual 77, 3) := by decide +kernel
theorem dX2_readBranch_15 : decode cX2_readBranch 15 = .ok (.ifCond .ne 5, 3) := by decide +kernel
theorem dX2_readBranch_18 : decode cX2_readBranch 18 = .ok (.iconst 0, 1) := by decide +kernel
theorem dX2_readBranch_19 : decode cX2_readBranch 19 = .ok (.ireturn, 1) := by decide +kernel
theorem dX2_readBranch_20 : decode cX2_readBranch 20 = .ok (.aload_n 0, 1) := by decide +kernel
theorem dX2_readBranch_21 : decode cX2_readBranch 21 = .ok (.getfield 18, 3) := by decide +kernel
theorem dX2_readBranch_24 : decode cX2_readBranch 24 = .ok (.getfield 94, 3) := by decide +kernel
theorem dX2_readBranch_27 : decode cX2_readBranch 27 = .ok (.istore_n 2, 1) := by decide +kernel
theorem dX2_readBranch_28 : decode cX2_readBranch 28 = .ok (.aload_n 0, 1) := by decide +kernel
theorem dX2_readBranch_29 : decode cX2_readBranch 29 = .ok (.getfield 18, 3) := by decide +kernel
theorem dX2_readBranch_32 : decode cX2_readBranch 32 = .ok (.bipush 8, 2) := by decide +kernel
theorem dX2_readBranch_34 : decode cX2_readBranch 34 = .ok (.iconst 0, 1) := by decide +kernel
theorem dX2_readBranch_35 : decode cX2_readBranch 35 = .ok (.iconst 0, 1) := by decide +kernel
theorem dX2_readBranch_36 : decode cX2_readBranch 36 = .ok (.invokevirtual 80, 3) := by decide +kernel
theorem dX2_readBranch_39 : decode cX2_readBranch 39 = .ok (.aload_n 0, 1) := by decide +kernel
theorem dX2_readBranch_40 : decode cX2_readBranch 40 = .ok (.iload_n 1, 1) := by decide +kernel
theorem dX2_readBranch_41 : decode cX2_readBranch 41 = .ok (.invokevirtual 97, 3) := by decide +kernel
theorem dX2_readBranch_44 : decode cX2_readBranch 44 = .ok (.ifCond .ne 5, 3) := by decide +kernel
theorem dX2_readBranch_47 : decode cX2_readBranch 47 = .ok (.iconst 0, 1) := by decide +kernel
theorem dX2_readBranch_48 : decode cX2_readBranch 48 = .ok (.ireturn, 1) := by decide +kernel
theorem dX2_readBranch_49 : decode cX2_readBranch 49 = .ok (.aload_n 0, 1) := by decide +kernel
theorem dX2_readBranch_50 : decode cX2_readBranch 50 = .ok (.getfield 18, 3) := by decide +kernel
theorem dX2_readBranch_53 : decode cX2_readBranch 53 = .ok (.iload_n 2, 1) := by decide +kernel
theorem dX2_readBranch_54 : decode cX2_readBranch 54 = .ok (.aload_n 0, 1) := by decide +kernel
theorem dX2_readBranch_55 : decode cX2_readBranch 55 = .ok (.getfield 18, 3) := by decide +kernel
theorem dX2_readBranch_58 : decode cX2_readBranch 58 = .ok (.getfield 94, 3) := by decide +kernel
theorem dX2_readBranch_61 : decode cX2_readBranch 61 = .ok (.invokevirtual 100, 3) := by decide +kernel
theorem dX2_readBranch_64 : decode cX2_readBranch 64 = .ok (.iconst 1, 1) := by decide +kernel
theorem dX2_readBranch_65 : decode cX2_readBranch 65 = .ok (.ireturn, 1) := by decide +kernel
set_option maxRecDepth 20000 in
theorem ggX2_readBlock_X2_expect : GoodIn wsX2_readBlock wsX2_expect := goodIn_r _ [5, 6, 7, 8, 9, 4, 10, 11, 12, 13, 14, 15, 16, 17, 113, 114, 115, 116, 117, 118, 119, 120] (by decide +kernel) (by decide +kernel)
set_option maxRecDepth 20000 in
theorem gX2_readBlock_X2_expect : GoodIn wsX2_readBlock (wsV RX2 45 RX2 yX2_expect wsX2_expect) := goodIn_app (goodIn_of _ (by decide +kernel)) ggX2_readBlock_X2_expect
set_option maxRecDepth 20000 in
theorem ggX2_readBlock_X2_readProgram : GoodIn wsX2_readBlock wsX2_readProgram := goodIn_r _ [94, 22, 7, 8, 9, 4, 10, 6, 11, 12, 95, 96, 97, 0, 1, 2, 3, 5, 13, 14, 15, 16, 17, 18, 19, 20, 21, 23, 24, 25, 26, 27, 28, 29, 30, 31, 32, 33, 34, 35, 36, 37, 38, 39, 40, 41, 42, 43, 44, 45, 46, 47, 48, 49, 50, 51, 52, 53, 54, 55, 56, 57, 58, 59, 60, 61, 62, 63, 64, 65, 66, 67, 68, 69, 70, 71, 72, 73, 74, 75, 76, 77, 78, 79, 80, 81, 82, 83, 84, 85, 86, 87, 88, 89, 90, 91, 92, 93, 98, 99, 100, 101, 102, 103, 104, 105, 106, 107, 108, 109, 110, 111, 112, 113, 114, 115, 116, 117, 118, 119, 120, 121, 122, 123, 124, 125, 126] (by decide +kernel) (by decide +kernel)
set_option maxRecDepth 20000 in
theorem gX2_readBlock_X2_readProgram : GoodIn wsX2_readBlock (wsV RX2 41 RX2 yX2_readProgram wsX2_readProgram) := goodIn_app (goodIn_of _ (by decide +kernel)) ggX2_readBlock_X2_readProgram
theorem dX2_readBlock_0 : decode cX2_readBlock 0 = .ok (.aload_n 0, 1) := by decide +kernel
theorem dX2_readBlock_1 : decode cX2_readBlock 1 = .ok (.bipush 123, 2) := by decide +kernel
theorem dX2_readBlock_3 : decode cX2_readBlock 3 = .ok (.invokevirtual 45, 3) := by decide +kernel
end
section
theorem dX2_readBlock_6 : decode cX2_readBlock 6 = .ok (.ifCond .eq 26, 3) := by decide +kernel
theorem dX2_readBlock_9 : decode cX2_readBlock 9 = .ok (.aload_n 0, 1) := by decide +kernel
theorem dX2_readBlock_10 : decode cX2_readBlock 10 = .ok (.iload_n 1, 1) := by decide +kernel
theorem dX2_readBlock_11 : decode cX2_readBlock 11 = .ok (.iconst 1, 1) := by decide +kernel
theorem dX2_readBlock_12 : decode cX2_readBlock 12 = .ok (.iadd, 1) := by decide +kernel
theorem dX2_readBlock_13 : decode cX2_readBlock 13 = .ok (.invokevirtual 41, 3) := by decide +kernel
theorem dX2_readBlock_16 : decode cX2_readBlock 16 = .ok (.ifCond .eq 16, 3) := by decide +kernel
theorem dX2_readBlock_19 : decode cX2_readBlock 19 = .ok (.aload_n 0, 1) := by decide +kernel
theorem dX2_readBlock_20 : decode cX2_readBlock 20 = .ok (.bipush 125, 2) := by decide +kernel
theorem dX2_readBlock_22 : decode cX2_readBlock 22 = .ok (.invokevirtual 45, 3) := by decide +kernel
theorem dX2_readBlock_25 : decode cX2_readBlock 25 = .ok (.ifCond .eq 7, 3) := by decide +kernel
theorem dX2_readBlock_28 : decode cX2_readBlock 28 = .ok (.iconst 1, 1) := by decide +kernel
theorem dX2_readBlock_29 : decode cX2_readBlock 29 = .ok (.goto 4, 3) := by decide +kernel
theorem dX2_readBlock_32 : decode cX2_readBlock 32 = .ok (.iconst 0, 1) := by decide +kernel
theorem dX2_readBlock_33 : decode cX2_readBlock 33 = .ok (.ireturn, 1) := by decide +kernel
set_option maxRecDepth 20000 in
theorem ggX2_readSum_X2_readTurned : GoodIn wsX2_readSum wsX2_readTurned := goodIn_r _ [73, 1, 74, 2, 38, 65, 66, 67, 6, 7, 8, 9, 10, 11, 12, 50, 51, 52, 53, 54, 55, 56, 45, 46, 47, 48, 49, 68, 17, 69, 70, 21, 20, 22, 23, 24, 25, 26, 27, 71, 29, 72, 31, 32, 33, 34, 35, 36, 37, 39, 40, 41, 42, 43, 44, 57, 58, 59, 60, 61, 62, 63, 64, 0, 3, 4, 5, 13, 14, 15, 16, 18, 19, 28, 30, 75, 76, 77, 78, 79, 80, 81, 82, 83, 84, 85, 86, 87, 88] (by decide +kernel) (by decide +kernel)
set_option maxRecDepth 20000 in
theorem gX2_readSum_X2_readTurned : GoodIn wsX2_readSum (wsV RX2 104 RX2 yX2_readTurned wsX2_readTurned) := goodIn_app (goodIn_of _ (by decide +kernel)) ggX2_readSum_X2_readTurned
set_option maxRecDepth 20000 in
theorem ggX2_readSum_X2_here : GoodIn wsX2_readSum wsX2_here := goodIn_r _ [10, 1, 11, 12, 75, 76, 77, 78, 79, 80, 81, 82] (by decide +kernel) (by decide +kernel)
set_option maxRecDepth 20000 in
theorem gX2_readSum_X2_here : GoodIn wsX2_readSum (wsV RX2 48 RX2 yX2_here wsX2_here) := goodIn_app (goodIn_of _ (by decide +kernel)) ggX2_readSum_X2_here
set_option maxRecDepth 20000 in
theorem ggX2_readSum_X2_isOperator : GoodIn wsX2_readSum wsX2_isOperator := goodIn_r _ [15] (by decide +kernel) (by decide +kernel)
set_option maxRecDepth 20000 in
theorem gX2_readSum_X2_isOperator : GoodIn wsX2_readSum (va_wsS RX2 107 yX2_isOperator wsX2_isOperator) := goodIn_app (goodIn_of _ (by decide +kernel)) ggX2_readSum_X2_isOperator
set_option maxRecDepth 20000 in
theorem ggX2_readSum_X0_addOfTwo : GoodIn wsX2_readSum wsX0_addOfTwo := goodIn_r _ [19, 20, 21, 22, 23, 24, 25, 17, 26, 27, 28, 29, 30, 31, 32, 33, 34, 35, 83, 84, 85, 86, 87, 88] (by decide +kernel) (by decide +kernel)
set_option maxRecDepth 20000 in
theorem gX2_readSum_X0_addOfTwo_n110 : GoodIn wsX2_readSum (wsX0_addOfTwo) := ggX2_readSum_X0_addOfTwo
theorem dX2_readSum_0 : decode cX2_readSum 0 = .ok (.aload_n 0, 1) := by decide +kernel
theorem dX2_readSum_1 : decode cX2_readSum 1 = .ok (.iload_n 1, 1) := by decide +kernel
theorem dX2_readSum_2 : decode cX2_readSum 2 = .ok (.invokevirtual 104, 3) := by decide +kernel
theorem dX2_readSum_5 : decode cX2_readSum 5 = .ok (.ifCond .ne 5, 3) := by decide +kernel
theorem dX2_readSum_8 : decode cX2_readSum 8 = .ok (.iconst 0, 1) := by decide +kernel
theorem dX2_readSum_9 : decode cX2_readSum 9 = .ok (.ireturn, 1) := by decide +kernel
theorem dX2_readSum_10 : decode cX2_readSum 10 = .ok (.iconst 0, 1) := by decide +kernel
theorem dX2_readSum_11 : decode cX2_readSum 11 = .ok (.istore_n 2, 1) := by decide +kernel
theorem dX2_readSum_12 : decode cX2_readSum 12 = .ok (.iload_n 2, 1) := by decide +kernel
theorem dX2_readSum_13 : decode cX2_readSum 13 = .ok (.sipush 480, 3) := by decide +kernel
theorem dX2_readSum_16 : decode cX2_readSum 16 = .ok (.if_icmp .ge 52, 3) := by decide +kernel
theorem dX2_readSum_19 : decode cX2_readSum 19 = .ok (.aload_n 0, 1) := by decide +kernel
theorem dX2_readSum_20 : decode cX2_readSum 20 = .ok (.invokevirtual 48, 3) := by decide +kernel
theorem dX2_readSum_23 : decode cX2_readSum 23 = .ok (.invokestatic 107, 3) := by decide +kernel
theorem dX2_readSum_26 : decode cX2_readSum 26 = .ok (.ifCond .eq 42, 3) := by decide +kernel
theorem dX2_readSum_29 : decode cX2_readSum 29 = .ok (.aload_n 0, 1) := by decide +kernel
theorem dX2_readSum_30 : decode cX2_readSum 30 = .ok (.invokevirtual 48, 3) := by decide +kernel
theorem dX2_readSum_33 : decode cX2_readSum 33 = .ok (.istore_n 3, 1) := by decide +kernel
theorem dX2_readSum_34 : decode cX2_readSum 34 = .ok (.aload_n 0, 1) := by decide +kernel
theorem dX2_readSum_35 : decode cX2_readSum 35 = .ok (.dup, 1) := by decide +kernel
theorem dX2_readSum_36 : decode cX2_readSum 36 = .ok (.getfield 29, 3) := by decide +kernel
theorem dX2_readSum_39 : decode cX2_readSum 39 = .ok (.iconst 1, 1) := by decide +kernel
theorem dX2_readSum_40 : decode cX2_readSum 40 = .ok (.iadd, 1) := by decide +kernel
theorem dX2_readSum_41 : decode cX2_readSum 41 = .ok (.putfield 29, 3) := by decide +kernel
theorem dX2_readSum_44 : decode cX2_readSum 44 = .ok (.aload_n 0, 1) := by decide +kernel
theorem dX2_readSum_45 : decode cX2_readSum 45 = .ok (.iload_n 1, 1) := by decide +kernel
theorem dX2_readSum_46 : decode cX2_readSum 46 = .ok (.invokevirtual 104, 3) := by decide +kernel
theorem dX2_readSum_49 : decode cX2_readSum 49 = .ok (.ifCond .ne 5, 3) := by decide +kernel
theorem dX2_readSum_52 : decode cX2_readSum 52 = .ok (.iconst 0, 1) := by decide +kernel
theorem dX2_readSum_53 : decode cX2_readSum 53 = .ok (.ireturn, 1) := by decide +kernel
theorem dX2_readSum_54 : decode cX2_readSum 54 = .ok (.aload_n 0, 1) := by decide +kernel
theorem dX2_readSum_55 : decode cX2_readSum 55 = .ok (.getfield 18, 3) := by decide +kernel
theorem dX2_readSum_58 : decode cX2_readSum 58 = .ok (.iload_n 3, 1) := by decide +kernel
theorem dX2_readSum_59 : decode cX2_readSum 59 = .ok (.invokevirtual 110, 3) := by decide +kernel
theorem dX2_readSum_62 : decode cX2_readSum 62 = .ok (.iinc 2 1, 3) := by decide +kernel
theorem dX2_readSum_65 : decode cX2_readSum 65 = .ok (.goto (-53), 3) := by decide +kernel
theorem dX2_readSum_68 : decode cX2_readSum 68 = .ok (.iconst 1, 1) := by decide +kernel
theorem dX2_readSum_69 : decode cX2_readSum 69 = .ok (.ireturn, 1) := by decide +kernel
set_option maxRecDepth 20000 in
theorem ggX2_readTurned_X2_readFactor : GoodIn wsX2_readTurned wsX2_readFactor := goodIn_r _ [47, 1, 3, 48, 4, 9, 10, 11, 8, 12, 13, 14, 49, 50, 51, 43, 28, 44, 45, 32, 38, 31, 46, 52, 53, 54, 22, 23, 24, 25, 26, 15, 16, 17, 18, 19, 20, 21, 55, 56, 57, 58, 59, 60, 61, 62, 5, 6, 7, 27, 29, 30, 33, 34, 35, 36, 37, 39, 40, 41, 42, 63, 64, 65, 66, 67, 68, 69, 70, 71, 72, 73, 74, 0, 2, 75, 76, 77, 78, 79, 80, 81, 82, 83, 84, 85, 86, 87, 88] (by decide +kernel) (by decide +kernel)
set_option maxRecDepth 20000 in
theorem gX2_readTurned_X2_readFactor : GoodIn wsX2_readTurned (wsV RX2 114 RX2 yX2_readFactor wsX2_readFactor) := goodIn_app (goodIn_of _ (by decide +kernel)) ggX2_readTurned_X2_readFactor
set_option maxRecDepth 20000 in
theorem ggX2_readTurned_X2_here : GoodIn wsX2_readTurned wsX2_here := goodIn_r _ [12, 1, 13, 14, 75, 76, 77, 78, 79, 80, 81, 82] (by decide +kernel) (by decide +kernel)
set_option maxRecDepth 20000 in
theorem gX2_readTurned_X2_here : GoodIn wsX2_readTurned (wsV RX2 48 RX2 yX2_here wsX2_here) := goodIn_app (goodIn_of _ (by decide +kernel)) ggX2_readTurned_X2_here
set_option maxRecDepth 20000 in
theorem ggX2_readTurned_X2_readNumber : GoodIn wsX2_readTurned wsX2_readNumber := goodIn_r _ [18, 1, 4, 9, 10, 11, 8, 12, 13, 14, 19, 20, 21, 22, 23, 24, 25, 26, 75, 76, 77, 78, 79, 80, 81, 82] (by decide +kernel) (by decide +kernel)
set_option maxRecDepth 20000 in
theorem gX2_readTurned_X2_readNumber : GoodIn wsX2_readTurned (wsV RX2 86 RX2 yX2_readNumber wsX2_readNumber) := goodIn_app (goodIn_of _ (by decide +kernel)) ggX2_readTurned_X2_readNumber
set_option maxRecDepth 20000 in
theorem ggX2_readTurned_X0_addOfOne : GoodIn wsX2_readTurned wsX0_addOfOne := goodIn_r _ [30, 31, 32, 33, 34, 35, 36, 28, 37, 38, 39, 40, 41, 42, 43, 44, 45, 46, 83, 84, 85, 86, 87, 88] (by decide +kernel) (by decide +kernel)
set_option maxRecDepth 20000 in
theorem gX2_readTurned_X0_addOfOne_n119 : GoodIn wsX2_readTurned (wsX0_addOfOne) := ggX2_readTurned_X0_addOfOne
theorem dX2_readTurned_0 : decode cX2_readTurned 0 = .ok (.aload_n 0, 1) := by decide +kernel
theorem dX2_readTurned_1 : decode cX2_readTurned 1 = .ok (.iload_n 1, 1) := by decide +kernel
theorem dX2_readTurned_2 : decode cX2_readTurned 2 = .ok (.invokevirtual 114, 3) := by decide +kernel
theorem dX2_readTurned_5 : decode cX2_readTurned 5 = .ok (.ifCond .ne 5, 3) := by decide +kernel
theorem dX2_readTurned_8 : decode cX2_readTurned 8 = .ok (.iconst 0, 1) := by decide +kernel
theorem dX2_readTurned_9 : decode cX2_readTurned 9 = .ok (.ireturn, 1) := by decide +kernel
theorem dX2_readTurned_10 : decode cX2_readTurned 10 = .ok (.iconst 0, 1) := by decide +kernel
theorem dX2_readTurned_11 : decode cX2_readTurned 11 = .ok (.istore_n 2, 1) := by decide +kernel
theorem dX2_readTurned_12 : decode cX2_readTurned 12 = .ok (.iload_n 2, 1) := by decide +kernel
theorem dX2_readTurned_13 : decode cX2_readTurned 13 = .ok (.sipush 480, 3) := by decide +kernel
theorem dX2_readTurned_16 : decode cX2_readTurned 16 = .ok (.if_icmp .ge 68, 3) := by decide +kernel
theorem dX2_readTurned_19 : decode cX2_readTurned 19 = .ok (.aload_n 0, 1) := by decide +kernel
theorem dX2_readTurned_20 : decode cX2_readTurned 20 = .ok (.invokevirtual 48, 3) := by decide +kernel
theorem dX2_readTurned_23 : decode cX2_readTurned 23 = .ok (.bipush 60, 2) := by decide +kernel
theorem dX2_readTurned_25 : decode cX2_readTurned 25 = .ok (.if_icmp .eq 12, 3) := by decide +kernel
theorem dX2_readTurned_28 : decode cX2_readTurned 28 = .ok (.aload_n 0, 1) := by decide +kernel
theorem dX2_readTurned_29 : decode cX2_readTurned 29 = .ok (.invokevirtual 48, 3) := by decide +kernel
theorem dX2_readTurned_32 : decode cX2_readTurned 32 = .ok (.bipush 62, 2) := by decide +kernel
theorem dX2_readTurned_34 : decode cX2_readTurned 34 = .ok (.if_icmp .ne 50, 3) := by decide +kernel
theorem dX2_readTurned_37 : decode cX2_readTurned 37 = .ok (.aload_n 0, 1) := by decide +kernel
theorem dX2_readTurned_38 : decode cX2_readTurned 38 = .ok (.invokevirtual 48, 3) := by decide +kernel
theorem dX2_readTurned_41 : decode cX2_readTurned 41 = .ok (.istore_n 3, 1) := by decide +kernel
theorem dX2_readTurned_42 : decode cX2_readTurned 42 = .ok (.aload_n 0, 1) := by decide +kernel
theorem dX2_readTurned_43 : decode cX2_readTurned 43 = .ok (.dup, 1) := by decide +kernel
theorem dX2_readTurned_44 : decode cX2_readTurned 44 = .ok (.getfield 29, 3) := by decide +kernel
theorem dX2_readTurned_47 : decode cX2_readTurned 47 = .ok (.iconst 1, 1) := by decide +kernel
theorem dX2_readTurned_48 : decode cX2_readTurned 48 = .ok (.iadd, 1) := by decide +kernel
theorem dX2_readTurned_49 : decode cX2_readTurned 49 = .ok (.putfield 29, 3) := by decide +kernel
theorem dX2_readTurned_52 : decode cX2_readTurned 52 = .ok (.aload_n 0, 1) := by decide +kernel
theorem dX2_readTurned_53 : decode cX2_readTurned 53 = .ok (.lconst 1, 1) := by decide +kernel
theorem dX2_readTurned_54 : decode cX2_readTurned 54 = .ok (.ldc2_w 117, 3) := by decide +kernel
theorem dX2_readTurned_57 : decode cX2_readTurned 57 = .ok (.invokevirtual 86, 3) := by decide +kernel
theorem dX2_readTurned_60 : decode cX2_readTurned 60 = .ok (.ifCond .ne 5, 3) := by decide +kernel
theorem dX2_readTurned_63 : decode cX2_readTurned 63 = .ok (.iconst 0, 1) := by decide +kernel
theorem dX2_readTurned_64 : decode cX2_readTurned 64 = .ok (.ireturn, 1) := by decide +kernel
theorem dX2_readTurned_65 : decode cX2_readTurned 65 = .ok (.aload_n 0, 1) := by decide +kernel
theorem dX2_readTurned_66 : decode cX2_readTurned 66 = .ok (.getfield 18, 3) := by decide +kernel
theorem dX2_readTurned_69 : decode cX2_readTurned 69 = .ok (.iload_n 3, 1) := by decide +kernel
theorem dX2_readTurned_70 : decode cX2_readTurned 70 = .ok (.aload_n 0, 1) := by decide +kernel
theorem dX2_readTurned_71 : decode cX2_readTurned 71 = .ok (.getfield 90, 3) := by decide +kernel
theorem dX2_readTurned_74 : decode cX2_readTurned 74 = .ok (.l2i, 1) := by decide +kernel
theorem dX2_readTurned_75 : decode cX2_readTurned 75 = .ok (.invokevirtual 119, 3) := by decide +kernel
theorem dX2_readTurned_78 : decode cX2_readTurned 78 = .ok (.iinc 2 1, 3) := by decide +kernel
theorem dX2_readTurned_81 : decode cX2_readTurned 81 = .ok (.goto (-69), 3) := by decide +kernel
theorem dX2_readTurned_84 : decode cX2_readTurned 84 = .ok (.iconst 1, 1) := by decide +kernel
theorem dX2_readTurned_85 : decode cX2_readTurned 85 = .ok (.ireturn, 1) := by decide +kernel
set_option maxRecDepth 20000 in
theorem ggX2_readFactor_X2_here : GoodIn wsX2_readFactor wsX2_here := goodIn_r _ [9, 1, 10, 11, 75, 76, 77, 78, 79, 80, 81, 82] (by decide +kernel) (by decide +kernel)
set_option maxRecDepth 20000 in
theorem gX2_readFactor_X2_here : GoodIn wsX2_readFactor (wsV RX2 48 RX2 yX2_here wsX2_here) := goodIn_app (goodIn_of _ (by decide +kernel)) ggX2_readFactor_X2_here
set_option maxRecDepth 20000 in
theorem ggX2_readFactor_X2_nameOf : GoodIn wsX2_readFactor wsX2_nameOf := goodIn_r _ [14] (by decide +kernel) (by decide +kernel)
set_option maxRecDepth 20000 in
theorem gX2_readFactor_X2_nameOf : GoodIn wsX2_readFactor (va_wsS RX2 122 yX2_nameOf wsX2_nameOf) := goodIn_app (goodIn_of _ (by decide +kernel)) ggX2_readFactor_X2_nameOf
set_option maxRecDepth 20000 in
theorem ggX2_readFactor_X0_add : GoodIn wsX2_readFactor wsX0_add := goodIn_r _ [18, 19, 20, 21, 22, 83, 84, 85, 86, 87, 88] (by decide +kernel) (by decide +kernel)
set_option maxRecDepth 20000 in
theorem gX2_readFactor_X0_add_n80 : GoodIn wsX2_readFactor (wsX0_add) := ggX2_readFactor_X0_add
set_option maxRecDepth 20000 in
theorem ggX2_readFactor_X2_readNested : GoodIn wsX2_readFactor wsX2_readNested := goodIn_r _ [38, 1, 2, 5, 6, 7, 8, 9, 10, 11, 39, 40, 41, 42, 43, 44, 45, 26, 27, 28, 29, 30, 46, 47, 48, 49, 16, 50, 51, 21, 19, 52, 53, 54, 55, 56, 20, 57, 58, 59, 60, 15, 17, 18, 22, 0, 3, 4, 12, 13, 14, 23, 24, 25, 31, 32, 33, 34, 35, 36, 37, 61, 62, 63, 64, 65, 66, 67, 68, 69, 70, 71, 72, 73, 74, 75, 76, 77, 78, 79, 80, 81, 82, 83, 84, 85, 86, 87, 88] (by decide +kernel) (by decide +kernel)
set_option maxRecDepth 20000 in
theorem gX2_readFactor_X2_readNested : GoodIn wsX2_readFactor (wsV RX2 126 RX2 yX2_readNested wsX2_readNested) := goodIn_app (goodIn_of _ (by decide +kernel)) ggX2_readFactor_X2_readNested
set_option maxRecDepth 20000 in
theorem ggX2_readFactor_X2_refuse : GoodIn wsX2_readFactor wsX2_refuse := goodIn_r _ [29, 30, 75, 76, 77, 78, 79, 80, 81, 82] (by decide +kernel) (by decide +kernel)
set_option maxRecDepth 20000 in
theorem gX2_readFactor_X2_refuse : GoodIn wsX2_readFactor (wsV RX2 52 RX2 yX2_refuse wsX2_refuse) := goodIn_app (goodIn_of _ (by decide +kernel)) ggX2_readFactor_X2_refuse
set_option maxRecDepth 20000 in
theorem ggX2_readFactor_X2_readNumber : GoodIn wsX2_readFactor wsX2_readNumber := goodIn_r _ [34, 1, 4, 5, 6, 7, 8, 9, 10, 11, 35, 36, 37, 26, 27, 28, 29, 30, 75, 76, 77, 78, 79, 80, 81, 82] (by decide +kernel) (by decide +kernel)
set_option maxRecDepth 20000 in
theorem gX2_readFactor_X2_readNumber : GoodIn wsX2_readFactor (wsV RX2 86 RX2 yX2_readNumber wsX2_readNumber) := goodIn_app (goodIn_of _ (by decide +kernel)) ggX2_readFactor_X2_readNumber
theorem dX2_readFactor_0 : decode cX2_readFactor 0 = .ok (.aload_n 0, 1) := by decide +kernel
theorem dX2_readFactor_1 : decode cX2_readFactor 1 = .ok (.invokevirtual 48, 3) := by decide +kernel
theorem dX2_readFactor_4 : decode cX2_readFactor 4 = .ok (.invokestatic 122, 3) := by decide +kernel
theorem dX2_readFactor_7 : decode cX2_readFactor 7 = .ok (.istore_n 2, 1) := by decide +kernel
theorem dX2_readFactor_8 : decode cX2_readFactor 8 = .ok (.iload_n 2, 1) := by decide +kernel
theorem dX2_readFactor_9 : decode cX2_readFactor 9 = .ok (.ifCond .lt 25, 3) := by decide +kernel
theorem dX2_readFactor_12 : decode cX2_readFactor 12 = .ok (.aload_n 0, 1) := by decide +kernel
theorem dX2_readFactor_13 : decode cX2_readFactor 13 = .ok (.dup, 1) := by decide +kernel
theorem dX2_readFactor_14 : decode cX2_readFactor 14 = .ok (.getfield 29, 3) := by decide +kernel
theorem dX2_readFactor_17 : decode cX2_readFactor 17 = .ok (.iconst 1, 1) := by decide +kernel
theorem dX2_readFactor_18 : decode cX2_readFactor 18 = .ok (.iadd, 1) := by decide +kernel
theorem dX2_readFactor_19 : decode cX2_readFactor 19 = .ok (.putfield 29, 3) := by decide +kernel
theorem dX2_readFactor_22 : decode cX2_readFactor 22 = .ok (.aload_n 0, 1) := by decide +kernel
theorem dX2_readFactor_23 : decode cX2_readFactor 23 = .ok (.getfield 18, 3) := by decide +kernel
theorem dX2_readFactor_26 : decode cX2_readFactor 26 = .ok (.iconst 2, 1) := by decide +kernel
theorem dX2_readFactor_27 : decode cX2_readFactor 27 = .ok (.iload_n 2, 1) := by decide +kernel
theorem dX2_readFactor_28 : decode cX2_readFactor 28 = .ok (.iconst 0, 1) := by decide +kernel
theorem dX2_readFactor_29 : decode cX2_readFactor 29 = .ok (.invokevirtual 80, 3) := by decide +kernel
theorem dX2_readFactor_32 : decode cX2_readFactor 32 = .ok (.iconst 1, 1) := by decide +kernel
theorem dX2_readFactor_33 : decode cX2_readFactor 33 = .ok (.ireturn, 1) := by decide +kernel
theorem dX2_readFactor_34 : decode cX2_readFactor 34 = .ok (.aload_n 0, 1) := by decide +kernel
theorem dX2_readFactor_35 : decode cX2_readFactor 35 = .ok (.invokevirtual 48, 3) := by decide +kernel
theorem dX2_readFactor_38 : decode cX2_readFactor 38 = .ok (.bipush 126, 2) := by decide +kernel
theorem dX2_readFactor_40 : decode cX2_readFactor 40 = .ok (.if_icmp .eq 21, 3) := by decide +kernel
theorem dX2_readFactor_43 : decode cX2_readFactor 43 = .ok (.aload_n 0, 1) := by decide +kernel
theorem dX2_readFactor_44 : decode cX2_readFactor 44 = .ok (.invokevirtual 48, 3) := by decide +kernel
theorem dX2_readFactor_47 : decode cX2_readFactor 47 = .ok (.bipush 40, 2) := by decide +kernel
theorem dX2_readFactor_49 : decode cX2_readFactor 49 = .ok (.if_icmp .eq 12, 3) := by decide +kernel
theorem dX2_readFactor_52 : decode cX2_readFactor 52 = .ok (.aload_n 0, 1) := by decide +kernel
theorem dX2_readFactor_53 : decode cX2_readFactor 53 = .ok (.invokevirtual 48, 3) := by decide +kernel
theorem dX2_readFactor_56 : decode cX2_readFactor 56 = .ok (.bipush 64, 2) := by decide +kernel
theorem dX2_readFactor_58 : decode cX2_readFactor 58 = .ok (.if_icmp .ne 28, 3) := by decide +kernel
theorem dX2_readFactor_61 : decode cX2_readFactor 61 = .ok (.iload_n 1, 1) := by decide +kernel
theorem dX2_readFactor_62 : decode cX2_readFactor 62 = .ok (.bipush 12, 2) := by decide +kernel
theorem dX2_readFactor_64 : decode cX2_readFactor 64 = .ok (.if_icmp .ge 13, 3) := by decide +kernel
theorem dX2_readFactor_67 : decode cX2_readFactor 67 = .ok (.aload_n 0, 1) := by decide +kernel
theorem dX2_readFactor_68 : decode cX2_readFactor 68 = .ok (.iload_n 1, 1) := by decide +kernel
theorem dX2_readFactor_69 : decode cX2_readFactor 69 = .ok (.iconst 1, 1) := by decide +kernel
theorem dX2_readFactor_70 : decode cX2_readFactor 70 = .ok (.iadd, 1) := by decide +kernel
theorem dX2_readFactor_71 : decode cX2_readFactor 71 = .ok (.invokevirtual 126, 3) := by decide +kernel
theorem dX2_readFactor_74 : decode cX2_readFactor 74 = .ok (.goto 11, 3) := by decide +kernel
theorem dX2_readFactor_77 : decode cX2_readFactor 77 = .ok (.aload_n 0, 1) := by decide +kernel
theorem dX2_readFactor_78 : decode cX2_readFactor 78 = .ok (.aload_n 0, 1) := by decide +kernel
theorem dX2_readFactor_79 : decode cX2_readFactor 79 = .ok (.getfield 29, 3) := by decide +kernel
theorem dX2_readFactor_82 : decode cX2_readFactor 82 = .ok (.invokevirtual 52, 3) := by decide +kernel
theorem dX2_readFactor_85 : decode cX2_readFactor 85 = .ok (.ireturn, 1) := by decide +kernel
theorem dX2_readFactor_86 : decode cX2_readFactor 86 = .ok (.aload_n 0, 1) := by decide +kernel
theorem dX2_readFactor_87 : decode cX2_readFactor 87 = .ok (.lconst 0, 1) := by decide +kernel
theorem dX2_readFactor_88 : decode cX2_readFactor 88 = .ok (.ldc2_w 129, 3) := by decide +kernel
theorem dX2_readFactor_91 : decode cX2_readFactor 91 = .ok (.invokevirtual 86, 3) := by decide +kernel
theorem dX2_readFactor_94 : decode cX2_readFactor 94 = .ok (.ifCond .ne 5, 3) := by decide +kernel
theorem dX2_readFactor_97 : decode cX2_readFactor 97 = .ok (.iconst 0, 1) := by decide +kernel
theorem dX2_readFactor_98 : decode cX2_readFactor 98 = .ok (.ireturn, 1) := by decide +kernel
theorem dX2_readFactor_99 : decode cX2_readFactor 99 = .ok (.aload_n 0, 1) := by decide +kernel
theorem dX2_readFactor_100 : decode cX2_readFactor 100 = .ok (.getfield 18, 3) := by decide +kernel
theorem dX2_readFactor_103 : decode cX2_readFactor 103 = .ok (.iconst 1, 1) := by decide +kernel
theorem dX2_readFactor_104 : decode cX2_readFactor 104 = .ok (.aload_n 0, 1) := by decide +kernel
theorem dX2_readFactor_105 : decode cX2_readFactor 105 = .ok (.getfield 90, 3) := by decide +kernel
theorem dX2_readFactor_108 : decode cX2_readFactor 108 = .ok (.l2i, 1) := by decide +kernel
theorem dX2_readFactor_109 : decode cX2_readFactor 109 = .ok (.iconst 0, 1) := by decide +kernel
theorem dX2_readFactor_110 : decode cX2_readFactor 110 = .ok (.invokevirtual 80, 3) := by decide +kernel
theorem dX2_readFactor_113 : decode cX2_readFactor 113 = .ok (.iconst 1, 1) := by decide +kernel
theorem dX2_readFactor_114 : decode cX2_readFactor 114 = .ok (.ireturn, 1) := by decide +kernel
set_option maxRecDepth 20000 in
theorem ggX2_readNested_X2_here : GoodIn wsX2_readNested wsX2_here := goodIn_r _ [7, 1, 8, 9, 75, 76, 77, 78, 79, 80, 81, 82] (by decide +kernel) (by decide +kernel)
set_option maxRecDepth 20000 in
theorem gX2_readNested_X2_here : GoodIn wsX2_readNested (wsV RX2 48 RX2 yX2_here wsX2_here) := goodIn_app (goodIn_of _ (by decide +kernel)) ggX2_readNested_X2_here
set_option maxRecDepth 20000 in
theorem ggX2_readNested_X2_readSum : GoodIn wsX2_readNested wsX2_readSum := goodIn_r _ [61, 1, 2, 62, 63, 64, 6, 3, 4, 5, 7, 8, 9, 65, 66, 67, 68, 26, 69, 70, 30, 29, 31, 32, 33, 34, 35, 36, 71, 38, 72, 40, 41, 42, 43, 44, 45, 46, 47, 48, 49, 50, 51, 52, 53, 17, 18, 19, 20, 21, 54, 55, 56, 57, 58, 59, 60, 0, 10, 11, 12, 13, 14, 15, 16, 22, 23, 24, 25, 27, 28, 37, 39, 73, 74, 75, 76, 77, 78, 79, 80, 81, 82, 83, 84, 85, 86, 87, 88] (by decide +kernel) (by decide +kernel)
set_option maxRecDepth 20000 in
theorem gX2_readNested_X2_readSum : GoodIn wsX2_readNested (wsV RX2 77 RX2 yX2_readSum wsX2_readSum) := goodIn_app (goodIn_of _ (by decide +kernel)) ggX2_readNested_X2_readSum
set_option maxRecDepth 20000 in
theorem ggX2_readNested_X2_expect : GoodIn wsX2_readNested wsX2_expect := goodIn_r _ [16, 1, 3, 4, 5, 6, 7, 8, 9, 17, 18, 19, 20, 21, 75, 76, 77, 78, 79, 80, 81, 82] (by decide +kernel) (by decide +kernel)
set_option maxRecDepth 20000 in
theorem gX2_readNested_X2_expect : GoodIn wsX2_readNested (wsV RX2 45 RX2 yX2_expect wsX2_expect) := goodIn_app (goodIn_of _ (by decide +kernel)) ggX2_readNested_X2_expect
set_option maxRecDepth 20000 in
theorem ggX2_readNested_X2_readFactor : GoodIn wsX2_readNested wsX2_readFactor := goodIn_r _ [45, 1, 2, 46, 47, 3, 4, 5, 6, 7, 8, 9, 48, 49, 50, 41, 26, 42, 43, 30, 36, 29, 44, 51, 52, 53, 17, 18, 19, 20, 21, 54, 55, 56, 57, 58, 59, 60, 0, 10, 11, 12, 13, 14, 15, 16, 22, 23, 24, 25, 27, 28, 31, 32, 33, 34, 35, 37, 38, 39, 40, 61, 62, 63, 64, 65, 66, 67, 68, 69, 70, 71, 72, 73, 74, 75, 76, 77, 78, 79, 80, 81, 82, 83, 84, 85, 86, 87, 88] (by decide +kernel) (by decide +kernel)
set_option maxRecDepth 20000 in
theorem gX2_readNested_X2_readFactor : GoodIn wsX2_readNested (wsV RX2 114 RX2 yX2_readFactor wsX2_readFactor) := goodIn_app (goodIn_of _ (by decide +kernel)) ggX2_readNested_X2_readFactor
set_option maxRecDepth 20000 in
theorem ggX2_readNested_X0_addOfOne : GoodIn wsX2_readNested wsX0_addOfOne := goodIn_r _ [28, 29, 30, 31, 32, 33, 34, 26, 35, 36, 37, 38, 39, 40, 41, 42, 43, 44, 83, 84, 85, 86, 87, 88] (by decide +kernel) (by decide +kernel)
set_option maxRecDepth 20000 in
theorem gX2_readNested_X0_addOfOne_n119 : GoodIn wsX2_readNested (wsX0_addOfOne) := ggX2_readNested_X0_addOfOne
set_option maxRecDepth 20000 in
theorem ggX2_readNested_X0_add : GoodIn wsX2_readNested wsX0_add := goodIn_r _ [43, 30, 36, 29, 44, 83, 84, 85, 86, 87, 88] (by decide +kernel) (by decide +kernel)
set_option maxRecDepth 20000 in
theorem gX2_readNested_X0_add_n80 : GoodIn wsX2_readNested (wsX0_add) := ggX2_readNested_X0_add
theorem dX2_readNested_0 : decode cX2_readNested 0 = .ok (.aload_n 0, 1) := by decide +kernel
theorem dX2_readNested_1 : decode cX2_readNested 1 = .ok (.invokevirtual 48, 3) := by decide +kernel
theorem dX2_readNested_4 : decode cX2_readNested 4 = .ok (.istore_n 2, 1) := by decide +kernel
theorem dX2_readNested_5 : decode cX2_readNested 5 = .ok (.aload_n 0, 1) := by decide +kernel
theorem dX2_readNested_6 : decode cX2_readNested 6 = .ok (.dup, 1) := by decide +kernel
theorem dX2_readNested_7 : decode cX2_readNested 7 = .ok (.getfield 29, 3) := by decide +kernel
theorem dX2_readNested_10 : decode cX2_readNested 10 = .ok (.iconst 1, 1) := by decide +kernel
theorem dX2_readNested_11 : decode cX2_readNested 11 = .ok (.iadd, 1) := by decide +kernel
theorem dX2_readNested_12 : decode cX2_readNested 12 = .ok (.putfield 29, 3) := by decide +kernel
theorem dX2_readNested_15 : decode cX2_readNested 15 = .ok (.iload_n 2, 1) := by decide +kernel
theorem dX2_readNested_16 : decode cX2_readNested 16 = .ok (.bipush 40, 2) := by decide +kernel
theorem dX2_readNested_18 : decode cX2_readNested 18 = .ok (.if_icmp .ne 26, 3) := by decide +kernel
theorem dX2_readNested_21 : decode cX2_readNested 21 = .ok (.aload_n 0, 1) := by decide +kernel
theorem dX2_readNested_22 : decode cX2_readNested 22 = .ok (.iload_n 1, 1) := by decide +kernel
theorem dX2_readNested_23 : decode cX2_readNested 23 = .ok (.invokevirtual 77, 3) := by decide +kernel
theorem dX2_readNested_26 : decode cX2_readNested 26 = .ok (.ifCond .eq 16, 3) := by decide +kernel
theorem dX2_readNested_29 : decode cX2_readNested 29 = .ok (.aload_n 0, 1) := by decide +kernel
theorem dX2_readNested_30 : decode cX2_readNested 30 = .ok (.bipush 41, 2) := by decide +kernel
theorem dX2_readNested_32 : decode cX2_readNested 32 = .ok (.invokevirtual 45, 3) := by decide +kernel
theorem dX2_readNested_35 : decode cX2_readNested 35 = .ok (.ifCond .eq 7, 3) := by decide +kernel
theorem dX2_readNested_38 : decode cX2_readNested 38 = .ok (.iconst 1, 1) := by decide +kernel
theorem dX2_readNested_39 : decode cX2_readNested 39 = .ok (.goto 4, 3) := by decide +kernel
theorem dX2_readNested_42 : decode cX2_readNested 42 = .ok (.iconst 0, 1) := by decide +kernel
theorem dX2_readNested_43 : decode cX2_readNested 43 = .ok (.ireturn, 1) := by decide +kernel
theorem dX2_readNested_44 : decode cX2_readNested 44 = .ok (.iload_n 2, 1) := by decide +kernel
theorem dX2_readNested_45 : decode cX2_readNested 45 = .ok (.bipush 126, 2) := by decide +kernel
theorem dX2_readNested_47 : decode cX2_readNested 47 = .ok (.if_icmp .ne 24, 3) := by decide +kernel
theorem dX2_readNested_50 : decode cX2_readNested 50 = .ok (.aload_n 0, 1) := by decide +kernel
theorem dX2_readNested_51 : decode cX2_readNested 51 = .ok (.iload_n 1, 1) := by decide +kernel
theorem dX2_readNested_52 : decode cX2_readNested 52 = .ok (.invokevirtual 114, 3) := by decide +kernel
theorem dX2_readNested_55 : decode cX2_readNested 55 = .ok (.ifCond .ne 5, 3) := by decide +kernel
theorem dX2_readNested_58 : decode cX2_readNested 58 = .ok (.iconst 0, 1) := by decide +kernel
theorem dX2_readNested_59 : decode cX2_readNested 59 = .ok (.ireturn, 1) := by decide +kernel
theorem dX2_readNested_60 : decode cX2_readNested 60 = .ok (.aload_n 0, 1) := by decide +kernel
theorem dX2_readNested_61 : decode cX2_readNested 61 = .ok (.getfield 18, 3) := by decide +kernel
theorem dX2_readNested_64 : decode cX2_readNested 64 = .ok (.iload_n 2, 1) := by decide +kernel
theorem dX2_readNested_65 : decode cX2_readNested 65 = .ok (.iconst 0, 1) := by decide +kernel
theorem dX2_readNested_66 : decode cX2_readNested 66 = .ok (.invokevirtual 119, 3) := by decide +kernel
theorem dX2_readNested_69 : decode cX2_readNested 69 = .ok (.iconst 1, 1) := by decide +kernel
theorem dX2_readNested_70 : decode cX2_readNested 70 = .ok (.ireturn, 1) := by decide +kernel
theorem dX2_readNested_71 : decode cX2_readNested 71 = .ok (.aload_n 0, 1) := by decide +kernel
theorem dX2_readNested_72 : decode cX2_readNested 72 = .ok (.bipush 91, 2) := by decide +kernel
theorem dX2_readNested_74 : decode cX2_readNested 74 = .ok (.invokevirtual 45, 3) := by decide +kernel
theorem dX2_readNested_77 : decode cX2_readNested 77 = .ok (.ifCond .eq 20, 3) := by decide +kernel
theorem dX2_readNested_80 : decode cX2_readNested 80 = .ok (.aload_n 0, 1) := by decide +kernel
theorem dX2_readNested_81 : decode cX2_readNested 81 = .ok (.iload_n 1, 1) := by decide +kernel
theorem dX2_readNested_82 : decode cX2_readNested 82 = .ok (.invokevirtual 77, 3) := by decide +kernel
theorem dX2_readNested_85 : decode cX2_readNested 85 = .ok (.ifCond .eq 12, 3) := by decide +kernel
theorem dX2_readNested_88 : decode cX2_readNested 88 = .ok (.aload_n 0, 1) := by decide +kernel
theorem dX2_readNested_89 : decode cX2_readNested 89 = .ok (.bipush 93, 2) := by decide +kernel
theorem dX2_readNested_91 : decode cX2_readNested 91 = .ok (.invokevirtual 45, 3) := by decide +kernel
theorem dX2_readNested_94 : decode cX2_readNested 94 = .ok (.ifCond .ne 5, 3) := by decide +kernel
theorem dX2_readNested_97 : decode cX2_readNested 97 = .ok (.iconst 0, 1) := by decide +kernel
theorem dX2_readNested_98 : decode cX2_readNested 98 = .ok (.ireturn, 1) := by decide +kernel
theorem dX2_readNested_99 : decode cX2_readNested 99 = .ok (.aload_n 0, 1) := by decide +kernel
theorem dX2_readNested_100 : decode cX2_readNested 100 = .ok (.getfield 18, 3) := by decide +kernel
theorem dX2_readNested_103 : decode cX2_readNested 103 = .ok (.iconst 3, 1) := by decide +kernel
theorem dX2_readNested_104 : decode cX2_readNested 104 = .ok (.iconst 0, 1) := by decide +kernel
theorem dX2_readNested_105 : decode cX2_readNested 105 = .ok (.iconst 0, 1) := by decide +kernel
theorem dX2_readNested_106 : decode cX2_readNested 106 = .ok (.invokevirtual 80, 3) := by decide +kernel
theorem dX2_readNested_109 : decode cX2_readNested 109 = .ok (.iconst 1, 1) := by decide +kernel
theorem dX2_readNested_110 : decode cX2_readNested 110 = .ok (.ireturn, 1) := by decide +kernel
set_option maxRecDepth 20000 in
theorem ggX2_readNumber_X2_here : GoodIn wsX2_readNumber wsX2_here := goodIn_r _ [7, 1, 8, 9, 18, 19, 20, 21, 22, 23, 24, 25] (by decide +kernel) (by decide +kernel)
set_option maxRecDepth 20000 in
theorem gX2_readNumber_X2_here : GoodIn wsX2_readNumber (wsV RX2 48 RX2 yX2_here wsX2_here) := goodIn_app (goodIn_of _ (by decide +kernel)) ggX2_readNumber_X2_here
set_option maxRecDepth 20000 in
theorem ggX2_readNumber_X2_digitOf : GoodIn wsX2_readNumber wsX2_digitOf := goodIn_r _ [12] (by decide +kernel) (by decide +kernel)
set_option maxRecDepth 20000 in
theorem gX2_readNumber_X2_digitOf : GoodIn wsX2_readNumber (va_wsS RX2 131 yX2_digitOf wsX2_digitOf) := goodIn_app (goodIn_of _ (by decide +kernel)) ggX2_readNumber_X2_digitOf
set_option maxRecDepth 20000 in
theorem ggX2_readNumber_X2_refuse : GoodIn wsX2_readNumber wsX2_refuse := goodIn_r _ [16, 17, 18, 19, 20, 21, 22, 23, 24, 25] (by decide +kernel) (by decide +kernel)
set_option maxRecDepth 20000 in
theorem gX2_readNumber_X2_refuse : GoodIn wsX2_readNumber (wsV RX2 52 RX2 yX2_refuse wsX2_refuse) := goodIn_app (goodIn_of _ (by decide +kernel)) ggX2_readNumber_X2_refuse
theorem dX2_readNumber_0 : decode cX2_readNumber 0 = .ok (.aload_n 0, 1) := by decide +kernel
theorem dX2_readNumber_1 : decode cX2_readNumber 1 = .ok (.getfield 29, 3) := by decide +kernel
theorem dX2_readNumber_4 : decode cX2_readNumber 4 = .ok (.istore 5, 2) := by decide +kernel
theorem dX2_readNumber_6 : decode cX2_readNumber 6 = .ok (.aload_n 0, 1) := by decide +kernel
theorem dX2_readNumber_7 : decode cX2_readNumber 7 = .ok (.invokevirtual 48, 3) := by decide +kernel
theorem dX2_readNumber_10 : decode cX2_readNumber 10 = .ok (.bipush 36, 2) := by decide +kernel
theorem dX2_readNumber_12 : decode cX2_readNumber 12 = .ok (.if_icmp .ne 7, 3) := by decide +kernel
theorem dX2_readNumber_15 : decode cX2_readNumber 15 = .ok (.iconst 1, 1) := by decide +kernel
theorem dX2_readNumber_16 : decode cX2_readNumber 16 = .ok (.goto 4, 3) := by decide +kernel
theorem dX2_readNumber_19 : decode cX2_readNumber 19 = .ok (.iconst 0, 1) := by decide +kernel
theorem dX2_readNumber_20 : decode cX2_readNumber 20 = .ok (.istore 6, 2) := by decide +kernel
theorem dX2_readNumber_22 : decode cX2_readNumber 22 = .ok (.iload 6, 2) := by decide +kernel
theorem dX2_readNumber_24 : decode cX2_readNumber 24 = .ok (.ifCond .eq 13, 3) := by decide +kernel
theorem dX2_readNumber_27 : decode cX2_readNumber 27 = .ok (.aload_n 0, 1) := by decide +kernel
theorem dX2_readNumber_28 : decode cX2_readNumber 28 = .ok (.dup, 1) := by decide +kernel
theorem dX2_readNumber_29 : decode cX2_readNumber 29 = .ok (.getfield 29, 3) := by decide +kernel
theorem dX2_readNumber_32 : decode cX2_readNumber 32 = .ok (.iconst 1, 1) := by decide +kernel
theorem dX2_readNumber_33 : decode cX2_readNumber 33 = .ok (.iadd, 1) := by decide +kernel
theorem dX2_readNumber_34 : decode cX2_readNumber 34 = .ok (.putfield 29, 3) := by decide +kernel
theorem dX2_readNumber_37 : decode cX2_readNumber 37 = .ok (.iload 6, 2) := by decide +kernel
theorem dX2_readNumber_39 : decode cX2_readNumber 39 = .ok (.ifCond .eq 8, 3) := by decide +kernel
theorem dX2_readNumber_42 : decode cX2_readNumber 42 = .ok (.bipush 16, 2) := by decide +kernel
theorem dX2_readNumber_44 : decode cX2_readNumber 44 = .ok (.goto 5, 3) := by decide +kernel
theorem dX2_readNumber_47 : decode cX2_readNumber 47 = .ok (.bipush 10, 2) := by decide +kernel
theorem dX2_readNumber_49 : decode cX2_readNumber 49 = .ok (.istore 7, 2) := by decide +kernel
theorem dX2_readNumber_51 : decode cX2_readNumber 51 = .ok (.iload 6, 2) := by decide +kernel
theorem dX2_readNumber_53 : decode cX2_readNumber 53 = .ok (.ifCond .eq 8, 3) := by decide +kernel
theorem dX2_readNumber_56 : decode cX2_readNumber 56 = .ok (.bipush 8, 2) := by decide +kernel
theorem dX2_readNumber_58 : decode cX2_readNumber 58 = .ok (.goto 5, 3) := by decide +kernel
theorem dX2_readNumber_61 : decode cX2_readNumber 61 = .ok (.bipush 10, 2) := by decide +kernel
theorem dX2_readNumber_63 : decode cX2_readNumber 63 = .ok (.istore 8, 2) := by decide +kernel
theorem dX2_readNumber_65 : decode cX2_readNumber 65 = .ok (.iconst 0, 1) := by decide +kernel
theorem dX2_readNumber_66 : decode cX2_readNumber 66 = .ok (.istore 9, 2) := by decide +kernel
theorem dX2_readNumber_68 : decode cX2_readNumber 68 = .ok (.aload_n 0, 1) := by decide +kernel
theorem dX2_readNumber_69 : decode cX2_readNumber 69 = .ok (.lconst 0, 1) := by decide +kernel
theorem dX2_readNumber_70 : decode cX2_readNumber 70 = .ok (.putfield 90, 3) := by decide +kernel
theorem dX2_readNumber_73 : decode cX2_readNumber 73 = .ok (.iload 9, 2) := by decide +kernel
theorem dX2_readNumber_75 : decode cX2_readNumber 75 = .ok (.sipush 480, 3) := by decide +kernel
theorem dX2_readNumber_78 : decode cX2_readNumber 78 = .ok (.if_icmp .ge 61, 3) := by decide +kernel
theorem dX2_readNumber_81 : decode cX2_readNumber 81 = .ok (.aload_n 0, 1) := by decide +kernel
theorem dX2_readNumber_82 : decode cX2_readNumber 82 = .ok (.invokevirtual 48, 3) := by decide +kernel
theorem dX2_readNumber_85 : decode cX2_readNumber 85 = .ok (.iload 7, 2) := by decide +kernel
theorem dX2_readNumber_87 : decode cX2_readNumber 87 = .ok (.invokestatic 131, 3) := by decide +kernel
theorem dX2_readNumber_90 : decode cX2_readNumber 90 = .ok (.ifCond .lt 49, 3) := by decide +kernel
theorem dX2_readNumber_93 : decode cX2_readNumber 93 = .ok (.iload 9, 2) := by decide +kernel
theorem dX2_readNumber_95 : decode cX2_readNumber 95 = .ok (.iload 8, 2) := by decide +kernel
theorem dX2_readNumber_97 : decode cX2_readNumber 97 = .ok (.if_icmp .ge 26, 3) := by decide +kernel
theorem dX2_readNumber_100 : decode cX2_readNumber 100 = .ok (.aload_n 0, 1) := by decide +kernel
theorem dX2_readNumber_101 : decode cX2_readNumber 101 = .ok (.aload_n 0, 1) := by decide +kernel
theorem dX2_readNumber_102 : decode cX2_readNumber 102 = .ok (.getfield 90, 3) := by decide +kernel
theorem dX2_readNumber_105 : decode cX2_readNumber 105 = .ok (.iload 7, 2) := by decide +kernel
theorem dX2_readNumber_107 : decode cX2_readNumber 107 = .ok (.i2l, 1) := by decide +kernel
theorem dX2_readNumber_108 : decode cX2_readNumber 108 = .ok (.lmul, 1) := by decide +kernel
theorem dX2_readNumber_109 : decode cX2_readNumber 109 = .ok (.aload_n 0, 1) := by decide +kernel
theorem dX2_readNumber_110 : decode cX2_readNumber 110 = .ok (.invokevirtual 48, 3) := by decide +kernel
theorem dX2_readNumber_113 : decode cX2_readNumber 113 = .ok (.iload 7, 2) := by decide +kernel
theorem dX2_readNumber_115 : decode cX2_readNumber 115 = .ok (.invokestatic 131, 3) := by decide +kernel
theorem dX2_readNumber_118 : decode cX2_readNumber 118 = .ok (.i2l, 1) := by decide +kernel
theorem dX2_readNumber_119 : decode cX2_readNumber 119 = .ok (.ladd, 1) := by decide +kernel
theorem dX2_readNumber_120 : decode cX2_readNumber 120 = .ok (.putfield 90, 3) := by decide +kernel
theorem dX2_readNumber_123 : decode cX2_readNumber 123 = .ok (.iinc 9 1, 3) := by decide +kernel
theorem dX2_readNumber_126 : decode cX2_readNumber 126 = .ok (.aload_n 0, 1) := by decide +kernel
theorem dX2_readNumber_127 : decode cX2_readNumber 127 = .ok (.dup, 1) := by decide +kernel
theorem dX2_readNumber_128 : decode cX2_readNumber 128 = .ok (.getfield 29, 3) := by decide +kernel
theorem dX2_readNumber_131 : decode cX2_readNumber 131 = .ok (.iconst 1, 1) := by decide +kernel
theorem dX2_readNumber_132 : decode cX2_readNumber 132 = .ok (.iadd, 1) := by decide +kernel
theorem dX2_readNumber_133 : decode cX2_readNumber 133 = .ok (.putfield 29, 3) := by decide +kernel
theorem dX2_readNumber_136 : decode cX2_readNumber 136 = .ok (.goto (-63), 3) := by decide +kernel
theorem dX2_readNumber_139 : decode cX2_readNumber 139 = .ok (.iload 9, 2) := by decide +kernel
theorem dX2_readNumber_141 : decode cX2_readNumber 141 = .ok (.ifCond .ne 12, 3) := by decide +kernel
theorem dX2_readNumber_144 : decode cX2_readNumber 144 = .ok (.aload_n 0, 1) := by decide +kernel
theorem dX2_readNumber_145 : decode cX2_readNumber 145 = .ok (.aload_n 0, 1) := by decide +kernel
theorem dX2_readNumber_146 : decode cX2_readNumber 146 = .ok (.getfield 29, 3) := by decide +kernel
theorem dX2_readNumber_149 : decode cX2_readNumber 149 = .ok (.invokevirtual 52, 3) := by decide +kernel
theorem dX2_readNumber_152 : decode cX2_readNumber 152 = .ok (.ireturn, 1) := by decide +kernel
theorem dX2_readNumber_153 : decode cX2_readNumber 153 = .ok (.iload 9, 2) := by decide +kernel
theorem dX2_readNumber_155 : decode cX2_readNumber 155 = .ok (.iload 8, 2) := by decide +kernel
theorem dX2_readNumber_157 : decode cX2_readNumber 157 = .ok (.if_icmp .gt 21, 3) := by decide +kernel
theorem dX2_readNumber_160 : decode cX2_readNumber 160 = .ok (.aload_n 0, 1) := by decide +kernel
theorem dX2_readNumber_161 : decode cX2_readNumber 161 = .ok (.getfield 90, 3) := by decide +kernel
theorem dX2_readNumber_164 : decode cX2_readNumber 164 = .ok (.lload_n 1, 1) := by decide +kernel
theorem dX2_readNumber_165 : decode cX2_readNumber 165 = .ok (.lcmp, 1) := by decide +kernel
theorem dX2_readNumber_166 : decode cX2_readNumber 166 = .ok (.ifCond .lt 12, 3) := by decide +kernel
theorem dX2_readNumber_169 : decode cX2_readNumber 169 = .ok (.aload_n 0, 1) := by decide +kernel
theorem dX2_readNumber_170 : decode cX2_readNumber 170 = .ok (.getfield 90, 3) := by decide +kernel
theorem dX2_readNumber_173 : decode cX2_readNumber 173 = .ok (.lload_n 3, 1) := by decide +kernel
theorem dX2_readNumber_174 : decode cX2_readNumber 174 = .ok (.lcmp, 1) := by decide +kernel
theorem dX2_readNumber_175 : decode cX2_readNumber 175 = .ok (.ifCond .le 10, 3) := by decide +kernel
theorem dX2_readNumber_178 : decode cX2_readNumber 178 = .ok (.aload_n 0, 1) := by decide +kernel
theorem dX2_readNumber_179 : decode cX2_readNumber 179 = .ok (.iload 5, 2) := by decide +kernel
theorem dX2_readNumber_181 : decode cX2_readNumber 181 = .ok (.invokevirtual 52, 3) := by decide +kernel
theorem dX2_readNumber_184 : decode cX2_readNumber 184 = .ok (.ireturn, 1) := by decide +kernel
theorem dX2_readNumber_185 : decode cX2_readNumber 185 = .ok (.iconst 1, 1) := by decide +kernel
theorem dX2_readNumber_186 : decode cX2_readNumber 186 = .ok (.ireturn, 1) := by decide +kernel
set_option maxRecDepth 20000 in
theorem ggX2_freeName_X2_here : GoodIn wsX2_freeName wsX2_here := goodIn_r _ [6, 7, 8, 9, 13, 14, 15, 16, 17, 18, 19, 20] (by decide +kernel) (by decide +kernel)
set_option maxRecDepth 20000 in
theorem gX2_freeName_X2_here : GoodIn wsX2_freeName (wsV RX2 48 RX2 yX2_here wsX2_here) := goodIn_app (goodIn_of _ (by decide +kernel)) ggX2_freeName_X2_here
set_option maxRecDepth 20000 in
theorem ggX2_freeName_X2_nameOf : GoodIn wsX2_freeName wsX2_nameOf := goodIn_r _ [12] (by decide +kernel) (by decide +kernel)
set_option maxRecDepth 20000 in
theorem gX2_freeName_X2_nameOf : GoodIn wsX2_freeName (va_wsS RX2 122 yX2_nameOf wsX2_nameOf) := goodIn_app (goodIn_of _ (by decide +kernel)) ggX2_freeName_X2_nameOf
theorem dX2_freeName_0 : decode cX2_freeName 0 = .ok (.aload_n 0, 1) := by decide +kernel
theorem dX2_freeName_1 : decode cX2_freeName 1 = .ok (.invokevirtual 48, 3) := by decide +kernel
theorem dX2_freeName_4 : decode cX2_freeName 4 = .ok (.invokestatic 122, 3) := by decide +kernel
theorem dX2_freeName_7 : decode cX2_freeName 7 = .ok (.istore_n 1, 1) := by decide +kernel
theorem dX2_freeName_8 : decode cX2_freeName 8 = .ok (.iload_n 1, 1) := by decide +kernel
theorem dX2_freeName_9 : decode cX2_freeName 9 = .ok (.ifCond .lt 18, 3) := by decide +kernel
theorem dX2_freeName_12 : decode cX2_freeName 12 = .ok (.aload_n 0, 1) := by decide +kernel
theorem dX2_freeName_13 : decode cX2_freeName 13 = .ok (.getfield 35, 3) := by decide +kernel
theorem dX2_freeName_16 : decode cX2_freeName 16 = .ok (.iload_n 1, 1) := by decide +kernel
theorem dX2_freeName_17 : decode cX2_freeName 17 = .ok (.ishr, 1) := by decide +kernel
theorem dX2_freeName_18 : decode cX2_freeName 18 = .ok (.iconst 1, 1) := by decide +kernel
theorem dX2_freeName_19 : decode cX2_freeName 19 = .ok (.iand, 1) := by decide +kernel
theorem dX2_freeName_20 : decode cX2_freeName 20 = .ok (.ifCond .ne 7, 3) := by decide +kernel
theorem dX2_freeName_23 : decode cX2_freeName 23 = .ok (.iload_n 1, 1) := by decide +kernel
theorem dX2_freeName_24 : decode cX2_freeName 24 = .ok (.goto 4, 3) := by decide +kernel
theorem dX2_freeName_27 : decode cX2_freeName 27 = .ok (.iconst (-1), 1) := by decide +kernel
theorem dX2_freeName_28 : decode cX2_freeName 28 = .ok (.ireturn, 1) := by decide +kernel
theorem dX2_nameOf_0 : decode cX2_nameOf 0 = .ok (.iload_n 0, 1) := by decide +kernel
theorem dX2_nameOf_1 : decode cX2_nameOf 1 = .ok (.bipush 97, 2) := by decide +kernel
theorem dX2_nameOf_3 : decode cX2_nameOf 3 = .ok (.if_icmp .lt 16, 3) := by decide +kernel
theorem dX2_nameOf_6 : decode cX2_nameOf 6 = .ok (.iload_n 0, 1) := by decide +kernel
theorem dX2_nameOf_7 : decode cX2_nameOf 7 = .ok (.bipush 122, 2) := by decide +kernel
theorem dX2_nameOf_9 : decode cX2_nameOf 9 = .ok (.if_icmp .gt 10, 3) := by decide +kernel
theorem dX2_nameOf_12 : decode cX2_nameOf 12 = .ok (.iload_n 0, 1) := by decide +kernel
theorem dX2_nameOf_13 : decode cX2_nameOf 13 = .ok (.bipush 97, 2) := by decide +kernel
theorem dX2_nameOf_15 : decode cX2_nameOf 15 = .ok (.isub, 1) := by decide +kernel
theorem dX2_nameOf_16 : decode cX2_nameOf 16 = .ok (.goto 4, 3) := by decide +kernel
theorem dX2_nameOf_19 : decode cX2_nameOf 19 = .ok (.iconst (-1), 1) := by decide +kernel
theorem dX2_nameOf_20 : decode cX2_nameOf 20 = .ok (.ireturn, 1) := by decide +kernel
theorem dX2_digitOf_0 : decode cX2_digitOf 0 = .ok (.iload_n 0, 1) := by decide +kernel
theorem dX2_digitOf_1 : decode cX2_digitOf 1 = .ok (.bipush 48, 2) := by decide +kernel
theorem dX2_digitOf_3 : decode cX2_digitOf 3 = .ok (.if_icmp .lt 14, 3) := by decide +kernel
theorem dX2_digitOf_6 : decode cX2_digitOf 6 = .ok (.iload_n 0, 1) := by decide +kernel
theorem dX2_digitOf_7 : decode cX2_digitOf 7 = .ok (.bipush 57, 2) := by decide +kernel
theorem dX2_digitOf_9 : decode cX2_digitOf 9 = .ok (.if_icmp .gt 8, 3) := by decide +kernel
theorem dX2_digitOf_12 : decode cX2_digitOf 12 = .ok (.iload_n 0, 1) := by decide +kernel
theorem dX2_digitOf_13 : decode cX2_digitOf 13 = .ok (.bipush 48, 2) := by decide +kernel
theorem dX2_digitOf_15 : decode cX2_digitOf 15 = .ok (.isub, 1) := by decide +kernel
theorem dX2_digitOf_16 : decode cX2_digitOf 16 = .ok (.ireturn, 1) := by decide +kernel
theorem dX2_digitOf_17 : decode cX2_digitOf 17 = .ok (.iload_n 1, 1) := by decide +kernel
theorem dX2_digitOf_18 : decode cX2_digitOf 18 = .ok (.bipush 16, 2) := by decide +kernel
theorem dX2_digitOf_20 : decode cX2_digitOf 20 = .ok (.if_icmp .ne 25, 3) := by decide +kernel
theorem dX2_digitOf_23 : decode cX2_digitOf 23 = .ok (.iload_n 0, 1) := by decide +kernel
theorem dX2_digitOf_24 : decode cX2_digitOf 24 = .ok (.bipush 97, 2) := by decide +kernel
theorem dX2_digitOf_26 : decode cX2_digitOf 26 = .ok (.if_icmp .lt 19, 3) := by decide +kernel
theorem dX2_digitOf_29 : decode cX2_digitOf 29 = .ok (.iload_n 0, 1) := by decide +kernel
theorem dX2_digitOf_30 : decode cX2_digitOf 30 = .ok (.bipush 102, 2) := by decide +kernel
theorem dX2_digitOf_32 : decode cX2_digitOf 32 = .ok (.if_icmp .gt 13, 3) := by decide +kernel
theorem dX2_digitOf_35 : decode cX2_digitOf 35 = .ok (.iload_n 0, 1) := by decide +kernel
theorem dX2_digitOf_36 : decode cX2_digitOf 36 = .ok (.bipush 97, 2) := by decide +kernel
theorem dX2_digitOf_38 : decode cX2_digitOf 38 = .ok (.isub, 1) := by decide +kernel
theorem dX2_digitOf_39 : decode cX2_digitOf 39 = .ok (.bipush 10, 2) := by decide +kernel
theorem dX2_digitOf_41 : decode cX2_digitOf 41 = .ok (.iadd, 1) := by decide +kernel
theorem dX2_digitOf_42 : decode cX2_digitOf 42 = .ok (.goto 4, 3) := by decide +kernel
theorem dX2_digitOf_45 : decode cX2_digitOf 45 = .ok (.iconst (-1), 1) := by decide +kernel
theorem dX2_digitOf_46 : decode cX2_digitOf 46 = .ok (.ireturn, 1) := by decide +kernel
theorem dX2_isOperator_0 : decode cX2_isOperator 0 = .ok (.iload_n 0, 1) := by decide +kernel
theorem dX2_isOperator_1 : decode cX2_isOperator 1 = .ok (.lookupswitch 61 #[(38, 59), (42, 59), (43, 59), (45, 59), (94, 59), (124, 59)], 59) := by decide +kernel
theorem dX2_isOperator_60 : decode cX2_isOperator 60 = .ok (.iconst 1, 1) := by decide +kernel
theorem dX2_isOperator_61 : decode cX2_isOperator 61 = .ok (.ireturn, 1) := by decide +kernel
theorem dX2_isOperator_62 : decode cX2_isOperator 62 = .ok (.iconst 0, 1) := by decide +kernel
theorem dX2_isOperator_63 : decode cX2_isOperator 63 = .ok (.ireturn, 1) := by decide +kernel
set_option maxRecDepth 20000 in
theorem ggX3_init_X2_init : GoodIn wsX3_init wsX2_init := goodIn_r _ [18, 19, 2, 3, 20, 21, 22, 13, 14, 23, 24, 25, 26, 27, 28, 29, 30, 39, 40, 41, 42, 43, 44, 45, 46, 59, 60, 61, 62, 63, 64] (by decide +kernel) (by decide +kernel)
set_option maxRecDepth 20000 in
theorem gX3_init_X2_init_n9 : GoodIn wsX3_init (wsX2_init) := ggX3_init_X2_init
set_option maxRecDepth 20000 in
theorem ggX3_init_X1_init : GoodIn wsX3_init wsX1_init := goodIn_r _ [32, 33, 2, 3, 27, 34, 35, 36, 37, 38, 51, 52, 53, 54, 55, 56, 57, 58] (by decide +kernel) (by decide +kernel)
set_option maxRecDepth 20000 in
theorem gX3_init_X1_init_n18 : GoodIn wsX3_init (wsX1_init) := ggX3_init_X1_init
set_option maxRecDepth 20000 in
theorem ggX3_init_X0_init : GoodIn wsX3_init wsX0_init := goodIn_r _ [25, 26, 2, 3, 27, 28, 29, 30, 59, 60, 61, 62, 63, 64] (by decide +kernel) (by decide +kernel)
set_option maxRecDepth 20000 in
theorem gX3_init_X0_init_n25 : GoodIn wsX3_init (wsX0_init) := ggX3_init_X0_init
theorem dX3_init_0 : decode cX3_init 0 = .ok (.aload_n 0, 1) := by decide +kernel
theorem dX3_init_1 : decode cX3_init 1 = .ok (.invokespecial 1, 3) := by decide +kernel
theorem dX3_init_4 : decode cX3_init 4 = .ok (.aload_n 0, 1) := by decide +kernel
theorem dX3_init_5 : decode cX3_init 5 = .ok (.new 7, 3) := by decide +kernel
theorem dX3_init_8 : decode cX3_init 8 = .ok (.dup, 1) := by decide +kernel
theorem dX3_init_9 : decode cX3_init 9 = .ok (.invokespecial 9, 3) := by decide +kernel
theorem dX3_init_12 : decode cX3_init 12 = .ok (.putfield 10, 3) := by decide +kernel
theorem dX3_init_15 : decode cX3_init 15 = .ok (.aload_n 0, 1) := by decide +kernel
theorem dX3_init_16 : decode cX3_init 16 = .ok (.new 16, 3) := by decide +kernel
theorem dX3_init_19 : decode cX3_init 19 = .ok (.dup, 1) := by decide +kernel
theorem dX3_init_20 : decode cX3_init 20 = .ok (.invokespecial 18, 3) := by decide +kernel
theorem dX3_init_23 : decode cX3_init 23 = .ok (.putfield 19, 3) := by decide +kernel
theorem dX3_init_26 : decode cX3_init 26 = .ok (.aload_n 0, 1) := by decide +kernel
theorem dX3_init_27 : decode cX3_init 27 = .ok (.new 23, 3) := by decide +kernel
theorem dX3_init_30 : decode cX3_init 30 = .ok (.dup, 1) := by decide +kernel
theorem dX3_init_31 : decode cX3_init 31 = .ok (.invokespecial 25, 3) := by decide +kernel
theorem dX3_init_34 : decode cX3_init 34 = .ok (.putfield 26, 3) := by decide +kernel
theorem dX3_init_37 : decode cX3_init 37 = .ok (.aload_n 0, 1) := by decide +kernel
theorem dX3_init_38 : decode cX3_init 38 = .ok (.iconst 0, 1) := by decide +kernel
theorem dX3_init_39 : decode cX3_init 39 = .ok (.putfield 30, 3) := by decide +kernel
theorem dX3_init_42 : decode cX3_init 42 = .ok (.return_, 1) := by decide +kernel
set_option maxRecDepth 20000 in
theorem ggX3_write_X3_byteOf : GoodIn wsX3_write wsX3_byteOf := goodIn_r _ [5] (by decide +kernel) (by decide +kernel)
set_option maxRecDepth 20000 in
theorem gX3_write_X3_byteOf : GoodIn wsX3_write (va_wsS RX3 34 yX3_byteOf wsX3_byteOf) := goodIn_app (goodIn_of _ (by decide +kernel)) ggX3_write_X3_byteOf
set_option maxRecDepth 20000 in
theorem ggX3_write_X2_append : GoodIn wsX3_write wsX2_append := goodIn_r _ [9, 10, 11, 16, 17, 18, 19, 20, 21, 22, 23] (by decide +kernel) (by decide +kernel)
set_option maxRecDepth 20000 in
theorem gX3_write_X2_append_n42 : GoodIn wsX3_write (wsX2_append) := ggX3_write_X2_append
theorem dX3_write_0 : decode cX3_write 0 = .ok (.iconst 0, 1) := by decide +kernel
theorem dX3_write_1 : decode cX3_write 1 = .ok (.istore_n 3, 1) := by decide +kernel
theorem dX3_write_2 : decode cX3_write 2 = .ok (.iconst 0, 1) := by decide +kernel
theorem dX3_write_3 : decode cX3_write 3 = .ok (.istore 4, 2) := by decide +kernel
theorem dX3_write_5 : decode cX3_write 5 = .ok (.iload 4, 2) := by decide +kernel
theorem dX3_write_7 : decode cX3_write 7 = .ok (.bipush 8, 2) := by decide +kernel
theorem dX3_write_9 : decode cX3_write 9 = .ok (.if_icmp .ge 41, 3) := by decide +kernel
theorem dX3_write_12 : decode cX3_write 12 = .ok (.lload_n 1, 1) := by decide +kernel
theorem dX3_write_13 : decode cX3_write 13 = .ok (.iload 4, 2) := by decide +kernel
theorem dX3_write_15 : decode cX3_write 15 = .ok (.invokestatic 34, 3) := by decide +kernel
theorem dX3_write_18 : decode cX3_write 18 = .ok (.istore 5, 2) := by decide +kernel
theorem dX3_write_20 : decode cX3_write 20 = .ok (.iload 5, 2) := by decide +kernel
theorem dX3_write_22 : decode cX3_write 22 = .ok (.ifCond .eq 22, 3) := by decide +kernel
theorem dX3_write_25 : decode cX3_write 25 = .ok (.iload 5, 2) := by decide +kernel
theorem dX3_write_27 : decode cX3_write 27 = .ok (.bipush 33, 2) := by decide +kernel
theorem dX3_write_29 : decode cX3_write 29 = .ok (.if_icmp .lt 10, 3) := by decide +kernel
theorem dX3_write_32 : decode cX3_write 32 = .ok (.iload 5, 2) := by decide +kernel
theorem dX3_write_34 : decode cX3_write 34 = .ok (.bipush 126, 2) := by decide +kernel
theorem dX3_write_36 : decode cX3_write 36 = .ok (.if_icmp .le 5, 3) := by decide +kernel
theorem dX3_write_39 : decode cX3_write 39 = .ok (.iconst 0, 1) := by decide +kernel
theorem dX3_write_40 : decode cX3_write 40 = .ok (.ireturn, 1) := by decide +kernel
theorem dX3_write_41 : decode cX3_write 41 = .ok (.iinc 3 1, 3) := by decide +kernel
theorem dX3_write_44 : decode cX3_write 44 = .ok (.iinc 4 1, 3) := by decide +kernel
theorem dX3_write_47 : decode cX3_write 47 = .ok (.goto (-42), 3) := by decide +kernel
theorem dX3_write_50 : decode cX3_write 50 = .ok (.iload_n 3, 1) := by decide +kernel
theorem dX3_write_51 : decode cX3_write 51 = .ok (.sipush 480, 3) := by decide +kernel
theorem dX3_write_54 : decode cX3_write 54 = .ok (.aload_n 0, 1) := by decide +kernel
theorem dX3_write_55 : decode cX3_write 55 = .ok (.getfield 10, 3) := by decide +kernel
theorem dX3_write_58 : decode cX3_write 58 = .ok (.getfield 38, 3) := by decide +kernel
theorem dX3_write_61 : decode cX3_write 61 = .ok (.isub, 1) := by decide +kernel
theorem dX3_write_62 : decode cX3_write 62 = .ok (.if_icmp .le 5, 3) := by decide +kernel
theorem dX3_write_65 : decode cX3_write 65 = .ok (.iconst 0, 1) := by decide +kernel
theorem dX3_write_66 : decode cX3_write 66 = .ok (.ireturn, 1) := by decide +kernel
theorem dX3_write_67 : decode cX3_write 67 = .ok (.iconst 0, 1) := by decide +kernel
theorem dX3_write_68 : decode cX3_write 68 = .ok (.istore 4, 2) := by decide +kernel
theorem dX3_write_70 : decode cX3_write 70 = .ok (.iload 4, 2) := by decide +kernel
theorem dX3_write_72 : decode cX3_write 72 = .ok (.bipush 8, 2) := by decide +kernel
theorem dX3_write_74 : decode cX3_write 74 = .ok (.if_icmp .ge 31, 3) := by decide +kernel
theorem dX3_write_77 : decode cX3_write 77 = .ok (.lload_n 1, 1) := by decide +kernel
end
section
theorem dX3_write_78 : decode cX3_write 78 = .ok (.iload 4, 2) := by decide +kernel
theorem dX3_write_80 : decode cX3_write 80 = .ok (.invokestatic 34, 3) := by decide +kernel
theorem dX3_write_83 : decode cX3_write 83 = .ok (.istore 5, 2) := by decide +kernel
theorem dX3_write_85 : decode cX3_write 85 = .ok (.iload 5, 2) := by decide +kernel
theorem dX3_write_87 : decode cX3_write 87 = .ok (.ifCond .eq 12, 3) := by decide +kernel
theorem dX3_write_90 : decode cX3_write 90 = .ok (.aload_n 0, 1) := by decide +kernel
theorem dX3_write_91 : decode cX3_write 91 = .ok (.getfield 10, 3) := by decide +kernel
theorem dX3_write_94 : decode cX3_write 94 = .ok (.iload 5, 2) := by decide +kernel
theorem dX3_write_96 : decode cX3_write 96 = .ok (.invokevirtual 42, 3) := by decide +kernel
theorem dX3_write_99 : decode cX3_write 99 = .ok (.iinc 4 1, 3) := by decide +kernel
theorem dX3_write_102 : decode cX3_write 102 = .ok (.goto (-32), 3) := by decide +kernel
theorem dX3_write_105 : decode cX3_write 105 = .ok (.iconst 1, 1) := by decide +kernel
theorem dX3_write_106 : decode cX3_write 106 = .ok (.ireturn, 1) := by decide +kernel
theorem dX3_wipe_0 : decode cX3_wipe 0 = .ok (.aload_n 0, 1) := by decide +kernel
theorem dX3_wipe_1 : decode cX3_wipe 1 = .ok (.getfield 10, 3) := by decide +kernel
theorem dX3_wipe_4 : decode cX3_wipe 4 = .ok (.iconst 0, 1) := by decide +kernel
theorem dX3_wipe_5 : decode cX3_wipe 5 = .ok (.putfield 38, 3) := by decide +kernel
theorem dX3_wipe_8 : decode cX3_wipe 8 = .ok (.return_, 1) := by decide +kernel
set_option maxRecDepth 20000 in
theorem ggX3_compile_X2_readText : GoodIn wsX3_compile wsX2_readText := goodIn_r _ [9, 10, 11, 12, 13, 14, 15, 16, 17, 18, 19, 20, 21, 22, 23, 24, 7, 25, 26, 27, 28, 29, 30, 31, 32, 33, 34, 35, 36, 37, 38, 39, 40, 41, 42, 43, 44, 45, 46, 47, 48, 49, 50, 51, 52, 53, 54, 55, 56, 57, 58, 59, 60, 61, 62, 63, 64, 65, 66, 67, 68, 69, 70, 71, 72, 73, 74, 75, 76, 77, 78, 79, 80, 81, 82, 83, 84, 85, 86, 87, 88, 89, 90, 91, 92, 93, 94, 95, 96, 97, 98, 99, 100, 101, 102, 103, 104, 105, 106, 107, 108, 109, 110, 111, 112, 113, 114, 115, 116, 117, 118, 119, 120, 121, 122, 123, 124, 125, 139, 140, 141, 142, 143, 144, 145, 146, 133, 134, 135, 136, 137, 138] (by decide +kernel) (by decide +kernel)
set_option maxRecDepth 20000 in
theorem gX3_compile_X2_readText_n46 : GoodIn wsX3_compile (wsX2_readText) := ggX3_compile_X2_readText
set_option maxRecDepth 20000 in
theorem ggX3_compile_X2_exchanged : GoodIn wsX3_compile wsX2_exchanged := goodIn_r _ [128, 10, 139, 140, 141, 142, 143, 144, 145, 146] (by decide +kernel) (by decide +kernel)
set_option maxRecDepth 20000 in
theorem gX3_compile_X2_exchanged_n57 : GoodIn wsX3_compile (wsX2_exchanged) := ggX3_compile_X2_exchanged
theorem dX3_compile_0 : decode cX3_compile 0 = .ok (.aload_n 0, 1) := by decide +kernel
theorem dX3_compile_1 : decode cX3_compile 1 = .ok (.getfield 10, 3) := by decide +kernel
theorem dX3_compile_4 : decode cX3_compile 4 = .ok (.invokevirtual 46, 3) := by decide +kernel
theorem dX3_compile_7 : decode cX3_compile 7 = .ok (.ifCond .ne 13, 3) := by decide +kernel
theorem dX3_compile_10 : decode cX3_compile 10 = .ok (.new 50, 3) := by decide +kernel
theorem dX3_compile_13 : decode cX3_compile 13 = .ok (.dup, 1) := by decide +kernel
theorem dX3_compile_14 : decode cX3_compile 14 = .ok (.ldc 52, 2) := by decide +kernel
theorem dX3_compile_16 : decode cX3_compile 16 = .ok (.invokespecial 54, 3) := by decide +kernel
theorem dX3_compile_19 : decode cX3_compile 19 = .ok (.athrow, 1) := by decide +kernel
theorem dX3_compile_20 : decode cX3_compile 20 = .ok (.aload_n 0, 1) := by decide +kernel
theorem dX3_compile_21 : decode cX3_compile 21 = .ok (.aload_n 0, 1) := by decide +kernel
theorem dX3_compile_22 : decode cX3_compile 22 = .ok (.getfield 10, 3) := by decide +kernel
theorem dX3_compile_25 : decode cX3_compile 25 = .ok (.aload_n 0, 1) := by decide +kernel
theorem dX3_compile_26 : decode cX3_compile 26 = .ok (.getfield 26, 3) := by decide +kernel
theorem dX3_compile_29 : decode cX3_compile 29 = .ok (.invokevirtual 57, 3) := by decide +kernel
theorem dX3_compile_32 : decode cX3_compile 32 = .ok (.putfield 26, 3) := by decide +kernel
theorem dX3_compile_35 : decode cX3_compile 35 = .ok (.aload_n 0, 1) := by decide +kernel
theorem dX3_compile_36 : decode cX3_compile 36 = .ok (.iconst 1, 1) := by decide +kernel
theorem dX3_compile_37 : decode cX3_compile 37 = .ok (.putfield 30, 3) := by decide +kernel
theorem dX3_compile_40 : decode cX3_compile 40 = .ok (.aload_n 0, 1) := by decide +kernel
theorem dX3_compile_41 : decode cX3_compile 41 = .ok (.getfield 26, 3) := by decide +kernel
theorem dX3_compile_44 : decode cX3_compile 44 = .ok (.getfield 61, 3) := by decide +kernel
theorem dX3_compile_47 : decode cX3_compile 47 = .ok (.ireturn, 1) := by decide +kernel
theorem dX3_fault_0 : decode cX3_fault 0 = .ok (.aload_n 0, 1) := by decide +kernel
theorem dX3_fault_1 : decode cX3_fault 1 = .ok (.getfield 10, 3) := by decide +kernel
theorem dX3_fault_4 : decode cX3_fault 4 = .ok (.getfield 64, 3) := by decide +kernel
theorem dX3_fault_7 : decode cX3_fault 7 = .ok (.ireturn, 1) := by decide +kernel
theorem dX3_work_0 : decode cX3_work 0 = .ok (.aload_n 0, 1) := by decide +kernel
theorem dX3_work_1 : decode cX3_work 1 = .ok (.getfield 26, 3) := by decide +kernel
theorem dX3_work_4 : decode cX3_work 4 = .ok (.getfield 67, 3) := by decide +kernel
theorem dX3_work_7 : decode cX3_work 7 = .ok (.ireturn, 1) := by decide +kernel
set_option maxRecDepth 20000 in
theorem ggX3_run_X1_carriesOut : GoodIn wsX3_run wsX1_carriesOut := goodIn_r _ [11, 12, 13, 14, 15, 16, 17, 18, 19, 20, 21, 22, 23, 24, 25, 26, 27, 28, 29, 30, 9, 31, 32, 33, 34, 35, 36, 37, 38, 39, 40, 41, 42, 43, 44, 45, 46, 47, 48, 49, 50, 51, 52, 53, 54, 55, 56, 57, 58, 59, 60, 61, 62, 63, 64, 65, 66, 67, 72, 73, 74, 75, 76, 77, 78, 79, 80, 81, 82, 83, 84, 85] (by decide +kernel) (by decide +kernel)
set_option maxRecDepth 20000 in
theorem gX3_run_X1_carriesOut_n75 : GoodIn wsX3_run (wsX1_carriesOut) := ggX3_run_X1_carriesOut
theorem dX3_run_0 : decode cX3_run 0 = .ok (.aload_n 0, 1) := by decide +kernel
theorem dX3_run_1 : decode cX3_run 1 = .ok (.getfield 30, 3) := by decide +kernel
theorem dX3_run_4 : decode cX3_run 4 = .ok (.ifCond .ne 13, 3) := by decide +kernel
theorem dX3_run_7 : decode cX3_run 7 = .ok (.new 70, 3) := by decide +kernel
theorem dX3_run_10 : decode cX3_run 10 = .ok (.dup, 1) := by decide +kernel
theorem dX3_run_11 : decode cX3_run 11 = .ok (.ldc 72, 2) := by decide +kernel
theorem dX3_run_13 : decode cX3_run 13 = .ok (.invokespecial 74, 3) := by decide +kernel
theorem dX3_run_16 : decode cX3_run 16 = .ok (.athrow, 1) := by decide +kernel
theorem dX3_run_17 : decode cX3_run 17 = .ok (.aload_n 0, 1) := by decide +kernel
theorem dX3_run_18 : decode cX3_run 18 = .ok (.getfield 19, 3) := by decide +kernel
theorem dX3_run_21 : decode cX3_run 21 = .ok (.aload_n 0, 1) := by decide +kernel
theorem dX3_run_22 : decode cX3_run 22 = .ok (.getfield 26, 3) := by decide +kernel
theorem dX3_run_25 : decode cX3_run 25 = .ok (.invokevirtual 75, 3) := by decide +kernel
theorem dX3_run_28 : decode cX3_run 28 = .ok (.ifCond .ne 13, 3) := by decide +kernel
theorem dX3_run_31 : decode cX3_run 31 = .ok (.new 79, 3) := by decide +kernel
theorem dX3_run_34 : decode cX3_run 34 = .ok (.dup, 1) := by decide +kernel
theorem dX3_run_35 : decode cX3_run 35 = .ok (.ldc 81, 2) := by decide +kernel
theorem dX3_run_37 : decode cX3_run 37 = .ok (.invokespecial 83, 3) := by decide +kernel
theorem dX3_run_40 : decode cX3_run 40 = .ok (.athrow, 1) := by decide +kernel
theorem dX3_run_41 : decode cX3_run 41 = .ok (.aload_n 0, 1) := by decide +kernel
theorem dX3_run_42 : decode cX3_run 42 = .ok (.getfield 19, 3) := by decide +kernel
theorem dX3_run_45 : decode cX3_run 45 = .ok (.getfield 84, 3) := by decide +kernel
theorem dX3_run_48 : decode cX3_run 48 = .ok (.ireturn, 1) := by decide +kernel
theorem dX3_value_0 : decode cX3_value 0 = .ok (.iload_n 1, 1) := by decide +kernel
theorem dX3_value_1 : decode cX3_value 1 = .ok (.ifCond .lt 9, 3) := by decide +kernel
theorem dX3_value_4 : decode cX3_value 4 = .ok (.iload_n 1, 1) := by decide +kernel
theorem dX3_value_5 : decode cX3_value 5 = .ok (.bipush 26, 2) := by decide +kernel
theorem dX3_value_7 : decode cX3_value 7 = .ok (.if_icmp .lt 13, 3) := by decide +kernel
theorem dX3_value_10 : decode cX3_value 10 = .ok (.new 79, 3) := by decide +kernel
theorem dX3_value_13 : decode cX3_value 13 = .ok (.dup, 1) := by decide +kernel
theorem dX3_value_14 : decode cX3_value 14 = .ok (.ldc 87, 2) := by decide +kernel
theorem dX3_value_16 : decode cX3_value 16 = .ok (.invokespecial 83, 3) := by decide +kernel
theorem dX3_value_19 : decode cX3_value 19 = .ok (.athrow, 1) := by decide +kernel
theorem dX3_value_20 : decode cX3_value 20 = .ok (.aload_n 0, 1) := by decide +kernel
theorem dX3_value_21 : decode cX3_value 21 = .ok (.getfield 19, 3) := by decide +kernel
theorem dX3_value_24 : decode cX3_value 24 = .ok (.getfield 89, 3) := by decide +kernel
theorem dX3_value_27 : decode cX3_value 27 = .ok (.iload_n 1, 1) := by decide +kernel
theorem dX3_value_28 : decode cX3_value 28 = .ok (.iaload, 1) := by decide +kernel
theorem dX3_value_29 : decode cX3_value 29 = .ok (.ireturn, 1) := by decide +kernel
set_option maxRecDepth 20000 in
theorem ggX3_poke_X3_isAddress : GoodIn wsX3_poke wsX3_isAddress := goodIn_r _ [7] (by decide +kernel) (by decide +kernel)
set_option maxRecDepth 20000 in
theorem gX3_poke_X3_isAddress : GoodIn wsX3_poke (va_wsS RX3 93 yX3_isAddress wsX3_isAddress) := goodIn_app (goodIn_of _ (by decide +kernel)) ggX3_poke_X3_isAddress
theorem dX3_poke_0 : decode cX3_poke 0 = .ok (.iload_n 1, 1) := by decide +kernel
theorem dX3_poke_1 : decode cX3_poke 1 = .ok (.invokestatic 93, 3) := by decide +kernel
theorem dX3_poke_4 : decode cX3_poke 4 = .ok (.ifCond .ne 13, 3) := by decide +kernel
theorem dX3_poke_7 : decode cX3_poke 7 = .ok (.new 79, 3) := by decide +kernel
theorem dX3_poke_10 : decode cX3_poke 10 = .ok (.dup, 1) := by decide +kernel
theorem dX3_poke_11 : decode cX3_poke 11 = .ok (.ldc 97, 2) := by decide +kernel
theorem dX3_poke_13 : decode cX3_poke 13 = .ok (.invokespecial 83, 3) := by decide +kernel
theorem dX3_poke_16 : decode cX3_poke 16 = .ok (.athrow, 1) := by decide +kernel
theorem dX3_poke_17 : decode cX3_poke 17 = .ok (.aload_n 0, 1) := by decide +kernel
theorem dX3_poke_18 : decode cX3_poke 18 = .ok (.getfield 19, 3) := by decide +kernel
theorem dX3_poke_21 : decode cX3_poke 21 = .ok (.getfield 99, 3) := by decide +kernel
theorem dX3_poke_24 : decode cX3_poke 24 = .ok (.iload_n 1, 1) := by decide +kernel
theorem dX3_poke_25 : decode cX3_poke 25 = .ok (.iload_n 2, 1) := by decide +kernel
theorem dX3_poke_26 : decode cX3_poke 26 = .ok (.iastore, 1) := by decide +kernel
theorem dX3_poke_27 : decode cX3_poke 27 = .ok (.return_, 1) := by decide +kernel
set_option maxRecDepth 20000 in
theorem ggX3_peek_X3_isAddress : GoodIn wsX3_peek wsX3_isAddress := goodIn_r _ [7] (by decide +kernel) (by decide +kernel)
set_option maxRecDepth 20000 in
theorem gX3_peek_X3_isAddress : GoodIn wsX3_peek (va_wsS RX3 93 yX3_isAddress wsX3_isAddress) := goodIn_app (goodIn_of _ (by decide +kernel)) ggX3_peek_X3_isAddress
theorem dX3_peek_0 : decode cX3_peek 0 = .ok (.iload_n 1, 1) := by decide +kernel
theorem dX3_peek_1 : decode cX3_peek 1 = .ok (.invokestatic 93, 3) := by decide +kernel
theorem dX3_peek_4 : decode cX3_peek 4 = .ok (.ifCond .ne 13, 3) := by decide +kernel
theorem dX3_peek_7 : decode cX3_peek 7 = .ok (.new 79, 3) := by decide +kernel
theorem dX3_peek_10 : decode cX3_peek 10 = .ok (.dup, 1) := by decide +kernel
theorem dX3_peek_11 : decode cX3_peek 11 = .ok (.ldc 97, 2) := by decide +kernel
theorem dX3_peek_13 : decode cX3_peek 13 = .ok (.invokespecial 83, 3) := by decide +kernel
theorem dX3_peek_16 : decode cX3_peek 16 = .ok (.athrow, 1) := by decide +kernel
theorem dX3_peek_17 : decode cX3_peek 17 = .ok (.aload_n 0, 1) := by decide +kernel
theorem dX3_peek_18 : decode cX3_peek 18 = .ok (.getfield 19, 3) := by decide +kernel
theorem dX3_peek_21 : decode cX3_peek 21 = .ok (.getfield 99, 3) := by decide +kernel
theorem dX3_peek_24 : decode cX3_peek 24 = .ok (.iload_n 1, 1) := by decide +kernel
theorem dX3_peek_25 : decode cX3_peek 25 = .ok (.iaload, 1) := by decide +kernel
theorem dX3_peek_26 : decode cX3_peek 26 = .ok (.ireturn, 1) := by decide +kernel
theorem dX3_fill_0 : decode cX3_fill 0 = .ok (.iload_n 1, 1) := by decide +kernel
theorem dX3_fill_1 : decode cX3_fill 1 = .ok (.ifCond .lt 10, 3) := by decide +kernel
theorem dX3_fill_4 : decode cX3_fill 4 = .ok (.iload_n 1, 1) := by decide +kernel
theorem dX3_fill_5 : decode cX3_fill 5 = .ok (.sipush 192, 3) := by decide +kernel
theorem dX3_fill_8 : decode cX3_fill 8 = .ok (.if_icmp .le 13, 3) := by decide +kernel
theorem dX3_fill_11 : decode cX3_fill 11 = .ok (.new 50, 3) := by decide +kernel
theorem dX3_fill_14 : decode cX3_fill 14 = .ok (.dup, 1) := by decide +kernel
theorem dX3_fill_15 : decode cX3_fill 15 = .ok (.ldc 102, 2) := by decide +kernel
theorem dX3_fill_17 : decode cX3_fill 17 = .ok (.invokespecial 54, 3) := by decide +kernel
theorem dX3_fill_20 : decode cX3_fill 20 = .ok (.athrow, 1) := by decide +kernel
theorem dX3_fill_21 : decode cX3_fill 21 = .ok (.iconst 0, 1) := by decide +kernel
theorem dX3_fill_22 : decode cX3_fill 22 = .ok (.istore 4, 2) := by decide +kernel
theorem dX3_fill_24 : decode cX3_fill 24 = .ok (.iload 4, 2) := by decide +kernel
theorem dX3_fill_26 : decode cX3_fill 26 = .ok (.iload_n 1, 1) := by decide +kernel
theorem dX3_fill_27 : decode cX3_fill 27 = .ok (.if_icmp .ge 25, 3) := by decide +kernel
theorem dX3_fill_30 : decode cX3_fill 30 = .ok (.aload_n 0, 1) := by decide +kernel
theorem dX3_fill_31 : decode cX3_fill 31 = .ok (.getfield 19, 3) := by decide +kernel
theorem dX3_fill_34 : decode cX3_fill 34 = .ok (.getfield 99, 3) := by decide +kernel
theorem dX3_fill_37 : decode cX3_fill 37 = .ok (.iload 4, 2) := by decide +kernel
theorem dX3_fill_39 : decode cX3_fill 39 = .ok (.iload_n 2, 1) := by decide +kernel
theorem dX3_fill_40 : decode cX3_fill 40 = .ok (.iload 4, 2) := by decide +kernel
theorem dX3_fill_42 : decode cX3_fill 42 = .ok (.iload_n 3, 1) := by decide +kernel
theorem dX3_fill_43 : decode cX3_fill 43 = .ok (.imul, 1) := by decide +kernel
theorem dX3_fill_44 : decode cX3_fill 44 = .ok (.iadd, 1) := by decide +kernel
theorem dX3_fill_45 : decode cX3_fill 45 = .ok (.iastore, 1) := by decide +kernel
theorem dX3_fill_46 : decode cX3_fill 46 = .ok (.iinc 4 1, 3) := by decide +kernel
theorem dX3_fill_49 : decode cX3_fill 49 = .ok (.goto (-25), 3) := by decide +kernel
theorem dX3_fill_52 : decode cX3_fill 52 = .ok (.return_, 1) := by decide +kernel
set_option maxRecDepth 20000 in
theorem ggX3_mixed_X3_ofOne : GoodIn wsX3_mixed wsX3_ofOne := goodIn_r _ [5] (by decide +kernel) (by decide +kernel)
set_option maxRecDepth 20000 in
theorem gX3_mixed_X3_ofOne : GoodIn wsX3_mixed (va_wsS RX3 104 yX3_ofOne wsX3_ofOne) := goodIn_app (goodIn_of _ (by decide +kernel)) ggX3_mixed_X3_ofOne
theorem dX3_mixed_0 : decode cX3_mixed 0 = .ok (.iconst 0, 1) := by decide +kernel
theorem dX3_mixed_1 : decode cX3_mixed 1 = .ok (.istore_n 1, 1) := by decide +kernel
theorem dX3_mixed_2 : decode cX3_mixed 2 = .ok (.iconst 0, 1) := by decide +kernel
theorem dX3_mixed_3 : decode cX3_mixed 3 = .ok (.istore_n 2, 1) := by decide +kernel
theorem dX3_mixed_4 : decode cX3_mixed 4 = .ok (.iload_n 2, 1) := by decide +kernel
theorem dX3_mixed_5 : decode cX3_mixed 5 = .ok (.sipush 192, 3) := by decide +kernel
theorem dX3_mixed_8 : decode cX3_mixed 8 = .ok (.if_icmp .ge 30, 3) := by decide +kernel
theorem dX3_mixed_11 : decode cX3_mixed 11 = .ok (.iload_n 1, 1) := by decide +kernel
theorem dX3_mixed_12 : decode cX3_mixed 12 = .ok (.bipush 60, 2) := by decide +kernel
theorem dX3_mixed_14 : decode cX3_mixed 14 = .ok (.aload_n 0, 1) := by decide +kernel
theorem dX3_mixed_15 : decode cX3_mixed 15 = .ok (.getfield 19, 3) := by decide +kernel
theorem dX3_mixed_18 : decode cX3_mixed 18 = .ok (.getfield 99, 3) := by decide +kernel
theorem dX3_mixed_21 : decode cX3_mixed 21 = .ok (.iload_n 2, 1) := by decide +kernel
theorem dX3_mixed_22 : decode cX3_mixed 22 = .ok (.iaload, 1) := by decide +kernel
theorem dX3_mixed_23 : decode cX3_mixed 23 = .ok (.iload_n 2, 1) := by decide +kernel
theorem dX3_mixed_24 : decode cX3_mixed 24 = .ok (.bipush 32, 2) := by decide +kernel
theorem dX3_mixed_26 : decode cX3_mixed 26 = .ok (.irem, 1) := by decide +kernel
theorem dX3_mixed_27 : decode cX3_mixed 27 = .ok (.invokestatic 104, 3) := by decide +kernel
theorem dX3_mixed_30 : decode cX3_mixed 30 = .ok (.ixor, 1) := by decide +kernel
theorem dX3_mixed_31 : decode cX3_mixed 31 = .ok (.istore_n 1, 1) := by decide +kernel
theorem dX3_mixed_32 : decode cX3_mixed 32 = .ok (.iinc 2 1, 3) := by decide +kernel
theorem dX3_mixed_35 : decode cX3_mixed 35 = .ok (.goto (-31), 3) := by decide +kernel
theorem dX3_mixed_38 : decode cX3_mixed 38 = .ok (.iload_n 1, 1) := by decide +kernel
theorem dX3_mixed_39 : decode cX3_mixed 39 = .ok (.ireturn, 1) := by decide +kernel
theorem dX3_byteOf_0 : decode cX3_byteOf 0 = .ok (.lload_n 0, 1) := by decide +kernel
theorem dX3_byteOf_1 : decode cX3_byteOf 1 = .ok (.bipush 8, 2) := by decide +kernel
theorem dX3_byteOf_3 : decode cX3_byteOf 3 = .ok (.iload_n 2, 1) := by decide +kernel
theorem dX3_byteOf_4 : decode cX3_byteOf 4 = .ok (.imul, 1) := by decide +kernel
theorem dX3_byteOf_5 : decode cX3_byteOf 5 = .ok (.lushr, 1) := by decide +kernel
theorem dX3_byteOf_6 : decode cX3_byteOf 6 = .ok (.l2i, 1) := by decide +kernel
theorem dX3_byteOf_7 : decode cX3_byteOf 7 = .ok (.sipush 255, 3) := by decide +kernel
theorem dX3_byteOf_10 : decode cX3_byteOf 10 = .ok (.iand, 1) := by decide +kernel
theorem dX3_byteOf_11 : decode cX3_byteOf 11 = .ok (.ireturn, 1) := by decide +kernel
theorem dX3_isAddress_0 : decode cX3_isAddress 0 = .ok (.iload_n 0, 1) := by decide +kernel
theorem dX3_isAddress_1 : decode cX3_isAddress 1 = .ok (.ifCond .lt 14, 3) := by decide +kernel
theorem dX3_isAddress_4 : decode cX3_isAddress 4 = .ok (.iload_n 0, 1) := by decide +kernel
theorem dX3_isAddress_5 : decode cX3_isAddress 5 = .ok (.sipush 192, 3) := by decide +kernel
theorem dX3_isAddress_8 : decode cX3_isAddress 8 = .ok (.if_icmp .ge 7, 3) := by decide +kernel
theorem dX3_isAddress_11 : decode cX3_isAddress 11 = .ok (.iconst 1, 1) := by decide +kernel
theorem dX3_isAddress_12 : decode cX3_isAddress 12 = .ok (.goto 4, 3) := by decide +kernel
theorem dX3_isAddress_15 : decode cX3_isAddress 15 = .ok (.iconst 0, 1) := by decide +kernel
theorem dX3_isAddress_16 : decode cX3_isAddress 16 = .ok (.ireturn, 1) := by decide +kernel
theorem dX3_ofOne_0 : decode cX3_ofOne 0 = .ok (.iload_n 0, 1) := by decide +kernel
theorem dX3_ofOne_1 : decode cX3_ofOne 1 = .ok (.lookupswitch 42 #[(60, 27), (62, 38)], 27) := by decide +kernel
theorem dX3_ofOne_28 : decode cX3_ofOne 28 = .ok (.iload_n 1, 1) := by decide +kernel
theorem dX3_ofOne_29 : decode cX3_ofOne 29 = .ok (.iload_n 2, 1) := by decide +kernel
theorem dX3_ofOne_30 : decode cX3_ofOne 30 = .ok (.ishl, 1) := by decide +kernel
theorem dX3_ofOne_31 : decode cX3_ofOne 31 = .ok (.iload_n 1, 1) := by decide +kernel
theorem dX3_ofOne_32 : decode cX3_ofOne 32 = .ok (.bipush 32, 2) := by decide +kernel
theorem dX3_ofOne_34 : decode cX3_ofOne 34 = .ok (.iload_n 2, 1) := by decide +kernel
theorem dX3_ofOne_35 : decode cX3_ofOne 35 = .ok (.isub, 1) := by decide +kernel
theorem dX3_ofOne_36 : decode cX3_ofOne 36 = .ok (.iushr, 1) := by decide +kernel
theorem dX3_ofOne_37 : decode cX3_ofOne 37 = .ok (.ior, 1) := by decide +kernel
theorem dX3_ofOne_38 : decode cX3_ofOne 38 = .ok (.ireturn, 1) := by decide +kernel
theorem dX3_ofOne_39 : decode cX3_ofOne 39 = .ok (.iload_n 1, 1) := by decide +kernel
theorem dX3_ofOne_40 : decode cX3_ofOne 40 = .ok (.iload_n 2, 1) := by decide +kernel
theorem dX3_ofOne_41 : decode cX3_ofOne 41 = .ok (.iushr, 1) := by decide +kernel
theorem dX3_ofOne_42 : decode cX3_ofOne 42 = .ok (.ireturn, 1) := by decide +kernel
theorem dX3_ofOne_43 : decode cX3_ofOne 43 = .ok (.iload_n 1, 1) := by decide +kernel
theorem dX3_ofOne_44 : decode cX3_ofOne 44 = .ok (.iconst (-1), 1) := by decide +kernel
theorem dX3_ofOne_45 : decode cX3_ofOne 45 = .ok (.ixor, 1) := by decide +kernel
theorem dX3_ofOne_46 : decode cX3_ofOne 46 = .ok (.ireturn, 1) := by decide +kernel
theorem dX3_ofTwo_0 : decode cX3_ofTwo 0 = .ok (.iload_n 0, 1) := by decide +kernel
theorem dX3_ofTwo_1 : decode cX3_ofTwo 1 = .ok (.lookupswitch 71 #[(38, 63), (42, 59), (43, 51), (45, 55), (124, 67)], 51) := by decide +kernel
theorem dX3_ofTwo_52 : decode cX3_ofTwo 52 = .ok (.iload_n 1, 1) := by decide +kernel
theorem dX3_ofTwo_53 : decode cX3_ofTwo 53 = .ok (.iload_n 2, 1) := by decide +kernel
theorem dX3_ofTwo_54 : decode cX3_ofTwo 54 = .ok (.iadd, 1) := by decide +kernel
theorem dX3_ofTwo_55 : decode cX3_ofTwo 55 = .ok (.ireturn, 1) := by decide +kernel
theorem dX3_ofTwo_56 : decode cX3_ofTwo 56 = .ok (.iload_n 1, 1) := by decide +kernel
theorem dX3_ofTwo_57 : decode cX3_ofTwo 57 = .ok (.iload_n 2, 1) := by decide +kernel
theorem dX3_ofTwo_58 : decode cX3_ofTwo 58 = .ok (.isub, 1) := by decide +kernel
theorem dX3_ofTwo_59 : decode cX3_ofTwo 59 = .ok (.ireturn, 1) := by decide +kernel
theorem dX3_ofTwo_60 : decode cX3_ofTwo 60 = .ok (.iload_n 1, 1) := by decide +kernel
theorem dX3_ofTwo_61 : decode cX3_ofTwo 61 = .ok (.iload_n 2, 1) := by decide +kernel
theorem dX3_ofTwo_62 : decode cX3_ofTwo 62 = .ok (.imul, 1) := by decide +kernel
theorem dX3_ofTwo_63 : decode cX3_ofTwo 63 = .ok (.ireturn, 1) := by decide +kernel
theorem dX3_ofTwo_64 : decode cX3_ofTwo 64 = .ok (.iload_n 1, 1) := by decide +kernel
theorem dX3_ofTwo_65 : decode cX3_ofTwo 65 = .ok (.iload_n 2, 1) := by decide +kernel
theorem dX3_ofTwo_66 : decode cX3_ofTwo 66 = .ok (.iand, 1) := by decide +kernel
theorem dX3_ofTwo_67 : decode cX3_ofTwo 67 = .ok (.ireturn, 1) := by decide +kernel
theorem dX3_ofTwo_68 : decode cX3_ofTwo 68 = .ok (.iload_n 1, 1) := by decide +kernel
theorem dX3_ofTwo_69 : decode cX3_ofTwo 69 = .ok (.iload_n 2, 1) := by decide +kernel
theorem dX3_ofTwo_70 : decode cX3_ofTwo 70 = .ok (.ior, 1) := by decide +kernel
theorem dX3_ofTwo_71 : decode cX3_ofTwo 71 = .ok (.ireturn, 1) := by decide +kernel
theorem dX3_ofTwo_72 : decode cX3_ofTwo 72 = .ok (.iload_n 1, 1) := by decide +kernel
theorem dX3_ofTwo_73 : decode cX3_ofTwo 73 = .ok (.iload_n 2, 1) := by decide +kernel
theorem dX3_ofTwo_74 : decode cX3_ofTwo 74 = .ok (.ixor, 1) := by decide +kernel
theorem dX3_ofTwo_75 : decode cX3_ofTwo 75 = .ok (.ireturn, 1) := by decide +kernel
theorem dX4_init_0 : decode cX4_init 0 = .ok (.aload_n 0, 1) := by decide +kernel
theorem dX4_init_1 : decode cX4_init 1 = .ok (.invokespecial 1, 3) := by decide +kernel
theorem dX4_init_4 : decode cX4_init 4 = .ok (.aload_n 0, 1) := by decide +kernel
theorem dX4_init_5 : decode cX4_init 5 = .ok (.sipush 480, 3) := by decide +kernel
theorem dX4_init_8 : decode cX4_init 8 = .ok (.newarray .int, 2) := by decide +kernel
theorem dX4_init_10 : decode cX4_init 10 = .ok (.putfield 7, 3) := by decide +kernel
theorem dX4_init_13 : decode cX4_init 13 = .ok (.aload_n 0, 1) := by decide +kernel
theorem dX4_init_14 : decode cX4_init 14 = .ok (.sipush 192, 3) := by decide +kernel
theorem dX4_init_17 : decode cX4_init 17 = .ok (.newarray .int, 2) := by decide +kernel
theorem dX4_init_19 : decode cX4_init 19 = .ok (.putfield 13, 3) := by decide +kernel
theorem dX4_init_22 : decode cX4_init 22 = .ok (.aload_n 0, 1) := by decide +kernel
theorem dX4_init_23 : decode cX4_init 23 = .ok (.sipush 192, 3) := by decide +kernel
theorem dX4_init_26 : decode cX4_init 26 = .ok (.newarray .int, 2) := by decide +kernel
theorem dX4_init_28 : decode cX4_init 28 = .ok (.putfield 16, 3) := by decide +kernel
theorem dX4_init_31 : decode cX4_init 31 = .ok (.aload_n 0, 1) := by decide +kernel
theorem dX4_init_32 : decode cX4_init 32 = .ok (.bipush 26, 2) := by decide +kernel
theorem dX4_init_34 : decode cX4_init 34 = .ok (.newarray .int, 2) := by decide +kernel
theorem dX4_init_36 : decode cX4_init 36 = .ok (.putfield 19, 3) := by decide +kernel
theorem dX4_init_39 : decode cX4_init 39 = .ok (.aload_n 0, 1) := by decide +kernel
theorem dX4_init_40 : decode cX4_init 40 = .ok (.bipush 26, 2) := by decide +kernel
theorem dX4_init_42 : decode cX4_init 42 = .ok (.newarray .int, 2) := by decide +kernel
theorem dX4_init_44 : decode cX4_init 44 = .ok (.putfield 22, 3) := by decide +kernel
theorem dX4_init_47 : decode cX4_init 47 = .ok (.aload_n 0, 1) := by decide +kernel
theorem dX4_init_48 : decode cX4_init 48 = .ok (.sipush 1000, 3) := by decide +kernel
theorem dX4_init_51 : decode cX4_init 51 = .ok (.newarray .int, 2) := by decide +kernel
theorem dX4_init_53 : decode cX4_init 53 = .ok (.putfield 25, 3) := by decide +kernel
theorem dX4_init_56 : decode cX4_init 56 = .ok (.aload_n 0, 1) := by decide +kernel
theorem dX4_init_57 : decode cX4_init 57 = .ok (.sipush 1000, 3) := by decide +kernel
theorem dX4_init_60 : decode cX4_init 60 = .ok (.newarray .int, 2) := by decide +kernel
theorem dX4_init_62 : decode cX4_init 62 = .ok (.putfield 28, 3) := by decide +kernel
theorem dX4_init_65 : decode cX4_init 65 = .ok (.aload_n 0, 1) := by decide +kernel
theorem dX4_init_66 : decode cX4_init 66 = .ok (.sipush 1000, 3) := by decide +kernel
theorem dX4_init_69 : decode cX4_init 69 = .ok (.newarray .int, 2) := by decide +kernel
theorem dX4_init_71 : decode cX4_init 71 = .ok (.putfield 31, 3) := by decide +kernel
theorem dX4_init_74 : decode cX4_init 74 = .ok (.aload_n 0, 1) := by decide +kernel
theorem dX4_init_75 : decode cX4_init 75 = .ok (.sipush 1000, 3) := by decide +kernel
theorem dX4_init_78 : decode cX4_init 78 = .ok (.newarray .int, 2) := by decide +kernel
theorem dX4_init_80 : decode cX4_init 80 = .ok (.putfield 34, 3) := by decide +kernel
theorem dX4_init_83 : decode cX4_init 83 = .ok (.aload_n 0, 1) := by decide +kernel
theorem dX4_init_84 : decode cX4_init 84 = .ok (.sipush 520, 3) := by decide +kernel
theorem dX4_init_87 : decode cX4_init 87 = .ok (.newarray .int, 2) := by decide +kernel
theorem dX4_init_89 : decode cX4_init 89 = .ok (.putfield 37, 3) := by decide +kernel
theorem dX4_init_92 : decode cX4_init 92 = .ok (.aload_n 0, 1) := by decide +kernel
theorem dX4_init_93 : decode cX4_init 93 = .ok (.sipush 520, 3) := by decide +kernel
theorem dX4_init_96 : decode cX4_init 96 = .ok (.newarray .int, 2) := by decide +kernel
theorem dX4_init_98 : decode cX4_init 98 = .ok (.putfield 40, 3) := by decide +kernel
theorem dX4_init_101 : decode cX4_init 101 = .ok (.aload_n 0, 1) := by decide +kernel
theorem dX4_init_102 : decode cX4_init 102 = .ok (.sipush 520, 3) := by decide +kernel
theorem dX4_init_105 : decode cX4_init 105 = .ok (.newarray .boolean, 2) := by decide +kernel
theorem dX4_init_107 : decode cX4_init 107 = .ok (.putfield 43, 3) := by decide +kernel
theorem dX4_init_110 : decode cX4_init 110 = .ok (.aload_n 0, 1) := by decide +kernel
theorem dX4_init_111 : decode cX4_init 111 = .ok (.bipush 8, 2) := by decide +kernel
theorem dX4_init_113 : decode cX4_init 113 = .ok (.newarray .int, 2) := by decide +kernel
theorem dX4_init_115 : decode cX4_init 115 = .ok (.putfield 47, 3) := by decide +kernel
theorem dX4_init_118 : decode cX4_init 118 = .ok (.aload_n 0, 1) := by decide +kernel
theorem dX4_init_119 : decode cX4_init 119 = .ok (.bipush 8, 2) := by decide +kernel
theorem dX4_init_121 : decode cX4_init 121 = .ok (.newarray .int, 2) := by decide +kernel
theorem dX4_init_123 : decode cX4_init 123 = .ok (.putfield 50, 3) := by decide +kernel
theorem dX4_init_126 : decode cX4_init 126 = .ok (.aload_n 0, 1) := by decide +kernel
theorem dX4_init_127 : decode cX4_init 127 = .ok (.bipush 9, 2) := by decide +kernel
theorem dX4_init_129 : decode cX4_init 129 = .ok (.newarray .int, 2) := by decide +kernel
theorem dX4_init_131 : decode cX4_init 131 = .ok (.putfield 53, 3) := by decide +kernel
theorem dX4_init_134 : decode cX4_init 134 = .ok (.aload_n 0, 1) := by decide +kernel
theorem dX4_init_135 : decode cX4_init 135 = .ok (.sipush 520, 3) := by decide +kernel
theorem dX4_init_138 : decode cX4_init 138 = .ok (.newarray .int, 2) := by decide +kernel
theorem dX4_init_140 : decode cX4_init 140 = .ok (.putfield 56, 3) := by decide +kernel
theorem dX4_init_143 : decode cX4_init 143 = .ok (.return_, 1) := by decide +kernel
theorem dX4_thrown_0 : decode cX4_thrown 0 = .ok (.aload_n 0, 1) := by decide +kernel
theorem dX4_thrown_1 : decode cX4_thrown 1 = .ok (.getfield 59, 3) := by decide +kernel
theorem dX4_thrown_4 : decode cX4_thrown 4 = .ok (.ireturn, 1) := by decide +kernel
theorem dX4_write_0 : decode cX4_write 0 = .ok (.aload_n 0, 1) := by decide +kernel
theorem dX4_write_1 : decode cX4_write 1 = .ok (.iconst 0, 1) := by decide +kernel
theorem dX4_write_2 : decode cX4_write 2 = .ok (.putfield 59, 3) := by decide +kernel
theorem dX4_write_5 : decode cX4_write 5 = .ok (.iconst 0, 1) := by decide +kernel
theorem dX4_write_6 : decode cX4_write 6 = .ok (.istore_n 3, 1) := by decide +kernel
theorem dX4_write_7 : decode cX4_write 7 = .ok (.iconst 1, 1) := by decide +kernel
theorem dX4_write_8 : decode cX4_write 8 = .ok (.istore 4, 2) := by decide +kernel
theorem dX4_write_10 : decode cX4_write 10 = .ok (.iconst 0, 1) := by decide +kernel
theorem dX4_write_11 : decode cX4_write 11 = .ok (.istore 5, 2) := by decide +kernel
theorem dX4_write_13 : decode cX4_write 13 = .ok (.iload 5, 2) := by decide +kernel
theorem dX4_write_15 : decode cX4_write 15 = .ok (.bipush 64, 2) := by decide +kernel
theorem dX4_write_17 : decode cX4_write 17 = .ok (.if_icmp .ge 68, 3) := by decide +kernel
theorem dX4_write_20 : decode cX4_write 20 = .ok (.lload_n 1, 1) := by decide +kernel
theorem dX4_write_21 : decode cX4_write 21 = .ok (.iload 5, 2) := by decide +kernel
theorem dX4_write_23 : decode cX4_write 23 = .ok (.lushr, 1) := by decide +kernel
theorem dX4_write_24 : decode cX4_write 24 = .ok (.ldc2_w 63, 3) := by decide +kernel
theorem dX4_write_27 : decode cX4_write 27 = .ok (.land, 1) := by decide +kernel
theorem dX4_write_28 : decode cX4_write 28 = .ok (.l2i, 1) := by decide +kernel
theorem dX4_write_29 : decode cX4_write 29 = .ok (.istore 6, 2) := by decide +kernel
theorem dX4_write_31 : decode cX4_write 31 = .ok (.iload 4, 2) := by decide +kernel
theorem dX4_write_33 : decode cX4_write 33 = .ok (.ifCond .eq 26, 3) := by decide +kernel
theorem dX4_write_36 : decode cX4_write 36 = .ok (.iload 6, 2) := by decide +kernel
theorem dX4_write_38 : decode cX4_write 38 = .ok (.ifCond .eq 17, 3) := by decide +kernel
theorem dX4_write_41 : decode cX4_write 41 = .ok (.iload 6, 2) := by decide +kernel
theorem dX4_write_43 : decode cX4_write 43 = .ok (.bipush 32, 2) := by decide +kernel
theorem dX4_write_45 : decode cX4_write 45 = .ok (.if_icmp .le 14, 3) := by decide +kernel
theorem dX4_write_48 : decode cX4_write 48 = .ok (.iload 6, 2) := by decide +kernel
theorem dX4_write_50 : decode cX4_write 50 = .ok (.bipush 127, 2) := by decide +kernel
theorem dX4_write_52 : decode cX4_write 52 = .ok (.if_icmp .ge 7, 3) := by decide +kernel
theorem dX4_write_55 : decode cX4_write 55 = .ok (.iconst 1, 1) := by decide +kernel
theorem dX4_write_56 : decode cX4_write 56 = .ok (.goto 4, 3) := by decide +kernel
theorem dX4_write_59 : decode cX4_write 59 = .ok (.iconst 0, 1) := by decide +kernel
theorem dX4_write_60 : decode cX4_write 60 = .ok (.istore 4, 2) := by decide +kernel
theorem dX4_write_62 : decode cX4_write 62 = .ok (.iload 6, 2) := by decide +kernel
theorem dX4_write_64 : decode cX4_write 64 = .ok (.ifCond .eq 9, 3) := by decide +kernel
theorem dX4_write_67 : decode cX4_write 67 = .ok (.iload_n 3, 1) := by decide +kernel
theorem dX4_write_68 : decode cX4_write 68 = .ok (.iconst 1, 1) := by decide +kernel
theorem dX4_write_69 : decode cX4_write 69 = .ok (.iadd, 1) := by decide +kernel
theorem dX4_write_70 : decode cX4_write 70 = .ok (.goto 4, 3) := by decide +kernel
theorem dX4_write_73 : decode cX4_write 73 = .ok (.iload_n 3, 1) := by decide +kernel
theorem dX4_write_74 : decode cX4_write 74 = .ok (.istore_n 3, 1) := by decide +kernel
theorem dX4_write_75 : decode cX4_write 75 = .ok (.iload 5, 2) := by decide +kernel
theorem dX4_write_77 : decode cX4_write 77 = .ok (.bipush 8, 2) := by decide +kernel
theorem dX4_write_79 : decode cX4_write 79 = .ok (.iadd, 1) := by decide +kernel
theorem dX4_write_80 : decode cX4_write 80 = .ok (.istore 5, 2) := by decide +kernel
theorem dX4_write_82 : decode cX4_write 82 = .ok (.goto (-69), 3) := by decide +kernel
theorem dX4_write_85 : decode cX4_write 85 = .ok (.iload 4, 2) := by decide +kernel
theorem dX4_write_87 : decode cX4_write 87 = .ok (.ifCond .eq 15, 3) := by decide +kernel
theorem dX4_write_90 : decode cX4_write 90 = .ok (.aload_n 0, 1) := by decide +kernel
theorem dX4_write_91 : decode cX4_write 91 = .ok (.getfield 65, 3) := by decide +kernel
theorem dX4_write_94 : decode cX4_write 94 = .ok (.iload_n 3, 1) := by decide +kernel
theorem dX4_write_95 : decode cX4_write 95 = .ok (.iadd, 1) := by decide +kernel
theorem dX4_write_96 : decode cX4_write 96 = .ok (.sipush 480, 3) := by decide +kernel
theorem dX4_write_99 : decode cX4_write 99 = .ok (.if_icmp .le 5, 3) := by decide +kernel
theorem dX4_write_102 : decode cX4_write 102 = .ok (.iconst 0, 1) := by decide +kernel
theorem dX4_write_103 : decode cX4_write 103 = .ok (.ireturn, 1) := by decide +kernel
theorem dX4_write_104 : decode cX4_write 104 = .ok (.iconst 0, 1) := by decide +kernel
theorem dX4_write_105 : decode cX4_write 105 = .ok (.istore 5, 2) := by decide +kernel
theorem dX4_write_107 : decode cX4_write 107 = .ok (.iload 5, 2) := by decide +kernel
theorem dX4_write_109 : decode cX4_write 109 = .ok (.bipush 64, 2) := by decide +kernel
theorem dX4_write_111 : decode cX4_write 111 = .ok (.if_icmp .ge 50, 3) := by decide +kernel
theorem dX4_write_114 : decode cX4_write 114 = .ok (.lload_n 1, 1) := by decide +kernel
theorem dX4_write_115 : decode cX4_write 115 = .ok (.iload 5, 2) := by decide +kernel
theorem dX4_write_117 : decode cX4_write 117 = .ok (.lushr, 1) := by decide +kernel
theorem dX4_write_118 : decode cX4_write 118 = .ok (.ldc2_w 63, 3) := by decide +kernel
theorem dX4_write_121 : decode cX4_write 121 = .ok (.land, 1) := by decide +kernel
theorem dX4_write_122 : decode cX4_write 122 = .ok (.l2i, 1) := by decide +kernel
theorem dX4_write_123 : decode cX4_write 123 = .ok (.istore 6, 2) := by decide +kernel
theorem dX4_write_125 : decode cX4_write 125 = .ok (.iload 6, 2) := by decide +kernel
theorem dX4_write_127 : decode cX4_write 127 = .ok (.ifCond .eq 24, 3) := by decide +kernel
theorem dX4_write_130 : decode cX4_write 130 = .ok (.aload_n 0, 1) := by decide +kernel
theorem dX4_write_131 : decode cX4_write 131 = .ok (.getfield 7, 3) := by decide +kernel
theorem dX4_write_134 : decode cX4_write 134 = .ok (.aload_n 0, 1) := by decide +kernel
theorem dX4_write_135 : decode cX4_write 135 = .ok (.getfield 65, 3) := by decide +kernel
theorem dX4_write_138 : decode cX4_write 138 = .ok (.iload 6, 2) := by decide +kernel
theorem dX4_write_140 : decode cX4_write 140 = .ok (.iastore, 1) := by decide +kernel
theorem dX4_write_141 : decode cX4_write 141 = .ok (.aload_n 0, 1) := by decide +kernel
theorem dX4_write_142 : decode cX4_write 142 = .ok (.dup, 1) := by decide +kernel
theorem dX4_write_143 : decode cX4_write 143 = .ok (.getfield 65, 3) := by decide +kernel
theorem dX4_write_146 : decode cX4_write 146 = .ok (.iconst 1, 1) := by decide +kernel
theorem dX4_write_147 : decode cX4_write 147 = .ok (.iadd, 1) := by decide +kernel
theorem dX4_write_148 : decode cX4_write 148 = .ok (.putfield 65, 3) := by decide +kernel
theorem dX4_write_151 : decode cX4_write 151 = .ok (.iload 5, 2) := by decide +kernel
theorem dX4_write_153 : decode cX4_write 153 = .ok (.bipush 8, 2) := by decide +kernel
theorem dX4_write_155 : decode cX4_write 155 = .ok (.iadd, 1) := by decide +kernel
theorem dX4_write_156 : decode cX4_write 156 = .ok (.istore 5, 2) := by decide +kernel
theorem dX4_write_158 : decode cX4_write 158 = .ok (.goto (-51), 3) := by decide +kernel
theorem dX4_write_161 : decode cX4_write 161 = .ok (.iconst 1, 1) := by decide +kernel
theorem dX4_write_162 : decode cX4_write 162 = .ok (.ireturn, 1) := by decide +kernel
theorem dX4_wipe_0 : decode cX4_wipe 0 = .ok (.aload_n 0, 1) := by decide +kernel
theorem dX4_wipe_1 : decode cX4_wipe 1 = .ok (.iconst 0, 1) := by decide +kernel
theorem dX4_wipe_2 : decode cX4_wipe 2 = .ok (.putfield 59, 3) := by decide +kernel
theorem dX4_wipe_5 : decode cX4_wipe 5 = .ok (.aload_n 0, 1) := by decide +kernel
theorem dX4_wipe_6 : decode cX4_wipe 6 = .ok (.iconst 0, 1) := by decide +kernel
theorem dX4_wipe_7 : decode cX4_wipe 7 = .ok (.putfield 65, 3) := by decide +kernel
theorem dX4_wipe_10 : decode cX4_wipe 10 = .ok (.return_, 1) := by decide +kernel
theorem dX4_here_0 : decode cX4_here 0 = .ok (.aload_n 0, 1) := by decide +kernel
theorem dX4_here_1 : decode cX4_here 1 = .ok (.getfield 68, 3) := by decide +kernel
theorem dX4_here_4 : decode cX4_here 4 = .ok (.aload_n 0, 1) := by decide +kernel
theorem dX4_here_5 : decode cX4_here 5 = .ok (.getfield 65, 3) := by decide +kernel
theorem dX4_here_8 : decode cX4_here 8 = .ok (.if_icmp .ge 15, 3) := by decide +kernel
theorem dX4_here_11 : decode cX4_here 11 = .ok (.aload_n 0, 1) := by decide +kernel
theorem dX4_here_12 : decode cX4_here 12 = .ok (.getfield 7, 3) := by decide +kernel
theorem dX4_here_15 : decode cX4_here 15 = .ok (.aload_n 0, 1) := by decide +kernel
theorem dX4_here_16 : decode cX4_here 16 = .ok (.getfield 68, 3) := by decide +kernel
theorem dX4_here_19 : decode cX4_here 19 = .ok (.iaload, 1) := by decide +kernel
theorem dX4_here_20 : decode cX4_here 20 = .ok (.goto 4, 3) := by decide +kernel
theorem dX4_here_23 : decode cX4_here 23 = .ok (.iconst (-1), 1) := by decide +kernel
theorem dX4_here_24 : decode cX4_here 24 = .ok (.ireturn, 1) := by decide +kernel
theorem dX4_isLetter_0 : decode cX4_isLetter 0 = .ok (.iload_n 0, 1) := by decide +kernel
theorem dX4_isLetter_1 : decode cX4_isLetter 1 = .ok (.bipush 97, 2) := by decide +kernel
theorem dX4_isLetter_3 : decode cX4_isLetter 3 = .ok (.if_icmp .lt 13, 3) := by decide +kernel
theorem dX4_isLetter_6 : decode cX4_isLetter 6 = .ok (.iload_n 0, 1) := by decide +kernel
theorem dX4_isLetter_7 : decode cX4_isLetter 7 = .ok (.bipush 122, 2) := by decide +kernel
theorem dX4_isLetter_9 : decode cX4_isLetter 9 = .ok (.if_icmp .gt 7, 3) := by decide +kernel
theorem dX4_isLetter_12 : decode cX4_isLetter 12 = .ok (.iconst 1, 1) := by decide +kernel
theorem dX4_isLetter_13 : decode cX4_isLetter 13 = .ok (.goto 4, 3) := by decide +kernel
theorem dX4_isLetter_16 : decode cX4_isLetter 16 = .ok (.iconst 0, 1) := by decide +kernel
theorem dX4_isLetter_17 : decode cX4_isLetter 17 = .ok (.ireturn, 1) := by decide +kernel
theorem dX4_isDigit_0 : decode cX4_isDigit 0 = .ok (.iload_n 0, 1) := by decide +kernel
theorem dX4_isDigit_1 : decode cX4_isDigit 1 = .ok (.bipush 48, 2) := by decide +kernel
theorem dX4_isDigit_3 : decode cX4_isDigit 3 = .ok (.if_icmp .lt 13, 3) := by decide +kernel
theorem dX4_isDigit_6 : decode cX4_isDigit 6 = .ok (.iload_n 0, 1) := by decide +kernel
theorem dX4_isDigit_7 : decode cX4_isDigit 7 = .ok (.bipush 57, 2) := by decide +kernel
theorem dX4_isDigit_9 : decode cX4_isDigit 9 = .ok (.if_icmp .gt 7, 3) := by decide +kernel
theorem dX4_isDigit_12 : decode cX4_isDigit 12 = .ok (.iconst 1, 1) := by decide +kernel
theorem dX4_isDigit_13 : decode cX4_isDigit 13 = .ok (.goto 4, 3) := by decide +kernel
theorem dX4_isDigit_16 : decode cX4_isDigit 16 = .ok (.iconst 0, 1) := by decide +kernel
theorem dX4_isDigit_17 : decode cX4_isDigit 17 = .ok (.ireturn, 1) := by decide +kernel
theorem dX4_wrong_0 : decode cX4_wrong 0 = .ok (.aload_n 0, 1) := by decide +kernel
theorem dX4_wrong_1 : decode cX4_wrong 1 = .ok (.aload_n 0, 1) := by decide +kernel
theorem dX4_wrong_2 : decode cX4_wrong 2 = .ok (.getfield 71, 3) := by decide +kernel
theorem dX4_wrong_5 : decode cX4_wrong 5 = .ok (.ifCond .ne 9, 3) := by decide +kernel
theorem dX4_wrong_8 : decode cX4_wrong 8 = .ok (.iload_n 1, 1) := by decide +kernel
theorem dX4_wrong_9 : decode cX4_wrong 9 = .ok (.iconst 1, 1) := by decide +kernel
theorem dX4_wrong_10 : decode cX4_wrong 10 = .ok (.iadd, 1) := by decide +kernel
theorem dX4_wrong_11 : decode cX4_wrong 11 = .ok (.goto 7, 3) := by decide +kernel
theorem dX4_wrong_14 : decode cX4_wrong 14 = .ok (.aload_n 0, 1) := by decide +kernel
theorem dX4_wrong_15 : decode cX4_wrong 15 = .ok (.getfield 71, 3) := by decide +kernel
theorem dX4_wrong_18 : decode cX4_wrong 18 = .ok (.putfield 71, 3) := by decide +kernel
theorem dX4_wrong_21 : decode cX4_wrong 21 = .ok (.return_, 1) := by decide +kernel
set_option maxRecDepth 20000 in
theorem ggX4_want_X4_here : GoodIn wsX4_want wsX4_here := goodIn_r _ [6, 1, 7, 8, 14, 15, 16, 17, 18, 19, 20, 21, 22, 23, 24, 25, 26, 27, 28, 29, 30, 31, 32, 33, 34, 35, 36, 37, 38, 39, 40, 41, 42, 43, 44, 45, 46] (by decide +kernel) (by decide +kernel)
set_option maxRecDepth 20000 in
theorem gX4_want_X4_here : GoodIn wsX4_want (wsV RX4 74 RX4 yX4_here wsX4_here) := goodIn_app (goodIn_of _ (by decide +kernel)) ggX4_want_X4_here
set_option maxRecDepth 20000 in
theorem ggX4_want_X4_wrong : GoodIn wsX4_want wsX4_wrong := goodIn_r _ [12, 13, 14, 15, 16, 17, 18, 19, 20, 21, 22, 23, 24, 25, 26, 27, 28, 29, 30, 31, 32, 33, 34, 35, 36, 37, 38, 39, 40, 41, 42, 43, 44, 45, 46] (by decide +kernel) (by decide +kernel)
set_option maxRecDepth 20000 in
theorem gX4_want_X4_wrong : GoodIn wsX4_want (wsV RX4 78 RX4 yX4_wrong wsX4_wrong) := goodIn_app (goodIn_of _ (by decide +kernel)) ggX4_want_X4_wrong
theorem dX4_want_0 : decode cX4_want 0 = .ok (.aload_n 0, 1) := by decide +kernel
theorem dX4_want_1 : decode cX4_want 1 = .ok (.invokevirtual 74, 3) := by decide +kernel
theorem dX4_want_4 : decode cX4_want 4 = .ok (.iload_n 1, 1) := by decide +kernel
theorem dX4_want_5 : decode cX4_want 5 = .ok (.if_icmp .eq 11, 3) := by decide +kernel
theorem dX4_want_8 : decode cX4_want 8 = .ok (.aload_n 0, 1) := by decide +kernel
theorem dX4_want_9 : decode cX4_want 9 = .ok (.aload_n 0, 1) := by decide +kernel
theorem dX4_want_10 : decode cX4_want 10 = .ok (.getfield 68, 3) := by decide +kernel
theorem dX4_want_13 : decode cX4_want 13 = .ok (.invokevirtual 78, 3) := by decide +kernel
theorem dX4_want_16 : decode cX4_want 16 = .ok (.aload_n 0, 1) := by decide +kernel
theorem dX4_want_17 : decode cX4_want 17 = .ok (.dup, 1) := by decide +kernel
theorem dX4_want_18 : decode cX4_want 18 = .ok (.getfield 68, 3) := by decide +kernel
theorem dX4_want_21 : decode cX4_want 21 = .ok (.iconst 1, 1) := by decide +kernel
theorem dX4_want_22 : decode cX4_want 22 = .ok (.iadd, 1) := by decide +kernel
theorem dX4_want_23 : decode cX4_want 23 = .ok (.putfield 68, 3) := by decide +kernel
theorem dX4_want_26 : decode cX4_want 26 = .ok (.return_, 1) := by decide +kernel
set_option maxRecDepth 20000 in
theorem ggX4_readNumber_X4_here : GoodIn wsX4_readNumber wsX4_here := goodIn_r _ [9, 1, 10, 11, 20, 21, 22, 23, 24, 25, 26, 27, 28, 29, 30, 31, 32, 33, 34, 35, 36, 37, 38, 39, 40, 41, 42, 43, 44, 45, 46, 47, 48, 49, 50, 51, 52] (by decide +kernel) (by decide +kernel)
set_option maxRecDepth 20000 in
theorem gX4_readNumber_X4_here : GoodIn wsX4_readNumber (wsV RX4 74 RX4 yX4_here wsX4_here) := goodIn_app (goodIn_of _ (by decide +kernel)) ggX4_readNumber_X4_here
set_option maxRecDepth 20000 in
theorem ggX4_readNumber_X4_isDigit : GoodIn wsX4_readNumber wsX4_isDigit := goodIn_r _ [14] (by decide +kernel) (by decide +kernel)
set_option maxRecDepth 20000 in
theorem gX4_readNumber_X4_isDigit : GoodIn wsX4_readNumber (va_wsS RX4 86 yX4_isDigit wsX4_isDigit) := goodIn_app (goodIn_of _ (by decide +kernel)) ggX4_readNumber_X4_isDigit
set_option maxRecDepth 20000 in
theorem ggX4_readNumber_X4_wrong : GoodIn wsX4_readNumber wsX4_wrong := goodIn_r _ [18, 19, 20, 21, 22, 23, 24, 25, 26, 27, 28, 29, 30, 31, 32, 33, 34, 35, 36, 37, 38, 39, 40, 41, 42, 43, 44, 45, 46, 47, 48, 49, 50, 51, 52] (by decide +kernel) (by decide +kernel)
set_option maxRecDepth 20000 in
theorem gX4_readNumber_X4_wrong : GoodIn wsX4_readNumber (wsV RX4 78 RX4 yX4_wrong wsX4_wrong) := goodIn_app (goodIn_of _ (by decide +kernel)) ggX4_readNumber_X4_wrong
theorem dX4_readNumber_0 : decode cX4_readNumber 0 = .ok (.aload_n 0, 1) := by decide +kernel
theorem dX4_readNumber_1 : decode cX4_readNumber 1 = .ok (.getfield 68, 3) := by decide +kernel
theorem dX4_readNumber_4 : decode cX4_readNumber 4 = .ok (.istore 5, 2) := by decide +kernel
theorem dX4_readNumber_6 : decode cX4_readNumber 6 = .ok (.iconst 0, 1) := by decide +kernel
theorem dX4_readNumber_7 : decode cX4_readNumber 7 = .ok (.istore 6, 2) := by decide +kernel
theorem dX4_readNumber_9 : decode cX4_readNumber 9 = .ok (.aload_n 0, 1) := by decide +kernel
theorem dX4_readNumber_10 : decode cX4_readNumber 10 = .ok (.lconst 0, 1) := by decide +kernel
theorem dX4_readNumber_11 : decode cX4_readNumber 11 = .ok (.putfield 82, 3) := by decide +kernel
theorem dX4_readNumber_14 : decode cX4_readNumber 14 = .ok (.aload_n 0, 1) := by decide +kernel
theorem dX4_readNumber_15 : decode cX4_readNumber 15 = .ok (.invokevirtual 74, 3) := by decide +kernel
theorem dX4_readNumber_18 : decode cX4_readNumber 18 = .ok (.bipush 36, 2) := by decide +kernel
theorem dX4_readNumber_20 : decode cX4_readNumber 20 = .ok (.if_icmp .ne 7, 3) := by decide +kernel
theorem dX4_readNumber_23 : decode cX4_readNumber 23 = .ok (.iconst 1, 1) := by decide +kernel
theorem dX4_readNumber_24 : decode cX4_readNumber 24 = .ok (.goto 4, 3) := by decide +kernel
theorem dX4_readNumber_27 : decode cX4_readNumber 27 = .ok (.iconst 0, 1) := by decide +kernel
theorem dX4_readNumber_28 : decode cX4_readNumber 28 = .ok (.istore 7, 2) := by decide +kernel
theorem dX4_readNumber_30 : decode cX4_readNumber 30 = .ok (.iload 7, 2) := by decide +kernel
theorem dX4_readNumber_32 : decode cX4_readNumber 32 = .ok (.ifCond .eq 13, 3) := by decide +kernel
theorem dX4_readNumber_35 : decode cX4_readNumber 35 = .ok (.aload_n 0, 1) := by decide +kernel
end
section
theorem dX4_readNumber_36 : decode cX4_readNumber 36 = .ok (.dup, 1) := by decide +kernel
theorem dX4_readNumber_37 : decode cX4_readNumber 37 = .ok (.getfield 68, 3) := by decide +kernel
theorem dX4_readNumber_40 : decode cX4_readNumber 40 = .ok (.iconst 1, 1) := by decide +kernel
theorem dX4_readNumber_41 : decode cX4_readNumber 41 = .ok (.iadd, 1) := by decide +kernel
theorem dX4_readNumber_42 : decode cX4_readNumber 42 = .ok (.putfield 68, 3) := by decide +kernel
theorem dX4_readNumber_45 : decode cX4_readNumber 45 = .ok (.aload_n 0, 1) := by decide +kernel
theorem dX4_readNumber_46 : decode cX4_readNumber 46 = .ok (.invokevirtual 74, 3) := by decide +kernel
theorem dX4_readNumber_49 : decode cX4_readNumber 49 = .ok (.invokestatic 86, 3) := by decide +kernel
theorem dX4_readNumber_52 : decode cX4_readNumber 52 = .ok (.ifCond .ne 26, 3) := by decide +kernel
theorem dX4_readNumber_55 : decode cX4_readNumber 55 = .ok (.iload 7, 2) := by decide +kernel
theorem dX4_readNumber_57 : decode cX4_readNumber 57 = .ok (.ifCond .eq 110, 3) := by decide +kernel
theorem dX4_readNumber_60 : decode cX4_readNumber 60 = .ok (.aload_n 0, 1) := by decide +kernel
theorem dX4_readNumber_61 : decode cX4_readNumber 61 = .ok (.invokevirtual 74, 3) := by decide +kernel
theorem dX4_readNumber_64 : decode cX4_readNumber 64 = .ok (.bipush 97, 2) := by decide +kernel
theorem dX4_readNumber_66 : decode cX4_readNumber 66 = .ok (.if_icmp .lt 101, 3) := by decide +kernel
theorem dX4_readNumber_69 : decode cX4_readNumber 69 = .ok (.aload_n 0, 1) := by decide +kernel
theorem dX4_readNumber_70 : decode cX4_readNumber 70 = .ok (.invokevirtual 74, 3) := by decide +kernel
theorem dX4_readNumber_73 : decode cX4_readNumber 73 = .ok (.bipush 102, 2) := by decide +kernel
theorem dX4_readNumber_75 : decode cX4_readNumber 75 = .ok (.if_icmp .gt 92, 3) := by decide +kernel
theorem dX4_readNumber_78 : decode cX4_readNumber 78 = .ok (.aload_n 0, 1) := by decide +kernel
theorem dX4_readNumber_79 : decode cX4_readNumber 79 = .ok (.invokevirtual 74, 3) := by decide +kernel
theorem dX4_readNumber_82 : decode cX4_readNumber 82 = .ok (.invokestatic 86, 3) := by decide +kernel
theorem dX4_readNumber_85 : decode cX4_readNumber 85 = .ok (.ifCond .eq 13, 3) := by decide +kernel
theorem dX4_readNumber_88 : decode cX4_readNumber 88 = .ok (.aload_n 0, 1) := by decide +kernel
theorem dX4_readNumber_89 : decode cX4_readNumber 89 = .ok (.invokevirtual 74, 3) := by decide +kernel
theorem dX4_readNumber_92 : decode cX4_readNumber 92 = .ok (.bipush 48, 2) := by decide +kernel
theorem dX4_readNumber_94 : decode cX4_readNumber 94 = .ok (.isub, 1) := by decide +kernel
theorem dX4_readNumber_95 : decode cX4_readNumber 95 = .ok (.goto 13, 3) := by decide +kernel
theorem dX4_readNumber_98 : decode cX4_readNumber 98 = .ok (.aload_n 0, 1) := by decide +kernel
theorem dX4_readNumber_99 : decode cX4_readNumber 99 = .ok (.invokevirtual 74, 3) := by decide +kernel
theorem dX4_readNumber_102 : decode cX4_readNumber 102 = .ok (.bipush 97, 2) := by decide +kernel
theorem dX4_readNumber_104 : decode cX4_readNumber 104 = .ok (.isub, 1) := by decide +kernel
theorem dX4_readNumber_105 : decode cX4_readNumber 105 = .ok (.bipush 10, 2) := by decide +kernel
theorem dX4_readNumber_107 : decode cX4_readNumber 107 = .ok (.iadd, 1) := by decide +kernel
theorem dX4_readNumber_108 : decode cX4_readNumber 108 = .ok (.istore 8, 2) := by decide +kernel
theorem dX4_readNumber_110 : decode cX4_readNumber 110 = .ok (.aload_n 0, 1) := by decide +kernel
theorem dX4_readNumber_111 : decode cX4_readNumber 111 = .ok (.iload 6, 2) := by decide +kernel
theorem dX4_readNumber_113 : decode cX4_readNumber 113 = .ok (.bipush 10, 2) := by decide +kernel
theorem dX4_readNumber_115 : decode cX4_readNumber 115 = .ok (.if_icmp .ge 29, 3) := by decide +kernel
theorem dX4_readNumber_118 : decode cX4_readNumber 118 = .ok (.iload 7, 2) := by decide +kernel
theorem dX4_readNumber_120 : decode cX4_readNumber 120 = .ok (.ifCond .eq 9, 3) := by decide +kernel
theorem dX4_readNumber_123 : decode cX4_readNumber 123 = .ok (.ldc2_w 90, 3) := by decide +kernel
theorem dX4_readNumber_126 : decode cX4_readNumber 126 = .ok (.goto 6, 3) := by decide +kernel
theorem dX4_readNumber_129 : decode cX4_readNumber 129 = .ok (.ldc2_w 92, 3) := by decide +kernel
theorem dX4_readNumber_132 : decode cX4_readNumber 132 = .ok (.aload_n 0, 1) := by decide +kernel
theorem dX4_readNumber_133 : decode cX4_readNumber 133 = .ok (.getfield 82, 3) := by decide +kernel
theorem dX4_readNumber_136 : decode cX4_readNumber 136 = .ok (.lmul, 1) := by decide +kernel
theorem dX4_readNumber_137 : decode cX4_readNumber 137 = .ok (.iload 8, 2) := by decide +kernel
theorem dX4_readNumber_139 : decode cX4_readNumber 139 = .ok (.i2l, 1) := by decide +kernel
theorem dX4_readNumber_140 : decode cX4_readNumber 140 = .ok (.ladd, 1) := by decide +kernel
theorem dX4_readNumber_141 : decode cX4_readNumber 141 = .ok (.goto 7, 3) := by decide +kernel
theorem dX4_readNumber_144 : decode cX4_readNumber 144 = .ok (.aload_n 0, 1) := by decide +kernel
theorem dX4_readNumber_145 : decode cX4_readNumber 145 = .ok (.getfield 82, 3) := by decide +kernel
theorem dX4_readNumber_148 : decode cX4_readNumber 148 = .ok (.putfield 82, 3) := by decide +kernel
theorem dX4_readNumber_151 : decode cX4_readNumber 151 = .ok (.iinc 6 1, 3) := by decide +kernel
theorem dX4_readNumber_154 : decode cX4_readNumber 154 = .ok (.aload_n 0, 1) := by decide +kernel
theorem dX4_readNumber_155 : decode cX4_readNumber 155 = .ok (.dup, 1) := by decide +kernel
theorem dX4_readNumber_156 : decode cX4_readNumber 156 = .ok (.getfield 68, 3) := by decide +kernel
theorem dX4_readNumber_159 : decode cX4_readNumber 159 = .ok (.iconst 1, 1) := by decide +kernel
theorem dX4_readNumber_160 : decode cX4_readNumber 160 = .ok (.iadd, 1) := by decide +kernel
theorem dX4_readNumber_161 : decode cX4_readNumber 161 = .ok (.putfield 68, 3) := by decide +kernel
theorem dX4_readNumber_164 : decode cX4_readNumber 164 = .ok (.goto (-119), 3) := by decide +kernel
theorem dX4_readNumber_167 : decode cX4_readNumber 167 = .ok (.iload 6, 2) := by decide +kernel
theorem dX4_readNumber_169 : decode cX4_readNumber 169 = .ok (.ifCond .ne 14, 3) := by decide +kernel
theorem dX4_readNumber_172 : decode cX4_readNumber 172 = .ok (.aload_n 0, 1) := by decide +kernel
theorem dX4_readNumber_173 : decode cX4_readNumber 173 = .ok (.aload_n 0, 1) := by decide +kernel
theorem dX4_readNumber_174 : decode cX4_readNumber 174 = .ok (.getfield 68, 3) := by decide +kernel
theorem dX4_readNumber_177 : decode cX4_readNumber 177 = .ok (.invokevirtual 78, 3) := by decide +kernel
theorem dX4_readNumber_180 : decode cX4_readNumber 180 = .ok (.goto 44, 3) := by decide +kernel
theorem dX4_readNumber_183 : decode cX4_readNumber 183 = .ok (.iload 6, 2) := by decide +kernel
theorem dX4_readNumber_185 : decode cX4_readNumber 185 = .ok (.iload 7, 2) := by decide +kernel
theorem dX4_readNumber_187 : decode cX4_readNumber 187 = .ok (.ifCond .eq 8, 3) := by decide +kernel
theorem dX4_readNumber_190 : decode cX4_readNumber 190 = .ok (.bipush 8, 2) := by decide +kernel
theorem dX4_readNumber_192 : decode cX4_readNumber 192 = .ok (.goto 5, 3) := by decide +kernel
theorem dX4_readNumber_195 : decode cX4_readNumber 195 = .ok (.bipush 10, 2) := by decide +kernel
theorem dX4_readNumber_197 : decode cX4_readNumber 197 = .ok (.if_icmp .gt 21, 3) := by decide +kernel
theorem dX4_readNumber_200 : decode cX4_readNumber 200 = .ok (.aload_n 0, 1) := by decide +kernel
theorem dX4_readNumber_201 : decode cX4_readNumber 201 = .ok (.getfield 82, 3) := by decide +kernel
theorem dX4_readNumber_204 : decode cX4_readNumber 204 = .ok (.lload_n 1, 1) := by decide +kernel
theorem dX4_readNumber_205 : decode cX4_readNumber 205 = .ok (.lcmp, 1) := by decide +kernel
theorem dX4_readNumber_206 : decode cX4_readNumber 206 = .ok (.ifCond .lt 12, 3) := by decide +kernel
theorem dX4_readNumber_209 : decode cX4_readNumber 209 = .ok (.aload_n 0, 1) := by decide +kernel
theorem dX4_readNumber_210 : decode cX4_readNumber 210 = .ok (.getfield 82, 3) := by decide +kernel
theorem dX4_readNumber_213 : decode cX4_readNumber 213 = .ok (.lload_n 3, 1) := by decide +kernel
theorem dX4_readNumber_214 : decode cX4_readNumber 214 = .ok (.lcmp, 1) := by decide +kernel
theorem dX4_readNumber_215 : decode cX4_readNumber 215 = .ok (.ifCond .le 9, 3) := by decide +kernel
theorem dX4_readNumber_218 : decode cX4_readNumber 218 = .ok (.aload_n 0, 1) := by decide +kernel
theorem dX4_readNumber_219 : decode cX4_readNumber 219 = .ok (.iload 5, 2) := by decide +kernel
theorem dX4_readNumber_221 : decode cX4_readNumber 221 = .ok (.invokevirtual 78, 3) := by decide +kernel
theorem dX4_readNumber_224 : decode cX4_readNumber 224 = .ok (.return_, 1) := by decide +kernel
theorem dX4_step_0 : decode cX4_step 0 = .ok (.aload_n 0, 1) := by decide +kernel
theorem dX4_step_1 : decode cX4_step 1 = .ok (.getfield 25, 3) := by decide +kernel
theorem dX4_step_4 : decode cX4_step 4 = .ok (.aload_n 0, 1) := by decide +kernel
theorem dX4_step_5 : decode cX4_step 5 = .ok (.getfield 94, 3) := by decide +kernel
theorem dX4_step_8 : decode cX4_step 8 = .ok (.iload_n 1, 1) := by decide +kernel
theorem dX4_step_9 : decode cX4_step 9 = .ok (.iastore, 1) := by decide +kernel
theorem dX4_step_10 : decode cX4_step 10 = .ok (.aload_n 0, 1) := by decide +kernel
theorem dX4_step_11 : decode cX4_step 11 = .ok (.getfield 28, 3) := by decide +kernel
theorem dX4_step_14 : decode cX4_step 14 = .ok (.aload_n 0, 1) := by decide +kernel
theorem dX4_step_15 : decode cX4_step 15 = .ok (.getfield 94, 3) := by decide +kernel
theorem dX4_step_18 : decode cX4_step 18 = .ok (.iload_n 2, 1) := by decide +kernel
theorem dX4_step_19 : decode cX4_step 19 = .ok (.iastore, 1) := by decide +kernel
theorem dX4_step_20 : decode cX4_step 20 = .ok (.aload_n 0, 1) := by decide +kernel
theorem dX4_step_21 : decode cX4_step 21 = .ok (.dup, 1) := by decide +kernel
theorem dX4_step_22 : decode cX4_step 22 = .ok (.getfield 94, 3) := by decide +kernel
theorem dX4_step_25 : decode cX4_step 25 = .ok (.iconst 1, 1) := by decide +kernel
theorem dX4_step_26 : decode cX4_step 26 = .ok (.iadd, 1) := by decide +kernel
theorem dX4_step_27 : decode cX4_step 27 = .ok (.putfield 94, 3) := by decide +kernel
theorem dX4_step_30 : decode cX4_step 30 = .ok (.return_, 1) := by decide +kernel
theorem dX4_push_0 : decode cX4_push 0 = .ok (.aload_n 0, 1) := by decide +kernel
theorem dX4_push_1 : decode cX4_push 1 = .ok (.getfield 37, 3) := by decide +kernel
theorem dX4_push_4 : decode cX4_push 4 = .ok (.aload_n 0, 1) := by decide +kernel
theorem dX4_push_5 : decode cX4_push 5 = .ok (.getfield 97, 3) := by decide +kernel
theorem dX4_push_8 : decode cX4_push 8 = .ok (.iload_n 1, 1) := by decide +kernel
theorem dX4_push_9 : decode cX4_push 9 = .ok (.iastore, 1) := by decide +kernel
theorem dX4_push_10 : decode cX4_push 10 = .ok (.aload_n 0, 1) := by decide +kernel
theorem dX4_push_11 : decode cX4_push 11 = .ok (.getfield 40, 3) := by decide +kernel
theorem dX4_push_14 : decode cX4_push 14 = .ok (.aload_n 0, 1) := by decide +kernel
theorem dX4_push_15 : decode cX4_push 15 = .ok (.getfield 97, 3) := by decide +kernel
theorem dX4_push_18 : decode cX4_push 18 = .ok (.iconst 0, 1) := by decide +kernel
theorem dX4_push_19 : decode cX4_push 19 = .ok (.iastore, 1) := by decide +kernel
theorem dX4_push_20 : decode cX4_push 20 = .ok (.aload_n 0, 1) := by decide +kernel
theorem dX4_push_21 : decode cX4_push 21 = .ok (.dup, 1) := by decide +kernel
theorem dX4_push_22 : decode cX4_push 22 = .ok (.getfield 97, 3) := by decide +kernel
theorem dX4_push_25 : decode cX4_push 25 = .ok (.iconst 1, 1) := by decide +kernel
theorem dX4_push_26 : decode cX4_push 26 = .ok (.iadd, 1) := by decide +kernel
theorem dX4_push_27 : decode cX4_push 27 = .ok (.putfield 97, 3) := by decide +kernel
theorem dX4_push_30 : decode cX4_push 30 = .ok (.return_, 1) := by decide +kernel
theorem dX4_settle_0 : decode cX4_settle 0 = .ok (.aload_n 0, 1) := by decide +kernel
theorem dX4_settle_1 : decode cX4_settle 1 = .ok (.getfield 43, 3) := by decide +kernel
theorem dX4_settle_4 : decode cX4_settle 4 = .ok (.aload_n 0, 1) := by decide +kernel
theorem dX4_settle_5 : decode cX4_settle 5 = .ok (.getfield 100, 3) := by decide +kernel
theorem dX4_settle_8 : decode cX4_settle 8 = .ok (.iload_n 1, 1) := by decide +kernel
theorem dX4_settle_9 : decode cX4_settle 9 = .ok (.bastore, 1) := by decide +kernel
theorem dX4_settle_10 : decode cX4_settle 10 = .ok (.aload_n 0, 1) := by decide +kernel
theorem dX4_settle_11 : decode cX4_settle 11 = .ok (.dup, 1) := by decide +kernel
theorem dX4_settle_12 : decode cX4_settle 12 = .ok (.getfield 100, 3) := by decide +kernel
theorem dX4_settle_15 : decode cX4_settle 15 = .ok (.iconst 1, 1) := by decide +kernel
theorem dX4_settle_16 : decode cX4_settle 16 = .ok (.iadd, 1) := by decide +kernel
theorem dX4_settle_17 : decode cX4_settle 17 = .ok (.putfield 100, 3) := by decide +kernel
theorem dX4_settle_20 : decode cX4_settle 20 = .ok (.return_, 1) := by decide +kernel
theorem dX4_isLoop_0 : decode cX4_isLoop 0 = .ok (.iconst 0, 1) := by decide +kernel
theorem dX4_isLoop_1 : decode cX4_isLoop 1 = .ok (.istore_n 2, 1) := by decide +kernel
theorem dX4_isLoop_2 : decode cX4_isLoop 2 = .ok (.iconst 0, 1) := by decide +kernel
theorem dX4_isLoop_3 : decode cX4_isLoop 3 = .ok (.istore_n 3, 1) := by decide +kernel
theorem dX4_isLoop_4 : decode cX4_isLoop 4 = .ok (.iload_n 3, 1) := by decide +kernel
theorem dX4_isLoop_5 : decode cX4_isLoop 5 = .ok (.aload_n 0, 1) := by decide +kernel
theorem dX4_isLoop_6 : decode cX4_isLoop 6 = .ok (.getfield 103, 3) := by decide +kernel
theorem dX4_isLoop_9 : decode cX4_isLoop 9 = .ok (.if_icmp .ge 29, 3) := by decide +kernel
theorem dX4_isLoop_12 : decode cX4_isLoop 12 = .ok (.iload_n 2, 1) := by decide +kernel
theorem dX4_isLoop_13 : decode cX4_isLoop 13 = .ok (.ifCond .ne 13, 3) := by decide +kernel
theorem dX4_isLoop_16 : decode cX4_isLoop 16 = .ok (.aload_n 0, 1) := by decide +kernel
theorem dX4_isLoop_17 : decode cX4_isLoop 17 = .ok (.getfield 47, 3) := by decide +kernel
theorem dX4_isLoop_20 : decode cX4_isLoop 20 = .ok (.iload_n 3, 1) := by decide +kernel
theorem dX4_isLoop_21 : decode cX4_isLoop 21 = .ok (.iaload, 1) := by decide +kernel
theorem dX4_isLoop_22 : decode cX4_isLoop 22 = .ok (.iload_n 1, 1) := by decide +kernel
theorem dX4_isLoop_23 : decode cX4_isLoop 23 = .ok (.if_icmp .ne 7, 3) := by decide +kernel
theorem dX4_isLoop_26 : decode cX4_isLoop 26 = .ok (.iconst 1, 1) := by decide +kernel
theorem dX4_isLoop_27 : decode cX4_isLoop 27 = .ok (.goto 4, 3) := by decide +kernel
theorem dX4_isLoop_30 : decode cX4_isLoop 30 = .ok (.iconst 0, 1) := by decide +kernel
theorem dX4_isLoop_31 : decode cX4_isLoop 31 = .ok (.istore_n 2, 1) := by decide +kernel
theorem dX4_isLoop_32 : decode cX4_isLoop 32 = .ok (.iinc 3 1, 3) := by decide +kernel
theorem dX4_isLoop_35 : decode cX4_isLoop 35 = .ok (.goto (-31), 3) := by decide +kernel
theorem dX4_isLoop_38 : decode cX4_isLoop 38 = .ok (.iload_n 2, 1) := by decide +kernel
theorem dX4_isLoop_39 : decode cX4_isLoop 39 = .ok (.ireturn, 1) := by decide +kernel
set_option maxRecDepth 20000 in
theorem ggX4_statement_X4_here : GoodIn wsX4_statement wsX4_here := goodIn_r _ [17, 2, 18, 19, 60, 61, 62, 63, 64, 65, 66, 67, 68, 69, 70, 71, 72, 73, 74, 75, 76, 77, 78, 79, 80, 81, 82, 83, 84, 85, 86, 87, 88, 89, 90, 91, 92] (by decide +kernel) (by decide +kernel)
set_option maxRecDepth 20000 in
theorem gX4_statement_X4_here : GoodIn wsX4_statement (wsV RX4 74 RX4 yX4_here wsX4_here) := goodIn_app (goodIn_of _ (by decide +kernel)) ggX4_statement_X4_here
set_option maxRecDepth 20000 in
theorem ggX4_statement_X4_step : GoodIn wsX4_statement wsX4_step := goodIn_r _ [23, 24, 6, 5, 60, 61, 62, 63, 64, 65, 66, 67, 68, 69, 70, 71, 72, 73, 74, 75, 76, 77, 78, 79, 80, 81, 82, 83, 84, 85, 86, 87, 88, 89, 90, 91, 92] (by decide +kernel) (by decide +kernel)
set_option maxRecDepth 20000 in
theorem gX4_statement_X4_step : GoodIn wsX4_statement (wsV RX4 106 RX4 yX4_step wsX4_step) := goodIn_app (goodIn_of _ (by decide +kernel)) ggX4_statement_X4_step
set_option maxRecDepth 20000 in
theorem ggX4_statement_X4_isLetter : GoodIn wsX4_statement wsX4_isLetter := goodIn_r _ [27] (by decide +kernel) (by decide +kernel)
set_option maxRecDepth 20000 in
theorem gX4_statement_X4_isLetter : GoodIn wsX4_statement (va_wsS RX4 113 yX4_isLetter wsX4_isLetter) := goodIn_app (goodIn_of _ (by decide +kernel)) ggX4_statement_X4_isLetter
set_option maxRecDepth 20000 in
theorem ggX4_statement_X4_isLoop : GoodIn wsX4_statement wsX4_isLoop := goodIn_r _ [31, 1, 3, 60, 61, 62, 63, 64, 65, 66, 67, 68, 69, 70, 71, 72, 73, 74, 75, 76, 77, 78, 79, 80, 81, 82, 83, 84, 85, 86, 87, 88, 89, 90, 91, 92] (by decide +kernel) (by decide +kernel)
set_option maxRecDepth 20000 in
theorem gX4_statement_X4_isLoop : GoodIn wsX4_statement (wsV RX4 119 RX4 yX4_isLoop wsX4_isLoop) := goodIn_app (goodIn_of _ (by decide +kernel)) ggX4_statement_X4_isLoop
set_option maxRecDepth 20000 in
theorem ggX4_statement_X4_wrong : GoodIn wsX4_statement wsX4_wrong := goodIn_r _ [35, 10, 60, 61, 62, 63, 64, 65, 66, 67, 68, 69, 70, 71, 72, 73, 74, 75, 76, 77, 78, 79, 80, 81, 82, 83, 84, 85, 86, 87, 88, 89, 90, 91, 92] (by decide +kernel) (by decide +kernel)
set_option maxRecDepth 20000 in
theorem gX4_statement_X4_wrong : GoodIn wsX4_statement (wsV RX4 78 RX4 yX4_wrong wsX4_wrong) := goodIn_app (goodIn_of _ (by decide +kernel)) ggX4_statement_X4_wrong
set_option maxRecDepth 20000 in
theorem ggX4_statement_X4_want : GoodIn wsX4_statement wsX4_want := goodIn_r _ [39, 2, 13, 14, 15, 16, 17, 18, 19, 32, 33, 34, 35, 10, 60, 61, 62, 63, 64, 65, 66, 67, 68, 69, 70, 71, 72, 73, 74, 75, 76, 77, 78, 79, 80, 81, 82, 83, 84, 85, 86, 87, 88, 89, 90, 91, 92] (by decide +kernel) (by decide +kernel)
set_option maxRecDepth 20000 in
theorem gX4_statement_X4_want : GoodIn wsX4_statement (wsV RX4 122 RX4 yX4_want wsX4_want) := goodIn_app (goodIn_of _ (by decide +kernel)) ggX4_statement_X4_want
set_option maxRecDepth 20000 in
theorem ggX4_statement_X4_push : GoodIn wsX4_statement wsX4_push := goodIn_r _ [43, 44, 45, 46, 60, 61, 62, 63, 64, 65, 66, 67, 68, 69, 70, 71, 72, 73, 74, 75, 76, 77, 78, 79, 80, 81, 82, 83, 84, 85, 86, 87, 88, 89, 90, 91, 92] (by decide +kernel) (by decide +kernel)
set_option maxRecDepth 20000 in
theorem gX4_statement_X4_push : GoodIn wsX4_statement (wsV RX4 125 RX4 yX4_push wsX4_push) := goodIn_app (goodIn_of _ (by decide +kernel)) ggX4_statement_X4_push
set_option maxRecDepth 20000 in
theorem ggX4_statement_X4_readNumber : GoodIn wsX4_statement wsX4_readNumber := goodIn_r _ [50, 2, 12, 51, 52, 13, 14, 15, 16, 17, 18, 19, 53, 54, 55, 32, 33, 34, 35, 10, 60, 61, 62, 63, 64, 65, 66, 67, 68, 69, 70, 71, 72, 73, 74, 75, 76, 77, 78, 79, 80, 81, 82, 83, 84, 85, 86, 87, 88, 89, 90, 91, 92] (by decide +kernel) (by decide +kernel)
set_option maxRecDepth 20000 in
theorem gX4_statement_X4_readNumber : GoodIn wsX4_statement (wsV RX4 130 RX4 yX4_readNumber wsX4_readNumber) := goodIn_app (goodIn_of _ (by decide +kernel)) ggX4_statement_X4_readNumber
set_option maxRecDepth 20000 in
theorem ggX4_statement_X4_block : GoodIn wsX4_statement wsX4_block := goodIn_r _ [59, 3, 1, 4, 11, 60, 61, 62, 63, 64, 65, 66, 67, 68, 69, 70, 71, 72, 73, 74, 75, 76, 77, 78, 79, 80, 81, 82, 83, 84, 85, 86, 87, 88, 89, 90, 91, 92] (by decide +kernel) (by decide +kernel)
set_option maxRecDepth 20000 in
theorem gX4_statement_X4_block : GoodIn wsX4_statement (wsV RX4 134 RX4 yX4_block wsX4_block) := goodIn_app (goodIn_of _ (by decide +kernel)) ggX4_statement_X4_block
theorem dX4_statement_0 : decode cX4_statement 0 = .ok (.aload_n 0, 1) := by decide +kernel
theorem dX4_statement_1 : decode cX4_statement 1 = .ok (.invokevirtual 74, 3) := by decide +kernel
theorem dX4_statement_4 : decode cX4_statement 4 = .ok (.istore_n 1, 1) := by decide +kernel
theorem dX4_statement_5 : decode cX4_statement 5 = .ok (.iload_n 1, 1) := by decide +kernel
theorem dX4_statement_6 : decode cX4_statement 6 = .ok (.bipush 125, 2) := by decide +kernel
theorem dX4_statement_8 : decode cX4_statement 8 = .ok (.if_icmp .ne 80, 3) := by decide +kernel
theorem dX4_statement_11 : decode cX4_statement 11 = .ok (.aload_n 0, 1) := by decide +kernel
theorem dX4_statement_12 : decode cX4_statement 12 = .ok (.getfield 103, 3) := by decide +kernel
theorem dX4_statement_15 : decode cX4_statement 15 = .ok (.ifCond .le 73, 3) := by decide +kernel
theorem dX4_statement_18 : decode cX4_statement 18 = .ok (.aload_n 0, 1) := by decide +kernel
theorem dX4_statement_19 : decode cX4_statement 19 = .ok (.dup, 1) := by decide +kernel
theorem dX4_statement_20 : decode cX4_statement 20 = .ok (.getfield 68, 3) := by decide +kernel
theorem dX4_statement_23 : decode cX4_statement 23 = .ok (.iconst 1, 1) := by decide +kernel
theorem dX4_statement_24 : decode cX4_statement 24 = .ok (.iadd, 1) := by decide +kernel
theorem dX4_statement_25 : decode cX4_statement 25 = .ok (.putfield 68, 3) := by decide +kernel
theorem dX4_statement_28 : decode cX4_statement 28 = .ok (.aload_n 0, 1) := by decide +kernel
theorem dX4_statement_29 : decode cX4_statement 29 = .ok (.dup, 1) := by decide +kernel
theorem dX4_statement_30 : decode cX4_statement 30 = .ok (.getfield 103, 3) := by decide +kernel
theorem dX4_statement_33 : decode cX4_statement 33 = .ok (.iconst 1, 1) := by decide +kernel
theorem dX4_statement_34 : decode cX4_statement 34 = .ok (.isub, 1) := by decide +kernel
theorem dX4_statement_35 : decode cX4_statement 35 = .ok (.putfield 103, 3) := by decide +kernel
theorem dX4_statement_38 : decode cX4_statement 38 = .ok (.aload_n 0, 1) := by decide +kernel
theorem dX4_statement_39 : decode cX4_statement 39 = .ok (.getfield 47, 3) := by decide +kernel
theorem dX4_statement_42 : decode cX4_statement 42 = .ok (.aload_n 0, 1) := by decide +kernel
theorem dX4_statement_43 : decode cX4_statement 43 = .ok (.getfield 103, 3) := by decide +kernel
theorem dX4_statement_46 : decode cX4_statement 46 = .ok (.iaload, 1) := by decide +kernel
theorem dX4_statement_47 : decode cX4_statement 47 = .ok (.ifCond .lt 21, 3) := by decide +kernel
theorem dX4_statement_50 : decode cX4_statement 50 = .ok (.aload_n 0, 1) := by decide +kernel
theorem dX4_statement_51 : decode cX4_statement 51 = .ok (.bipush 11, 2) := by decide +kernel
theorem dX4_statement_53 : decode cX4_statement 53 = .ok (.aload_n 0, 1) := by decide +kernel
theorem dX4_statement_54 : decode cX4_statement 54 = .ok (.getfield 50, 3) := by decide +kernel
theorem dX4_statement_57 : decode cX4_statement 57 = .ok (.aload_n 0, 1) := by decide +kernel
theorem dX4_statement_58 : decode cX4_statement 58 = .ok (.getfield 103, 3) := by decide +kernel
theorem dX4_statement_61 : decode cX4_statement 61 = .ok (.iaload, 1) := by decide +kernel
theorem dX4_statement_62 : decode cX4_statement 62 = .ok (.invokevirtual 106, 3) := by decide +kernel
theorem dX4_statement_65 : decode cX4_statement 65 = .ok (.goto 21, 3) := by decide +kernel
theorem dX4_statement_68 : decode cX4_statement 68 = .ok (.aload_n 0, 1) := by decide +kernel
theorem dX4_statement_69 : decode cX4_statement 69 = .ok (.getfield 28, 3) := by decide +kernel
theorem dX4_statement_72 : decode cX4_statement 72 = .ok (.aload_n 0, 1) := by decide +kernel
theorem dX4_statement_73 : decode cX4_statement 73 = .ok (.getfield 50, 3) := by decide +kernel
theorem dX4_statement_76 : decode cX4_statement 76 = .ok (.aload_n 0, 1) := by decide +kernel
theorem dX4_statement_77 : decode cX4_statement 77 = .ok (.getfield 103, 3) := by decide +kernel
theorem dX4_statement_80 : decode cX4_statement 80 = .ok (.iaload, 1) := by decide +kernel
theorem dX4_statement_81 : decode cX4_statement 81 = .ok (.aload_n 0, 1) := by decide +kernel
theorem dX4_statement_82 : decode cX4_statement 82 = .ok (.getfield 94, 3) := by decide +kernel
theorem dX4_statement_85 : decode cX4_statement 85 = .ok (.iastore, 1) := by decide +kernel
theorem dX4_statement_86 : decode cX4_statement 86 = .ok (.iconst 0, 1) := by decide +kernel
theorem dX4_statement_87 : decode cX4_statement 87 = .ok (.ireturn, 1) := by decide +kernel
theorem dX4_statement_88 : decode cX4_statement 88 = .ok (.aload_n 0, 1) := by decide +kernel
theorem dX4_statement_89 : decode cX4_statement 89 = .ok (.dup, 1) := by decide +kernel
theorem dX4_statement_90 : decode cX4_statement 90 = .ok (.getfield 110, 3) := by decide +kernel
theorem dX4_statement_93 : decode cX4_statement 93 = .ok (.iconst 1, 1) := by decide +kernel
theorem dX4_statement_94 : decode cX4_statement 94 = .ok (.iadd, 1) := by decide +kernel
theorem dX4_statement_95 : decode cX4_statement 95 = .ok (.putfield 110, 3) := by decide +kernel
theorem dX4_statement_98 : decode cX4_statement 98 = .ok (.iload_n 1, 1) := by decide +kernel
theorem dX4_statement_99 : decode cX4_statement 99 = .ok (.invokestatic 113, 3) := by decide +kernel
theorem dX4_statement_102 : decode cX4_statement 102 = .ok (.ifCond .eq 53, 3) := by decide +kernel
theorem dX4_statement_105 : decode cX4_statement 105 = .ok (.aload_n 0, 1) := by decide +kernel
theorem dX4_statement_106 : decode cX4_statement 106 = .ok (.iload_n 1, 1) := by decide +kernel
theorem dX4_statement_107 : decode cX4_statement 107 = .ok (.bipush 97, 2) := by decide +kernel
theorem dX4_statement_109 : decode cX4_statement 109 = .ok (.isub, 1) := by decide +kernel
theorem dX4_statement_110 : decode cX4_statement 110 = .ok (.putfield 116, 3) := by decide +kernel
theorem dX4_statement_113 : decode cX4_statement 113 = .ok (.aload_n 0, 1) := by decide +kernel
theorem dX4_statement_114 : decode cX4_statement 114 = .ok (.aload_n 0, 1) := by decide +kernel
theorem dX4_statement_115 : decode cX4_statement 115 = .ok (.getfield 116, 3) := by decide +kernel
theorem dX4_statement_118 : decode cX4_statement 118 = .ok (.invokevirtual 119, 3) := by decide +kernel
theorem dX4_statement_121 : decode cX4_statement 121 = .ok (.ifCond .eq 11, 3) := by decide +kernel
theorem dX4_statement_124 : decode cX4_statement 124 = .ok (.aload_n 0, 1) := by decide +kernel
theorem dX4_statement_125 : decode cX4_statement 125 = .ok (.aload_n 0, 1) := by decide +kernel
theorem dX4_statement_126 : decode cX4_statement 126 = .ok (.getfield 68, 3) := by decide +kernel
theorem dX4_statement_129 : decode cX4_statement 129 = .ok (.invokevirtual 78, 3) := by decide +kernel
theorem dX4_statement_132 : decode cX4_statement 132 = .ok (.aload_n 0, 1) := by decide +kernel
theorem dX4_statement_133 : decode cX4_statement 133 = .ok (.dup, 1) := by decide +kernel
theorem dX4_statement_134 : decode cX4_statement 134 = .ok (.getfield 68, 3) := by decide +kernel
theorem dX4_statement_137 : decode cX4_statement 137 = .ok (.iconst 1, 1) := by decide +kernel
theorem dX4_statement_138 : decode cX4_statement 138 = .ok (.iadd, 1) := by decide +kernel
theorem dX4_statement_139 : decode cX4_statement 139 = .ok (.putfield 68, 3) := by decide +kernel
theorem dX4_statement_142 : decode cX4_statement 142 = .ok (.aload_n 0, 1) := by decide +kernel
theorem dX4_statement_143 : decode cX4_statement 143 = .ok (.bipush 61, 2) := by decide +kernel
theorem dX4_statement_145 : decode cX4_statement 145 = .ok (.invokevirtual 122, 3) := by decide +kernel
theorem dX4_statement_148 : decode cX4_statement 148 = .ok (.aload_n 0, 1) := by decide +kernel
theorem dX4_statement_149 : decode cX4_statement 149 = .ok (.iconst 0, 1) := by decide +kernel
theorem dX4_statement_150 : decode cX4_statement 150 = .ok (.invokevirtual 125, 3) := by decide +kernel
theorem dX4_statement_153 : decode cX4_statement 153 = .ok (.iconst 1, 1) := by decide +kernel
theorem dX4_statement_154 : decode cX4_statement 154 = .ok (.ireturn, 1) := by decide +kernel
theorem dX4_statement_155 : decode cX4_statement 155 = .ok (.iload_n 1, 1) := by decide +kernel
theorem dX4_statement_156 : decode cX4_statement 156 = .ok (.bipush 64, 2) := by decide +kernel
theorem dX4_statement_158 : decode cX4_statement 158 = .ok (.if_icmp .ne 26, 3) := by decide +kernel
theorem dX4_statement_161 : decode cX4_statement 161 = .ok (.aload_n 0, 1) := by decide +kernel
theorem dX4_statement_162 : decode cX4_statement 162 = .ok (.dup, 1) := by decide +kernel
theorem dX4_statement_163 : decode cX4_statement 163 = .ok (.getfield 68, 3) := by decide +kernel
theorem dX4_statement_166 : decode cX4_statement 166 = .ok (.iconst 1, 1) := by decide +kernel
theorem dX4_statement_167 : decode cX4_statement 167 = .ok (.iadd, 1) := by decide +kernel
theorem dX4_statement_168 : decode cX4_statement 168 = .ok (.putfield 68, 3) := by decide +kernel
theorem dX4_statement_171 : decode cX4_statement 171 = .ok (.aload_n 0, 1) := by decide +kernel
theorem dX4_statement_172 : decode cX4_statement 172 = .ok (.bipush 91, 2) := by decide +kernel
theorem dX4_statement_174 : decode cX4_statement 174 = .ok (.invokevirtual 122, 3) := by decide +kernel
theorem dX4_statement_177 : decode cX4_statement 177 = .ok (.aload_n 0, 1) := by decide +kernel
theorem dX4_statement_178 : decode cX4_statement 178 = .ok (.iconst 1, 1) := by decide +kernel
theorem dX4_statement_179 : decode cX4_statement 179 = .ok (.invokevirtual 125, 3) := by decide +kernel
theorem dX4_statement_182 : decode cX4_statement 182 = .ok (.iconst 1, 1) := by decide +kernel
theorem dX4_statement_183 : decode cX4_statement 183 = .ok (.ireturn, 1) := by decide +kernel
theorem dX4_statement_184 : decode cX4_statement 184 = .ok (.iload_n 1, 1) := by decide +kernel
theorem dX4_statement_185 : decode cX4_statement 185 = .ok (.bipush 35, 2) := by decide +kernel
theorem dX4_statement_187 : decode cX4_statement 187 = .ok (.if_icmp .eq 9, 3) := by decide +kernel
theorem dX4_statement_190 : decode cX4_statement 190 = .ok (.iload_n 1, 1) := by decide +kernel
theorem dX4_statement_191 : decode cX4_statement 191 = .ok (.bipush 63, 2) := by decide +kernel
theorem dX4_statement_193 : decode cX4_statement 193 = .ok (.if_icmp .ne 12, 3) := by decide +kernel
theorem dX4_statement_196 : decode cX4_statement 196 = .ok (.aload_n 0, 1) := by decide +kernel
theorem dX4_statement_197 : decode cX4_statement 197 = .ok (.getfield 103, 3) := by decide +kernel
theorem dX4_statement_200 : decode cX4_statement 200 = .ok (.bipush 8, 2) := by decide +kernel
theorem dX4_statement_202 : decode cX4_statement 202 = .ok (.if_icmp .ne 13, 3) := by decide +kernel
theorem dX4_statement_205 : decode cX4_statement 205 = .ok (.aload_n 0, 1) := by decide +kernel
theorem dX4_statement_206 : decode cX4_statement 206 = .ok (.aload_n 0, 1) := by decide +kernel
theorem dX4_statement_207 : decode cX4_statement 207 = .ok (.getfield 68, 3) := by decide +kernel
theorem dX4_statement_210 : decode cX4_statement 210 = .ok (.invokevirtual 78, 3) := by decide +kernel
theorem dX4_statement_213 : decode cX4_statement 213 = .ok (.iconst 0, 1) := by decide +kernel
theorem dX4_statement_214 : decode cX4_statement 214 = .ok (.ireturn, 1) := by decide +kernel
theorem dX4_statement_215 : decode cX4_statement 215 = .ok (.aload_n 0, 1) := by decide +kernel
theorem dX4_statement_216 : decode cX4_statement 216 = .ok (.dup, 1) := by decide +kernel
theorem dX4_statement_217 : decode cX4_statement 217 = .ok (.getfield 68, 3) := by decide +kernel
theorem dX4_statement_220 : decode cX4_statement 220 = .ok (.iconst 1, 1) := by decide +kernel
theorem dX4_statement_221 : decode cX4_statement 221 = .ok (.iadd, 1) := by decide +kernel
theorem dX4_statement_222 : decode cX4_statement 222 = .ok (.putfield 68, 3) := by decide +kernel
theorem dX4_statement_225 : decode cX4_statement 225 = .ok (.iload_n 1, 1) := by decide +kernel
theorem dX4_statement_226 : decode cX4_statement 226 = .ok (.bipush 63, 2) := by decide +kernel
theorem dX4_statement_228 : decode cX4_statement 228 = .ok (.if_icmp .ne 10, 3) := by decide +kernel
theorem dX4_statement_231 : decode cX4_statement 231 = .ok (.aload_n 0, 1) := by decide +kernel
theorem dX4_statement_232 : decode cX4_statement 232 = .ok (.iconst 3, 1) := by decide +kernel
theorem dX4_statement_233 : decode cX4_statement 233 = .ok (.invokevirtual 125, 3) := by decide +kernel
theorem dX4_statement_236 : decode cX4_statement 236 = .ok (.iconst 1, 1) := by decide +kernel
theorem dX4_statement_237 : decode cX4_statement 237 = .ok (.ireturn, 1) := by decide +kernel
theorem dX4_statement_238 : decode cX4_statement 238 = .ok (.aload_n 0, 1) := by decide +kernel
theorem dX4_statement_239 : decode cX4_statement 239 = .ok (.invokevirtual 74, 3) := by decide +kernel
theorem dX4_statement_242 : decode cX4_statement 242 = .ok (.bipush 97, 2) := by decide +kernel
theorem dX4_statement_244 : decode cX4_statement 244 = .ok (.isub, 1) := by decide +kernel
theorem dX4_statement_245 : decode cX4_statement 245 = .ok (.istore_n 2, 1) := by decide +kernel
theorem dX4_statement_246 : decode cX4_statement 246 = .ok (.aload_n 0, 1) := by decide +kernel
theorem dX4_statement_247 : decode cX4_statement 247 = .ok (.invokevirtual 74, 3) := by decide +kernel
theorem dX4_statement_250 : decode cX4_statement 250 = .ok (.invokestatic 113, 3) := by decide +kernel
theorem dX4_statement_253 : decode cX4_statement 253 = .ok (.ifCond .eq 11, 3) := by decide +kernel
theorem dX4_statement_256 : decode cX4_statement 256 = .ok (.aload_n 0, 1) := by decide +kernel
theorem dX4_statement_257 : decode cX4_statement 257 = .ok (.iload_n 2, 1) := by decide +kernel
theorem dX4_statement_258 : decode cX4_statement 258 = .ok (.invokevirtual 119, 3) := by decide +kernel
theorem dX4_statement_261 : decode cX4_statement 261 = .ok (.ifCond .eq 11, 3) := by decide +kernel
theorem dX4_statement_264 : decode cX4_statement 264 = .ok (.aload_n 0, 1) := by decide +kernel
theorem dX4_statement_265 : decode cX4_statement 265 = .ok (.aload_n 0, 1) := by decide +kernel
theorem dX4_statement_266 : decode cX4_statement 266 = .ok (.getfield 68, 3) := by decide +kernel
theorem dX4_statement_269 : decode cX4_statement 269 = .ok (.invokevirtual 78, 3) := by decide +kernel
theorem dX4_statement_272 : decode cX4_statement 272 = .ok (.aload_n 0, 1) := by decide +kernel
theorem dX4_statement_273 : decode cX4_statement 273 = .ok (.dup, 1) := by decide +kernel
theorem dX4_statement_274 : decode cX4_statement 274 = .ok (.getfield 68, 3) := by decide +kernel
theorem dX4_statement_277 : decode cX4_statement 277 = .ok (.iconst 1, 1) := by decide +kernel
theorem dX4_statement_278 : decode cX4_statement 278 = .ok (.iadd, 1) := by decide +kernel
theorem dX4_statement_279 : decode cX4_statement 279 = .ok (.putfield 68, 3) := by decide +kernel
theorem dX4_statement_282 : decode cX4_statement 282 = .ok (.aload_n 0, 1) := by decide +kernel
theorem dX4_statement_283 : decode cX4_statement 283 = .ok (.getfield 68, 3) := by decide +kernel
theorem dX4_statement_286 : decode cX4_statement 286 = .ok (.istore_n 3, 1) := by decide +kernel
theorem dX4_statement_287 : decode cX4_statement 287 = .ok (.aload_n 0, 1) := by decide +kernel
theorem dX4_statement_288 : decode cX4_statement 288 = .ok (.lconst 1, 1) := by decide +kernel
theorem dX4_statement_289 : decode cX4_statement 289 = .ok (.ldc2_w 128, 3) := by decide +kernel
theorem dX4_statement_292 : decode cX4_statement 292 = .ok (.invokevirtual 130, 3) := by decide +kernel
theorem dX4_statement_295 : decode cX4_statement 295 = .ok (.aload_n 0, 1) := by decide +kernel
theorem dX4_statement_296 : decode cX4_statement 296 = .ok (.getfield 71, 3) := by decide +kernel
theorem dX4_statement_299 : decode cX4_statement 299 = .ok (.ifCond .ne 29, 3) := by decide +kernel
theorem dX4_statement_302 : decode cX4_statement 302 = .ok (.aload_n 0, 1) := by decide +kernel
theorem dX4_statement_303 : decode cX4_statement 303 = .ok (.getfield 53, 3) := by decide +kernel
theorem dX4_statement_306 : decode cX4_statement 306 = .ok (.aload_n 0, 1) := by decide +kernel
theorem dX4_statement_307 : decode cX4_statement 307 = .ok (.getfield 103, 3) := by decide +kernel
theorem dX4_statement_310 : decode cX4_statement 310 = .ok (.iaload, 1) := by decide +kernel
theorem dX4_statement_311 : decode cX4_statement 311 = .ok (.aload_n 0, 1) := by decide +kernel
theorem dX4_statement_312 : decode cX4_statement 312 = .ok (.getfield 82, 3) := by decide +kernel
theorem dX4_statement_315 : decode cX4_statement 315 = .ok (.l2i, 1) := by decide +kernel
theorem dX4_statement_316 : decode cX4_statement 316 = .ok (.imul, 1) := by decide +kernel
theorem dX4_statement_317 : decode cX4_statement 317 = .ok (.sipush 640, 3) := by decide +kernel
theorem dX4_statement_320 : decode cX4_statement 320 = .ok (.if_icmp .le 8, 3) := by decide +kernel
theorem dX4_statement_323 : decode cX4_statement 323 = .ok (.aload_n 0, 1) := by decide +kernel
theorem dX4_statement_324 : decode cX4_statement 324 = .ok (.iload_n 3, 1) := by decide +kernel
theorem dX4_statement_325 : decode cX4_statement 325 = .ok (.invokevirtual 78, 3) := by decide +kernel
theorem dX4_statement_328 : decode cX4_statement 328 = .ok (.aload_n 0, 1) := by decide +kernel
theorem dX4_statement_329 : decode cX4_statement 329 = .ok (.bipush 123, 2) := by decide +kernel
theorem dX4_statement_331 : decode cX4_statement 331 = .ok (.invokevirtual 122, 3) := by decide +kernel
theorem dX4_statement_334 : decode cX4_statement 334 = .ok (.aload_n 0, 1) := by decide +kernel
theorem dX4_statement_335 : decode cX4_statement 335 = .ok (.getfield 71, 3) := by decide +kernel
theorem dX4_statement_338 : decode cX4_statement 338 = .ok (.ifCond .ne 44, 3) := by decide +kernel
theorem dX4_statement_341 : decode cX4_statement 341 = .ok (.aload_n 0, 1) := by decide +kernel
theorem dX4_statement_342 : decode cX4_statement 342 = .ok (.bipush 10, 2) := by decide +kernel
theorem dX4_statement_344 : decode cX4_statement 344 = .ok (.iload_n 2, 1) := by decide +kernel
theorem dX4_statement_345 : decode cX4_statement 345 = .ok (.invokevirtual 106, 3) := by decide +kernel
theorem dX4_statement_348 : decode cX4_statement 348 = .ok (.aload_n 0, 1) := by decide +kernel
theorem dX4_statement_349 : decode cX4_statement 349 = .ok (.aload_n 0, 1) := by decide +kernel
theorem dX4_statement_350 : decode cX4_statement 350 = .ok (.getfield 82, 3) := by decide +kernel
theorem dX4_statement_353 : decode cX4_statement 353 = .ok (.l2i, 1) := by decide +kernel
theorem dX4_statement_354 : decode cX4_statement 354 = .ok (.iconst 0, 1) := by decide +kernel
theorem dX4_statement_355 : decode cX4_statement 355 = .ok (.invokevirtual 106, 3) := by decide +kernel
theorem dX4_statement_358 : decode cX4_statement 358 = .ok (.aload_n 0, 1) := by decide +kernel
theorem dX4_statement_359 : decode cX4_statement 359 = .ok (.iload_n 2, 1) := by decide +kernel
theorem dX4_statement_360 : decode cX4_statement 360 = .ok (.aload_n 0, 1) := by decide +kernel
theorem dX4_statement_361 : decode cX4_statement 361 = .ok (.getfield 94, 3) := by decide +kernel
theorem dX4_statement_364 : decode cX4_statement 364 = .ok (.aload_n 0, 1) := by decide +kernel
theorem dX4_statement_365 : decode cX4_statement 365 = .ok (.getfield 53, 3) := by decide +kernel
theorem dX4_statement_368 : decode cX4_statement 368 = .ok (.aload_n 0, 1) := by decide +kernel
theorem dX4_statement_369 : decode cX4_statement 369 = .ok (.getfield 103, 3) := by decide +kernel
theorem dX4_statement_372 : decode cX4_statement 372 = .ok (.iaload, 1) := by decide +kernel
theorem dX4_statement_373 : decode cX4_statement 373 = .ok (.aload_n 0, 1) := by decide +kernel
theorem dX4_statement_374 : decode cX4_statement 374 = .ok (.getfield 82, 3) := by decide +kernel
theorem dX4_statement_377 : decode cX4_statement 377 = .ok (.l2i, 1) := by decide +kernel
theorem dX4_statement_378 : decode cX4_statement 378 = .ok (.imul, 1) := by decide +kernel
theorem dX4_statement_379 : decode cX4_statement 379 = .ok (.invokevirtual 134, 3) := by decide +kernel
theorem dX4_statement_382 : decode cX4_statement 382 = .ok (.iconst 0, 1) := by decide +kernel
theorem dX4_statement_383 : decode cX4_statement 383 = .ok (.ireturn, 1) := by decide +kernel
theorem dX4_block_0 : decode cX4_block 0 = .ok (.aload_n 0, 1) := by decide +kernel
theorem dX4_block_1 : decode cX4_block 1 = .ok (.getfield 47, 3) := by decide +kernel
theorem dX4_block_4 : decode cX4_block 4 = .ok (.aload_n 0, 1) := by decide +kernel
theorem dX4_block_5 : decode cX4_block 5 = .ok (.getfield 103, 3) := by decide +kernel
theorem dX4_block_8 : decode cX4_block 8 = .ok (.iload_n 1, 1) := by decide +kernel
theorem dX4_block_9 : decode cX4_block 9 = .ok (.iastore, 1) := by decide +kernel
theorem dX4_block_10 : decode cX4_block 10 = .ok (.aload_n 0, 1) := by decide +kernel
theorem dX4_block_11 : decode cX4_block 11 = .ok (.getfield 50, 3) := by decide +kernel
theorem dX4_block_14 : decode cX4_block 14 = .ok (.aload_n 0, 1) := by decide +kernel
theorem dX4_block_15 : decode cX4_block 15 = .ok (.getfield 103, 3) := by decide +kernel
theorem dX4_block_18 : decode cX4_block 18 = .ok (.iload_n 2, 1) := by decide +kernel
theorem dX4_block_19 : decode cX4_block 19 = .ok (.iastore, 1) := by decide +kernel
theorem dX4_block_20 : decode cX4_block 20 = .ok (.aload_n 0, 1) := by decide +kernel
theorem dX4_block_21 : decode cX4_block 21 = .ok (.dup, 1) := by decide +kernel
theorem dX4_block_22 : decode cX4_block 22 = .ok (.getfield 103, 3) := by decide +kernel
theorem dX4_block_25 : decode cX4_block 25 = .ok (.iconst 1, 1) := by decide +kernel
theorem dX4_block_26 : decode cX4_block 26 = .ok (.iadd, 1) := by decide +kernel
theorem dX4_block_27 : decode cX4_block 27 = .ok (.putfield 103, 3) := by decide +kernel
theorem dX4_block_30 : decode cX4_block 30 = .ok (.aload_n 0, 1) := by decide +kernel
theorem dX4_block_31 : decode cX4_block 31 = .ok (.getfield 53, 3) := by decide +kernel
theorem dX4_block_34 : decode cX4_block 34 = .ok (.aload_n 0, 1) := by decide +kernel
theorem dX4_block_35 : decode cX4_block 35 = .ok (.getfield 103, 3) := by decide +kernel
theorem dX4_block_38 : decode cX4_block 38 = .ok (.iload_n 3, 1) := by decide +kernel
theorem dX4_block_39 : decode cX4_block 39 = .ok (.iastore, 1) := by decide +kernel
theorem dX4_block_40 : decode cX4_block 40 = .ok (.return_, 1) := by decide +kernel
set_option maxRecDepth 20000 in
theorem ggX4_factor_X4_here : GoodIn wsX4_factor wsX4_here := goodIn_r _ [9, 2, 10, 11, 58, 59, 60, 61, 62, 63, 64, 65, 66, 67, 68, 69, 70, 71, 72, 73, 74, 75, 76, 77, 78, 79, 80, 81, 82, 83, 84, 85, 86, 87, 88, 89, 90] (by decide +kernel) (by decide +kernel)
set_option maxRecDepth 20000 in
theorem gX4_factor_X4_here : GoodIn wsX4_factor (wsV RX4 74 RX4 yX4_here wsX4_here) := goodIn_app (goodIn_of _ (by decide +kernel)) ggX4_factor_X4_here
set_option maxRecDepth 20000 in
theorem ggX4_factor_X4_wrong : GoodIn wsX4_factor wsX4_wrong := goodIn_r _ [15, 16, 58, 59, 60, 61, 62, 63, 64, 65, 66, 67, 68, 69, 70, 71, 72, 73, 74, 75, 76, 77, 78, 79, 80, 81, 82, 83, 84, 85, 86, 87, 88, 89, 90] (by decide +kernel) (by decide +kernel)
set_option maxRecDepth 20000 in
theorem gX4_factor_X4_wrong : GoodIn wsX4_factor (wsV RX4 78 RX4 yX4_wrong wsX4_wrong) := goodIn_app (goodIn_of _ (by decide +kernel)) ggX4_factor_X4_wrong
set_option maxRecDepth 20000 in
theorem ggX4_factor_X4_push : GoodIn wsX4_factor wsX4_push := goodIn_r _ [20, 21, 22, 23, 58, 59, 60, 61, 62, 63, 64, 65, 66, 67, 68, 69, 70, 71, 72, 73, 74, 75, 76, 77, 78, 79, 80, 81, 82, 83, 84, 85, 86, 87, 88, 89, 90] (by decide +kernel) (by decide +kernel)
set_option maxRecDepth 20000 in
theorem gX4_factor_X4_push : GoodIn wsX4_factor (wsV RX4 125 RX4 yX4_push wsX4_push) := goodIn_app (goodIn_of _ (by decide +kernel)) ggX4_factor_X4_push
set_option maxRecDepth 20000 in
theorem ggX4_factor_X4_want : GoodIn wsX4_factor wsX4_want := goodIn_r _ [27, 2, 5, 6, 7, 8, 9, 10, 11, 12, 13, 14, 15, 16, 58, 59, 60, 61, 62, 63, 64, 65, 66, 67, 68, 69, 70, 71, 72, 73, 74, 75, 76, 77, 78, 79, 80, 81, 82, 83, 84, 85, 86, 87, 88, 89, 90] (by decide +kernel) (by decide +kernel)
set_option maxRecDepth 20000 in
theorem gX4_factor_X4_want : GoodIn wsX4_factor (wsV RX4 122 RX4 yX4_want wsX4_want) := goodIn_app (goodIn_of _ (by decide +kernel)) ggX4_factor_X4_want
set_option maxRecDepth 20000 in
theorem ggX4_factor_X4_isLetter : GoodIn wsX4_factor wsX4_isLetter := goodIn_r _ [30] (by decide +kernel) (by decide +kernel)
set_option maxRecDepth 20000 in
theorem gX4_factor_X4_isLetter : GoodIn wsX4_factor (va_wsS RX4 113 yX4_isLetter wsX4_isLetter) := goodIn_app (goodIn_of _ (by decide +kernel)) ggX4_factor_X4_isLetter
set_option maxRecDepth 20000 in
theorem ggX4_factor_X4_step : GoodIn wsX4_factor wsX4_step := goodIn_r _ [34, 35, 36, 37, 58, 59, 60, 61, 62, 63, 64, 65, 66, 67, 68, 69, 70, 71, 72, 73, 74, 75, 76, 77, 78, 79, 80, 81, 82, 83, 84, 85, 86, 87, 88, 89, 90] (by decide +kernel) (by decide +kernel)
set_option maxRecDepth 20000 in
theorem gX4_factor_X4_step : GoodIn wsX4_factor (wsV RX4 106 RX4 yX4_step wsX4_step) := goodIn_app (goodIn_of _ (by decide +kernel)) ggX4_factor_X4_step
set_option maxRecDepth 20000 in
theorem ggX4_factor_X4_settle : GoodIn wsX4_factor wsX4_settle := goodIn_r _ [41, 42, 43, 58, 59, 60, 61, 62, 63, 64, 65, 66, 67, 68, 69, 70, 71, 72, 73, 74, 75, 76, 77, 78, 79, 80, 81, 82, 83, 84, 85, 86, 87, 88, 89, 90] (by decide +kernel) (by decide +kernel)
set_option maxRecDepth 20000 in
theorem gX4_factor_X4_settle : GoodIn wsX4_factor (wsV RX4 141 RX4 yX4_settle wsX4_settle) := goodIn_app (goodIn_of _ (by decide +kernel)) ggX4_factor_X4_settle
set_option maxRecDepth 20000 in
theorem ggX4_factor_X4_isDigit : GoodIn wsX4_factor wsX4_isDigit := goodIn_r _ [46] (by decide +kernel) (by decide +kernel)
set_option maxRecDepth 20000 in
theorem gX4_factor_X4_isDigit : GoodIn wsX4_factor (va_wsS RX4 86 yX4_isDigit wsX4_isDigit) := goodIn_app (goodIn_of _ (by decide +kernel)) ggX4_factor_X4_isDigit
set_option maxRecDepth 20000 in
theorem ggX4_factor_X4_readNumber : GoodIn wsX4_factor wsX4_readNumber := goodIn_r _ [50, 2, 4, 51, 52, 5, 6, 7, 8, 9, 10, 11, 44, 45, 46, 12, 13, 14, 15, 16, 58, 59, 60, 61, 62, 63, 64, 65, 66, 67, 68, 69, 70, 71, 72, 73, 74, 75, 76, 77, 78, 79, 80, 81, 82, 83, 84, 85, 86, 87, 88, 89, 90] (by decide +kernel) (by decide +kernel)
set_option maxRecDepth 20000 in
theorem gX4_factor_X4_readNumber : GoodIn wsX4_factor (wsV RX4 130 RX4 yX4_readNumber wsX4_readNumber) := goodIn_app (goodIn_of _ (by decide +kernel)) ggX4_factor_X4_readNumber
set_option maxRecDepth 20000 in
theorem ggX4_factor_X4_whole : GoodIn wsX4_factor wsX4_whole := goodIn_r _ [56, 22, 21, 1, 42, 43, 57, 31, 32, 33, 8, 34, 35, 36, 37, 58, 59, 60, 61, 62, 63, 64, 65, 66, 67, 68, 69, 70, 71, 72, 73, 74, 75, 76, 77, 78, 79, 80, 81, 82, 83, 84, 85, 86, 87, 88, 89, 90] (by decide +kernel) (by decide +kernel)
set_option maxRecDepth 20000 in
theorem gX4_factor_X4_whole : GoodIn wsX4_factor (wsV RX4 147 RX4 yX4_whole wsX4_whole) := goodIn_app (goodIn_of _ (by decide +kernel)) ggX4_factor_X4_whole
theorem dX4_factor_0 : decode cX4_factor 0 = .ok (.aload_n 0, 1) := by decide +kernel
theorem dX4_factor_1 : decode cX4_factor 1 = .ok (.invokevirtual 74, 3) := by decide +kernel
theorem dX4_factor_4 : decode cX4_factor 4 = .ok (.istore_n 1, 1) := by decide +kernel
theorem dX4_factor_5 : decode cX4_factor 5 = .ok (.iload_n 1, 1) := by decide +kernel
theorem dX4_factor_6 : decode cX4_factor 6 = .ok (.bipush 40, 2) := by decide +kernel
theorem dX4_factor_8 : decode cX4_factor 8 = .ok (.if_icmp .eq 15, 3) := by decide +kernel
theorem dX4_factor_11 : decode cX4_factor 11 = .ok (.iload_n 1, 1) := by decide +kernel
theorem dX4_factor_12 : decode cX4_factor 12 = .ok (.bipush 126, 2) := by decide +kernel
theorem dX4_factor_14 : decode cX4_factor 14 = .ok (.if_icmp .eq 9, 3) := by decide +kernel
theorem dX4_factor_17 : decode cX4_factor 17 = .ok (.iload_n 1, 1) := by decide +kernel
theorem dX4_factor_18 : decode cX4_factor 18 = .ok (.bipush 64, 2) := by decide +kernel
theorem dX4_factor_20 : decode cX4_factor 20 = .ok (.if_icmp .ne 80, 3) := by decide +kernel
theorem dX4_factor_23 : decode cX4_factor 23 = .ok (.aload_n 0, 1) := by decide +kernel
theorem dX4_factor_24 : decode cX4_factor 24 = .ok (.getfield 138, 3) := by decide +kernel
theorem dX4_factor_27 : decode cX4_factor 27 = .ok (.bipush 12, 2) := by decide +kernel
theorem dX4_factor_29 : decode cX4_factor 29 = .ok (.if_icmp .ne 11, 3) := by decide +kernel
theorem dX4_factor_32 : decode cX4_factor 32 = .ok (.aload_n 0, 1) := by decide +kernel
theorem dX4_factor_33 : decode cX4_factor 33 = .ok (.aload_n 0, 1) := by decide +kernel
theorem dX4_factor_34 : decode cX4_factor 34 = .ok (.getfield 68, 3) := by decide +kernel
theorem dX4_factor_37 : decode cX4_factor 37 = .ok (.invokevirtual 78, 3) := by decide +kernel
theorem dX4_factor_40 : decode cX4_factor 40 = .ok (.aload_n 0, 1) := by decide +kernel
theorem dX4_factor_41 : decode cX4_factor 41 = .ok (.dup, 1) := by decide +kernel
theorem dX4_factor_42 : decode cX4_factor 42 = .ok (.getfield 138, 3) := by decide +kernel
theorem dX4_factor_45 : decode cX4_factor 45 = .ok (.iconst 1, 1) := by decide +kernel
theorem dX4_factor_46 : decode cX4_factor 46 = .ok (.iadd, 1) := by decide +kernel
theorem dX4_factor_47 : decode cX4_factor 47 = .ok (.putfield 138, 3) := by decide +kernel
theorem dX4_factor_50 : decode cX4_factor 50 = .ok (.aload_n 0, 1) := by decide +kernel
theorem dX4_factor_51 : decode cX4_factor 51 = .ok (.dup, 1) := by decide +kernel
theorem dX4_factor_52 : decode cX4_factor 52 = .ok (.getfield 68, 3) := by decide +kernel
theorem dX4_factor_55 : decode cX4_factor 55 = .ok (.iconst 1, 1) := by decide +kernel
theorem dX4_factor_56 : decode cX4_factor 56 = .ok (.iadd, 1) := by decide +kernel
theorem dX4_factor_57 : decode cX4_factor 57 = .ok (.putfield 68, 3) := by decide +kernel
theorem dX4_factor_60 : decode cX4_factor 60 = .ok (.aload_n 0, 1) := by decide +kernel
theorem dX4_factor_61 : decode cX4_factor 61 = .ok (.iload_n 1, 1) := by decide +kernel
theorem dX4_factor_62 : decode cX4_factor 62 = .ok (.bipush 40, 2) := by decide +kernel
theorem dX4_factor_64 : decode cX4_factor 64 = .ok (.if_icmp .ne 7, 3) := by decide +kernel
theorem dX4_factor_67 : decode cX4_factor 67 = .ok (.iconst 4, 1) := by decide +kernel
theorem dX4_factor_68 : decode cX4_factor 68 = .ok (.goto 15, 3) := by decide +kernel
theorem dX4_factor_71 : decode cX4_factor 71 = .ok (.iload_n 1, 1) := by decide +kernel
theorem dX4_factor_72 : decode cX4_factor 72 = .ok (.bipush 126, 2) := by decide +kernel
theorem dX4_factor_74 : decode cX4_factor 74 = .ok (.if_icmp .ne 8, 3) := by decide +kernel
theorem dX4_factor_77 : decode cX4_factor 77 = .ok (.bipush 6, 2) := by decide +kernel
theorem dX4_factor_79 : decode cX4_factor 79 = .ok (.goto 4, 3) := by decide +kernel
theorem dX4_factor_82 : decode cX4_factor 82 = .ok (.iconst 5, 1) := by decide +kernel
theorem dX4_factor_83 : decode cX4_factor 83 = .ok (.invokevirtual 125, 3) := by decide +kernel
theorem dX4_factor_86 : decode cX4_factor 86 = .ok (.iload_n 1, 1) := by decide +kernel
theorem dX4_factor_87 : decode cX4_factor 87 = .ok (.bipush 64, 2) := by decide +kernel
theorem dX4_factor_89 : decode cX4_factor 89 = .ok (.if_icmp .ne 9, 3) := by decide +kernel
theorem dX4_factor_92 : decode cX4_factor 92 = .ok (.aload_n 0, 1) := by decide +kernel
theorem dX4_factor_93 : decode cX4_factor 93 = .ok (.bipush 91, 2) := by decide +kernel
theorem dX4_factor_95 : decode cX4_factor 95 = .ok (.invokevirtual 122, 3) := by decide +kernel
theorem dX4_factor_98 : decode cX4_factor 98 = .ok (.iconst 1, 1) := by decide +kernel
theorem dX4_factor_99 : decode cX4_factor 99 = .ok (.ireturn, 1) := by decide +kernel
theorem dX4_factor_100 : decode cX4_factor 100 = .ok (.iload_n 1, 1) := by decide +kernel
theorem dX4_factor_101 : decode cX4_factor 101 = .ok (.invokestatic 113, 3) := by decide +kernel
theorem dX4_factor_104 : decode cX4_factor 104 = .ok (.ifCond .eq 30, 3) := by decide +kernel
theorem dX4_factor_107 : decode cX4_factor 107 = .ok (.aload_n 0, 1) := by decide +kernel
theorem dX4_factor_108 : decode cX4_factor 108 = .ok (.dup, 1) := by decide +kernel
theorem dX4_factor_109 : decode cX4_factor 109 = .ok (.getfield 68, 3) := by decide +kernel
theorem dX4_factor_112 : decode cX4_factor 112 = .ok (.iconst 1, 1) := by decide +kernel
theorem dX4_factor_113 : decode cX4_factor 113 = .ok (.iadd, 1) := by decide +kernel
end
section
theorem dX4_factor_114 : decode cX4_factor 114 = .ok (.putfield 68, 3) := by decide +kernel
theorem dX4_factor_117 : decode cX4_factor 117 = .ok (.aload_n 0, 1) := by decide +kernel
theorem dX4_factor_118 : decode cX4_factor 118 = .ok (.iconst 1, 1) := by decide +kernel
theorem dX4_factor_119 : decode cX4_factor 119 = .ok (.iload_n 1, 1) := by decide +kernel
theorem dX4_factor_120 : decode cX4_factor 120 = .ok (.bipush 97, 2) := by decide +kernel
theorem dX4_factor_122 : decode cX4_factor 122 = .ok (.isub, 1) := by decide +kernel
theorem dX4_factor_123 : decode cX4_factor 123 = .ok (.invokevirtual 106, 3) := by decide +kernel
theorem dX4_factor_126 : decode cX4_factor 126 = .ok (.aload_n 0, 1) := by decide +kernel
theorem dX4_factor_127 : decode cX4_factor 127 = .ok (.iconst 0, 1) := by decide +kernel
theorem dX4_factor_128 : decode cX4_factor 128 = .ok (.invokevirtual 141, 3) := by decide +kernel
theorem dX4_factor_131 : decode cX4_factor 131 = .ok (.goto 52, 3) := by decide +kernel
theorem dX4_factor_134 : decode cX4_factor 134 = .ok (.iload_n 1, 1) := by decide +kernel
theorem dX4_factor_135 : decode cX4_factor 135 = .ok (.invokestatic 86, 3) := by decide +kernel
theorem dX4_factor_138 : decode cX4_factor 138 = .ok (.ifCond .ne 9, 3) := by decide +kernel
theorem dX4_factor_141 : decode cX4_factor 141 = .ok (.iload_n 1, 1) := by decide +kernel
theorem dX4_factor_142 : decode cX4_factor 142 = .ok (.bipush 36, 2) := by decide +kernel
theorem dX4_factor_144 : decode cX4_factor 144 = .ok (.if_icmp .ne 29, 3) := by decide +kernel
theorem dX4_factor_147 : decode cX4_factor 147 = .ok (.aload_n 0, 1) := by decide +kernel
theorem dX4_factor_148 : decode cX4_factor 148 = .ok (.lconst 0, 1) := by decide +kernel
theorem dX4_factor_149 : decode cX4_factor 149 = .ok (.ldc2_w 145, 3) := by decide +kernel
theorem dX4_factor_152 : decode cX4_factor 152 = .ok (.invokevirtual 130, 3) := by decide +kernel
theorem dX4_factor_155 : decode cX4_factor 155 = .ok (.aload_n 0, 1) := by decide +kernel
theorem dX4_factor_156 : decode cX4_factor 156 = .ok (.iconst 0, 1) := by decide +kernel
theorem dX4_factor_157 : decode cX4_factor 157 = .ok (.aload_n 0, 1) := by decide +kernel
theorem dX4_factor_158 : decode cX4_factor 158 = .ok (.getfield 82, 3) := by decide +kernel
theorem dX4_factor_161 : decode cX4_factor 161 = .ok (.l2i, 1) := by decide +kernel
theorem dX4_factor_162 : decode cX4_factor 162 = .ok (.invokevirtual 106, 3) := by decide +kernel
theorem dX4_factor_165 : decode cX4_factor 165 = .ok (.aload_n 0, 1) := by decide +kernel
theorem dX4_factor_166 : decode cX4_factor 166 = .ok (.iconst 1, 1) := by decide +kernel
theorem dX4_factor_167 : decode cX4_factor 167 = .ok (.invokevirtual 141, 3) := by decide +kernel
theorem dX4_factor_170 : decode cX4_factor 170 = .ok (.goto 13, 3) := by decide +kernel
theorem dX4_factor_173 : decode cX4_factor 173 = .ok (.aload_n 0, 1) := by decide +kernel
theorem dX4_factor_174 : decode cX4_factor 174 = .ok (.aload_n 0, 1) := by decide +kernel
theorem dX4_factor_175 : decode cX4_factor 175 = .ok (.getfield 68, 3) := by decide +kernel
theorem dX4_factor_178 : decode cX4_factor 178 = .ok (.invokevirtual 78, 3) := by decide +kernel
theorem dX4_factor_181 : decode cX4_factor 181 = .ok (.iconst 2, 1) := by decide +kernel
theorem dX4_factor_182 : decode cX4_factor 182 = .ok (.ireturn, 1) := by decide +kernel
theorem dX4_factor_183 : decode cX4_factor 183 = .ok (.aload_n 0, 1) := by decide +kernel
theorem dX4_factor_184 : decode cX4_factor 184 = .ok (.invokevirtual 147, 3) := by decide +kernel
theorem dX4_factor_187 : decode cX4_factor 187 = .ok (.iconst 2, 1) := by decide +kernel
theorem dX4_factor_188 : decode cX4_factor 188 = .ok (.ireturn, 1) := by decide +kernel
set_option maxRecDepth 20000 in
theorem ggX4_whole_X4_step : GoodIn wsX4_whole wsX4_step := goodIn_r _ [11, 12, 13, 14, 15, 16, 17, 18, 19, 20, 21, 22, 23, 24, 25, 26, 27, 28, 29, 30, 31, 32, 33, 34, 35, 36, 37, 38, 39, 40, 41, 42, 43, 44, 45, 46, 47] (by decide +kernel) (by decide +kernel)
set_option maxRecDepth 20000 in
theorem gX4_whole_X4_step : GoodIn wsX4_whole (wsV RX4 106 RX4 yX4_step wsX4_step) := goodIn_app (goodIn_of _ (by decide +kernel)) ggX4_whole_X4_step
theorem dX4_whole_0 : decode cX4_whole 0 = .ok (.aload_n 0, 1) := by decide +kernel
theorem dX4_whole_1 : decode cX4_whole 1 = .ok (.getfield 97, 3) := by decide +kernel
theorem dX4_whole_4 : decode cX4_whole 4 = .ok (.ifCond .le 79, 3) := by decide +kernel
theorem dX4_whole_7 : decode cX4_whole 7 = .ok (.aload_n 0, 1) := by decide +kernel
theorem dX4_whole_8 : decode cX4_whole 8 = .ok (.getfield 37, 3) := by decide +kernel
theorem dX4_whole_11 : decode cX4_whole 11 = .ok (.aload_n 0, 1) := by decide +kernel
theorem dX4_whole_12 : decode cX4_whole 12 = .ok (.getfield 97, 3) := by decide +kernel
theorem dX4_whole_15 : decode cX4_whole 15 = .ok (.iconst 1, 1) := by decide +kernel
theorem dX4_whole_16 : decode cX4_whole 16 = .ok (.isub, 1) := by decide +kernel
theorem dX4_whole_17 : decode cX4_whole 17 = .ok (.iaload, 1) := by decide +kernel
theorem dX4_whole_18 : decode cX4_whole 18 = .ok (.bipush 6, 2) := by decide +kernel
theorem dX4_whole_20 : decode cX4_whole 20 = .ok (.if_icmp .ne 63, 3) := by decide +kernel
theorem dX4_whole_23 : decode cX4_whole 23 = .ok (.aload_n 0, 1) := by decide +kernel
theorem dX4_whole_24 : decode cX4_whole 24 = .ok (.dup, 1) := by decide +kernel
theorem dX4_whole_25 : decode cX4_whole 25 = .ok (.getfield 97, 3) := by decide +kernel
theorem dX4_whole_28 : decode cX4_whole 28 = .ok (.iconst 1, 1) := by decide +kernel
theorem dX4_whole_29 : decode cX4_whole 29 = .ok (.isub, 1) := by decide +kernel
theorem dX4_whole_30 : decode cX4_whole 30 = .ok (.putfield 97, 3) := by decide +kernel
theorem dX4_whole_33 : decode cX4_whole 33 = .ok (.aload_n 0, 1) := by decide +kernel
theorem dX4_whole_34 : decode cX4_whole 34 = .ok (.dup, 1) := by decide +kernel
theorem dX4_whole_35 : decode cX4_whole 35 = .ok (.getfield 138, 3) := by decide +kernel
theorem dX4_whole_38 : decode cX4_whole 38 = .ok (.iconst 1, 1) := by decide +kernel
theorem dX4_whole_39 : decode cX4_whole 39 = .ok (.isub, 1) := by decide +kernel
theorem dX4_whole_40 : decode cX4_whole 40 = .ok (.putfield 138, 3) := by decide +kernel
theorem dX4_whole_43 : decode cX4_whole 43 = .ok (.aload_n 0, 1) := by decide +kernel
theorem dX4_whole_44 : decode cX4_whole 44 = .ok (.iconst 3, 1) := by decide +kernel
theorem dX4_whole_45 : decode cX4_whole 45 = .ok (.iconst 0, 1) := by decide +kernel
theorem dX4_whole_46 : decode cX4_whole 46 = .ok (.invokevirtual 106, 3) := by decide +kernel
theorem dX4_whole_49 : decode cX4_whole 49 = .ok (.aload_n 0, 1) := by decide +kernel
theorem dX4_whole_50 : decode cX4_whole 50 = .ok (.aload_n 0, 1) := by decide +kernel
theorem dX4_whole_51 : decode cX4_whole 51 = .ok (.getfield 43, 3) := by decide +kernel
theorem dX4_whole_54 : decode cX4_whole 54 = .ok (.aload_n 0, 1) := by decide +kernel
theorem dX4_whole_55 : decode cX4_whole 55 = .ok (.getfield 100, 3) := by decide +kernel
theorem dX4_whole_58 : decode cX4_whole 58 = .ok (.iconst 1, 1) := by decide +kernel
theorem dX4_whole_59 : decode cX4_whole 59 = .ok (.isub, 1) := by decide +kernel
theorem dX4_whole_60 : decode cX4_whole 60 = .ok (.baload, 1) := by decide +kernel
theorem dX4_whole_61 : decode cX4_whole 61 = .ok (.ifCond .eq 10, 3) := by decide +kernel
theorem dX4_whole_64 : decode cX4_whole 64 = .ok (.aload_n 0, 1) := by decide +kernel
theorem dX4_whole_65 : decode cX4_whole 65 = .ok (.getfield 150, 3) := by decide +kernel
theorem dX4_whole_68 : decode cX4_whole 68 = .ok (.goto 9, 3) := by decide +kernel
theorem dX4_whole_71 : decode cX4_whole 71 = .ok (.aload_n 0, 1) := by decide +kernel
theorem dX4_whole_72 : decode cX4_whole 72 = .ok (.getfield 150, 3) := by decide +kernel
theorem dX4_whole_75 : decode cX4_whole 75 = .ok (.iconst 1, 1) := by decide +kernel
theorem dX4_whole_76 : decode cX4_whole 76 = .ok (.iadd, 1) := by decide +kernel
theorem dX4_whole_77 : decode cX4_whole 77 = .ok (.putfield 150, 3) := by decide +kernel
theorem dX4_whole_80 : decode cX4_whole 80 = .ok (.goto (-80), 3) := by decide +kernel
theorem dX4_whole_83 : decode cX4_whole 83 = .ok (.return_, 1) := by decide +kernel
theorem dX4_isOperator_0 : decode cX4_isOperator 0 = .ok (.iload_n 0, 1) := by decide +kernel
theorem dX4_isOperator_1 : decode cX4_isOperator 1 = .ok (.bipush 43, 2) := by decide +kernel
theorem dX4_isOperator_3 : decode cX4_isOperator 3 = .ok (.if_icmp .eq 33, 3) := by decide +kernel
theorem dX4_isOperator_6 : decode cX4_isOperator 6 = .ok (.iload_n 0, 1) := by decide +kernel
theorem dX4_isOperator_7 : decode cX4_isOperator 7 = .ok (.bipush 45, 2) := by decide +kernel
theorem dX4_isOperator_9 : decode cX4_isOperator 9 = .ok (.if_icmp .eq 27, 3) := by decide +kernel
theorem dX4_isOperator_12 : decode cX4_isOperator 12 = .ok (.iload_n 0, 1) := by decide +kernel
theorem dX4_isOperator_13 : decode cX4_isOperator 13 = .ok (.bipush 42, 2) := by decide +kernel
theorem dX4_isOperator_15 : decode cX4_isOperator 15 = .ok (.if_icmp .eq 21, 3) := by decide +kernel
theorem dX4_isOperator_18 : decode cX4_isOperator 18 = .ok (.iload_n 0, 1) := by decide +kernel
theorem dX4_isOperator_19 : decode cX4_isOperator 19 = .ok (.bipush 38, 2) := by decide +kernel
theorem dX4_isOperator_21 : decode cX4_isOperator 21 = .ok (.if_icmp .eq 15, 3) := by decide +kernel
theorem dX4_isOperator_24 : decode cX4_isOperator 24 = .ok (.iload_n 0, 1) := by decide +kernel
theorem dX4_isOperator_25 : decode cX4_isOperator 25 = .ok (.bipush 124, 2) := by decide +kernel
theorem dX4_isOperator_27 : decode cX4_isOperator 27 = .ok (.if_icmp .eq 9, 3) := by decide +kernel
theorem dX4_isOperator_30 : decode cX4_isOperator 30 = .ok (.iload_n 0, 1) := by decide +kernel
theorem dX4_isOperator_31 : decode cX4_isOperator 31 = .ok (.bipush 94, 2) := by decide +kernel
theorem dX4_isOperator_33 : decode cX4_isOperator 33 = .ok (.if_icmp .ne 7, 3) := by decide +kernel
theorem dX4_isOperator_36 : decode cX4_isOperator 36 = .ok (.iconst 1, 1) := by decide +kernel
theorem dX4_isOperator_37 : decode cX4_isOperator 37 = .ok (.goto 4, 3) := by decide +kernel
theorem dX4_isOperator_40 : decode cX4_isOperator 40 = .ok (.iconst 0, 1) := by decide +kernel
theorem dX4_isOperator_41 : decode cX4_isOperator 41 = .ok (.ireturn, 1) := by decide +kernel
set_option maxRecDepth 20000 in
theorem ggX4_behind_X4_here : GoodIn wsX4_behind wsX4_here := goodIn_r _ [19, 1, 20, 21, 63, 64, 65, 66, 67, 68, 69, 70, 71, 72, 73, 74, 75, 76, 77, 78, 79, 80, 81, 82, 83, 84, 85, 86, 87, 88, 89, 90, 91, 92, 93, 94, 95] (by decide +kernel) (by decide +kernel)
set_option maxRecDepth 20000 in
theorem gX4_behind_X4_here : GoodIn wsX4_behind (wsV RX4 74 RX4 yX4_here wsX4_here) := goodIn_app (goodIn_of _ (by decide +kernel)) ggX4_behind_X4_here
set_option maxRecDepth 20000 in
theorem ggX4_behind_X4_readNumber : GoodIn wsX4_behind wsX4_readNumber := goodIn_r _ [25, 1, 3, 26, 27, 15, 16, 17, 18, 19, 20, 21, 28, 29, 30, 31, 32, 33, 34, 35, 63, 64, 65, 66, 67, 68, 69, 70, 71, 72, 73, 74, 75, 76, 77, 78, 79, 80, 81, 82, 83, 84, 85, 86, 87, 88, 89, 90, 91, 92, 93, 94, 95] (by decide +kernel) (by decide +kernel)
set_option maxRecDepth 20000 in
theorem gX4_behind_X4_readNumber : GoodIn wsX4_behind (wsV RX4 130 RX4 yX4_readNumber wsX4_readNumber) := goodIn_app (goodIn_of _ (by decide +kernel)) ggX4_behind_X4_readNumber
set_option maxRecDepth 20000 in
theorem ggX4_behind_X4_step : GoodIn wsX4_behind wsX4_step := goodIn_r _ [39, 40, 11, 41, 63, 64, 65, 66, 67, 68, 69, 70, 71, 72, 73, 74, 75, 76, 77, 78, 79, 80, 81, 82, 83, 84, 85, 86, 87, 88, 89, 90, 91, 92, 93, 94, 95] (by decide +kernel) (by decide +kernel)
set_option maxRecDepth 20000 in
theorem gX4_behind_X4_step : GoodIn wsX4_behind (wsV RX4 106 RX4 yX4_step wsX4_step) := goodIn_app (goodIn_of _ (by decide +kernel)) ggX4_behind_X4_step
set_option maxRecDepth 20000 in
theorem ggX4_behind_X4_isOperator : GoodIn wsX4_behind wsX4_isOperator := goodIn_r _ [44] (by decide +kernel) (by decide +kernel)
set_option maxRecDepth 20000 in
theorem gX4_behind_X4_isOperator : GoodIn wsX4_behind (va_wsS RX4 155 yX4_isOperator wsX4_isOperator) := goodIn_app (goodIn_of _ (by decide +kernel)) ggX4_behind_X4_isOperator
set_option maxRecDepth 20000 in
theorem ggX4_behind_X4_wrong : GoodIn wsX4_behind wsX4_wrong := goodIn_r _ [34, 35, 63, 64, 65, 66, 67, 68, 69, 70, 71, 72, 73, 74, 75, 76, 77, 78, 79, 80, 81, 82, 83, 84, 85, 86, 87, 88, 89, 90, 91, 92, 93, 94, 95] (by decide +kernel) (by decide +kernel)
set_option maxRecDepth 20000 in
theorem gX4_behind_X4_wrong : GoodIn wsX4_behind (wsV RX4 78 RX4 yX4_wrong wsX4_wrong) := goodIn_app (goodIn_of _ (by decide +kernel)) ggX4_behind_X4_wrong
set_option maxRecDepth 20000 in
theorem ggX4_behind_X4_whole : GoodIn wsX4_behind wsX4_whole := goodIn_r _ [48, 7, 9, 10, 4, 5, 6, 36, 37, 38, 18, 39, 40, 11, 41, 63, 64, 65, 66, 67, 68, 69, 70, 71, 72, 73, 74, 75, 76, 77, 78, 79, 80, 81, 82, 83, 84, 85, 86, 87, 88, 89, 90, 91, 92, 93, 94, 95] (by decide +kernel) (by decide +kernel)
set_option maxRecDepth 20000 in
theorem gX4_behind_X4_whole : GoodIn wsX4_behind (wsV RX4 147 RX4 yX4_whole wsX4_whole) := goodIn_app (goodIn_of _ (by decide +kernel)) ggX4_behind_X4_whole
set_option maxRecDepth 20000 in
theorem ggX4_behind_X4_want : GoodIn wsX4_behind wsX4_want := goodIn_r _ [52, 1, 15, 16, 17, 18, 19, 20, 21, 31, 32, 33, 34, 35, 63, 64, 65, 66, 67, 68, 69, 70, 71, 72, 73, 74, 75, 76, 77, 78, 79, 80, 81, 82, 83, 84, 85, 86, 87, 88, 89, 90, 91, 92, 93, 94, 95] (by decide +kernel) (by decide +kernel)
set_option maxRecDepth 20000 in
theorem gX4_behind_X4_want : GoodIn wsX4_behind (wsV RX4 122 RX4 yX4_want wsX4_want) := goodIn_app (goodIn_of _ (by decide +kernel)) ggX4_behind_X4_want
set_option maxRecDepth 20000 in
theorem ggX4_behind_X4_push : GoodIn wsX4_behind wsX4_push := goodIn_r _ [56, 9, 7, 8, 63, 64, 65, 66, 67, 68, 69, 70, 71, 72, 73, 74, 75, 76, 77, 78, 79, 80, 81, 82, 83, 84, 85, 86, 87, 88, 89, 90, 91, 92, 93, 94, 95] (by decide +kernel) (by decide +kernel)
set_option maxRecDepth 20000 in
theorem gX4_behind_X4_push : GoodIn wsX4_behind (wsV RX4 125 RX4 yX4_push wsX4_push) := goodIn_app (goodIn_of _ (by decide +kernel)) ggX4_behind_X4_push
set_option maxRecDepth 20000 in
theorem ggX4_behind_X4_block : GoodIn wsX4_behind wsX4_block := goodIn_r _ [60, 61, 13, 62, 12, 63, 64, 65, 66, 67, 68, 69, 70, 71, 72, 73, 74, 75, 76, 77, 78, 79, 80, 81, 82, 83, 84, 85, 86, 87, 88, 89, 90, 91, 92, 93, 94, 95] (by decide +kernel) (by decide +kernel)
set_option maxRecDepth 20000 in
theorem gX4_behind_X4_block : GoodIn wsX4_behind (wsV RX4 134 RX4 yX4_block wsX4_block) := goodIn_app (goodIn_of _ (by decide +kernel)) ggX4_behind_X4_block
theorem dX4_behind_0 : decode cX4_behind 0 = .ok (.aload_n 0, 1) := by decide +kernel
theorem dX4_behind_1 : decode cX4_behind 1 = .ok (.invokevirtual 74, 3) := by decide +kernel
theorem dX4_behind_4 : decode cX4_behind 4 = .ok (.istore_n 1, 1) := by decide +kernel
theorem dX4_behind_5 : decode cX4_behind 5 = .ok (.iload_n 1, 1) := by decide +kernel
theorem dX4_behind_6 : decode cX4_behind 6 = .ok (.bipush 60, 2) := by decide +kernel
theorem dX4_behind_8 : decode cX4_behind 8 = .ok (.if_icmp .eq 9, 3) := by decide +kernel
theorem dX4_behind_11 : decode cX4_behind 11 = .ok (.iload_n 1, 1) := by decide +kernel
theorem dX4_behind_12 : decode cX4_behind 12 = .ok (.bipush 62, 2) := by decide +kernel
theorem dX4_behind_14 : decode cX4_behind 14 = .ok (.if_icmp .ne 74, 3) := by decide +kernel
theorem dX4_behind_17 : decode cX4_behind 17 = .ok (.aload_n 0, 1) := by decide +kernel
theorem dX4_behind_18 : decode cX4_behind 18 = .ok (.dup, 1) := by decide +kernel
theorem dX4_behind_19 : decode cX4_behind 19 = .ok (.getfield 68, 3) := by decide +kernel
theorem dX4_behind_22 : decode cX4_behind 22 = .ok (.iconst 1, 1) := by decide +kernel
theorem dX4_behind_23 : decode cX4_behind 23 = .ok (.iadd, 1) := by decide +kernel
theorem dX4_behind_24 : decode cX4_behind 24 = .ok (.putfield 68, 3) := by decide +kernel
theorem dX4_behind_27 : decode cX4_behind 27 = .ok (.aload_n 0, 1) := by decide +kernel
theorem dX4_behind_28 : decode cX4_behind 28 = .ok (.lconst 1, 1) := by decide +kernel
theorem dX4_behind_29 : decode cX4_behind 29 = .ok (.ldc2_w 153, 3) := by decide +kernel
theorem dX4_behind_32 : decode cX4_behind 32 = .ok (.invokevirtual 130, 3) := by decide +kernel
theorem dX4_behind_35 : decode cX4_behind 35 = .ok (.aload_n 0, 1) := by decide +kernel
theorem dX4_behind_36 : decode cX4_behind 36 = .ok (.iload_n 1, 1) := by decide +kernel
theorem dX4_behind_37 : decode cX4_behind 37 = .ok (.bipush 60, 2) := by decide +kernel
theorem dX4_behind_39 : decode cX4_behind 39 = .ok (.if_icmp .ne 7, 3) := by decide +kernel
theorem dX4_behind_42 : decode cX4_behind 42 = .ok (.iconst 4, 1) := by decide +kernel
theorem dX4_behind_43 : decode cX4_behind 43 = .ok (.goto 4, 3) := by decide +kernel
theorem dX4_behind_46 : decode cX4_behind 46 = .ok (.iconst 5, 1) := by decide +kernel
theorem dX4_behind_47 : decode cX4_behind 47 = .ok (.aload_n 0, 1) := by decide +kernel
theorem dX4_behind_48 : decode cX4_behind 48 = .ok (.getfield 82, 3) := by decide +kernel
theorem dX4_behind_51 : decode cX4_behind 51 = .ok (.l2i, 1) := by decide +kernel
theorem dX4_behind_52 : decode cX4_behind 52 = .ok (.invokevirtual 106, 3) := by decide +kernel
theorem dX4_behind_55 : decode cX4_behind 55 = .ok (.aload_n 0, 1) := by decide +kernel
theorem dX4_behind_56 : decode cX4_behind 56 = .ok (.aload_n 0, 1) := by decide +kernel
theorem dX4_behind_57 : decode cX4_behind 57 = .ok (.getfield 43, 3) := by decide +kernel
theorem dX4_behind_60 : decode cX4_behind 60 = .ok (.aload_n 0, 1) := by decide +kernel
theorem dX4_behind_61 : decode cX4_behind 61 = .ok (.getfield 100, 3) := by decide +kernel
theorem dX4_behind_64 : decode cX4_behind 64 = .ok (.iconst 1, 1) := by decide +kernel
theorem dX4_behind_65 : decode cX4_behind 65 = .ok (.isub, 1) := by decide +kernel
theorem dX4_behind_66 : decode cX4_behind 66 = .ok (.baload, 1) := by decide +kernel
theorem dX4_behind_67 : decode cX4_behind 67 = .ok (.ifCond .eq 10, 3) := by decide +kernel
theorem dX4_behind_70 : decode cX4_behind 70 = .ok (.aload_n 0, 1) := by decide +kernel
theorem dX4_behind_71 : decode cX4_behind 71 = .ok (.getfield 150, 3) := by decide +kernel
theorem dX4_behind_74 : decode cX4_behind 74 = .ok (.goto 9, 3) := by decide +kernel
theorem dX4_behind_77 : decode cX4_behind 77 = .ok (.aload_n 0, 1) := by decide +kernel
theorem dX4_behind_78 : decode cX4_behind 78 = .ok (.getfield 150, 3) := by decide +kernel
theorem dX4_behind_81 : decode cX4_behind 81 = .ok (.iconst 1, 1) := by decide +kernel
theorem dX4_behind_82 : decode cX4_behind 82 = .ok (.iadd, 1) := by decide +kernel
theorem dX4_behind_83 : decode cX4_behind 83 = .ok (.putfield 150, 3) := by decide +kernel
theorem dX4_behind_86 : decode cX4_behind 86 = .ok (.iconst 2, 1) := by decide +kernel
theorem dX4_behind_87 : decode cX4_behind 87 = .ok (.ireturn, 1) := by decide +kernel
theorem dX4_behind_88 : decode cX4_behind 88 = .ok (.aload_n 0, 1) := by decide +kernel
theorem dX4_behind_89 : decode cX4_behind 89 = .ok (.getfield 97, 3) := by decide +kernel
theorem dX4_behind_92 : decode cX4_behind 92 = .ok (.iconst 1, 1) := by decide +kernel
theorem dX4_behind_93 : decode cX4_behind 93 = .ok (.isub, 1) := by decide +kernel
theorem dX4_behind_94 : decode cX4_behind 94 = .ok (.istore_n 2, 1) := by decide +kernel
theorem dX4_behind_95 : decode cX4_behind 95 = .ok (.aload_n 0, 1) := by decide +kernel
theorem dX4_behind_96 : decode cX4_behind 96 = .ok (.getfield 40, 3) := by decide +kernel
theorem dX4_behind_99 : decode cX4_behind 99 = .ok (.iload_n 2, 1) := by decide +kernel
theorem dX4_behind_100 : decode cX4_behind 100 = .ok (.iaload, 1) := by decide +kernel
theorem dX4_behind_101 : decode cX4_behind 101 = .ok (.ifCond .eq 97, 3) := by decide +kernel
theorem dX4_behind_104 : decode cX4_behind 104 = .ok (.aload_n 0, 1) := by decide +kernel
theorem dX4_behind_105 : decode cX4_behind 105 = .ok (.bipush 6, 2) := by decide +kernel
theorem dX4_behind_107 : decode cX4_behind 107 = .ok (.aload_n 0, 1) := by decide +kernel
theorem dX4_behind_108 : decode cX4_behind 108 = .ok (.getfield 40, 3) := by decide +kernel
theorem dX4_behind_111 : decode cX4_behind 111 = .ok (.iload_n 2, 1) := by decide +kernel
theorem dX4_behind_112 : decode cX4_behind 112 = .ok (.iaload, 1) := by decide +kernel
theorem dX4_behind_113 : decode cX4_behind 113 = .ok (.invokevirtual 106, 3) := by decide +kernel
theorem dX4_behind_116 : decode cX4_behind 116 = .ok (.aload_n 0, 1) := by decide +kernel
theorem dX4_behind_117 : decode cX4_behind 117 = .ok (.dup, 1) := by decide +kernel
theorem dX4_behind_118 : decode cX4_behind 118 = .ok (.getfield 100, 3) := by decide +kernel
theorem dX4_behind_121 : decode cX4_behind 121 = .ok (.iconst 1, 1) := by decide +kernel
theorem dX4_behind_122 : decode cX4_behind 122 = .ok (.isub, 1) := by decide +kernel
theorem dX4_behind_123 : decode cX4_behind 123 = .ok (.putfield 100, 3) := by decide +kernel
theorem dX4_behind_126 : decode cX4_behind 126 = .ok (.aload_n 0, 1) := by decide +kernel
theorem dX4_behind_127 : decode cX4_behind 127 = .ok (.getfield 43, 3) := by decide +kernel
theorem dX4_behind_130 : decode cX4_behind 130 = .ok (.aload_n 0, 1) := by decide +kernel
theorem dX4_behind_131 : decode cX4_behind 131 = .ok (.getfield 100, 3) := by decide +kernel
theorem dX4_behind_134 : decode cX4_behind 134 = .ok (.baload, 1) := by decide +kernel
theorem dX4_behind_135 : decode cX4_behind 135 = .ok (.ifCond .eq 21, 3) := by decide +kernel
theorem dX4_behind_138 : decode cX4_behind 138 = .ok (.aload_n 0, 1) := by decide +kernel
theorem dX4_behind_139 : decode cX4_behind 139 = .ok (.getfield 43, 3) := by decide +kernel
theorem dX4_behind_142 : decode cX4_behind 142 = .ok (.aload_n 0, 1) := by decide +kernel
theorem dX4_behind_143 : decode cX4_behind 143 = .ok (.getfield 100, 3) := by decide +kernel
theorem dX4_behind_146 : decode cX4_behind 146 = .ok (.iconst 1, 1) := by decide +kernel
theorem dX4_behind_147 : decode cX4_behind 147 = .ok (.isub, 1) := by decide +kernel
theorem dX4_behind_148 : decode cX4_behind 148 = .ok (.baload, 1) := by decide +kernel
theorem dX4_behind_149 : decode cX4_behind 149 = .ok (.ifCond .eq 7, 3) := by decide +kernel
theorem dX4_behind_152 : decode cX4_behind 152 = .ok (.iconst 1, 1) := by decide +kernel
theorem dX4_behind_153 : decode cX4_behind 153 = .ok (.goto 4, 3) := by decide +kernel
theorem dX4_behind_156 : decode cX4_behind 156 = .ok (.iconst 0, 1) := by decide +kernel
theorem dX4_behind_157 : decode cX4_behind 157 = .ok (.istore_n 3, 1) := by decide +kernel
theorem dX4_behind_158 : decode cX4_behind 158 = .ok (.aload_n 0, 1) := by decide +kernel
theorem dX4_behind_159 : decode cX4_behind 159 = .ok (.getfield 43, 3) := by decide +kernel
theorem dX4_behind_162 : decode cX4_behind 162 = .ok (.aload_n 0, 1) := by decide +kernel
theorem dX4_behind_163 : decode cX4_behind 163 = .ok (.getfield 100, 3) := by decide +kernel
theorem dX4_behind_166 : decode cX4_behind 166 = .ok (.iconst 1, 1) := by decide +kernel
theorem dX4_behind_167 : decode cX4_behind 167 = .ok (.isub, 1) := by decide +kernel
theorem dX4_behind_168 : decode cX4_behind 168 = .ok (.iload_n 3, 1) := by decide +kernel
theorem dX4_behind_169 : decode cX4_behind 169 = .ok (.bastore, 1) := by decide +kernel
theorem dX4_behind_170 : decode cX4_behind 170 = .ok (.aload_n 0, 1) := by decide +kernel
theorem dX4_behind_171 : decode cX4_behind 171 = .ok (.iload_n 3, 1) := by decide +kernel
theorem dX4_behind_172 : decode cX4_behind 172 = .ok (.ifCond .eq 10, 3) := by decide +kernel
theorem dX4_behind_175 : decode cX4_behind 175 = .ok (.aload_n 0, 1) := by decide +kernel
theorem dX4_behind_176 : decode cX4_behind 176 = .ok (.getfield 150, 3) := by decide +kernel
theorem dX4_behind_179 : decode cX4_behind 179 = .ok (.goto 9, 3) := by decide +kernel
theorem dX4_behind_182 : decode cX4_behind 182 = .ok (.aload_n 0, 1) := by decide +kernel
theorem dX4_behind_183 : decode cX4_behind 183 = .ok (.getfield 150, 3) := by decide +kernel
theorem dX4_behind_186 : decode cX4_behind 186 = .ok (.iconst 1, 1) := by decide +kernel
theorem dX4_behind_187 : decode cX4_behind 187 = .ok (.iadd, 1) := by decide +kernel
theorem dX4_behind_188 : decode cX4_behind 188 = .ok (.putfield 150, 3) := by decide +kernel
theorem dX4_behind_191 : decode cX4_behind 191 = .ok (.aload_n 0, 1) := by decide +kernel
theorem dX4_behind_192 : decode cX4_behind 192 = .ok (.getfield 40, 3) := by decide +kernel
theorem dX4_behind_195 : decode cX4_behind 195 = .ok (.iload_n 2, 1) := by decide +kernel
theorem dX4_behind_196 : decode cX4_behind 196 = .ok (.iconst 0, 1) := by decide +kernel
theorem dX4_behind_197 : decode cX4_behind 197 = .ok (.iastore, 1) := by decide +kernel
theorem dX4_behind_198 : decode cX4_behind 198 = .ok (.iload_n 1, 1) := by decide +kernel
theorem dX4_behind_199 : decode cX4_behind 199 = .ok (.invokestatic 155, 3) := by decide +kernel
theorem dX4_behind_202 : decode cX4_behind 202 = .ok (.ifCond .eq 22, 3) := by decide +kernel
theorem dX4_behind_205 : decode cX4_behind 205 = .ok (.aload_n 0, 1) := by decide +kernel
theorem dX4_behind_206 : decode cX4_behind 206 = .ok (.getfield 40, 3) := by decide +kernel
theorem dX4_behind_209 : decode cX4_behind 209 = .ok (.iload_n 2, 1) := by decide +kernel
theorem dX4_behind_210 : decode cX4_behind 210 = .ok (.iload_n 1, 1) := by decide +kernel
theorem dX4_behind_211 : decode cX4_behind 211 = .ok (.iastore, 1) := by decide +kernel
theorem dX4_behind_212 : decode cX4_behind 212 = .ok (.aload_n 0, 1) := by decide +kernel
theorem dX4_behind_213 : decode cX4_behind 213 = .ok (.dup, 1) := by decide +kernel
theorem dX4_behind_214 : decode cX4_behind 214 = .ok (.getfield 68, 3) := by decide +kernel
theorem dX4_behind_217 : decode cX4_behind 217 = .ok (.iconst 1, 1) := by decide +kernel
theorem dX4_behind_218 : decode cX4_behind 218 = .ok (.iadd, 1) := by decide +kernel
theorem dX4_behind_219 : decode cX4_behind 219 = .ok (.putfield 68, 3) := by decide +kernel
theorem dX4_behind_222 : decode cX4_behind 222 = .ok (.iconst 1, 1) := by decide +kernel
theorem dX4_behind_223 : decode cX4_behind 223 = .ok (.ireturn, 1) := by decide +kernel
theorem dX4_behind_224 : decode cX4_behind 224 = .ok (.aload_n 0, 1) := by decide +kernel
theorem dX4_behind_225 : decode cX4_behind 225 = .ok (.getfield 37, 3) := by decide +kernel
theorem dX4_behind_228 : decode cX4_behind 228 = .ok (.iload_n 2, 1) := by decide +kernel
theorem dX4_behind_229 : decode cX4_behind 229 = .ok (.iaload, 1) := by decide +kernel
theorem dX4_behind_230 : decode cX4_behind 230 = .ok (.istore_n 3, 1) := by decide +kernel
theorem dX4_behind_231 : decode cX4_behind 231 = .ok (.iload_n 3, 1) := by decide +kernel
theorem dX4_behind_232 : decode cX4_behind 232 = .ok (.ifCond .eq 8, 3) := by decide +kernel
theorem dX4_behind_235 : decode cX4_behind 235 = .ok (.iload_n 3, 1) := by decide +kernel
theorem dX4_behind_236 : decode cX4_behind 236 = .ok (.iconst 2, 1) := by decide +kernel
theorem dX4_behind_237 : decode cX4_behind 237 = .ok (.if_icmp .ne 8, 3) := by decide +kernel
theorem dX4_behind_240 : decode cX4_behind 240 = .ok (.bipush 59, 2) := by decide +kernel
theorem dX4_behind_242 : decode cX4_behind 242 = .ok (.goto 25, 3) := by decide +kernel
theorem dX4_behind_245 : decode cX4_behind 245 = .ok (.iload_n 3, 1) := by decide +kernel
theorem dX4_behind_246 : decode cX4_behind 246 = .ok (.iconst 3, 1) := by decide +kernel
theorem dX4_behind_247 : decode cX4_behind 247 = .ok (.if_icmp .ne 8, 3) := by decide +kernel
theorem dX4_behind_250 : decode cX4_behind 250 = .ok (.bipush 123, 2) := by decide +kernel
theorem dX4_behind_252 : decode cX4_behind 252 = .ok (.goto 15, 3) := by decide +kernel
theorem dX4_behind_255 : decode cX4_behind 255 = .ok (.iload_n 3, 1) := by decide +kernel
theorem dX4_behind_256 : decode cX4_behind 256 = .ok (.iconst 4, 1) := by decide +kernel
theorem dX4_behind_257 : decode cX4_behind 257 = .ok (.if_icmp .ne 8, 3) := by decide +kernel
theorem dX4_behind_260 : decode cX4_behind 260 = .ok (.bipush 41, 2) := by decide +kernel
theorem dX4_behind_262 : decode cX4_behind 262 = .ok (.goto 5, 3) := by decide +kernel
theorem dX4_behind_265 : decode cX4_behind 265 = .ok (.bipush 93, 2) := by decide +kernel
theorem dX4_behind_267 : decode cX4_behind 267 = .ok (.istore 4, 2) := by decide +kernel
theorem dX4_behind_269 : decode cX4_behind 269 = .ok (.iload_n 1, 1) := by decide +kernel
theorem dX4_behind_270 : decode cX4_behind 270 = .ok (.iload 4, 2) := by decide +kernel
theorem dX4_behind_272 : decode cX4_behind 272 = .ok (.if_icmp .eq 13, 3) := by decide +kernel
theorem dX4_behind_275 : decode cX4_behind 275 = .ok (.aload_n 0, 1) := by decide +kernel
theorem dX4_behind_276 : decode cX4_behind 276 = .ok (.aload_n 0, 1) := by decide +kernel
theorem dX4_behind_277 : decode cX4_behind 277 = .ok (.getfield 68, 3) := by decide +kernel
theorem dX4_behind_280 : decode cX4_behind 280 = .ok (.invokevirtual 78, 3) := by decide +kernel
theorem dX4_behind_283 : decode cX4_behind 283 = .ok (.iconst 2, 1) := by decide +kernel
theorem dX4_behind_284 : decode cX4_behind 284 = .ok (.ireturn, 1) := by decide +kernel
theorem dX4_behind_285 : decode cX4_behind 285 = .ok (.aload_n 0, 1) := by decide +kernel
theorem dX4_behind_286 : decode cX4_behind 286 = .ok (.dup, 1) := by decide +kernel
theorem dX4_behind_287 : decode cX4_behind 287 = .ok (.getfield 68, 3) := by decide +kernel
theorem dX4_behind_290 : decode cX4_behind 290 = .ok (.iconst 1, 1) := by decide +kernel
theorem dX4_behind_291 : decode cX4_behind 291 = .ok (.iadd, 1) := by decide +kernel
theorem dX4_behind_292 : decode cX4_behind 292 = .ok (.putfield 68, 3) := by decide +kernel
theorem dX4_behind_295 : decode cX4_behind 295 = .ok (.aload_n 0, 1) := by decide +kernel
theorem dX4_behind_296 : decode cX4_behind 296 = .ok (.dup, 1) := by decide +kernel
theorem dX4_behind_297 : decode cX4_behind 297 = .ok (.getfield 97, 3) := by decide +kernel
theorem dX4_behind_300 : decode cX4_behind 300 = .ok (.iconst 1, 1) := by decide +kernel
theorem dX4_behind_301 : decode cX4_behind 301 = .ok (.isub, 1) := by decide +kernel
theorem dX4_behind_302 : decode cX4_behind 302 = .ok (.putfield 97, 3) := by decide +kernel
theorem dX4_behind_305 : decode cX4_behind 305 = .ok (.iload_n 3, 1) := by decide +kernel
theorem dX4_behind_306 : decode cX4_behind 306 = .ok (.iconst 4, 1) := by decide +kernel
theorem dX4_behind_307 : decode cX4_behind 307 = .ok (.if_icmp .eq 8, 3) := by decide +kernel
theorem dX4_behind_310 : decode cX4_behind 310 = .ok (.iload_n 3, 1) := by decide +kernel
theorem dX4_behind_311 : decode cX4_behind 311 = .ok (.iconst 5, 1) := by decide +kernel
theorem dX4_behind_312 : decode cX4_behind 312 = .ok (.if_icmp .ne 42, 3) := by decide +kernel
theorem dX4_behind_315 : decode cX4_behind 315 = .ok (.aload_n 0, 1) := by decide +kernel
theorem dX4_behind_316 : decode cX4_behind 316 = .ok (.dup, 1) := by decide +kernel
theorem dX4_behind_317 : decode cX4_behind 317 = .ok (.getfield 138, 3) := by decide +kernel
theorem dX4_behind_320 : decode cX4_behind 320 = .ok (.iconst 1, 1) := by decide +kernel
theorem dX4_behind_321 : decode cX4_behind 321 = .ok (.isub, 1) := by decide +kernel
theorem dX4_behind_322 : decode cX4_behind 322 = .ok (.putfield 138, 3) := by decide +kernel
theorem dX4_behind_325 : decode cX4_behind 325 = .ok (.iload_n 3, 1) := by decide +kernel
theorem dX4_behind_326 : decode cX4_behind 326 = .ok (.iconst 5, 1) := by decide +kernel
theorem dX4_behind_327 : decode cX4_behind 327 = .ok (.if_icmp .ne 21, 3) := by decide +kernel
theorem dX4_behind_330 : decode cX4_behind 330 = .ok (.aload_n 0, 1) := by decide +kernel
theorem dX4_behind_331 : decode cX4_behind 331 = .ok (.iconst 2, 1) := by decide +kernel
theorem dX4_behind_332 : decode cX4_behind 332 = .ok (.iconst 0, 1) := by decide +kernel
theorem dX4_behind_333 : decode cX4_behind 333 = .ok (.invokevirtual 106, 3) := by decide +kernel
theorem dX4_behind_336 : decode cX4_behind 336 = .ok (.aload_n 0, 1) := by decide +kernel
theorem dX4_behind_337 : decode cX4_behind 337 = .ok (.getfield 43, 3) := by decide +kernel
theorem dX4_behind_340 : decode cX4_behind 340 = .ok (.aload_n 0, 1) := by decide +kernel
theorem dX4_behind_341 : decode cX4_behind 341 = .ok (.getfield 100, 3) := by decide +kernel
theorem dX4_behind_344 : decode cX4_behind 344 = .ok (.iconst 1, 1) := by decide +kernel
theorem dX4_behind_345 : decode cX4_behind 345 = .ok (.isub, 1) := by decide +kernel
theorem dX4_behind_346 : decode cX4_behind 346 = .ok (.iconst 0, 1) := by decide +kernel
theorem dX4_behind_347 : decode cX4_behind 347 = .ok (.bastore, 1) := by decide +kernel
theorem dX4_behind_348 : decode cX4_behind 348 = .ok (.aload_n 0, 1) := by decide +kernel
theorem dX4_behind_349 : decode cX4_behind 349 = .ok (.invokevirtual 147, 3) := by decide +kernel
theorem dX4_behind_352 : decode cX4_behind 352 = .ok (.iconst 2, 1) := by decide +kernel
theorem dX4_behind_353 : decode cX4_behind 353 = .ok (.ireturn, 1) := by decide +kernel
theorem dX4_behind_354 : decode cX4_behind 354 = .ok (.aload_n 0, 1) := by decide +kernel
theorem dX4_behind_355 : decode cX4_behind 355 = .ok (.dup, 1) := by decide +kernel
theorem dX4_behind_356 : decode cX4_behind 356 = .ok (.getfield 100, 3) := by decide +kernel
theorem dX4_behind_359 : decode cX4_behind 359 = .ok (.iconst 1, 1) := by decide +kernel
theorem dX4_behind_360 : decode cX4_behind 360 = .ok (.isub, 1) := by decide +kernel
theorem dX4_behind_361 : decode cX4_behind 361 = .ok (.putfield 100, 3) := by decide +kernel
theorem dX4_behind_364 : decode cX4_behind 364 = .ok (.iload_n 3, 1) := by decide +kernel
theorem dX4_behind_365 : decode cX4_behind 365 = .ok (.iconst 1, 1) := by decide +kernel
theorem dX4_behind_366 : decode cX4_behind 366 = .ok (.if_icmp .ne 16, 3) := by decide +kernel
theorem dX4_behind_369 : decode cX4_behind 369 = .ok (.aload_n 0, 1) := by decide +kernel
theorem dX4_behind_370 : decode cX4_behind 370 = .ok (.bipush 61, 2) := by decide +kernel
theorem dX4_behind_372 : decode cX4_behind 372 = .ok (.invokevirtual 122, 3) := by decide +kernel
theorem dX4_behind_375 : decode cX4_behind 375 = .ok (.aload_n 0, 1) := by decide +kernel
theorem dX4_behind_376 : decode cX4_behind 376 = .ok (.iconst 2, 1) := by decide +kernel
theorem dX4_behind_377 : decode cX4_behind 377 = .ok (.invokevirtual 125, 3) := by decide +kernel
theorem dX4_behind_380 : decode cX4_behind 380 = .ok (.iconst 1, 1) := by decide +kernel
theorem dX4_behind_381 : decode cX4_behind 381 = .ok (.ireturn, 1) := by decide +kernel
theorem dX4_behind_382 : decode cX4_behind 382 = .ok (.iload_n 3, 1) := by decide +kernel
theorem dX4_behind_383 : decode cX4_behind 383 = .ok (.iconst 3, 1) := by decide +kernel
theorem dX4_behind_384 : decode cX4_behind 384 = .ok (.if_icmp .ne 33, 3) := by decide +kernel
theorem dX4_behind_387 : decode cX4_behind 387 = .ok (.aload_n 0, 1) := by decide +kernel
theorem dX4_behind_388 : decode cX4_behind 388 = .ok (.bipush 9, 2) := by decide +kernel
theorem dX4_behind_390 : decode cX4_behind 390 = .ok (.iconst 0, 1) := by decide +kernel
theorem dX4_behind_391 : decode cX4_behind 391 = .ok (.invokevirtual 106, 3) := by decide +kernel
theorem dX4_behind_394 : decode cX4_behind 394 = .ok (.aload_n 0, 1) := by decide +kernel
theorem dX4_behind_395 : decode cX4_behind 395 = .ok (.iconst (-1), 1) := by decide +kernel
theorem dX4_behind_396 : decode cX4_behind 396 = .ok (.aload_n 0, 1) := by decide +kernel
theorem dX4_behind_397 : decode cX4_behind 397 = .ok (.getfield 94, 3) := by decide +kernel
theorem dX4_behind_400 : decode cX4_behind 400 = .ok (.iconst 1, 1) := by decide +kernel
theorem dX4_behind_401 : decode cX4_behind 401 = .ok (.isub, 1) := by decide +kernel
theorem dX4_behind_402 : decode cX4_behind 402 = .ok (.aload_n 0, 1) := by decide +kernel
theorem dX4_behind_403 : decode cX4_behind 403 = .ok (.getfield 53, 3) := by decide +kernel
theorem dX4_behind_406 : decode cX4_behind 406 = .ok (.aload_n 0, 1) := by decide +kernel
theorem dX4_behind_407 : decode cX4_behind 407 = .ok (.getfield 103, 3) := by decide +kernel
theorem dX4_behind_410 : decode cX4_behind 410 = .ok (.iaload, 1) := by decide +kernel
theorem dX4_behind_411 : decode cX4_behind 411 = .ok (.invokevirtual 134, 3) := by decide +kernel
theorem dX4_behind_414 : decode cX4_behind 414 = .ok (.goto 22, 3) := by decide +kernel
theorem dX4_behind_417 : decode cX4_behind 417 = .ok (.aload_n 0, 1) := by decide +kernel
theorem dX4_behind_418 : decode cX4_behind 418 = .ok (.iload_n 3, 1) := by decide +kernel
theorem dX4_behind_419 : decode cX4_behind 419 = .ok (.ifCond .ne 8, 3) := by decide +kernel
theorem dX4_behind_422 : decode cX4_behind 422 = .ok (.bipush 7, 2) := by decide +kernel
theorem dX4_behind_424 : decode cX4_behind 424 = .ok (.goto 5, 3) := by decide +kernel
theorem dX4_behind_427 : decode cX4_behind 427 = .ok (.bipush 8, 2) := by decide +kernel
theorem dX4_behind_429 : decode cX4_behind 429 = .ok (.aload_n 0, 1) := by decide +kernel
theorem dX4_behind_430 : decode cX4_behind 430 = .ok (.getfield 116, 3) := by decide +kernel
theorem dX4_behind_433 : decode cX4_behind 433 = .ok (.invokevirtual 106, 3) := by decide +kernel
theorem dX4_behind_436 : decode cX4_behind 436 = .ok (.iconst 0, 1) := by decide +kernel
theorem dX4_behind_437 : decode cX4_behind 437 = .ok (.ireturn, 1) := by decide +kernel
set_option maxRecDepth 20000 in
theorem ggX4_compile_X4_statement : GoodIn wsX4_compile wsX4_statement := goodIn_r _ [24, 9, 2, 25, 26, 16, 4, 3, 27, 28, 1, 10, 29, 30, 31, 32, 23, 33, 11, 34, 35, 36, 37, 38, 14, 39, 40, 41, 42, 43, 44, 45, 46, 47, 48, 49, 50, 51, 52, 53, 54, 55, 56, 57, 58, 6, 59, 60, 61, 62, 63, 64, 65, 66, 67, 68, 69, 70, 71, 72, 95, 96, 97, 98, 99, 100, 101, 102, 103, 104, 105, 106, 107, 108, 109, 110, 111, 112, 113, 114, 115, 116, 117, 118, 119, 120, 121, 122, 123, 124, 125, 126, 127] (by decide +kernel) (by decide +kernel)
set_option maxRecDepth 20000 in
theorem gX4_compile_X4_statement : GoodIn wsX4_compile (wsV RX4 158 RX4 yX4_statement wsX4_statement) := goodIn_app (goodIn_of _ (by decide +kernel)) ggX4_compile_X4_statement
set_option maxRecDepth 20000 in
theorem ggX4_compile_X4_factor : GoodIn wsX4_compile wsX4_factor := goodIn_r _ [76, 7, 2, 77, 29, 30, 31, 32, 23, 33, 11, 34, 46, 47, 48, 49, 1, 54, 55, 56, 57, 58, 6, 59, 50, 51, 52, 53, 39, 40, 41, 35, 36, 37, 38, 14, 4, 16, 78, 79, 80, 81, 82, 8, 66, 67, 68, 60, 61, 62, 63, 64, 65, 83, 84, 85, 86, 5, 95, 96, 97, 98, 99, 100, 101, 102, 103, 104, 105, 106, 107, 108, 109, 110, 111, 112, 113, 114, 115, 116, 117, 118, 119, 120, 121, 122, 123, 124, 125, 126, 127] (by decide +kernel) (by decide +kernel)
set_option maxRecDepth 20000 in
theorem gX4_compile_X4_factor : GoodIn wsX4_compile (wsV RX4 161 RX4 yX4_factor wsX4_factor) := goodIn_app (goodIn_of _ (by decide +kernel)) ggX4_compile_X4_factor
set_option maxRecDepth 20000 in
theorem ggX4_compile_X4_behind : GoodIn wsX4_compile wsX4_behind := goodIn_r _ [90, 2, 91, 29, 82, 8, 5, 6, 59, 58, 7, 4, 10, 9, 27, 30, 31, 32, 23, 33, 11, 34, 60, 61, 62, 63, 64, 65, 66, 67, 68, 46, 47, 48, 49, 1, 35, 36, 37, 38, 14, 16, 92, 93, 94, 83, 84, 85, 86, 50, 51, 52, 53, 54, 55, 56, 57, 69, 70, 71, 72, 25, 26, 95, 96, 97, 98, 99, 100, 101, 102, 103, 104, 105, 106, 107, 108, 109, 110, 111, 112, 113, 114, 115, 116, 117, 118, 119, 120, 121, 122, 123, 124, 125, 126, 127] (by decide +kernel) (by decide +kernel)
set_option maxRecDepth 20000 in
theorem gX4_compile_X4_behind : GoodIn wsX4_compile (wsV RX4 164 RX4 yX4_behind wsX4_behind) := goodIn_app (goodIn_of _ (by decide +kernel)) ggX4_compile_X4_behind
theorem dX4_compile_0 : decode cX4_compile 0 = .ok (.aload_n 0, 1) := by decide +kernel
theorem dX4_compile_1 : decode cX4_compile 1 = .ok (.iconst 0, 1) := by decide +kernel
theorem dX4_compile_2 : decode cX4_compile 2 = .ok (.putfield 71, 3) := by decide +kernel
theorem dX4_compile_5 : decode cX4_compile 5 = .ok (.aload_n 0, 1) := by decide +kernel
theorem dX4_compile_6 : decode cX4_compile 6 = .ok (.iconst 0, 1) := by decide +kernel
theorem dX4_compile_7 : decode cX4_compile 7 = .ok (.putfield 68, 3) := by decide +kernel
theorem dX4_compile_10 : decode cX4_compile 10 = .ok (.aload_n 0, 1) := by decide +kernel
theorem dX4_compile_11 : decode cX4_compile 11 = .ok (.iconst 0, 1) := by decide +kernel
theorem dX4_compile_12 : decode cX4_compile 12 = .ok (.putfield 110, 3) := by decide +kernel
theorem dX4_compile_15 : decode cX4_compile 15 = .ok (.aload_n 0, 1) := by decide +kernel
theorem dX4_compile_16 : decode cX4_compile 16 = .ok (.iconst 0, 1) := by decide +kernel
theorem dX4_compile_17 : decode cX4_compile 17 = .ok (.putfield 94, 3) := by decide +kernel
theorem dX4_compile_20 : decode cX4_compile 20 = .ok (.aload_n 0, 1) := by decide +kernel
theorem dX4_compile_21 : decode cX4_compile 21 = .ok (.iconst 0, 1) := by decide +kernel
theorem dX4_compile_22 : decode cX4_compile 22 = .ok (.putfield 150, 3) := by decide +kernel
theorem dX4_compile_25 : decode cX4_compile 25 = .ok (.aload_n 0, 1) := by decide +kernel
theorem dX4_compile_26 : decode cX4_compile 26 = .ok (.iconst 0, 1) := by decide +kernel
theorem dX4_compile_27 : decode cX4_compile 27 = .ok (.putfield 97, 3) := by decide +kernel
theorem dX4_compile_30 : decode cX4_compile 30 = .ok (.aload_n 0, 1) := by decide +kernel
theorem dX4_compile_31 : decode cX4_compile 31 = .ok (.iconst 0, 1) := by decide +kernel
theorem dX4_compile_32 : decode cX4_compile 32 = .ok (.putfield 138, 3) := by decide +kernel
theorem dX4_compile_35 : decode cX4_compile 35 = .ok (.aload_n 0, 1) := by decide +kernel
theorem dX4_compile_36 : decode cX4_compile 36 = .ok (.iconst 0, 1) := by decide +kernel
theorem dX4_compile_37 : decode cX4_compile 37 = .ok (.putfield 100, 3) := by decide +kernel
theorem dX4_compile_40 : decode cX4_compile 40 = .ok (.aload_n 0, 1) := by decide +kernel
theorem dX4_compile_41 : decode cX4_compile 41 = .ok (.iconst 0, 1) := by decide +kernel
theorem dX4_compile_42 : decode cX4_compile 42 = .ok (.putfield 103, 3) := by decide +kernel
theorem dX4_compile_45 : decode cX4_compile 45 = .ok (.aload_n 0, 1) := by decide +kernel
theorem dX4_compile_46 : decode cX4_compile 46 = .ok (.getfield 53, 3) := by decide +kernel
theorem dX4_compile_49 : decode cX4_compile 49 = .ok (.iconst 0, 1) := by decide +kernel
theorem dX4_compile_50 : decode cX4_compile 50 = .ok (.iconst 1, 1) := by decide +kernel
theorem dX4_compile_51 : decode cX4_compile 51 = .ok (.iastore, 1) := by decide +kernel
theorem dX4_compile_52 : decode cX4_compile 52 = .ok (.iconst 0, 1) := by decide +kernel
theorem dX4_compile_53 : decode cX4_compile 53 = .ok (.istore_n 1, 1) := by decide +kernel
theorem dX4_compile_54 : decode cX4_compile 54 = .ok (.aload_n 0, 1) := by decide +kernel
theorem dX4_compile_55 : decode cX4_compile 55 = .ok (.getfield 71, 3) := by decide +kernel
theorem dX4_compile_58 : decode cX4_compile 58 = .ok (.ifCond .ne 56, 3) := by decide +kernel
theorem dX4_compile_61 : decode cX4_compile 61 = .ok (.iload_n 1, 1) := by decide +kernel
theorem dX4_compile_62 : decode cX4_compile 62 = .ok (.ifCond .ne 21, 3) := by decide +kernel
theorem dX4_compile_65 : decode cX4_compile 65 = .ok (.aload_n 0, 1) := by decide +kernel
theorem dX4_compile_66 : decode cX4_compile 66 = .ok (.getfield 103, 3) := by decide +kernel
theorem dX4_compile_69 : decode cX4_compile 69 = .ok (.ifCond .ne 14, 3) := by decide +kernel
theorem dX4_compile_72 : decode cX4_compile 72 = .ok (.aload_n 0, 1) := by decide +kernel
theorem dX4_compile_73 : decode cX4_compile 73 = .ok (.getfield 68, 3) := by decide +kernel
theorem dX4_compile_76 : decode cX4_compile 76 = .ok (.aload_n 0, 1) := by decide +kernel
theorem dX4_compile_77 : decode cX4_compile 77 = .ok (.getfield 65, 3) := by decide +kernel
theorem dX4_compile_80 : decode cX4_compile 80 = .ok (.if_icmp .ge 34, 3) := by decide +kernel
theorem dX4_compile_83 : decode cX4_compile 83 = .ok (.iload_n 1, 1) := by decide +kernel
theorem dX4_compile_84 : decode cX4_compile 84 = .ok (.ifCond .ne 10, 3) := by decide +kernel
theorem dX4_compile_87 : decode cX4_compile 87 = .ok (.aload_n 0, 1) := by decide +kernel
theorem dX4_compile_88 : decode cX4_compile 88 = .ok (.invokevirtual 158, 3) := by decide +kernel
theorem dX4_compile_91 : decode cX4_compile 91 = .ok (.goto 19, 3) := by decide +kernel
theorem dX4_compile_94 : decode cX4_compile 94 = .ok (.iload_n 1, 1) := by decide +kernel
theorem dX4_compile_95 : decode cX4_compile 95 = .ok (.iconst 1, 1) := by decide +kernel
theorem dX4_compile_96 : decode cX4_compile 96 = .ok (.if_icmp .ne 10, 3) := by decide +kernel
theorem dX4_compile_99 : decode cX4_compile 99 = .ok (.aload_n 0, 1) := by decide +kernel
theorem dX4_compile_100 : decode cX4_compile 100 = .ok (.invokevirtual 161, 3) := by decide +kernel
theorem dX4_compile_103 : decode cX4_compile 103 = .ok (.goto 7, 3) := by decide +kernel
theorem dX4_compile_106 : decode cX4_compile 106 = .ok (.aload_n 0, 1) := by decide +kernel
theorem dX4_compile_107 : decode cX4_compile 107 = .ok (.invokevirtual 164, 3) := by decide +kernel
theorem dX4_compile_110 : decode cX4_compile 110 = .ok (.istore_n 1, 1) := by decide +kernel
theorem dX4_compile_111 : decode cX4_compile 111 = .ok (.goto (-57), 3) := by decide +kernel
theorem dX4_compile_114 : decode cX4_compile 114 = .ok (.aload_n 0, 1) := by decide +kernel
theorem dX4_compile_115 : decode cX4_compile 115 = .ok (.aload_n 0, 1) := by decide +kernel
theorem dX4_compile_116 : decode cX4_compile 116 = .ok (.getfield 71, 3) := by decide +kernel
theorem dX4_compile_119 : decode cX4_compile 119 = .ok (.ifCond .le 7, 3) := by decide +kernel
theorem dX4_compile_122 : decode cX4_compile 122 = .ok (.iconst 1, 1) := by decide +kernel
theorem dX4_compile_123 : decode cX4_compile 123 = .ok (.goto 4, 3) := by decide +kernel
theorem dX4_compile_126 : decode cX4_compile 126 = .ok (.iconst 0, 1) := by decide +kernel
theorem dX4_compile_127 : decode cX4_compile 127 = .ok (.putfield 59, 3) := by decide +kernel
theorem dX4_compile_130 : decode cX4_compile 130 = .ok (.aload_n 0, 1) := by decide +kernel
theorem dX4_compile_131 : decode cX4_compile 131 = .ok (.getfield 59, 3) := by decide +kernel
theorem dX4_compile_134 : decode cX4_compile 134 = .ok (.ifCond .le 5, 3) := by decide +kernel
theorem dX4_compile_137 : decode cX4_compile 137 = .ok (.iconst 0, 1) := by decide +kernel
theorem dX4_compile_138 : decode cX4_compile 138 = .ok (.ireturn, 1) := by decide +kernel
theorem dX4_compile_139 : decode cX4_compile 139 = .ok (.iconst 0, 1) := by decide +kernel
theorem dX4_compile_140 : decode cX4_compile 140 = .ok (.istore_n 2, 1) := by decide +kernel
theorem dX4_compile_141 : decode cX4_compile 141 = .ok (.iload_n 2, 1) := by decide +kernel
theorem dX4_compile_142 : decode cX4_compile 142 = .ok (.aload_n 0, 1) := by decide +kernel
theorem dX4_compile_143 : decode cX4_compile 143 = .ok (.getfield 94, 3) := by decide +kernel
theorem dX4_compile_146 : decode cX4_compile 146 = .ok (.if_icmp .ge 33, 3) := by decide +kernel
theorem dX4_compile_149 : decode cX4_compile 149 = .ok (.aload_n 0, 1) := by decide +kernel
theorem dX4_compile_150 : decode cX4_compile 150 = .ok (.getfield 31, 3) := by decide +kernel
theorem dX4_compile_153 : decode cX4_compile 153 = .ok (.iload_n 2, 1) := by decide +kernel
theorem dX4_compile_154 : decode cX4_compile 154 = .ok (.aload_n 0, 1) := by decide +kernel
theorem dX4_compile_155 : decode cX4_compile 155 = .ok (.getfield 25, 3) := by decide +kernel
theorem dX4_compile_158 : decode cX4_compile 158 = .ok (.iload_n 2, 1) := by decide +kernel
theorem dX4_compile_159 : decode cX4_compile 159 = .ok (.iaload, 1) := by decide +kernel
theorem dX4_compile_160 : decode cX4_compile 160 = .ok (.iastore, 1) := by decide +kernel
theorem dX4_compile_161 : decode cX4_compile 161 = .ok (.aload_n 0, 1) := by decide +kernel
theorem dX4_compile_162 : decode cX4_compile 162 = .ok (.getfield 34, 3) := by decide +kernel
theorem dX4_compile_165 : decode cX4_compile 165 = .ok (.iload_n 2, 1) := by decide +kernel
theorem dX4_compile_166 : decode cX4_compile 166 = .ok (.aload_n 0, 1) := by decide +kernel
theorem dX4_compile_167 : decode cX4_compile 167 = .ok (.getfield 28, 3) := by decide +kernel
theorem dX4_compile_170 : decode cX4_compile 170 = .ok (.iload_n 2, 1) := by decide +kernel
theorem dX4_compile_171 : decode cX4_compile 171 = .ok (.iaload, 1) := by decide +kernel
theorem dX4_compile_172 : decode cX4_compile 172 = .ok (.iastore, 1) := by decide +kernel
theorem dX4_compile_173 : decode cX4_compile 173 = .ok (.iinc 2 1, 3) := by decide +kernel
theorem dX4_compile_176 : decode cX4_compile 176 = .ok (.goto (-35), 3) := by decide +kernel
theorem dX4_compile_179 : decode cX4_compile 179 = .ok (.aload_n 0, 1) := by decide +kernel
theorem dX4_compile_180 : decode cX4_compile 180 = .ok (.aload_n 0, 1) := by decide +kernel
theorem dX4_compile_181 : decode cX4_compile 181 = .ok (.getfield 94, 3) := by decide +kernel
theorem dX4_compile_184 : decode cX4_compile 184 = .ok (.putfield 167, 3) := by decide +kernel
theorem dX4_compile_187 : decode cX4_compile 187 = .ok (.aload_n 0, 1) := by decide +kernel
theorem dX4_compile_188 : decode cX4_compile 188 = .ok (.aload_n 0, 1) := by decide +kernel
theorem dX4_compile_189 : decode cX4_compile 189 = .ok (.getfield 150, 3) := by decide +kernel
theorem dX4_compile_192 : decode cX4_compile 192 = .ok (.putfield 170, 3) := by decide +kernel
theorem dX4_compile_195 : decode cX4_compile 195 = .ok (.aload_n 0, 1) := by decide +kernel
theorem dX4_compile_196 : decode cX4_compile 196 = .ok (.iconst 1, 1) := by decide +kernel
theorem dX4_compile_197 : decode cX4_compile 197 = .ok (.putfield 173, 3) := by decide +kernel
end
section
theorem dX4_compile_200 : decode cX4_compile 200 = .ok (.aload_n 0, 1) := by decide +kernel
theorem dX4_compile_201 : decode cX4_compile 201 = .ok (.getfield 110, 3) := by decide +kernel
theorem dX4_compile_204 : decode cX4_compile 204 = .ok (.ireturn, 1) := by decide +kernel
theorem dX4_fault_0 : decode cX4_fault 0 = .ok (.aload_n 0, 1) := by decide +kernel
theorem dX4_fault_1 : decode cX4_fault 1 = .ok (.iconst 0, 1) := by decide +kernel
theorem dX4_fault_2 : decode cX4_fault 2 = .ok (.putfield 59, 3) := by decide +kernel
theorem dX4_fault_5 : decode cX4_fault 5 = .ok (.aload_n 0, 1) := by decide +kernel
theorem dX4_fault_6 : decode cX4_fault 6 = .ok (.getfield 71, 3) := by decide +kernel
theorem dX4_fault_9 : decode cX4_fault 9 = .ok (.ireturn, 1) := by decide +kernel
theorem dX4_work_0 : decode cX4_work 0 = .ok (.aload_n 0, 1) := by decide +kernel
theorem dX4_work_1 : decode cX4_work 1 = .ok (.iconst 0, 1) := by decide +kernel
theorem dX4_work_2 : decode cX4_work 2 = .ok (.putfield 59, 3) := by decide +kernel
theorem dX4_work_5 : decode cX4_work 5 = .ok (.aload_n 0, 1) := by decide +kernel
theorem dX4_work_6 : decode cX4_work 6 = .ok (.getfield 173, 3) := by decide +kernel
theorem dX4_work_9 : decode cX4_work 9 = .ok (.ifCond .eq 10, 3) := by decide +kernel
theorem dX4_work_12 : decode cX4_work 12 = .ok (.aload_n 0, 1) := by decide +kernel
theorem dX4_work_13 : decode cX4_work 13 = .ok (.getfield 170, 3) := by decide +kernel
theorem dX4_work_16 : decode cX4_work 16 = .ok (.goto 4, 3) := by decide +kernel
theorem dX4_work_19 : decode cX4_work 19 = .ok (.iconst 0, 1) := by decide +kernel
theorem dX4_work_20 : decode cX4_work 20 = .ok (.ireturn, 1) := by decide +kernel
theorem dX4_operated_0 : decode cX4_operated 0 = .ok (.iload_n 0, 1) := by decide +kernel
theorem dX4_operated_1 : decode cX4_operated 1 = .ok (.lookupswitch 71 #[(38, 63), (42, 59), (43, 51), (45, 55), (124, 67)], 51) := by decide +kernel
theorem dX4_operated_52 : decode cX4_operated 52 = .ok (.iload_n 1, 1) := by decide +kernel
theorem dX4_operated_53 : decode cX4_operated 53 = .ok (.iload_n 2, 1) := by decide +kernel
theorem dX4_operated_54 : decode cX4_operated 54 = .ok (.iadd, 1) := by decide +kernel
theorem dX4_operated_55 : decode cX4_operated 55 = .ok (.ireturn, 1) := by decide +kernel
theorem dX4_operated_56 : decode cX4_operated 56 = .ok (.iload_n 1, 1) := by decide +kernel
theorem dX4_operated_57 : decode cX4_operated 57 = .ok (.iload_n 2, 1) := by decide +kernel
theorem dX4_operated_58 : decode cX4_operated 58 = .ok (.isub, 1) := by decide +kernel
theorem dX4_operated_59 : decode cX4_operated 59 = .ok (.ireturn, 1) := by decide +kernel
theorem dX4_operated_60 : decode cX4_operated 60 = .ok (.iload_n 1, 1) := by decide +kernel
theorem dX4_operated_61 : decode cX4_operated 61 = .ok (.iload_n 2, 1) := by decide +kernel
theorem dX4_operated_62 : decode cX4_operated 62 = .ok (.imul, 1) := by decide +kernel
theorem dX4_operated_63 : decode cX4_operated 63 = .ok (.ireturn, 1) := by decide +kernel
theorem dX4_operated_64 : decode cX4_operated 64 = .ok (.iload_n 1, 1) := by decide +kernel
theorem dX4_operated_65 : decode cX4_operated 65 = .ok (.iload_n 2, 1) := by decide +kernel
theorem dX4_operated_66 : decode cX4_operated 66 = .ok (.iand, 1) := by decide +kernel
theorem dX4_operated_67 : decode cX4_operated 67 = .ok (.ireturn, 1) := by decide +kernel
theorem dX4_operated_68 : decode cX4_operated 68 = .ok (.iload_n 1, 1) := by decide +kernel
theorem dX4_operated_69 : decode cX4_operated 69 = .ok (.iload_n 2, 1) := by decide +kernel
theorem dX4_operated_70 : decode cX4_operated 70 = .ok (.ior, 1) := by decide +kernel
theorem dX4_operated_71 : decode cX4_operated 71 = .ok (.ireturn, 1) := by decide +kernel
theorem dX4_operated_72 : decode cX4_operated 72 = .ok (.iload_n 1, 1) := by decide +kernel
theorem dX4_operated_73 : decode cX4_operated 73 = .ok (.iload_n 2, 1) := by decide +kernel
theorem dX4_operated_74 : decode cX4_operated 74 = .ok (.ixor, 1) := by decide +kernel
theorem dX4_operated_75 : decode cX4_operated 75 = .ok (.ireturn, 1) := by decide +kernel
theorem dX4_turned_0 : decode cX4_turned 0 = .ok (.iload_n 0, 1) := by decide +kernel
theorem dX4_turned_1 : decode cX4_turned 1 = .ok (.iload_n 1, 1) := by decide +kernel
theorem dX4_turned_2 : decode cX4_turned 2 = .ok (.ishl, 1) := by decide +kernel
theorem dX4_turned_3 : decode cX4_turned 3 = .ok (.iload_n 0, 1) := by decide +kernel
theorem dX4_turned_4 : decode cX4_turned 4 = .ok (.bipush 32, 2) := by decide +kernel
theorem dX4_turned_6 : decode cX4_turned 6 = .ok (.iload_n 1, 1) := by decide +kernel
theorem dX4_turned_7 : decode cX4_turned 7 = .ok (.isub, 1) := by decide +kernel
theorem dX4_turned_8 : decode cX4_turned 8 = .ok (.iushr, 1) := by decide +kernel
theorem dX4_turned_9 : decode cX4_turned 9 = .ok (.ior, 1) := by decide +kernel
theorem dX4_turned_10 : decode cX4_turned 10 = .ok (.ireturn, 1) := by decide +kernel
theorem dX4_isAddress_0 : decode cX4_isAddress 0 = .ok (.iload_n 0, 1) := by decide +kernel
theorem dX4_isAddress_1 : decode cX4_isAddress 1 = .ok (.ifCond .lt 14, 3) := by decide +kernel
theorem dX4_isAddress_4 : decode cX4_isAddress 4 = .ok (.iload_n 0, 1) := by decide +kernel
theorem dX4_isAddress_5 : decode cX4_isAddress 5 = .ok (.sipush 192, 3) := by decide +kernel
theorem dX4_isAddress_8 : decode cX4_isAddress 8 = .ok (.if_icmp .ge 7, 3) := by decide +kernel
theorem dX4_isAddress_11 : decode cX4_isAddress 11 = .ok (.iconst 1, 1) := by decide +kernel
theorem dX4_isAddress_12 : decode cX4_isAddress 12 = .ok (.goto 4, 3) := by decide +kernel
theorem dX4_isAddress_15 : decode cX4_isAddress 15 = .ok (.iconst 0, 1) := by decide +kernel
theorem dX4_isAddress_16 : decode cX4_isAddress 16 = .ok (.ireturn, 1) := by decide +kernel
set_option maxRecDepth 20000 in
theorem ggX4_run_X4_end : GoodIn wsX4_run wsX4_end := goodIn_r _ [16, 6, 10, 5, 4, 2, 17, 18, 15, 19, 30, 31, 32, 33, 34, 35, 36, 37, 38, 39, 40, 41, 42, 43, 44, 45, 46, 47, 48, 49, 50, 51, 52, 53, 54, 55, 56, 57, 58, 59, 60, 61, 62] (by decide +kernel) (by decide +kernel)
set_option maxRecDepth 20000 in
theorem gX4_run_X4_end : GoodIn wsX4_run (wsV RX4 180 RX4 yX4_end wsX4_end) := goodIn_app (goodIn_of _ (by decide +kernel)) ggX4_run_X4_end
set_option maxRecDepth 20000 in
theorem ggX4_run_X4_reckon : GoodIn wsX4_run wsX4_reckon := goodIn_r _ [23, 10, 6, 5, 4, 2, 24, 25, 15, 26, 27, 28, 29, 17, 18, 19, 30, 31, 32, 33, 34, 35, 36, 37, 38, 39, 40, 41, 42, 43, 44, 45, 46, 47, 48, 49, 50, 51, 52, 53, 54, 55, 56, 57, 58, 59, 60, 61, 62] (by decide +kernel) (by decide +kernel)
set_option maxRecDepth 20000 in
theorem gX4_run_X4_reckon : GoodIn wsX4_run (wsV RX4 183 RX4 yX4_reckon wsX4_reckon) := goodIn_app (goodIn_of _ (by decide +kernel)) ggX4_run_X4_reckon
theorem dX4_run_0 : decode cX4_run 0 = .ok (.aload_n 0, 1) := by decide +kernel
theorem dX4_run_1 : decode cX4_run 1 = .ok (.aload_n 0, 1) := by decide +kernel
theorem dX4_run_2 : decode cX4_run 2 = .ok (.getfield 173, 3) := by decide +kernel
theorem dX4_run_5 : decode cX4_run 5 = .ok (.ifCond .eq 7, 3) := by decide +kernel
theorem dX4_run_8 : decode cX4_run 8 = .ok (.iconst 0, 1) := by decide +kernel
theorem dX4_run_9 : decode cX4_run 9 = .ok (.goto 4, 3) := by decide +kernel
theorem dX4_run_12 : decode cX4_run 12 = .ok (.iconst 1, 1) := by decide +kernel
theorem dX4_run_13 : decode cX4_run 13 = .ok (.putfield 59, 3) := by decide +kernel
theorem dX4_run_16 : decode cX4_run 16 = .ok (.aload_n 0, 1) := by decide +kernel
theorem dX4_run_17 : decode cX4_run 17 = .ok (.getfield 59, 3) := by decide +kernel
theorem dX4_run_20 : decode cX4_run 20 = .ok (.ifCond .le 5, 3) := by decide +kernel
theorem dX4_run_23 : decode cX4_run 23 = .ok (.iconst 0, 1) := by decide +kernel
theorem dX4_run_24 : decode cX4_run 24 = .ok (.ireturn, 1) := by decide +kernel
theorem dX4_run_25 : decode cX4_run 25 = .ok (.iconst 0, 1) := by decide +kernel
theorem dX4_run_26 : decode cX4_run 26 = .ok (.istore_n 1, 1) := by decide +kernel
theorem dX4_run_27 : decode cX4_run 27 = .ok (.iload_n 1, 1) := by decide +kernel
theorem dX4_run_28 : decode cX4_run 28 = .ok (.sipush 192, 3) := by decide +kernel
theorem dX4_run_31 : decode cX4_run 31 = .ok (.if_icmp .ge 21, 3) := by decide +kernel
theorem dX4_run_34 : decode cX4_run 34 = .ok (.aload_n 0, 1) := by decide +kernel
theorem dX4_run_35 : decode cX4_run 35 = .ok (.getfield 16, 3) := by decide +kernel
theorem dX4_run_38 : decode cX4_run 38 = .ok (.iload_n 1, 1) := by decide +kernel
theorem dX4_run_39 : decode cX4_run 39 = .ok (.aload_n 0, 1) := by decide +kernel
theorem dX4_run_40 : decode cX4_run 40 = .ok (.getfield 13, 3) := by decide +kernel
theorem dX4_run_43 : decode cX4_run 43 = .ok (.iload_n 1, 1) := by decide +kernel
theorem dX4_run_44 : decode cX4_run 44 = .ok (.iaload, 1) := by decide +kernel
theorem dX4_run_45 : decode cX4_run 45 = .ok (.iastore, 1) := by decide +kernel
theorem dX4_run_46 : decode cX4_run 46 = .ok (.iinc 1 1, 3) := by decide +kernel
theorem dX4_run_49 : decode cX4_run 49 = .ok (.goto (-22), 3) := by decide +kernel
theorem dX4_run_52 : decode cX4_run 52 = .ok (.iconst 0, 1) := by decide +kernel
theorem dX4_run_53 : decode cX4_run 53 = .ok (.istore_n 1, 1) := by decide +kernel
theorem dX4_run_54 : decode cX4_run 54 = .ok (.iload_n 1, 1) := by decide +kernel
theorem dX4_run_55 : decode cX4_run 55 = .ok (.bipush 26, 2) := by decide +kernel
theorem dX4_run_57 : decode cX4_run 57 = .ok (.if_icmp .ge 16, 3) := by decide +kernel
theorem dX4_run_60 : decode cX4_run 60 = .ok (.aload_n 0, 1) := by decide +kernel
theorem dX4_run_61 : decode cX4_run 61 = .ok (.getfield 19, 3) := by decide +kernel
theorem dX4_run_64 : decode cX4_run 64 = .ok (.iload_n 1, 1) := by decide +kernel
theorem dX4_run_65 : decode cX4_run 65 = .ok (.iconst 0, 1) := by decide +kernel
theorem dX4_run_66 : decode cX4_run 66 = .ok (.iastore, 1) := by decide +kernel
theorem dX4_run_67 : decode cX4_run 67 = .ok (.iinc 1 1, 3) := by decide +kernel
theorem dX4_run_70 : decode cX4_run 70 = .ok (.goto (-16), 3) := by decide +kernel
theorem dX4_run_73 : decode cX4_run 73 = .ok (.aload_n 0, 1) := by decide +kernel
theorem dX4_run_74 : decode cX4_run 74 = .ok (.iconst 0, 1) := by decide +kernel
theorem dX4_run_75 : decode cX4_run 75 = .ok (.putfield 177, 3) := by decide +kernel
theorem dX4_run_78 : decode cX4_run 78 = .ok (.iconst 0, 1) := by decide +kernel
theorem dX4_run_79 : decode cX4_run 79 = .ok (.istore_n 1, 1) := by decide +kernel
theorem dX4_run_80 : decode cX4_run 80 = .ok (.iconst 0, 1) := by decide +kernel
theorem dX4_run_81 : decode cX4_run 81 = .ok (.istore_n 2, 1) := by decide +kernel
theorem dX4_run_82 : decode cX4_run 82 = .ok (.iload_n 2, 1) := by decide +kernel
theorem dX4_run_83 : decode cX4_run 83 = .ok (.aload_n 0, 1) := by decide +kernel
theorem dX4_run_84 : decode cX4_run 84 = .ok (.getfield 167, 3) := by decide +kernel
theorem dX4_run_87 : decode cX4_run 87 = .ok (.if_icmp .ge 176, 3) := by decide +kernel
theorem dX4_run_90 : decode cX4_run 90 = .ok (.aload_n 0, 1) := by decide +kernel
theorem dX4_run_91 : decode cX4_run 91 = .ok (.getfield 59, 3) := by decide +kernel
theorem dX4_run_94 : decode cX4_run 94 = .ok (.ifCond .ne 169, 3) := by decide +kernel
theorem dX4_run_97 : decode cX4_run 97 = .ok (.aload_n 0, 1) := by decide +kernel
theorem dX4_run_98 : decode cX4_run 98 = .ok (.getfield 31, 3) := by decide +kernel
theorem dX4_run_101 : decode cX4_run 101 = .ok (.iload_n 2, 1) := by decide +kernel
theorem dX4_run_102 : decode cX4_run 102 = .ok (.iaload, 1) := by decide +kernel
theorem dX4_run_103 : decode cX4_run 103 = .ok (.istore_n 3, 1) := by decide +kernel
theorem dX4_run_104 : decode cX4_run 104 = .ok (.aload_n 0, 1) := by decide +kernel
theorem dX4_run_105 : decode cX4_run 105 = .ok (.getfield 34, 3) := by decide +kernel
theorem dX4_run_108 : decode cX4_run 108 = .ok (.iload_n 2, 1) := by decide +kernel
theorem dX4_run_109 : decode cX4_run 109 = .ok (.iaload, 1) := by decide +kernel
theorem dX4_run_110 : decode cX4_run 110 = .ok (.istore 4, 2) := by decide +kernel
theorem dX4_run_112 : decode cX4_run 112 = .ok (.iinc 2 1, 3) := by decide +kernel
theorem dX4_run_115 : decode cX4_run 115 = .ok (.iload_n 3, 1) := by decide +kernel
theorem dX4_run_116 : decode cX4_run 116 = .ok (.bipush 10, 2) := by decide +kernel
theorem dX4_run_118 : decode cX4_run 118 = .ok (.if_icmp .ne 17, 3) := by decide +kernel
theorem dX4_run_121 : decode cX4_run 121 = .ok (.aload_n 0, 1) := by decide +kernel
theorem dX4_run_122 : decode cX4_run 122 = .ok (.getfield 19, 3) := by decide +kernel
theorem dX4_run_125 : decode cX4_run 125 = .ok (.iload 4, 2) := by decide +kernel
theorem dX4_run_127 : decode cX4_run 127 = .ok (.iconst 0, 1) := by decide +kernel
theorem dX4_run_128 : decode cX4_run 128 = .ok (.iastore, 1) := by decide +kernel
theorem dX4_run_129 : decode cX4_run 129 = .ok (.iinc 2 1, 3) := by decide +kernel
theorem dX4_run_132 : decode cX4_run 132 = .ok (.goto 128, 3) := by decide +kernel
theorem dX4_run_135 : decode cX4_run 135 = .ok (.iload_n 3, 1) := by decide +kernel
theorem dX4_run_136 : decode cX4_run 136 = .ok (.bipush 11, 2) := by decide +kernel
theorem dX4_run_138 : decode cX4_run 138 = .ok (.if_icmp .ne 52, 3) := by decide +kernel
theorem dX4_run_141 : decode cX4_run 141 = .ok (.aload_n 0, 1) := by decide +kernel
theorem dX4_run_142 : decode cX4_run 142 = .ok (.getfield 34, 3) := by decide +kernel
theorem dX4_run_145 : decode cX4_run 145 = .ok (.iload 4, 2) := by decide +kernel
theorem dX4_run_147 : decode cX4_run 147 = .ok (.iconst 2, 1) := by decide +kernel
theorem dX4_run_148 : decode cX4_run 148 = .ok (.isub, 1) := by decide +kernel
theorem dX4_run_149 : decode cX4_run 149 = .ok (.iaload, 1) := by decide +kernel
theorem dX4_run_150 : decode cX4_run 150 = .ok (.istore 5, 2) := by decide +kernel
theorem dX4_run_152 : decode cX4_run 152 = .ok (.aload_n 0, 1) := by decide +kernel
theorem dX4_run_153 : decode cX4_run 153 = .ok (.getfield 19, 3) := by decide +kernel
theorem dX4_run_156 : decode cX4_run 156 = .ok (.iload 5, 2) := by decide +kernel
theorem dX4_run_158 : decode cX4_run 158 = .ok (.iaload, 1) := by decide +kernel
theorem dX4_run_159 : decode cX4_run 159 = .ok (.iconst 1, 1) := by decide +kernel
theorem dX4_run_160 : decode cX4_run 160 = .ok (.iadd, 1) := by decide +kernel
theorem dX4_run_161 : decode cX4_run 161 = .ok (.aload_n 0, 1) := by decide +kernel
theorem dX4_run_162 : decode cX4_run 162 = .ok (.getfield 31, 3) := by decide +kernel
theorem dX4_run_165 : decode cX4_run 165 = .ok (.iload 4, 2) := by decide +kernel
theorem dX4_run_167 : decode cX4_run 167 = .ok (.iconst 1, 1) := by decide +kernel
theorem dX4_run_168 : decode cX4_run 168 = .ok (.isub, 1) := by decide +kernel
theorem dX4_run_169 : decode cX4_run 169 = .ok (.iaload, 1) := by decide +kernel
theorem dX4_run_170 : decode cX4_run 170 = .ok (.if_icmp .ge 17, 3) := by decide +kernel
theorem dX4_run_173 : decode cX4_run 173 = .ok (.aload_n 0, 1) := by decide +kernel
theorem dX4_run_174 : decode cX4_run 174 = .ok (.getfield 19, 3) := by decide +kernel
theorem dX4_run_177 : decode cX4_run 177 = .ok (.iload 5, 2) := by decide +kernel
theorem dX4_run_179 : decode cX4_run 179 = .ok (.dup2, 1) := by decide +kernel
theorem dX4_run_180 : decode cX4_run 180 = .ok (.iaload, 1) := by decide +kernel
theorem dX4_run_181 : decode cX4_run 181 = .ok (.iconst 1, 1) := by decide +kernel
theorem dX4_run_182 : decode cX4_run 182 = .ok (.iadd, 1) := by decide +kernel
theorem dX4_run_183 : decode cX4_run 183 = .ok (.iastore, 1) := by decide +kernel
theorem dX4_run_184 : decode cX4_run 184 = .ok (.iload 4, 2) := by decide +kernel
theorem dX4_run_186 : decode cX4_run 186 = .ok (.istore_n 2, 1) := by decide +kernel
theorem dX4_run_187 : decode cX4_run 187 = .ok (.goto 73, 3) := by decide +kernel
theorem dX4_run_190 : decode cX4_run 190 = .ok (.iload_n 3, 1) := by decide +kernel
theorem dX4_run_191 : decode cX4_run 191 = .ok (.bipush 9, 2) := by decide +kernel
theorem dX4_run_193 : decode cX4_run 193 = .ok (.if_icmp .ne 35, 3) := by decide +kernel
theorem dX4_run_196 : decode cX4_run 196 = .ok (.aload_n 0, 1) := by decide +kernel
theorem dX4_run_197 : decode cX4_run 197 = .ok (.dup, 1) := by decide +kernel
theorem dX4_run_198 : decode cX4_run 198 = .ok (.getfield 177, 3) := by decide +kernel
theorem dX4_run_201 : decode cX4_run 201 = .ok (.iconst 1, 1) := by decide +kernel
theorem dX4_run_202 : decode cX4_run 202 = .ok (.isub, 1) := by decide +kernel
theorem dX4_run_203 : decode cX4_run 203 = .ok (.putfield 177, 3) := by decide +kernel
theorem dX4_run_206 : decode cX4_run 206 = .ok (.aload_n 0, 1) := by decide +kernel
theorem dX4_run_207 : decode cX4_run 207 = .ok (.getfield 56, 3) := by decide +kernel
theorem dX4_run_210 : decode cX4_run 210 = .ok (.aload_n 0, 1) := by decide +kernel
theorem dX4_run_211 : decode cX4_run 211 = .ok (.getfield 177, 3) := by decide +kernel
theorem dX4_run_214 : decode cX4_run 214 = .ok (.iaload, 1) := by decide +kernel
theorem dX4_run_215 : decode cX4_run 215 = .ok (.ifCond .ne 8, 3) := by decide +kernel
theorem dX4_run_218 : decode cX4_run 218 = .ok (.iload 4, 2) := by decide +kernel
theorem dX4_run_220 : decode cX4_run 220 = .ok (.goto 4, 3) := by decide +kernel
theorem dX4_run_223 : decode cX4_run 223 = .ok (.iload_n 2, 1) := by decide +kernel
theorem dX4_run_224 : decode cX4_run 224 = .ok (.istore_n 2, 1) := by decide +kernel
theorem dX4_run_225 : decode cX4_run 225 = .ok (.goto 35, 3) := by decide +kernel
theorem dX4_run_228 : decode cX4_run 228 = .ok (.iload_n 3, 1) := by decide +kernel
theorem dX4_run_229 : decode cX4_run 229 = .ok (.bipush 7, 2) := by decide +kernel
theorem dX4_run_231 : decode cX4_run 231 = .ok (.if_icmp .eq 9, 3) := by decide +kernel
theorem dX4_run_234 : decode cX4_run 234 = .ok (.iload_n 3, 1) := by decide +kernel
theorem dX4_run_235 : decode cX4_run 235 = .ok (.bipush 8, 2) := by decide +kernel
theorem dX4_run_237 : decode cX4_run 237 = .ok (.if_icmp .ne 16, 3) := by decide +kernel
theorem dX4_run_240 : decode cX4_run 240 = .ok (.iinc 1 1, 3) := by decide +kernel
theorem dX4_run_243 : decode cX4_run 243 = .ok (.aload_n 0, 1) := by decide +kernel
theorem dX4_run_244 : decode cX4_run 244 = .ok (.iload_n 3, 1) := by decide +kernel
theorem dX4_run_245 : decode cX4_run 245 = .ok (.iload 4, 2) := by decide +kernel
theorem dX4_run_247 : decode cX4_run 247 = .ok (.invokevirtual 180, 3) := by decide +kernel
theorem dX4_run_250 : decode cX4_run 250 = .ok (.goto 10, 3) := by decide +kernel
theorem dX4_run_253 : decode cX4_run 253 = .ok (.aload_n 0, 1) := by decide +kernel
theorem dX4_run_254 : decode cX4_run 254 = .ok (.iload_n 3, 1) := by decide +kernel
theorem dX4_run_255 : decode cX4_run 255 = .ok (.iload 4, 2) := by decide +kernel
theorem dX4_run_257 : decode cX4_run 257 = .ok (.invokevirtual 183, 3) := by decide +kernel
theorem dX4_run_260 : decode cX4_run 260 = .ok (.goto (-178), 3) := by decide +kernel
theorem dX4_run_263 : decode cX4_run 263 = .ok (.aload_n 0, 1) := by decide +kernel
theorem dX4_run_264 : decode cX4_run 264 = .ok (.getfield 59, 3) := by decide +kernel
theorem dX4_run_267 : decode cX4_run 267 = .ok (.ifCond .le 32, 3) := by decide +kernel
theorem dX4_run_270 : decode cX4_run 270 = .ok (.iconst 0, 1) := by decide +kernel
theorem dX4_run_271 : decode cX4_run 271 = .ok (.istore_n 3, 1) := by decide +kernel
theorem dX4_run_272 : decode cX4_run 272 = .ok (.iload_n 3, 1) := by decide +kernel
theorem dX4_run_273 : decode cX4_run 273 = .ok (.sipush 192, 3) := by decide +kernel
theorem dX4_run_276 : decode cX4_run 276 = .ok (.if_icmp .ge 21, 3) := by decide +kernel
theorem dX4_run_279 : decode cX4_run 279 = .ok (.aload_n 0, 1) := by decide +kernel
theorem dX4_run_280 : decode cX4_run 280 = .ok (.getfield 13, 3) := by decide +kernel
theorem dX4_run_283 : decode cX4_run 283 = .ok (.iload_n 3, 1) := by decide +kernel
theorem dX4_run_284 : decode cX4_run 284 = .ok (.aload_n 0, 1) := by decide +kernel
theorem dX4_run_285 : decode cX4_run 285 = .ok (.getfield 16, 3) := by decide +kernel
theorem dX4_run_288 : decode cX4_run 288 = .ok (.iload_n 3, 1) := by decide +kernel
theorem dX4_run_289 : decode cX4_run 289 = .ok (.iaload, 1) := by decide +kernel
theorem dX4_run_290 : decode cX4_run 290 = .ok (.iastore, 1) := by decide +kernel
theorem dX4_run_291 : decode cX4_run 291 = .ok (.iinc 3 1, 3) := by decide +kernel
theorem dX4_run_294 : decode cX4_run 294 = .ok (.goto (-22), 3) := by decide +kernel
theorem dX4_run_297 : decode cX4_run 297 = .ok (.iconst 0, 1) := by decide +kernel
theorem dX4_run_298 : decode cX4_run 298 = .ok (.ireturn, 1) := by decide +kernel
theorem dX4_run_299 : decode cX4_run 299 = .ok (.iconst 0, 1) := by decide +kernel
theorem dX4_run_300 : decode cX4_run 300 = .ok (.istore_n 3, 1) := by decide +kernel
theorem dX4_run_301 : decode cX4_run 301 = .ok (.iload_n 3, 1) := by decide +kernel
theorem dX4_run_302 : decode cX4_run 302 = .ok (.bipush 26, 2) := by decide +kernel
theorem dX4_run_304 : decode cX4_run 304 = .ok (.if_icmp .ge 21, 3) := by decide +kernel
theorem dX4_run_307 : decode cX4_run 307 = .ok (.aload_n 0, 1) := by decide +kernel
theorem dX4_run_308 : decode cX4_run 308 = .ok (.getfield 22, 3) := by decide +kernel
theorem dX4_run_311 : decode cX4_run 311 = .ok (.iload_n 3, 1) := by decide +kernel
theorem dX4_run_312 : decode cX4_run 312 = .ok (.aload_n 0, 1) := by decide +kernel
theorem dX4_run_313 : decode cX4_run 313 = .ok (.getfield 19, 3) := by decide +kernel
theorem dX4_run_316 : decode cX4_run 316 = .ok (.iload_n 3, 1) := by decide +kernel
theorem dX4_run_317 : decode cX4_run 317 = .ok (.iaload, 1) := by decide +kernel
theorem dX4_run_318 : decode cX4_run 318 = .ok (.iastore, 1) := by decide +kernel
theorem dX4_run_319 : decode cX4_run 319 = .ok (.iinc 3 1, 3) := by decide +kernel
theorem dX4_run_322 : decode cX4_run 322 = .ok (.goto (-21), 3) := by decide +kernel
theorem dX4_run_325 : decode cX4_run 325 = .ok (.iload_n 1, 1) := by decide +kernel
theorem dX4_run_326 : decode cX4_run 326 = .ok (.ireturn, 1) := by decide +kernel
set_option maxRecDepth 20000 in
theorem ggX4_end_X4_isAddress : GoodIn wsX4_end wsX4_isAddress := goodIn_r _ [9] (by decide +kernel) (by decide +kernel)
set_option maxRecDepth 20000 in
theorem gX4_end_X4_isAddress : GoodIn wsX4_end (va_wsS RX4 186 yX4_isAddress wsX4_isAddress) := goodIn_app (goodIn_of _ (by decide +kernel)) ggX4_end_X4_isAddress
theorem dX4_end_0 : decode cX4_end 0 = .ok (.aload_n 0, 1) := by decide +kernel
theorem dX4_end_1 : decode cX4_end 1 = .ok (.dup, 1) := by decide +kernel
theorem dX4_end_2 : decode cX4_end 2 = .ok (.getfield 177, 3) := by decide +kernel
theorem dX4_end_5 : decode cX4_end 5 = .ok (.iconst 1, 1) := by decide +kernel
theorem dX4_end_6 : decode cX4_end 6 = .ok (.isub, 1) := by decide +kernel
theorem dX4_end_7 : decode cX4_end 7 = .ok (.putfield 177, 3) := by decide +kernel
theorem dX4_end_10 : decode cX4_end 10 = .ok (.aload_n 0, 1) := by decide +kernel
theorem dX4_end_11 : decode cX4_end 11 = .ok (.getfield 56, 3) := by decide +kernel
theorem dX4_end_14 : decode cX4_end 14 = .ok (.aload_n 0, 1) := by decide +kernel
theorem dX4_end_15 : decode cX4_end 15 = .ok (.getfield 177, 3) := by decide +kernel
theorem dX4_end_18 : decode cX4_end 18 = .ok (.iaload, 1) := by decide +kernel
theorem dX4_end_19 : decode cX4_end 19 = .ok (.istore_n 3, 1) := by decide +kernel
theorem dX4_end_20 : decode cX4_end 20 = .ok (.iload_n 1, 1) := by decide +kernel
theorem dX4_end_21 : decode cX4_end 21 = .ok (.bipush 7, 2) := by decide +kernel
theorem dX4_end_23 : decode cX4_end 23 = .ok (.if_icmp .ne 11, 3) := by decide +kernel
theorem dX4_end_26 : decode cX4_end 26 = .ok (.aload_n 0, 1) := by decide +kernel
theorem dX4_end_27 : decode cX4_end 27 = .ok (.getfield 19, 3) := by decide +kernel
theorem dX4_end_30 : decode cX4_end 30 = .ok (.iload_n 2, 1) := by decide +kernel
theorem dX4_end_31 : decode cX4_end 31 = .ok (.iload_n 3, 1) := by decide +kernel
theorem dX4_end_32 : decode cX4_end 32 = .ok (.iastore, 1) := by decide +kernel
theorem dX4_end_33 : decode cX4_end 33 = .ok (.return_, 1) := by decide +kernel
theorem dX4_end_34 : decode cX4_end 34 = .ok (.aload_n 0, 1) := by decide +kernel
theorem dX4_end_35 : decode cX4_end 35 = .ok (.dup, 1) := by decide +kernel
theorem dX4_end_36 : decode cX4_end 36 = .ok (.getfield 177, 3) := by decide +kernel
theorem dX4_end_39 : decode cX4_end 39 = .ok (.iconst 1, 1) := by decide +kernel
theorem dX4_end_40 : decode cX4_end 40 = .ok (.isub, 1) := by decide +kernel
theorem dX4_end_41 : decode cX4_end 41 = .ok (.putfield 177, 3) := by decide +kernel
theorem dX4_end_44 : decode cX4_end 44 = .ok (.aload_n 0, 1) := by decide +kernel
theorem dX4_end_45 : decode cX4_end 45 = .ok (.getfield 56, 3) := by decide +kernel
theorem dX4_end_48 : decode cX4_end 48 = .ok (.aload_n 0, 1) := by decide +kernel
theorem dX4_end_49 : decode cX4_end 49 = .ok (.getfield 177, 3) := by decide +kernel
theorem dX4_end_52 : decode cX4_end 52 = .ok (.iaload, 1) := by decide +kernel
theorem dX4_end_53 : decode cX4_end 53 = .ok (.invokestatic 186, 3) := by decide +kernel
theorem dX4_end_56 : decode cX4_end 56 = .ok (.ifCond .eq 21, 3) := by decide +kernel
theorem dX4_end_59 : decode cX4_end 59 = .ok (.aload_n 0, 1) := by decide +kernel
theorem dX4_end_60 : decode cX4_end 60 = .ok (.getfield 13, 3) := by decide +kernel
theorem dX4_end_63 : decode cX4_end 63 = .ok (.aload_n 0, 1) := by decide +kernel
theorem dX4_end_64 : decode cX4_end 64 = .ok (.getfield 56, 3) := by decide +kernel
theorem dX4_end_67 : decode cX4_end 67 = .ok (.aload_n 0, 1) := by decide +kernel
theorem dX4_end_68 : decode cX4_end 68 = .ok (.getfield 177, 3) := by decide +kernel
theorem dX4_end_71 : decode cX4_end 71 = .ok (.iaload, 1) := by decide +kernel
theorem dX4_end_72 : decode cX4_end 72 = .ok (.iload_n 3, 1) := by decide +kernel
theorem dX4_end_73 : decode cX4_end 73 = .ok (.iastore, 1) := by decide +kernel
theorem dX4_end_74 : decode cX4_end 74 = .ok (.goto 8, 3) := by decide +kernel
theorem dX4_end_77 : decode cX4_end 77 = .ok (.aload_n 0, 1) := by decide +kernel
theorem dX4_end_78 : decode cX4_end 78 = .ok (.iconst 2, 1) := by decide +kernel
theorem dX4_end_79 : decode cX4_end 79 = .ok (.putfield 59, 3) := by decide +kernel
theorem dX4_end_82 : decode cX4_end 82 = .ok (.return_, 1) := by decide +kernel
set_option maxRecDepth 20000 in
theorem ggX4_reckon_X4_operated : GoodIn wsX4_reckon wsX4_operated := goodIn_r _ [9] (by decide +kernel) (by decide +kernel)
set_option maxRecDepth 20000 in
theorem gX4_reckon_X4_operated : GoodIn wsX4_reckon (va_wsS RX4 189 yX4_operated wsX4_operated) := goodIn_app (goodIn_of _ (by decide +kernel)) ggX4_reckon_X4_operated
set_option maxRecDepth 20000 in
theorem ggX4_reckon_X4_turned : GoodIn wsX4_reckon wsX4_turned := goodIn_r _ [12] (by decide +kernel) (by decide +kernel)
set_option maxRecDepth 20000 in
theorem gX4_reckon_X4_turned : GoodIn wsX4_reckon (va_wsS RX4 193 yX4_turned wsX4_turned) := goodIn_app (goodIn_of _ (by decide +kernel)) ggX4_reckon_X4_turned
set_option maxRecDepth 20000 in
theorem ggX4_reckon_X4_isAddress : GoodIn wsX4_reckon wsX4_isAddress := goodIn_r _ [15] (by decide +kernel) (by decide +kernel)
set_option maxRecDepth 20000 in
theorem gX4_reckon_X4_isAddress : GoodIn wsX4_reckon (va_wsS RX4 186 yX4_isAddress wsX4_isAddress) := goodIn_app (goodIn_of _ (by decide +kernel)) ggX4_reckon_X4_isAddress
theorem dX4_reckon_0 : decode cX4_reckon 0 = .ok (.iload_n 1, 1) := by decide +kernel
theorem dX4_reckon_1 : decode cX4_reckon 1 = .ok (.ifCond .eq 8, 3) := by decide +kernel
theorem dX4_reckon_4 : decode cX4_reckon 4 = .ok (.iload_n 1, 1) := by decide +kernel
theorem dX4_reckon_5 : decode cX4_reckon 5 = .ok (.iconst 1, 1) := by decide +kernel
theorem dX4_reckon_6 : decode cX4_reckon 6 = .ok (.if_icmp .ne 37, 3) := by decide +kernel
theorem dX4_reckon_9 : decode cX4_reckon 9 = .ok (.aload_n 0, 1) := by decide +kernel
theorem dX4_reckon_10 : decode cX4_reckon 10 = .ok (.getfield 56, 3) := by decide +kernel
theorem dX4_reckon_13 : decode cX4_reckon 13 = .ok (.aload_n 0, 1) := by decide +kernel
theorem dX4_reckon_14 : decode cX4_reckon 14 = .ok (.getfield 177, 3) := by decide +kernel
theorem dX4_reckon_17 : decode cX4_reckon 17 = .ok (.iload_n 1, 1) := by decide +kernel
theorem dX4_reckon_18 : decode cX4_reckon 18 = .ok (.ifCond .ne 7, 3) := by decide +kernel
theorem dX4_reckon_21 : decode cX4_reckon 21 = .ok (.iload_n 2, 1) := by decide +kernel
theorem dX4_reckon_22 : decode cX4_reckon 22 = .ok (.goto 9, 3) := by decide +kernel
theorem dX4_reckon_25 : decode cX4_reckon 25 = .ok (.aload_n 0, 1) := by decide +kernel
theorem dX4_reckon_26 : decode cX4_reckon 26 = .ok (.getfield 19, 3) := by decide +kernel
theorem dX4_reckon_29 : decode cX4_reckon 29 = .ok (.iload_n 2, 1) := by decide +kernel
theorem dX4_reckon_30 : decode cX4_reckon 30 = .ok (.iaload, 1) := by decide +kernel
theorem dX4_reckon_31 : decode cX4_reckon 31 = .ok (.iastore, 1) := by decide +kernel
theorem dX4_reckon_32 : decode cX4_reckon 32 = .ok (.aload_n 0, 1) := by decide +kernel
theorem dX4_reckon_33 : decode cX4_reckon 33 = .ok (.dup, 1) := by decide +kernel
theorem dX4_reckon_34 : decode cX4_reckon 34 = .ok (.getfield 177, 3) := by decide +kernel
theorem dX4_reckon_37 : decode cX4_reckon 37 = .ok (.iconst 1, 1) := by decide +kernel
theorem dX4_reckon_38 : decode cX4_reckon 38 = .ok (.iadd, 1) := by decide +kernel
theorem dX4_reckon_39 : decode cX4_reckon 39 = .ok (.putfield 177, 3) := by decide +kernel
theorem dX4_reckon_42 : decode cX4_reckon 42 = .ok (.return_, 1) := by decide +kernel
theorem dX4_reckon_43 : decode cX4_reckon 43 = .ok (.aload_n 0, 1) := by decide +kernel
theorem dX4_reckon_44 : decode cX4_reckon 44 = .ok (.getfield 177, 3) := by decide +kernel
theorem dX4_reckon_47 : decode cX4_reckon 47 = .ok (.iconst 1, 1) := by decide +kernel
theorem dX4_reckon_48 : decode cX4_reckon 48 = .ok (.isub, 1) := by decide +kernel
theorem dX4_reckon_49 : decode cX4_reckon 49 = .ok (.istore_n 3, 1) := by decide +kernel
theorem dX4_reckon_50 : decode cX4_reckon 50 = .ok (.iload_n 1, 1) := by decide +kernel
theorem dX4_reckon_51 : decode cX4_reckon 51 = .ok (.bipush 6, 2) := by decide +kernel
theorem dX4_reckon_53 : decode cX4_reckon 53 = .ok (.if_icmp .ne 42, 3) := by decide +kernel
theorem dX4_reckon_56 : decode cX4_reckon 56 = .ok (.aload_n 0, 1) := by decide +kernel
theorem dX4_reckon_57 : decode cX4_reckon 57 = .ok (.getfield 56, 3) := by decide +kernel
theorem dX4_reckon_60 : decode cX4_reckon 60 = .ok (.iload_n 3, 1) := by decide +kernel
theorem dX4_reckon_61 : decode cX4_reckon 61 = .ok (.iconst 1, 1) := by decide +kernel
theorem dX4_reckon_62 : decode cX4_reckon 62 = .ok (.isub, 1) := by decide +kernel
theorem dX4_reckon_63 : decode cX4_reckon 63 = .ok (.iload_n 2, 1) := by decide +kernel
theorem dX4_reckon_64 : decode cX4_reckon 64 = .ok (.aload_n 0, 1) := by decide +kernel
theorem dX4_reckon_65 : decode cX4_reckon 65 = .ok (.getfield 56, 3) := by decide +kernel
theorem dX4_reckon_68 : decode cX4_reckon 68 = .ok (.iload_n 3, 1) := by decide +kernel
theorem dX4_reckon_69 : decode cX4_reckon 69 = .ok (.iconst 1, 1) := by decide +kernel
theorem dX4_reckon_70 : decode cX4_reckon 70 = .ok (.isub, 1) := by decide +kernel
theorem dX4_reckon_71 : decode cX4_reckon 71 = .ok (.iaload, 1) := by decide +kernel
theorem dX4_reckon_72 : decode cX4_reckon 72 = .ok (.aload_n 0, 1) := by decide +kernel
theorem dX4_reckon_73 : decode cX4_reckon 73 = .ok (.getfield 56, 3) := by decide +kernel
theorem dX4_reckon_76 : decode cX4_reckon 76 = .ok (.iload_n 3, 1) := by decide +kernel
theorem dX4_reckon_77 : decode cX4_reckon 77 = .ok (.iaload, 1) := by decide +kernel
theorem dX4_reckon_78 : decode cX4_reckon 78 = .ok (.invokestatic 189, 3) := by decide +kernel
theorem dX4_reckon_81 : decode cX4_reckon 81 = .ok (.iastore, 1) := by decide +kernel
theorem dX4_reckon_82 : decode cX4_reckon 82 = .ok (.aload_n 0, 1) := by decide +kernel
theorem dX4_reckon_83 : decode cX4_reckon 83 = .ok (.dup, 1) := by decide +kernel
theorem dX4_reckon_84 : decode cX4_reckon 84 = .ok (.getfield 177, 3) := by decide +kernel
theorem dX4_reckon_87 : decode cX4_reckon 87 = .ok (.iconst 1, 1) := by decide +kernel
theorem dX4_reckon_88 : decode cX4_reckon 88 = .ok (.isub, 1) := by decide +kernel
theorem dX4_reckon_89 : decode cX4_reckon 89 = .ok (.putfield 177, 3) := by decide +kernel
theorem dX4_reckon_92 : decode cX4_reckon 92 = .ok (.goto 108, 3) := by decide +kernel
theorem dX4_reckon_95 : decode cX4_reckon 95 = .ok (.iload_n 1, 1) := by decide +kernel
theorem dX4_reckon_96 : decode cX4_reckon 96 = .ok (.iconst 3, 1) := by decide +kernel
theorem dX4_reckon_97 : decode cX4_reckon 97 = .ok (.if_icmp .ne 20, 3) := by decide +kernel
theorem dX4_reckon_100 : decode cX4_reckon 100 = .ok (.aload_n 0, 1) := by decide +kernel
theorem dX4_reckon_101 : decode cX4_reckon 101 = .ok (.getfield 56, 3) := by decide +kernel
theorem dX4_reckon_104 : decode cX4_reckon 104 = .ok (.iload_n 3, 1) := by decide +kernel
theorem dX4_reckon_105 : decode cX4_reckon 105 = .ok (.aload_n 0, 1) := by decide +kernel
theorem dX4_reckon_106 : decode cX4_reckon 106 = .ok (.getfield 56, 3) := by decide +kernel
theorem dX4_reckon_109 : decode cX4_reckon 109 = .ok (.iload_n 3, 1) := by decide +kernel
theorem dX4_reckon_110 : decode cX4_reckon 110 = .ok (.iaload, 1) := by decide +kernel
theorem dX4_reckon_111 : decode cX4_reckon 111 = .ok (.iconst (-1), 1) := by decide +kernel
theorem dX4_reckon_112 : decode cX4_reckon 112 = .ok (.ixor, 1) := by decide +kernel
theorem dX4_reckon_113 : decode cX4_reckon 113 = .ok (.iastore, 1) := by decide +kernel
theorem dX4_reckon_114 : decode cX4_reckon 114 = .ok (.goto 86, 3) := by decide +kernel
theorem dX4_reckon_117 : decode cX4_reckon 117 = .ok (.iload_n 1, 1) := by decide +kernel
theorem dX4_reckon_118 : decode cX4_reckon 118 = .ok (.iconst 4, 1) := by decide +kernel
theorem dX4_reckon_119 : decode cX4_reckon 119 = .ok (.if_icmp .ne 22, 3) := by decide +kernel
theorem dX4_reckon_122 : decode cX4_reckon 122 = .ok (.aload_n 0, 1) := by decide +kernel
theorem dX4_reckon_123 : decode cX4_reckon 123 = .ok (.getfield 56, 3) := by decide +kernel
theorem dX4_reckon_126 : decode cX4_reckon 126 = .ok (.iload_n 3, 1) := by decide +kernel
theorem dX4_reckon_127 : decode cX4_reckon 127 = .ok (.aload_n 0, 1) := by decide +kernel
theorem dX4_reckon_128 : decode cX4_reckon 128 = .ok (.getfield 56, 3) := by decide +kernel
theorem dX4_reckon_131 : decode cX4_reckon 131 = .ok (.iload_n 3, 1) := by decide +kernel
theorem dX4_reckon_132 : decode cX4_reckon 132 = .ok (.iaload, 1) := by decide +kernel
theorem dX4_reckon_133 : decode cX4_reckon 133 = .ok (.iload_n 2, 1) := by decide +kernel
theorem dX4_reckon_134 : decode cX4_reckon 134 = .ok (.invokestatic 193, 3) := by decide +kernel
theorem dX4_reckon_137 : decode cX4_reckon 137 = .ok (.iastore, 1) := by decide +kernel
theorem dX4_reckon_138 : decode cX4_reckon 138 = .ok (.goto 62, 3) := by decide +kernel
theorem dX4_reckon_141 : decode cX4_reckon 141 = .ok (.iload_n 1, 1) := by decide +kernel
theorem dX4_reckon_142 : decode cX4_reckon 142 = .ok (.iconst 5, 1) := by decide +kernel
theorem dX4_reckon_143 : decode cX4_reckon 143 = .ok (.if_icmp .ne 20, 3) := by decide +kernel
theorem dX4_reckon_146 : decode cX4_reckon 146 = .ok (.aload_n 0, 1) := by decide +kernel
theorem dX4_reckon_147 : decode cX4_reckon 147 = .ok (.getfield 56, 3) := by decide +kernel
theorem dX4_reckon_150 : decode cX4_reckon 150 = .ok (.iload_n 3, 1) := by decide +kernel
theorem dX4_reckon_151 : decode cX4_reckon 151 = .ok (.aload_n 0, 1) := by decide +kernel
theorem dX4_reckon_152 : decode cX4_reckon 152 = .ok (.getfield 56, 3) := by decide +kernel
theorem dX4_reckon_155 : decode cX4_reckon 155 = .ok (.iload_n 3, 1) := by decide +kernel
theorem dX4_reckon_156 : decode cX4_reckon 156 = .ok (.iaload, 1) := by decide +kernel
theorem dX4_reckon_157 : decode cX4_reckon 157 = .ok (.iload_n 2, 1) := by decide +kernel
theorem dX4_reckon_158 : decode cX4_reckon 158 = .ok (.iushr, 1) := by decide +kernel
theorem dX4_reckon_159 : decode cX4_reckon 159 = .ok (.iastore, 1) := by decide +kernel
theorem dX4_reckon_160 : decode cX4_reckon 160 = .ok (.goto 40, 3) := by decide +kernel
theorem dX4_reckon_163 : decode cX4_reckon 163 = .ok (.aload_n 0, 1) := by decide +kernel
theorem dX4_reckon_164 : decode cX4_reckon 164 = .ok (.getfield 56, 3) := by decide +kernel
theorem dX4_reckon_167 : decode cX4_reckon 167 = .ok (.iload_n 3, 1) := by decide +kernel
theorem dX4_reckon_168 : decode cX4_reckon 168 = .ok (.iaload, 1) := by decide +kernel
theorem dX4_reckon_169 : decode cX4_reckon 169 = .ok (.invokestatic 186, 3) := by decide +kernel
theorem dX4_reckon_172 : decode cX4_reckon 172 = .ok (.ifCond .eq 23, 3) := by decide +kernel
theorem dX4_reckon_175 : decode cX4_reckon 175 = .ok (.aload_n 0, 1) := by decide +kernel
theorem dX4_reckon_176 : decode cX4_reckon 176 = .ok (.getfield 56, 3) := by decide +kernel
theorem dX4_reckon_179 : decode cX4_reckon 179 = .ok (.iload_n 3, 1) := by decide +kernel
theorem dX4_reckon_180 : decode cX4_reckon 180 = .ok (.aload_n 0, 1) := by decide +kernel
theorem dX4_reckon_181 : decode cX4_reckon 181 = .ok (.getfield 13, 3) := by decide +kernel
theorem dX4_reckon_184 : decode cX4_reckon 184 = .ok (.aload_n 0, 1) := by decide +kernel
theorem dX4_reckon_185 : decode cX4_reckon 185 = .ok (.getfield 56, 3) := by decide +kernel
theorem dX4_reckon_188 : decode cX4_reckon 188 = .ok (.iload_n 3, 1) := by decide +kernel
theorem dX4_reckon_189 : decode cX4_reckon 189 = .ok (.iaload, 1) := by decide +kernel
theorem dX4_reckon_190 : decode cX4_reckon 190 = .ok (.iaload, 1) := by decide +kernel
theorem dX4_reckon_191 : decode cX4_reckon 191 = .ok (.iastore, 1) := by decide +kernel
theorem dX4_reckon_192 : decode cX4_reckon 192 = .ok (.goto 8, 3) := by decide +kernel
theorem dX4_reckon_195 : decode cX4_reckon 195 = .ok (.aload_n 0, 1) := by decide +kernel
theorem dX4_reckon_196 : decode cX4_reckon 196 = .ok (.iconst 2, 1) := by decide +kernel
theorem dX4_reckon_197 : decode cX4_reckon 197 = .ok (.putfield 59, 3) := by decide +kernel
theorem dX4_reckon_200 : decode cX4_reckon 200 = .ok (.return_, 1) := by decide +kernel
theorem dX4_value_0 : decode cX4_value 0 = .ok (.aload_n 0, 1) := by decide +kernel
theorem dX4_value_1 : decode cX4_value 1 = .ok (.iload_n 1, 1) := by decide +kernel
theorem dX4_value_2 : decode cX4_value 2 = .ok (.ifCond .lt 9, 3) := by decide +kernel
theorem dX4_value_5 : decode cX4_value 5 = .ok (.iload_n 1, 1) := by decide +kernel
theorem dX4_value_6 : decode cX4_value 6 = .ok (.bipush 25, 2) := by decide +kernel
theorem dX4_value_8 : decode cX4_value 8 = .ok (.if_icmp .le 7, 3) := by decide +kernel
theorem dX4_value_11 : decode cX4_value 11 = .ok (.iconst 1, 1) := by decide +kernel
theorem dX4_value_12 : decode cX4_value 12 = .ok (.goto 4, 3) := by decide +kernel
theorem dX4_value_15 : decode cX4_value 15 = .ok (.iconst 0, 1) := by decide +kernel
theorem dX4_value_16 : decode cX4_value 16 = .ok (.putfield 59, 3) := by decide +kernel
theorem dX4_value_19 : decode cX4_value 19 = .ok (.aload_n 0, 1) := by decide +kernel
theorem dX4_value_20 : decode cX4_value 20 = .ok (.getfield 59, 3) := by decide +kernel
theorem dX4_value_23 : decode cX4_value 23 = .ok (.ifCond .le 7, 3) := by decide +kernel
theorem dX4_value_26 : decode cX4_value 26 = .ok (.iconst 0, 1) := by decide +kernel
theorem dX4_value_27 : decode cX4_value 27 = .ok (.goto 9, 3) := by decide +kernel
theorem dX4_value_30 : decode cX4_value 30 = .ok (.aload_n 0, 1) := by decide +kernel
theorem dX4_value_31 : decode cX4_value 31 = .ok (.getfield 22, 3) := by decide +kernel
theorem dX4_value_34 : decode cX4_value 34 = .ok (.iload_n 1, 1) := by decide +kernel
theorem dX4_value_35 : decode cX4_value 35 = .ok (.iaload, 1) := by decide +kernel
theorem dX4_value_36 : decode cX4_value 36 = .ok (.ireturn, 1) := by decide +kernel
set_option maxRecDepth 20000 in
theorem ggX4_poke_X4_isAddress : GoodIn wsX4_poke wsX4_isAddress := goodIn_r _ [6] (by decide +kernel) (by decide +kernel)
set_option maxRecDepth 20000 in
theorem gX4_poke_X4_isAddress : GoodIn wsX4_poke (va_wsS RX4 186 yX4_isAddress wsX4_isAddress) := goodIn_app (goodIn_of _ (by decide +kernel)) ggX4_poke_X4_isAddress
theorem dX4_poke_0 : decode cX4_poke 0 = .ok (.aload_n 0, 1) := by decide +kernel
theorem dX4_poke_1 : decode cX4_poke 1 = .ok (.iload_n 1, 1) := by decide +kernel
theorem dX4_poke_2 : decode cX4_poke 2 = .ok (.invokestatic 186, 3) := by decide +kernel
theorem dX4_poke_5 : decode cX4_poke 5 = .ok (.ifCond .eq 7, 3) := by decide +kernel
theorem dX4_poke_8 : decode cX4_poke 8 = .ok (.iconst 0, 1) := by decide +kernel
theorem dX4_poke_9 : decode cX4_poke 9 = .ok (.goto 4, 3) := by decide +kernel
theorem dX4_poke_12 : decode cX4_poke 12 = .ok (.iconst 1, 1) := by decide +kernel
theorem dX4_poke_13 : decode cX4_poke 13 = .ok (.putfield 59, 3) := by decide +kernel
theorem dX4_poke_16 : decode cX4_poke 16 = .ok (.aload_n 0, 1) := by decide +kernel
theorem dX4_poke_17 : decode cX4_poke 17 = .ok (.getfield 59, 3) := by decide +kernel
theorem dX4_poke_20 : decode cX4_poke 20 = .ok (.ifCond .ne 10, 3) := by decide +kernel
theorem dX4_poke_23 : decode cX4_poke 23 = .ok (.aload_n 0, 1) := by decide +kernel
theorem dX4_poke_24 : decode cX4_poke 24 = .ok (.getfield 13, 3) := by decide +kernel
theorem dX4_poke_27 : decode cX4_poke 27 = .ok (.iload_n 1, 1) := by decide +kernel
theorem dX4_poke_28 : decode cX4_poke 28 = .ok (.iload_n 2, 1) := by decide +kernel
theorem dX4_poke_29 : decode cX4_poke 29 = .ok (.iastore, 1) := by decide +kernel
theorem dX4_poke_30 : decode cX4_poke 30 = .ok (.return_, 1) := by decide +kernel
set_option maxRecDepth 20000 in
theorem ggX4_peek_X4_isAddress : GoodIn wsX4_peek wsX4_isAddress := goodIn_r _ [6] (by decide +kernel) (by decide +kernel)
set_option maxRecDepth 20000 in
theorem gX4_peek_X4_isAddress : GoodIn wsX4_peek (va_wsS RX4 186 yX4_isAddress wsX4_isAddress) := goodIn_app (goodIn_of _ (by decide +kernel)) ggX4_peek_X4_isAddress
theorem dX4_peek_0 : decode cX4_peek 0 = .ok (.aload_n 0, 1) := by decide +kernel
theorem dX4_peek_1 : decode cX4_peek 1 = .ok (.iload_n 1, 1) := by decide +kernel
theorem dX4_peek_2 : decode cX4_peek 2 = .ok (.invokestatic 186, 3) := by decide +kernel
theorem dX4_peek_5 : decode cX4_peek 5 = .ok (.ifCond .eq 7, 3) := by decide +kernel
theorem dX4_peek_8 : decode cX4_peek 8 = .ok (.iconst 0, 1) := by decide +kernel
theorem dX4_peek_9 : decode cX4_peek 9 = .ok (.goto 4, 3) := by decide +kernel
theorem dX4_peek_12 : decode cX4_peek 12 = .ok (.iconst 1, 1) := by decide +kernel
theorem dX4_peek_13 : decode cX4_peek 13 = .ok (.putfield 59, 3) := by decide +kernel
theorem dX4_peek_16 : decode cX4_peek 16 = .ok (.aload_n 0, 1) := by decide +kernel
theorem dX4_peek_17 : decode cX4_peek 17 = .ok (.getfield 59, 3) := by decide +kernel
theorem dX4_peek_20 : decode cX4_peek 20 = .ok (.ifCond .le 7, 3) := by decide +kernel
theorem dX4_peek_23 : decode cX4_peek 23 = .ok (.iconst 0, 1) := by decide +kernel
theorem dX4_peek_24 : decode cX4_peek 24 = .ok (.goto 9, 3) := by decide +kernel
theorem dX4_peek_27 : decode cX4_peek 27 = .ok (.aload_n 0, 1) := by decide +kernel
theorem dX4_peek_28 : decode cX4_peek 28 = .ok (.getfield 13, 3) := by decide +kernel
theorem dX4_peek_31 : decode cX4_peek 31 = .ok (.iload_n 1, 1) := by decide +kernel
theorem dX4_peek_32 : decode cX4_peek 32 = .ok (.iaload, 1) := by decide +kernel
theorem dX4_peek_33 : decode cX4_peek 33 = .ok (.ireturn, 1) := by decide +kernel
theorem dX4_fill_0 : decode cX4_fill 0 = .ok (.aload_n 0, 1) := by decide +kernel
theorem dX4_fill_1 : decode cX4_fill 1 = .ok (.iload_n 1, 1) := by decide +kernel
theorem dX4_fill_2 : decode cX4_fill 2 = .ok (.ifCond .lt 10, 3) := by decide +kernel
theorem dX4_fill_5 : decode cX4_fill 5 = .ok (.iload_n 1, 1) := by decide +kernel
theorem dX4_fill_6 : decode cX4_fill 6 = .ok (.sipush 192, 3) := by decide +kernel
theorem dX4_fill_9 : decode cX4_fill 9 = .ok (.if_icmp .le 7, 3) := by decide +kernel
theorem dX4_fill_12 : decode cX4_fill 12 = .ok (.iconst 1, 1) := by decide +kernel
theorem dX4_fill_13 : decode cX4_fill 13 = .ok (.goto 4, 3) := by decide +kernel
theorem dX4_fill_16 : decode cX4_fill 16 = .ok (.iconst 0, 1) := by decide +kernel
theorem dX4_fill_17 : decode cX4_fill 17 = .ok (.putfield 59, 3) := by decide +kernel
theorem dX4_fill_20 : decode cX4_fill 20 = .ok (.iconst 0, 1) := by decide +kernel
end
section
theorem dX4_fill_21 : decode cX4_fill 21 = .ok (.istore 4, 2) := by decide +kernel
theorem dX4_fill_23 : decode cX4_fill 23 = .ok (.iload 4, 2) := by decide +kernel
theorem dX4_fill_25 : decode cX4_fill 25 = .ok (.iload_n 1, 1) := by decide +kernel
theorem dX4_fill_26 : decode cX4_fill 26 = .ok (.if_icmp .ge 29, 3) := by decide +kernel
theorem dX4_fill_29 : decode cX4_fill 29 = .ok (.aload_n 0, 1) := by decide +kernel
theorem dX4_fill_30 : decode cX4_fill 30 = .ok (.getfield 59, 3) := by decide +kernel
theorem dX4_fill_33 : decode cX4_fill 33 = .ok (.ifCond .ne 22, 3) := by decide +kernel
theorem dX4_fill_36 : decode cX4_fill 36 = .ok (.aload_n 0, 1) := by decide +kernel
theorem dX4_fill_37 : decode cX4_fill 37 = .ok (.getfield 13, 3) := by decide +kernel
theorem dX4_fill_40 : decode cX4_fill 40 = .ok (.iload 4, 2) := by decide +kernel
theorem dX4_fill_42 : decode cX4_fill 42 = .ok (.iload_n 2, 1) := by decide +kernel
theorem dX4_fill_43 : decode cX4_fill 43 = .ok (.iload 4, 2) := by decide +kernel
theorem dX4_fill_45 : decode cX4_fill 45 = .ok (.iload_n 3, 1) := by decide +kernel
theorem dX4_fill_46 : decode cX4_fill 46 = .ok (.imul, 1) := by decide +kernel
theorem dX4_fill_47 : decode cX4_fill 47 = .ok (.iadd, 1) := by decide +kernel
theorem dX4_fill_48 : decode cX4_fill 48 = .ok (.iastore, 1) := by decide +kernel
theorem dX4_fill_49 : decode cX4_fill 49 = .ok (.iinc 4 1, 3) := by decide +kernel
theorem dX4_fill_52 : decode cX4_fill 52 = .ok (.goto (-29), 3) := by decide +kernel
theorem dX4_fill_55 : decode cX4_fill 55 = .ok (.return_, 1) := by decide +kernel
set_option maxRecDepth 20000 in
theorem ggX4_mixed_X4_turned : GoodIn wsX4_mixed wsX4_turned := goodIn_r _ [6] (by decide +kernel) (by decide +kernel)
set_option maxRecDepth 20000 in
theorem gX4_mixed_X4_turned : GoodIn wsX4_mixed (va_wsS RX4 193 yX4_turned wsX4_turned) := goodIn_app (goodIn_of _ (by decide +kernel)) ggX4_mixed_X4_turned
theorem dX4_mixed_0 : decode cX4_mixed 0 = .ok (.aload_n 0, 1) := by decide +kernel
theorem dX4_mixed_1 : decode cX4_mixed 1 = .ok (.iconst 0, 1) := by decide +kernel
theorem dX4_mixed_2 : decode cX4_mixed 2 = .ok (.putfield 59, 3) := by decide +kernel
theorem dX4_mixed_5 : decode cX4_mixed 5 = .ok (.aload_n 0, 1) := by decide +kernel
theorem dX4_mixed_6 : decode cX4_mixed 6 = .ok (.getfield 13, 3) := by decide +kernel
theorem dX4_mixed_9 : decode cX4_mixed 9 = .ok (.iconst 0, 1) := by decide +kernel
theorem dX4_mixed_10 : decode cX4_mixed 10 = .ok (.iaload, 1) := by decide +kernel
theorem dX4_mixed_11 : decode cX4_mixed 11 = .ok (.istore_n 1, 1) := by decide +kernel
theorem dX4_mixed_12 : decode cX4_mixed 12 = .ok (.iconst 1, 1) := by decide +kernel
theorem dX4_mixed_13 : decode cX4_mixed 13 = .ok (.istore_n 2, 1) := by decide +kernel
theorem dX4_mixed_14 : decode cX4_mixed 14 = .ok (.iload_n 2, 1) := by decide +kernel
theorem dX4_mixed_15 : decode cX4_mixed 15 = .ok (.sipush 192, 3) := by decide +kernel
theorem dX4_mixed_18 : decode cX4_mixed 18 = .ok (.if_icmp .ge 41, 3) := by decide +kernel
theorem dX4_mixed_21 : decode cX4_mixed 21 = .ok (.iload_n 1, 1) := by decide +kernel
theorem dX4_mixed_22 : decode cX4_mixed 22 = .ok (.iload_n 2, 1) := by decide +kernel
theorem dX4_mixed_23 : decode cX4_mixed 23 = .ok (.bipush 32, 2) := by decide +kernel
theorem dX4_mixed_25 : decode cX4_mixed 25 = .ok (.irem, 1) := by decide +kernel
theorem dX4_mixed_26 : decode cX4_mixed 26 = .ok (.ifCond .ne 12, 3) := by decide +kernel
theorem dX4_mixed_29 : decode cX4_mixed 29 = .ok (.aload_n 0, 1) := by decide +kernel
theorem dX4_mixed_30 : decode cX4_mixed 30 = .ok (.getfield 13, 3) := by decide +kernel
theorem dX4_mixed_33 : decode cX4_mixed 33 = .ok (.iload_n 2, 1) := by decide +kernel
theorem dX4_mixed_34 : decode cX4_mixed 34 = .ok (.iaload, 1) := by decide +kernel
theorem dX4_mixed_35 : decode cX4_mixed 35 = .ok (.goto 16, 3) := by decide +kernel
theorem dX4_mixed_38 : decode cX4_mixed 38 = .ok (.aload_n 0, 1) := by decide +kernel
theorem dX4_mixed_39 : decode cX4_mixed 39 = .ok (.getfield 13, 3) := by decide +kernel
theorem dX4_mixed_42 : decode cX4_mixed 42 = .ok (.iload_n 2, 1) := by decide +kernel
theorem dX4_mixed_43 : decode cX4_mixed 43 = .ok (.iaload, 1) := by decide +kernel
theorem dX4_mixed_44 : decode cX4_mixed 44 = .ok (.iload_n 2, 1) := by decide +kernel
theorem dX4_mixed_45 : decode cX4_mixed 45 = .ok (.bipush 32, 2) := by decide +kernel
theorem dX4_mixed_47 : decode cX4_mixed 47 = .ok (.irem, 1) := by decide +kernel
theorem dX4_mixed_48 : decode cX4_mixed 48 = .ok (.invokestatic 193, 3) := by decide +kernel
theorem dX4_mixed_51 : decode cX4_mixed 51 = .ok (.ixor, 1) := by decide +kernel
theorem dX4_mixed_52 : decode cX4_mixed 52 = .ok (.istore_n 1, 1) := by decide +kernel
theorem dX4_mixed_53 : decode cX4_mixed 53 = .ok (.iinc 2 1, 3) := by decide +kernel
theorem dX4_mixed_56 : decode cX4_mixed 56 = .ok (.goto (-42), 3) := by decide +kernel
theorem dX4_mixed_59 : decode cX4_mixed 59 = .ok (.iload_n 1, 1) := by decide +kernel
theorem dX4_mixed_60 : decode cX4_mixed 60 = .ok (.ireturn, 1) := by decide +kernel
theorem dJ7_fill_53178_0 : decode cJ7_fill_53178 0 = .ok (.iconst 0, 1) := by decide +kernel
theorem dJ7_fill_53178_1 : decode cJ7_fill_53178 1 = .ok (.istore_n 2, 1) := by decide +kernel
theorem dJ7_fill_53178_2 : decode cJ7_fill_53178 2 = .ok (.aload_n 0, 1) := by decide +kernel
theorem dJ7_fill_53178_3 : decode cJ7_fill_53178 3 = .ok (.arraylength, 1) := by decide +kernel
theorem dJ7_fill_53178_4 : decode cJ7_fill_53178 4 = .ok (.istore_n 3, 1) := by decide +kernel
theorem dJ7_fill_53178_5 : decode cJ7_fill_53178 5 = .ok (.iload_n 2, 1) := by decide +kernel
theorem dJ7_fill_53178_6 : decode cJ7_fill_53178 6 = .ok (.iload_n 3, 1) := by decide +kernel
theorem dJ7_fill_53178_7 : decode cJ7_fill_53178 7 = .ok (.if_icmp .ge 13, 3) := by decide +kernel
theorem dJ7_fill_53178_10 : decode cJ7_fill_53178 10 = .ok (.aload_n 0, 1) := by decide +kernel
theorem dJ7_fill_53178_11 : decode cJ7_fill_53178 11 = .ok (.iload_n 2, 1) := by decide +kernel
theorem dJ7_fill_53178_12 : decode cJ7_fill_53178 12 = .ok (.iload_n 1, 1) := by decide +kernel
theorem dJ7_fill_53178_13 : decode cJ7_fill_53178 13 = .ok (.iastore, 1) := by decide +kernel
theorem dJ7_fill_53178_14 : decode cJ7_fill_53178 14 = .ok (.iinc 2 1, 3) := by decide +kernel
theorem dJ7_fill_53178_17 : decode cJ7_fill_53178 17 = .ok (.goto (-12), 3) := by decide +kernel
theorem dJ7_fill_53178_20 : decode cJ7_fill_53178 20 = .ok (.return_, 1) := by decide +kernel
set_option maxRecDepth 20000 in
theorem ggL_compile_X3_compile : GoodIn wsL_compile wsX3_compile := goodIn_ca (goodIn_r _ [6, 7, 8, 9, 10, 11, 12, 13, 14, 15, 16, 17, 18, 19, 20, 21, 22, 23, 24, 25, 26, 27, 28, 29, 30, 31, 32, 33, 34, 35, 36, 37, 38, 39, 40, 41, 42, 43, 44, 45, 46, 47, 48, 49, 50, 51, 52, 53, 54, 55, 56, 57, 58, 59, 60, 61, 62, 63, 64, 65, 66, 67, 68, 69, 70, 5, 71, 72, 73, 74, 75, 76, 77, 78, 79, 80, 81, 82, 83, 84, 85, 86, 87, 88, 89, 90, 91, 92, 93, 94, 95, 96, 97, 98, 99, 100, 101, 102, 103, 104, 105, 106, 107, 108, 109, 110, 111, 112, 113, 114, 115, 116, 117, 118, 119, 120, 121, 122, 123, 124, 125, 126, 127, 128, 129, 130, 131, 132, 133, 134, 135, 136, 137, 138, 139, 140, 141, 142, 143, 144, 145, 146, 147, 148, 149, 150, 151] (by decide +kernel) (by decide +kernel)) (goodIn_sub (fun _ h => List.mem_cons_of_mem _ (List.mem_append_right _ h)) (by decide +kernel))
set_option maxRecDepth 20000 in
theorem gL_compile_X3_compile : GoodIn wsL_compile (wsV RL 7 RX3 yX3_compile wsX3_compile) := goodIn_app (goodIn_of _ (by decide +kernel)) ggL_compile_X3_compile
end
section
/-- the links between nest mates, said of a state -/
def zn_f : List (String × Nat × String × String × String × String) := [("RoundCompiler", 38, "RoundCompiler$Reader", "length", "I", "RoundCompiler"), ("RoundCompiler", 61, "RoundCompiler$Code", "statements", "I", "RoundCompiler"), ("RoundCompiler", 64, "RoundCompiler$Reader", "faultPlace", "I", "RoundCompiler"), ("RoundCompiler", 67, "RoundCompiler$Code", "operators", "I", "RoundCompiler"), ("RoundCompiler", 84, "RoundCompiler$Machine", "steps", "I", "RoundCompiler"), ("RoundCompiler", 89, "RoundCompiler$Machine", "values", "[I", "RoundCompiler"), ("RoundCompiler", 99, "RoundCompiler$Machine", "memory", "[I", "RoundCompiler"), ("RoundCompiler$Machine", 51, "RoundCompiler$Code", "size", "I", "RoundCompiler"), ("RoundCompiler$Machine", 60, "RoundCompiler$Code", "firsts", "[I", "RoundCompiler"), ("RoundCompiler$Machine", 63, "RoundCompiler$Code", "kinds", "[I", "RoundCompiler"), ("RoundCompiler$Machine", 99, "RoundCompiler$Code", "seconds", "[I", "RoundCompiler"), ("RoundCompiler$Reader", 55, "RoundCompiler$Code", "statements", "I", "RoundCompiler"), ("RoundCompiler$Reader", 94, "RoundCompiler$Code", "size", "I", "RoundCompiler")]
def zn_m : List (String × Nat × MethodName × String) := [("RoundCompiler", 18, ⟨"RoundCompiler$Machine", "<init>", "()V"⟩, "RoundCompiler"), ("RoundCompiler", 25, ⟨"RoundCompiler$Code", "<init>", "()V"⟩, "RoundCompiler"), ("RoundCompiler", 42, ⟨"RoundCompiler$Reader", "append", "(I)V"⟩, "RoundCompiler"), ("RoundCompiler", 46, ⟨"RoundCompiler$Reader", "readText", "()Z"⟩, "RoundCompiler"), ("RoundCompiler", 57, ⟨"RoundCompiler$Reader", "exchanged", "(LRoundCompiler$Code;)LRoundCompiler$Code;"⟩, "RoundCompiler"), ("RoundCompiler", 75, ⟨"RoundCompiler$Machine", "carriesOut", "(LRoundCompiler$Code;)Z"⟩, "RoundCompiler"), ("RoundCompiler", 9, ⟨"RoundCompiler$Reader", "<init>", "()V"⟩, "RoundCompiler"), ("RoundCompiler$Code", 35, ⟨"RoundCompiler", "ofOne", "(III)I"⟩, "RoundCompiler"), ("RoundCompiler$Code", 43, ⟨"RoundCompiler", "ofTwo", "(III)I"⟩, "RoundCompiler"), ("RoundCompiler$Machine", 102, ⟨"RoundCompiler", "isAddress", "(I)Z"⟩, "RoundCompiler"), ("RoundCompiler$Machine", 92, ⟨"RoundCompiler", "ofOne", "(III)I"⟩, "RoundCompiler"), ("RoundCompiler$Machine", 96, ⟨"RoundCompiler", "ofTwo", "(III)I"⟩, "RoundCompiler"), ("RoundCompiler$Reader", 100, ⟨"RoundCompiler$Code", "setFirst", "(II)V"⟩, "RoundCompiler"), ("RoundCompiler$Reader", 110, ⟨"RoundCompiler$Code", "addOfTwo", "(I)V"⟩, "RoundCompiler"), ("RoundCompiler$Reader", 119, ⟨"RoundCompiler$Code", "addOfOne", "(II)V"⟩, "RoundCompiler"), ("RoundCompiler$Reader", 17, ⟨"RoundCompiler$Code", "<init>", "()V"⟩, "RoundCompiler"), ("RoundCompiler$Reader", 26, ⟨"RoundCompiler$Code", "empty", "()V"⟩, "RoundCompiler"), ("RoundCompiler$Reader", 80, ⟨"RoundCompiler$Code", "add", "(III)V"⟩, "RoundCompiler")]
def zn (U : State) : Prop := (∀ q ∈ zn_f, va_Nw (.fieldLinkNest q.1 q.2.1 q.2.2.1 q.2.2.2.1 q.2.2.2.2.1 q.2.2.2.2.2) U) ∧ ∀ q ∈ zn_m, va_Nw (.methodLinkNest q.1 q.2.1 q.2.2.1 q.2.2.2) U
theorem zn.warm {s U : State} (hW : s.WarmedH U.vm) (h : zn s) : zn U := ⟨fun q hq => va_Nw.warmF hW (h.1 q hq), fun q hq => va_Nw.warmM hW (h.2 q hq)⟩
theorem zn.same {u U : State} (e : u.vm = U.vm) (h : zn u) : zn U := ⟨fun q hq => va_Nw.same rfl e (h.1 q hq), fun q hq => va_Nw.same rfl e (h.2 q hq)⟩
/-- what stays through a walk -/
def Cx (p : Program) (R : Room) (s : State) (m : MethodId) (args : Array Value) (meth : Method) (c : Code) (cc : ByteArray) (nL : Nat) (Ts : List Cond) (own : String) (D : va_G) (tys : List (ClassId × FieldType)) (A : Nat → Prop) : Prop :=
  p.tables.exec = Jvm.exec ∧ c.code = cc ∧ c.maxLocals = nL ∧ s.vm.findClass own = some m.cls ∧ (∀ w ∈ Ts, w.before args s = true) ∧ meth.locks = false ∧ va_K D vwCl tys s ∧ zn s ∧ ∀ q : Nat, s.heap.size ≤ q → A q
/-- the machine at pc, with the world w, the locals lv, the stack st, comes to Q -/
def Z (p : Program) (l : Launch) (e : Env) (R : Room) (s : State) (m : MethodId) (args : Array Value) (below : List Frame) (meth : Method) (c : Code) (nL : Nat) (D : va_G) (A : Nat → Prop) (Q : State → Prop) (w : va_W) (lv : List (Nat × Value)) (pc : Nat) (st : List Value) : Prop :=
  ∀ (H : Heap) (locs : List Loc) (ls : Array Slot), va_P D vwCl w H → va_D A w → va_S A s.heap H locs → lv_has ls nL lv → W p l e R s m args below meth c H locs 0 0 Q (F0 m pc ls st)
/-- a method's start and end over a world -/
def bP (D : va_G) (tys : List (ClassId × FieldType)) (w : va_W) (sz : Nat) (U : State) : Prop := U.heap.size = sz ∧ va_P D vwCl w U.heap ∧ va_K D vwCl tys U ∧ va_D (fun _ => True) w ∧ zn U
def bQ (D : va_G) (tys : List (ClassId × FieldType)) (w w1 : va_W) (sz : Nat) (t : State) : Prop := va_P D vwCl w1 t.heap ∧ va_K D vwCl tys t ∧ va_D (va_A w sz) w1
def rmN (n : Nat) : Room := { frames := n, cells := 0, slots := 0, locals := 32 * n }
abbrev qI (D : va_G) (tys : List (ClassId × FieldType)) (w : va_W) (rv : Int32) (w1 : va_W) (sz : Nat) : Array Value → State → Outcome → State → Prop := va_Qi (fun r (_ : Unit) => r = rv) (fun _ => bQ D tys w w1 sz) (va_A w sz)
abbrev qV (D : va_G) (tys : List (ClassId × FieldType)) (w : va_W) (w1 : va_W) (sz : Nat) : Array Value → State → Outcome → State → Prop := va_Qv (fun (_ : Unit) => True) (fun _ => bQ D tys w w1 sz) (va_A w sz)
/-- a contract: the method answers rv, the world w becomes w1, nothing is made -/
def Mi (l : Launch) (y : MethodName) (ws : List Cond) (n : Nat) (D : va_G) (tys : List (ClassId × FieldType)) (av : List Value) (w : va_W) (rv : Int32) (w1 : va_W) : Prop :=
  ∀ sz, Met l y ws (rmN n) (va_Pc av (bP D tys w sz)) (qI D tys w rv w1 sz) 0 0 (va_A w sz)
def Mv (l : Launch) (y : MethodName) (ws : List Cond) (n : Nat) (D : va_G) (tys : List (ClassId × FieldType)) (av : List Value) (w : va_W) (w1 : va_W) : Prop :=
  ∀ sz, Met l y ws (rmN n) (va_Pc av (bP D tys w sz)) (qV D tys w w1 sz) 0 0 (va_A w sz)
/-- a boolean as the machine has it -/
def b2i (b : Bool) : Int32 := if b then 1 else 0
theorem b2i_nar (b : Bool) : narrow .boolean (.int (b2i b)) = .int (b2i b) := by cases b <;> decide
theorem b2i_0 {b : Bool} : b2i b = 0 ↔ b = false := by cases b <;> decide
theorem b2i_n0 {b : Bool} : ¬ b2i b = 0 ↔ b = true := by cases b <;> decide
theorem bP_blind {D : va_G} {tys : List (ClassId × FieldType)} {w : va_W} {sz : Nat} {av : List Value} : FrameBlind (va_Pc av (bP D tys w sz)) := fun a U g mk q => by
  obtain ⟨q0, q1, qP, qK, qD, qN⟩ := q
  exact ⟨q0, q1, qP, va_K.moved (u := U) (U := U.calling g mk a) (Vm.Alike.refl U.vm) qK, qD, zn.same (u := U) rfl qN⟩
section ZR
variable {p : Program} {l : Launch} {e : Env} {R : Room} {s : State} {m : MethodId} {args : Array Value} {below : List Frame} {meth : Method} {c : Code} {Q : State → Prop}
variable {cc : ByteArray} {nL : Nat} {Ts : List Cond} {own : String} {D : va_G} {tys : List (ClassId × FieldType)} {A : Nat → Prop} {w : va_W} {lv : List (Nat × Value)} {pc : Nat} {st : List Value}
theorem Mi.of {y : MethodName} {ws ws' : List Cond} {n maxL : Nat} {av : List Value} {rv : Int32} {w1 : va_W} {ty : FieldType} (hy : plainName y.cls = true) (hw : ws = Cond.code y cc maxL (some ty) :: ws') (hlen : (lg_sl av).length ≤ maxL)
    (body : ∀ (p : Program) (e : Env) (s : State) (m : MethodId) (below : List Frame) (meth : Method) (c : Code) (A : Nat → Prop), Cx p (rmN n) s m av.toArray meth c cc maxL ws y.cls D tys A → meth.sig.returnType = some ty → A = va_A w s.heap.size →
      Z p l e (rmN n) s m av.toArray below meth c maxL D A (MQ below (qI D tys w rv w1 s.heap.size) av.toArray s 0 0 (va_A w s.heap.size)) w (lv_args 0 av) 0 []) : Mi l y ws n D tys av w rv w1 := by
  intro sz
  refine Met.ofW (cc := cc) (maxL := maxL) (ret := some ty) hy hw ?_
  intro p e s m args below meth c s₁ B hml hv
  obtain ⟨rfl, hsz, hP, hK, hD0, hN⟩ := hv
  subst hsz
  have hl := lv_entry av (n := maxL) hlen
  rw [lg_entry_eq]
  exact body p e s m below meth c (va_A w s.heap.size) ⟨B.exec, B.bytes, hml, findClass_of_methodNamed B.named, atoms_spec (ws := ws) B.pre, B.notSynchronized, hK, hN, fun q h => Or.inr h⟩ B.returns rfl s.heap [] _ hP (hD0.self (sz := s.heap.size)) va_S.rf hl
theorem Mv.of {y : MethodName} {ws ws' : List Cond} {n maxL : Nat} {av : List Value} {w1 : va_W} (hy : plainName y.cls = true) (hw : ws = Cond.code y cc maxL none :: ws') (hlen : (lg_sl av).length ≤ maxL)
    (body : ∀ (p : Program) (e : Env) (s : State) (m : MethodId) (below : List Frame) (meth : Method) (c : Code) (A : Nat → Prop), Cx p (rmN n) s m av.toArray meth c cc maxL ws y.cls D tys A → meth.sig.returnType = none → A = va_A w s.heap.size →
      Z p l e (rmN n) s m av.toArray below meth c maxL D A (MQ below (qV D tys w w1 s.heap.size) av.toArray s 0 0 (va_A w s.heap.size)) w (lv_args 0 av) 0 []) : Mv l y ws n D tys av w w1 := by
  intro sz
  refine Met.ofW (cc := cc) (maxL := maxL) (ret := none) hy hw ?_
  intro p e s m args below meth c s₁ B hml hv
  obtain ⟨rfl, hsz, hP, hK, hD0, hN⟩ := hv
  subst hsz
  have hl := lv_entry av (n := maxL) hlen
  rw [lg_entry_eq]
  exact body p e s m below meth c (va_A w s.heap.size) ⟨B.exec, B.bytes, hml, findClass_of_methodNamed B.named, atoms_spec (ws := ws) B.pre, B.notSynchronized, hK, hN, fun q h => Or.inr h⟩ B.returns rfl s.heap [] _ hP (hD0.self (sz := s.heap.size)) va_S.rf hl
theorem Z.iret (C : Cx p R s m args meth c cc nL Ts own D tys A) (hr : meth.sig.returnType = some .int) {w0 w1 : va_W} {rv v : Int32} {sz : Nat} (hA : A = va_A w0 sz) (d : decode cc pc = .ok (.ireturn, 1)) (hv : v = rv) (hw : w = w1) :
    Z p l e R s m args below meth c nL D A (MQ below (qI D tys w0 rv w1 sz) args s 0 0 (va_A w0 sz)) w lv pc [.int v] := by
  subst hv; subst hw; subst hA
  intro H locs ls hP hD hS hl
  exact W.iret C.1 C.2.1 hr (fun t ht hW => ⟨⟨v, (), rfl, rfl, by rw [ht]; exact hP, va_K.moved hW.alike C.2.2.2.2.2.2.1, hD⟩, hS.F ht⟩) hS.2.2 d (hlocks := C.2.2.2.2.2.1)
theorem Z.zret (C : Cx p R s m args meth c cc nL Ts own D tys A) (hr : meth.sig.returnType = some .boolean) {w0 w1 : va_W} {rv : Int32} {b : Bool} {sz : Nat} (hA : A = va_A w0 sz) (d : decode cc pc = .ok (.ireturn, 1)) {v : Int32} (hb : v = b2i b) (hv : b2i b = rv) (hw : w = w1) :
    Z p l e R s m args below meth c nL D A (MQ below (qI D tys w0 rv w1 sz) args s 0 0 (va_A w0 sz)) w lv pc [.int v] := by
  subst hb; subst hv; subst hw; subst hA
  intro H locs ls hP hD hS hl
  exact W.zret C.1 C.2.1 hr (b2i_nar b) (fun t ht hW => ⟨⟨_, (), rfl, rfl, by rw [ht]; exact hP, va_K.moved hW.alike C.2.2.2.2.2.2.1, hD⟩, hS.F ht⟩) hS.2.2 d (hlocks := C.2.2.2.2.2.1)
theorem Z.vret (C : Cx p R s m args meth c cc nL Ts own D tys A) (hr : meth.sig.returnType = none) {w0 w1 : va_W} {sz : Nat} (hA : A = va_A w0 sz) (d : decode cc pc = .ok (.return_, 1)) (hw : w = w1) :
    Z p l e R s m args below meth c nL D A (MQ below (qV D tys w0 w1 sz) args s 0 0 (va_A w0 sz)) w lv pc [] := by
  subst hw; subst hA
  intro H locs ls hP hD hS hl
  exact W.vret C.1 C.2.1 hr (fun t ht hW => ⟨⟨(), rfl, trivial, by rw [ht]; exact hP, va_K.moved hW.alike C.2.2.2.2.2.2.1, hD⟩, hS.F ht⟩) hS.2.2 d (hlocks := C.2.2.2.2.2.1)
theorem Z.iconst (C : Cx p R s m args meth c cc nL Ts own D tys A) {n : Int} {v : Int32} (d : decode cc pc = .ok (.iconst n, 1))
    (hv : Int32.ofInt n = v) (k : Z p l e R s m args below meth c nL D A Q w lv (pc + 1) (.int v :: st)) : Z p l e R s m args below meth c nL D A Q w lv pc st :=
  fun H locs ls hP hD hS hl => lv_iconst C.1 C.2.1 d hv (k H locs ls hP hD hS hl)
theorem Z.bipush (C : Cx p R s m args meth c cc nL Ts own D tys A) {n : Int} {v : Int32} (d : decode cc pc = .ok (.bipush n, 2))
    (hv : (Int8.ofInt n).toInt32 = v) (k : Z p l e R s m args below meth c nL D A Q w lv (pc + 2) (.int v :: st)) : Z p l e R s m args below meth c nL D A Q w lv pc st :=
  fun H locs ls hP hD hS hl => lv_bipush C.1 C.2.1 d hv (k H locs ls hP hD hS hl)
theorem Z.sipush (C : Cx p R s m args meth c cc nL Ts own D tys A) {n : Int} {v : Int32} (d : decode cc pc = .ok (.sipush n, 3))
    (hv : (Int16.ofInt n).toInt32 = v) (k : Z p l e R s m args below meth c nL D A Q w lv (pc + 3) (.int v :: st)) : Z p l e R s m args below meth c nL D A Q w lv pc st :=
  fun H locs ls hP hD hS hl => lv_sipush C.1 C.2.1 d hv (k H locs ls hP hD hS hl)
theorem Z.lconst (C : Cx p R s m args meth c cc nL Ts own D tys A) {n : Fin 2} {v : Int64} (d : decode cc pc = .ok (.lconst n, 1))
    (hv : Int64.ofNat (n : Nat) = v) (k : Z p l e R s m args below meth c nL D A Q w lv (pc + 1) (.long v :: st)) : Z p l e R s m args below meth c nL D A Q w lv pc st :=
  fun H locs ls hP hD hS hl => lv_lconst C.1 C.2.1 d hv (k H locs ls hP hD hS hl)
theorem Z.ldc2 (C : Cx p R s m args meth c cc nL Ts own D tys A) {index : Nat} {v : Int64} (d : decode cc pc = .ok (.ldc2_w index, 3))
    (hv : Cond.constantLong own index v ∈ Ts) (k : Z p l e R s m args below meth c nL D A Q w lv (pc + 3) (.long v :: st)) : Z p l e R s m args below meth c nL D A Q w lv pc st :=
  fun H locs ls hP hD hS hl => lv_ldc2 C.1 C.2.1 C.2.2.2.1 (C.2.2.2.2.1 _ hv) d (k H locs ls hP hD hS hl)
theorem Z.ldc (C : Cx p R s m args meth c cc nL Ts own D tys A) {index : Nat} {v : Int32} (d : decode cc pc = .ok (.ldc index, 2))
    (hv : Cond.constant own index v ∈ Ts) (k : Z p l e R s m args below meth c nL D A Q w lv (pc + 2) (.int v :: st)) : Z p l e R s m args below meth c nL D A Q w lv pc st :=
  fun H locs ls hP hD hS hl => lv_ldc C.1 C.2.1 C.2.2.2.1 (C.2.2.2.2.1 _ hv) d (k H locs ls hP hD hS hl)
theorem Z.iload_n (C : Cx p R s m args meth c cc nL Ts own D tys A) {k4 : Fin 4} {i : Nat} {x : Int32} (d : decode cc pc = .ok (.iload_n k4, 1))
    (j : Nat) (hj : lv[j]? = some (i, .int x)) (hi : (k4 : Nat) = i) (k : Z p l e R s m args below meth c nL D A Q w lv (pc + 1) (.int x :: st)) : Z p l e R s m args below meth c nL D A Q w lv pc st :=
  fun H locs ls hP hD hS hl => lv_iload_n C.1 C.2.1 d hi (lv_at hl j hj) (k H locs ls hP hD hS hl)
theorem Z.iload (C : Cx p R s m args meth c cc nL Ts own D tys A) {i : Nat} {x : Int32} (d : decode cc pc = .ok (.iload i, 2))
    (j : Nat) (hj : lv[j]? = some (i, .int x)) (k : Z p l e R s m args below meth c nL D A Q w lv (pc + 2) (.int x :: st)) : Z p l e R s m args below meth c nL D A Q w lv pc st :=
  fun H locs ls hP hD hS hl => lv_iload C.1 C.2.1 d (lv_at hl j hj) (k H locs ls hP hD hS hl)
theorem Z.istore_n (C : Cx p R s m args meth c cc nL Ts own D tys A) {k4 : Fin 4} {i : Nat} {x : Int32} {lv' : List (Nat × Value)} (d : decode cc pc = .ok (.istore_n k4, 1))
    (hi : (k4 : Nat) = i) (hn : i < nL) (hv : (i, Value.int x) :: lv.filter (fun q => !(q.1 == i) && !(q.1 + 1 == i && q.2.category == 2)) = lv') (k : Z p l e R s m args below meth c nL D A Q w lv' (pc + 1) st) : Z p l e R s m args below meth c nL D A Q w lv pc (.int x :: st) :=
  fun H locs ls hP hD hS hl => lv_istore_n C.1 C.2.1 d hi hl hn hv (fun ls' h' => k H locs ls' hP hD hS h')
theorem Z.istore (C : Cx p R s m args meth c cc nL Ts own D tys A) {i : Nat} {x : Int32} {lv' : List (Nat × Value)} (d : decode cc pc = .ok (.istore i, 2))
    (hn : i < nL) (hv : (i, Value.int x) :: lv.filter (fun q => !(q.1 == i) && !(q.1 + 1 == i && q.2.category == 2)) = lv') (k : Z p l e R s m args below meth c nL D A Q w lv' (pc + 2) st) : Z p l e R s m args below meth c nL D A Q w lv pc (.int x :: st) :=
  fun H locs ls hP hD hS hl => lv_istore C.1 C.2.1 d hl hn hv (fun ls' h' => k H locs ls' hP hD hS h')
theorem Z.lload_n (C : Cx p R s m args meth c cc nL Ts own D tys A) {k4 : Fin 4} {i : Nat} {x : Int64} (d : decode cc pc = .ok (.lload_n k4, 1))
    (j : Nat) (hj : lv[j]? = some (i, .long x)) (hi : (k4 : Nat) = i) (k : Z p l e R s m args below meth c nL D A Q w lv (pc + 1) (.long x :: st)) : Z p l e R s m args below meth c nL D A Q w lv pc st :=
  fun H locs ls hP hD hS hl => lv_lload_n C.1 C.2.1 d hi (lv_at hl j hj) (k H locs ls hP hD hS hl)
theorem Z.lload (C : Cx p R s m args meth c cc nL Ts own D tys A) {i : Nat} {x : Int64} (d : decode cc pc = .ok (.lload i, 2))
    (j : Nat) (hj : lv[j]? = some (i, .long x)) (k : Z p l e R s m args below meth c nL D A Q w lv (pc + 2) (.long x :: st)) : Z p l e R s m args below meth c nL D A Q w lv pc st :=
  fun H locs ls hP hD hS hl => lv_lload C.1 C.2.1 d (lv_at hl j hj) (k H locs ls hP hD hS hl)
theorem Z.lstore_n (C : Cx p R s m args meth c cc nL Ts own D tys A) {k4 : Fin 4} {i : Nat} {x : Int64} {lv' : List (Nat × Value)} (d : decode cc pc = .ok (.lstore_n k4, 1))
    (hi : (k4 : Nat) = i) (hn : i + 1 < nL) (hv : (i, Value.long x) :: lv.filter (fun q => !(q.1 == i) && (!(q.1 == i + 1) && !(q.1 + 1 == i && q.2.category == 2))) = lv') (k : Z p l e R s m args below meth c nL D A Q w lv' (pc + 1) st) : Z p l e R s m args below meth c nL D A Q w lv pc (.long x :: st) :=
  fun H locs ls hP hD hS hl => lv_lstore_n C.1 C.2.1 d hi hl hn hv (fun ls' h' => k H locs ls' hP hD hS h')
theorem Z.lstore (C : Cx p R s m args meth c cc nL Ts own D tys A) {i : Nat} {x : Int64} {lv' : List (Nat × Value)} (d : decode cc pc = .ok (.lstore i, 2))
    (hn : i + 1 < nL) (hv : (i, Value.long x) :: lv.filter (fun q => !(q.1 == i) && (!(q.1 == i + 1) && !(q.1 + 1 == i && q.2.category == 2))) = lv') (k : Z p l e R s m args below meth c nL D A Q w lv' (pc + 2) st) : Z p l e R s m args below meth c nL D A Q w lv pc (.long x :: st) :=
  fun H locs ls hP hD hS hl => lv_lstore C.1 C.2.1 d hl hn hv (fun ls' h' => k H locs ls' hP hD hS h')
theorem Z.aload_n (C : Cx p R s m args meth c cc nL Ts own D tys A) {k4 : Fin 4} {i : Nat} {x : Nat} (d : decode cc pc = .ok (.aload_n k4, 1))
    (j : Nat) (hj : lv[j]? = some (i, .ref x)) (hi : (k4 : Nat) = i) (k : Z p l e R s m args below meth c nL D A Q w lv (pc + 1) (.ref x :: st)) : Z p l e R s m args below meth c nL D A Q w lv pc st :=
  fun H locs ls hP hD hS hl => lv_aload_n C.1 C.2.1 d hi (lv_at hl j hj) (k H locs ls hP hD hS hl)
theorem Z.aload (C : Cx p R s m args meth c cc nL Ts own D tys A) {i : Nat} {x : Nat} (d : decode cc pc = .ok (.aload i, 2))
    (j : Nat) (hj : lv[j]? = some (i, .ref x)) (k : Z p l e R s m args below meth c nL D A Q w lv (pc + 2) (.ref x :: st)) : Z p l e R s m args below meth c nL D A Q w lv pc st :=
  fun H locs ls hP hD hS hl => lv_aload C.1 C.2.1 d (lv_at hl j hj) (k H locs ls hP hD hS hl)
theorem Z.astore_n (C : Cx p R s m args meth c cc nL Ts own D tys A) {k4 : Fin 4} {i : Nat} {x : Nat} {lv' : List (Nat × Value)} (d : decode cc pc = .ok (.astore_n k4, 1))
    (hi : (k4 : Nat) = i) (hn : i < nL) (hv : (i, Value.ref x) :: lv.filter (fun q => !(q.1 == i) && !(q.1 + 1 == i && q.2.category == 2)) = lv') (k : Z p l e R s m args below meth c nL D A Q w lv' (pc + 1) st) : Z p l e R s m args below meth c nL D A Q w lv pc (.ref x :: st) :=
  fun H locs ls hP hD hS hl => lv_astore_n C.1 C.2.1 d hi hl hn hv (fun ls' h' => k H locs ls' hP hD hS h')
theorem Z.astore (C : Cx p R s m args meth c cc nL Ts own D tys A) {i : Nat} {x : Nat} {lv' : List (Nat × Value)} (d : decode cc pc = .ok (.astore i, 2))
    (hn : i < nL) (hv : (i, Value.ref x) :: lv.filter (fun q => !(q.1 == i) && !(q.1 + 1 == i && q.2.category == 2)) = lv') (k : Z p l e R s m args below meth c nL D A Q w lv' (pc + 2) st) : Z p l e R s m args below meth c nL D A Q w lv pc (.ref x :: st) :=
  fun H locs ls hP hD hS hl => lv_astore C.1 C.2.1 d hl hn hv (fun ls' h' => k H locs ls' hP hD hS h')
theorem Z.iinc (C : Cx p R s m args meth c cc nL Ts own D tys A) {i : Nat} {n : Int} {x v : Int32} {lv' : List (Nat × Value)} (d : decode cc pc = .ok (.iinc i n, 3))
    (j : Nat) (hj : lv[j]? = some (i, .int x)) (hv : x + Int32.ofInt n = v) (hn : i < nL) (hw : (i, Value.int v) :: lv.filter (fun q => !(q.1 == i) && !(q.1 + 1 == i && q.2.category == 2)) = lv') (k : Z p l e R s m args below meth c nL D A Q w lv' (pc + 3) st) : Z p l e R s m args below meth c nL D A Q w lv pc st :=
  fun H locs ls hP hD hS hl => lv_iinc C.1 C.2.1 d hl (k := j) hj hv hn hw (fun ls' h' => k H locs ls' hP hD hS h')
theorem Z.iadd (C : Cx p R s m args meth c cc nL Ts own D tys A) {x y v : Int32} (d : decode cc pc = .ok (.iadd, 1)) (hv : x + y = v) (k : Z p l e R s m args below meth c nL D A Q w lv (pc + 1) (.int v :: st)) : Z p l e R s m args below meth c nL D A Q w lv pc (.int y :: .int x :: st) := by
  subst hv
  exact fun H locs ls hP hD hS hl => lv_iadd C.1 C.2.1 d (k H locs ls hP hD hS hl)
theorem Z.isub (C : Cx p R s m args meth c cc nL Ts own D tys A) {x y v : Int32} (d : decode cc pc = .ok (.isub, 1)) (hv : x - y = v) (k : Z p l e R s m args below meth c nL D A Q w lv (pc + 1) (.int v :: st)) : Z p l e R s m args below meth c nL D A Q w lv pc (.int y :: .int x :: st) := by
  subst hv
  exact fun H locs ls hP hD hS hl => lv_isub C.1 C.2.1 d (k H locs ls hP hD hS hl)
theorem Z.imul (C : Cx p R s m args meth c cc nL Ts own D tys A) {x y v : Int32} (d : decode cc pc = .ok (.imul, 1)) (hv : x * y = v) (k : Z p l e R s m args below meth c nL D A Q w lv (pc + 1) (.int v :: st)) : Z p l e R s m args below meth c nL D A Q w lv pc (.int y :: .int x :: st) := by
  subst hv
  exact fun H locs ls hP hD hS hl => lv_imul C.1 C.2.1 d (k H locs ls hP hD hS hl)
theorem Z.iand (C : Cx p R s m args meth c cc nL Ts own D tys A) {x y v : Int32} (d : decode cc pc = .ok (.iand, 1)) (hv : x &&& y = v) (k : Z p l e R s m args below meth c nL D A Q w lv (pc + 1) (.int v :: st)) : Z p l e R s m args below meth c nL D A Q w lv pc (.int y :: .int x :: st) := by
  subst hv
  exact fun H locs ls hP hD hS hl => lv_iand C.1 C.2.1 d (k H locs ls hP hD hS hl)
theorem Z.ior (C : Cx p R s m args meth c cc nL Ts own D tys A) {x y v : Int32} (d : decode cc pc = .ok (.ior, 1)) (hv : x ||| y = v) (k : Z p l e R s m args below meth c nL D A Q w lv (pc + 1) (.int v :: st)) : Z p l e R s m args below meth c nL D A Q w lv pc (.int y :: .int x :: st) := by
  subst hv
  exact fun H locs ls hP hD hS hl => lv_ior C.1 C.2.1 d (k H locs ls hP hD hS hl)
theorem Z.ixor (C : Cx p R s m args meth c cc nL Ts own D tys A) {x y v : Int32} (d : decode cc pc = .ok (.ixor, 1)) (hv : x ^^^ y = v) (k : Z p l e R s m args below meth c nL D A Q w lv (pc + 1) (.int v :: st)) : Z p l e R s m args below meth c nL D A Q w lv pc (.int y :: .int x :: st) := by
  subst hv
  exact fun H locs ls hP hD hS hl => lv_ixor C.1 C.2.1 d (k H locs ls hP hD hS hl)
theorem Z.irem (C : Cx p R s m args meth c cc nL Ts own D tys A) {x y v : Int32} (d : decode cc pc = .ok (.irem, 1)) (hne : ¬ y = 0) (hv : x - x / y * y = v) (k : Z p l e R s m args below meth c nL D A Q w lv (pc + 1) (.int v :: st)) : Z p l e R s m args below meth c nL D A Q w lv pc (.int y :: .int x :: st) := by
  subst hv
  exact fun H locs ls hP hD hS hl => lv_irem C.1 C.2.1 d hne (k H locs ls hP hD hS hl)
theorem Z.ladd (C : Cx p R s m args meth c cc nL Ts own D tys A) {x y v : Int64} (d : decode cc pc = .ok (.ladd, 1)) (hv : x + y = v) (k : Z p l e R s m args below meth c nL D A Q w lv (pc + 1) (.long v :: st)) : Z p l e R s m args below meth c nL D A Q w lv pc (.long y :: .long x :: st) := by
  subst hv
  exact fun H locs ls hP hD hS hl => lv_ladd C.1 C.2.1 d (k H locs ls hP hD hS hl)
theorem Z.lmul (C : Cx p R s m args meth c cc nL Ts own D tys A) {x y v : Int64} (d : decode cc pc = .ok (.lmul, 1)) (hv : x * y = v) (k : Z p l e R s m args below meth c nL D A Q w lv (pc + 1) (.long v :: st)) : Z p l e R s m args below meth c nL D A Q w lv pc (.long y :: .long x :: st) := by
  subst hv
  exact fun H locs ls hP hD hS hl => lv_lmul C.1 C.2.1 d (k H locs ls hP hD hS hl)
theorem Z.land (C : Cx p R s m args meth c cc nL Ts own D tys A) {x y v : Int64} (d : decode cc pc = .ok (.land, 1)) (hv : x &&& y = v) (k : Z p l e R s m args below meth c nL D A Q w lv (pc + 1) (.long v :: st)) : Z p l e R s m args below meth c nL D A Q w lv pc (.long y :: .long x :: st) := by
  subst hv
  exact fun H locs ls hP hD hS hl => lv_land C.1 C.2.1 d (k H locs ls hP hD hS hl)
theorem Z.lor (C : Cx p R s m args meth c cc nL Ts own D tys A) {x y v : Int64} (d : decode cc pc = .ok (.lor, 1)) (hv : x ||| y = v) (k : Z p l e R s m args below meth c nL D A Q w lv (pc + 1) (.long v :: st)) : Z p l e R s m args below meth c nL D A Q w lv pc (.long y :: .long x :: st) := by
  subst hv
  exact fun H locs ls hP hD hS hl => lv_lor C.1 C.2.1 d (k H locs ls hP hD hS hl)
theorem Z.ishl (C : Cx p R s m args meth c cc nL Ts own D tys A) {x y v : Int32} (d : decode cc pc = .ok (.ishl, 1)) (hv : x <<< (y &&& 31) = v) (k : Z p l e R s m args below meth c nL D A Q w lv (pc + 1) (.int v :: st)) : Z p l e R s m args below meth c nL D A Q w lv pc (.int y :: .int x :: st) := by
  subst hv
  exact fun H locs ls hP hD hS hl => lv_ishl C.1 C.2.1 d (k H locs ls hP hD hS hl)
theorem Z.ishr (C : Cx p R s m args meth c cc nL Ts own D tys A) {x y v : Int32} (d : decode cc pc = .ok (.ishr, 1)) (hv : x >>> (y &&& 31) = v) (k : Z p l e R s m args below meth c nL D A Q w lv (pc + 1) (.int v :: st)) : Z p l e R s m args below meth c nL D A Q w lv pc (.int y :: .int x :: st) := by
  subst hv
  exact fun H locs ls hP hD hS hl => lv_ishr C.1 C.2.1 d (k H locs ls hP hD hS hl)
theorem Z.iushr (C : Cx p R s m args meth c cc nL Ts own D tys A) {x y v : Int32} (d : decode cc pc = .ok (.iushr, 1)) (hv : (x.toUInt32 >>> (y.toUInt32 &&& Int32.toUInt32 31)).toInt32 = v) (k : Z p l e R s m args below meth c nL D A Q w lv (pc + 1) (.int v :: st)) : Z p l e R s m args below meth c nL D A Q w lv pc (.int y :: .int x :: st) := fun H locs ls hP hD hS hl => lv_iushr C.1 C.2.1 d hv (k H locs ls hP hD hS hl)
theorem Z.lushr (C : Cx p R s m args meth c cc nL Ts own D tys A) {x v : Int64} {y : Int32} (d : decode cc pc = .ok (.lushr, 1)) (hv : (x.toUInt64 >>> (y.toInt64.toUInt64 &&& Int64.toUInt64 63)).toInt64 = v) (k : Z p l e R s m args below meth c nL D A Q w lv (pc + 1) (.long v :: st)) : Z p l e R s m args below meth c nL D A Q w lv pc (.int y :: .long x :: st) := fun H locs ls hP hD hS hl => lv_lushr C.1 C.2.1 d hv (k H locs ls hP hD hS hl)
theorem Z.lshl (C : Cx p R s m args meth c cc nL Ts own D tys A) {x v : Int64} {y : Int32} (d : decode cc pc = .ok (.lshl, 1)) (hv : x <<< (y.toInt64 &&& 63) = v) (k : Z p l e R s m args below meth c nL D A Q w lv (pc + 1) (.long v :: st)) : Z p l e R s m args below meth c nL D A Q w lv pc (.int y :: .long x :: st) := fun H locs ls hP hD hS hl => lv_lshl C.1 C.2.1 d hv (k H locs ls hP hD hS hl)
theorem Z.lcmp (C : Cx p R s m args meth c cc nL Ts own D tys A) {x y : Int64} {v : Int32} (d : decode cc pc = .ok (.lcmp, 1)) (hv : lg_cmp x y = v) (k : Z p l e R s m args below meth c nL D A Q w lv (pc + 1) (.int v :: st)) : Z p l e R s m args below meth c nL D A Q w lv pc (.long y :: .long x :: st) := by
  subst hv
  exact fun H locs ls hP hD hS hl => W.lcmp C.1 C.2.1 d (k H locs ls hP hD hS hl)
theorem Z.i2l (C : Cx p R s m args meth c cc nL Ts own D tys A) {x : Int32} {v : Int64} (d : decode cc pc = .ok (.i2l, 1)) (hv : x.toInt64 = v) (k : Z p l e R s m args below meth c nL D A Q w lv (pc + 1) (.long v :: st)) : Z p l e R s m args below meth c nL D A Q w lv pc (.int x :: st) := fun H locs ls hP hD hS hl => lv_i2l C.1 C.2.1 d hv (k H locs ls hP hD hS hl)
theorem Z.l2i (C : Cx p R s m args meth c cc nL Ts own D tys A) {x : Int64} {v : Int32} (d : decode cc pc = .ok (.l2i, 1)) (hv : x.toInt32 = v) (k : Z p l e R s m args below meth c nL D A Q w lv (pc + 1) (.int v :: st)) : Z p l e R s m args below meth c nL D A Q w lv pc (.long x :: st) := fun H locs ls hP hD hS hl => lv_l2i C.1 C.2.1 d hv (k H locs ls hP hD hS hl)
theorem Z.i2c (C : Cx p R s m args meth c cc nL Ts own D tys A) {x : Int32} {v : Int32} (d : decode cc pc = .ok (.i2c, 1)) (hv : (x.toUInt32 % 65536).toInt32 = v) (k : Z p l e R s m args below meth c nL D A Q w lv (pc + 1) (.int v :: st)) : Z p l e R s m args below meth c nL D A Q w lv pc (.int x :: st) := fun H locs ls hP hD hS hl => lv_i2c C.1 C.2.1 d hv (k H locs ls hP hD hS hl)
theorem Z.dup (C : Cx p R s m args meth c cc nL Ts own D tys A) {va : Value} (d : decode cc pc = .ok (.dup, 1)) (h1 : va.category = 1) (k : Z p l e R s m args below meth c nL D A Q w lv (pc + 1) (va :: va :: st)) : Z p l e R s m args below meth c nL D A Q w lv pc (va :: st) := fun H locs ls hP hD hS hl => lv_dup C.1 C.2.1 d h1 (k H locs ls hP hD hS hl)
theorem Z.pop (C : Cx p R s m args meth c cc nL Ts own D tys A) {va : Value} (d : decode cc pc = .ok (.pop, 1)) (h1 : va.category = 1) (k : Z p l e R s m args below meth c nL D A Q w lv (pc + 1) st) : Z p l e R s m args below meth c nL D A Q w lv pc (va :: st) := fun H locs ls hP hD hS hl => lv_pop C.1 C.2.1 d h1 (k H locs ls hP hD hS hl)
theorem Z.dup_x1 (C : Cx p R s m args meth c cc nL Ts own D tys A) {va vb : Value} (d : decode cc pc = .ok (.dup_x1, 1)) (h1 : va.category = 1) (h2 : vb.category = 1) (k : Z p l e R s m args below meth c nL D A Q w lv (pc + 1) (va :: vb :: va :: st)) : Z p l e R s m args below meth c nL D A Q w lv pc (va :: vb :: st) := fun H locs ls hP hD hS hl => lv_dup_x1 C.1 C.2.1 d h1 h2 (k H locs ls hP hD hS hl)
theorem Z.dup2 (C : Cx p R s m args meth c cc nL Ts own D tys A) {va vb : Value} (d : decode cc pc = .ok (.dup2, 1)) (h1 : va.category = 1) (h2 : vb.category = 1) (k : Z p l e R s m args below meth c nL D A Q w lv (pc + 1) (va :: vb :: va :: vb :: st)) : Z p l e R s m args below meth c nL D A Q w lv pc (va :: vb :: st) := fun H locs ls hP hD hS hl => lv_dup2_11 C.1 C.2.1 d h1 h2 (k H locs ls hP hD hS hl)
theorem Z.if_eq (C : Cx p R s m args meth c cc nL Ts own D tys A) {x : Int32} {off : Int} (tgt : Nat) (d : decode cc pc = .ok (.ifCond .eq off, 3)) (ht : (pc : Int) + off = (tgt : Int)) (kt : x = 0 → Z p l e R s m args below meth c nL D A Q w lv tgt st) (kf : ¬ x = 0 → Z p l e R s m args below meth c nL D A Q w lv (pc + 3) st) : Z p l e R s m args below meth c nL D A Q w lv pc (.int x :: st) :=
  fun H locs ls hP hD hS hl => lv_if_eq C.1 C.2.1 d ht (fun h => kt h H locs ls hP hD hS hl) (fun h => kf h H locs ls hP hD hS hl)
theorem Z.icmp_eq (C : Cx p R s m args meth c cc nL Ts own D tys A) {x y : Int32} {off : Int} (tgt : Nat) (d : decode cc pc = .ok (.if_icmp .eq off, 3)) (ht : (pc : Int) + off = (tgt : Int)) (kt : x = y → Z p l e R s m args below meth c nL D A Q w lv tgt st) (kf : ¬ x = y → Z p l e R s m args below meth c nL D A Q w lv (pc + 3) st) : Z p l e R s m args below meth c nL D A Q w lv pc (.int y :: .int x :: st) :=
  fun H locs ls hP hD hS hl => lv_icmp_eq C.1 C.2.1 d ht (fun h => kt h H locs ls hP hD hS hl) (fun h => kf h H locs ls hP hD hS hl)
theorem Z.if_ne (C : Cx p R s m args meth c cc nL Ts own D tys A) {x : Int32} {off : Int} (tgt : Nat) (d : decode cc pc = .ok (.ifCond .ne off, 3)) (ht : (pc : Int) + off = (tgt : Int)) (kt : ¬ x = 0 → Z p l e R s m args below meth c nL D A Q w lv tgt st) (kf : x = 0 → Z p l e R s m args below meth c nL D A Q w lv (pc + 3) st) : Z p l e R s m args below meth c nL D A Q w lv pc (.int x :: st) :=
  fun H locs ls hP hD hS hl => lv_if_ne C.1 C.2.1 d ht (fun h => kt h H locs ls hP hD hS hl) (fun h => kf h H locs ls hP hD hS hl)
theorem Z.icmp_ne (C : Cx p R s m args meth c cc nL Ts own D tys A) {x y : Int32} {off : Int} (tgt : Nat) (d : decode cc pc = .ok (.if_icmp .ne off, 3)) (ht : (pc : Int) + off = (tgt : Int)) (kt : ¬ x = y → Z p l e R s m args below meth c nL D A Q w lv tgt st) (kf : x = y → Z p l e R s m args below meth c nL D A Q w lv (pc + 3) st) : Z p l e R s m args below meth c nL D A Q w lv pc (.int y :: .int x :: st) :=
  fun H locs ls hP hD hS hl => lv_icmp_ne C.1 C.2.1 d ht (fun h => kt h H locs ls hP hD hS hl) (fun h => kf h H locs ls hP hD hS hl)
theorem Z.if_lt (C : Cx p R s m args meth c cc nL Ts own D tys A) {x : Int32} {off : Int} (tgt : Nat) (d : decode cc pc = .ok (.ifCond .lt off, 3)) (ht : (pc : Int) + off = (tgt : Int)) (kt : x < 0 → Z p l e R s m args below meth c nL D A Q w lv tgt st) (kf : ¬ x < 0 → Z p l e R s m args below meth c nL D A Q w lv (pc + 3) st) : Z p l e R s m args below meth c nL D A Q w lv pc (.int x :: st) :=
  fun H locs ls hP hD hS hl => lv_if_lt C.1 C.2.1 d ht (fun h => kt h H locs ls hP hD hS hl) (fun h => kf h H locs ls hP hD hS hl)
theorem Z.icmp_lt (C : Cx p R s m args meth c cc nL Ts own D tys A) {x y : Int32} {off : Int} (tgt : Nat) (d : decode cc pc = .ok (.if_icmp .lt off, 3)) (ht : (pc : Int) + off = (tgt : Int)) (kt : x < y → Z p l e R s m args below meth c nL D A Q w lv tgt st) (kf : ¬ x < y → Z p l e R s m args below meth c nL D A Q w lv (pc + 3) st) : Z p l e R s m args below meth c nL D A Q w lv pc (.int y :: .int x :: st) :=
  fun H locs ls hP hD hS hl => lv_icmp_lt C.1 C.2.1 d ht (fun h => kt h H locs ls hP hD hS hl) (fun h => kf h H locs ls hP hD hS hl)
theorem Z.if_ge (C : Cx p R s m args meth c cc nL Ts own D tys A) {x : Int32} {off : Int} (tgt : Nat) (d : decode cc pc = .ok (.ifCond .ge off, 3)) (ht : (pc : Int) + off = (tgt : Int)) (kt : 0 ≤ x → Z p l e R s m args below meth c nL D A Q w lv tgt st) (kf : ¬ 0 ≤ x → Z p l e R s m args below meth c nL D A Q w lv (pc + 3) st) : Z p l e R s m args below meth c nL D A Q w lv pc (.int x :: st) :=
  fun H locs ls hP hD hS hl => lv_if_ge C.1 C.2.1 d ht (fun h => kt h H locs ls hP hD hS hl) (fun h => kf h H locs ls hP hD hS hl)
theorem Z.icmp_ge (C : Cx p R s m args meth c cc nL Ts own D tys A) {x y : Int32} {off : Int} (tgt : Nat) (d : decode cc pc = .ok (.if_icmp .ge off, 3)) (ht : (pc : Int) + off = (tgt : Int)) (kt : y ≤ x → Z p l e R s m args below meth c nL D A Q w lv tgt st) (kf : ¬ y ≤ x → Z p l e R s m args below meth c nL D A Q w lv (pc + 3) st) : Z p l e R s m args below meth c nL D A Q w lv pc (.int y :: .int x :: st) :=
  fun H locs ls hP hD hS hl => lv_icmp_ge C.1 C.2.1 d ht (fun h => kt h H locs ls hP hD hS hl) (fun h => kf h H locs ls hP hD hS hl)
theorem Z.if_gt (C : Cx p R s m args meth c cc nL Ts own D tys A) {x : Int32} {off : Int} (tgt : Nat) (d : decode cc pc = .ok (.ifCond .gt off, 3)) (ht : (pc : Int) + off = (tgt : Int)) (kt : 0 < x → Z p l e R s m args below meth c nL D A Q w lv tgt st) (kf : ¬ 0 < x → Z p l e R s m args below meth c nL D A Q w lv (pc + 3) st) : Z p l e R s m args below meth c nL D A Q w lv pc (.int x :: st) :=
  fun H locs ls hP hD hS hl => lv_if_gt C.1 C.2.1 d ht (fun h => kt h H locs ls hP hD hS hl) (fun h => kf h H locs ls hP hD hS hl)
theorem Z.icmp_gt (C : Cx p R s m args meth c cc nL Ts own D tys A) {x y : Int32} {off : Int} (tgt : Nat) (d : decode cc pc = .ok (.if_icmp .gt off, 3)) (ht : (pc : Int) + off = (tgt : Int)) (kt : y < x → Z p l e R s m args below meth c nL D A Q w lv tgt st) (kf : ¬ y < x → Z p l e R s m args below meth c nL D A Q w lv (pc + 3) st) : Z p l e R s m args below meth c nL D A Q w lv pc (.int y :: .int x :: st) :=
  fun H locs ls hP hD hS hl => lv_icmp_gt C.1 C.2.1 d ht (fun h => kt h H locs ls hP hD hS hl) (fun h => kf h H locs ls hP hD hS hl)
theorem Z.if_le (C : Cx p R s m args meth c cc nL Ts own D tys A) {x : Int32} {off : Int} (tgt : Nat) (d : decode cc pc = .ok (.ifCond .le off, 3)) (ht : (pc : Int) + off = (tgt : Int)) (kt : x ≤ 0 → Z p l e R s m args below meth c nL D A Q w lv tgt st) (kf : ¬ x ≤ 0 → Z p l e R s m args below meth c nL D A Q w lv (pc + 3) st) : Z p l e R s m args below meth c nL D A Q w lv pc (.int x :: st) :=
  fun H locs ls hP hD hS hl => lv_if_le C.1 C.2.1 d ht (fun h => kt h H locs ls hP hD hS hl) (fun h => kf h H locs ls hP hD hS hl)
theorem Z.icmp_le (C : Cx p R s m args meth c cc nL Ts own D tys A) {x y : Int32} {off : Int} (tgt : Nat) (d : decode cc pc = .ok (.if_icmp .le off, 3)) (ht : (pc : Int) + off = (tgt : Int)) (kt : x ≤ y → Z p l e R s m args below meth c nL D A Q w lv tgt st) (kf : ¬ x ≤ y → Z p l e R s m args below meth c nL D A Q w lv (pc + 3) st) : Z p l e R s m args below meth c nL D A Q w lv pc (.int y :: .int x :: st) :=
  fun H locs ls hP hD hS hl => lv_icmp_le C.1 C.2.1 d ht (fun h => kt h H locs ls hP hD hS hl) (fun h => kf h H locs ls hP hD hS hl)
theorem Z.goto (C : Cx p R s m args meth c cc nL Ts own D tys A) {off : Int} (tgt : Nat) (d : decode cc pc = .ok (.goto off, 3)) (ht : (pc : Int) + off = (tgt : Int)) (k : Z p l e R s m args below meth c nL D A Q w lv tgt st) : Z p l e R s m args below meth c nL D A Q w lv pc st := fun H locs ls hP hD hS hl => lv_goto C.1 C.2.1 d ht (k H locs ls hP hD hS hl)
theorem Z.lookup (C : Cx p R s m args meth c cc nL Ts own D tys A) {dflt : Int} {ps : Array (Int × Int)} {len : Nat} {x : Int32} {off : Int} (tgt : Nat) (d : decode cc pc = .ok (.lookupswitch dflt ps, len)) (hp : (ps.toList.zip (ps.toList.drop 1)).all (fun (a, next) => a.1 < next.1) = true) (ho : Op.lookupswitch.offset ps.toList dflt x.toInt = off) (ht : (pc : Int) + off = (tgt : Int)) (k : Z p l e R s m args below meth c nL D A Q w lv tgt st) : Z p l e R s m args below meth c nL D A Q w lv pc (.int x :: st) := fun H locs ls hP hD hS hl => lv_lookup C.1 C.2.1 d hp ho ht (k H locs ls hP hD hS hl)
theorem Z.get (C : Cx p R s m args meth c cc nL Ts own D tys A) {ref Cn : String} {T : u_T} {N ci index a : Nat} (hin : ∀ w ∈ u_ws Cn T N, w ∈ Ts) (q0 : Nat) {fs : List Value} (he : w[q0]? = some (a, .inr (ci, fs))) (hc : vwCl[ci]? = some (Cn, T, N)) (k0 : Nat) (hk : k0 < N) (hlink : Cond.fieldLink own index ref (T k0).2.1 (T k0).2.2.1 ∈ Ts) (href : ref = (T k0).1) {v : Value} (hv : fs[k0]? = some v) (d : decode cc pc = .ok (.getfield index, 3)) (k : Z p l e R s m args below meth c nL D A Q w lv (pc + 3) (v :: st)) : Z p l e R s m args below meth c nL D A Q w lv pc (.ref a :: st) :=
  fun H locs ls hP hD hS hl => va_get (D := D) (ci := ci) C.1 C.2.1 C.2.2.2.2.1 hin C.2.2.2.1 C.2.2.2.2.2.2.1 hP q0 he hc k0 hk (C.2.2.2.2.1 _ hlink) (fun _ h9 => by rw [href]; exact h9) hv d (k H locs ls hP hD hS hl)
theorem Z.getN (C : Cx p R s m args meth c cc nL Ts own D tys A) {ref Cn : String} {T : u_T} {N ci index a : Nat} (hin : ∀ w ∈ u_ws Cn T N, w ∈ Ts) (q0 : Nat) {fs : List Value} (he : w[q0]? = some (a, .inr (ci, fs))) (hc : vwCl[ci]? = some (Cn, T, N)) (k0 : Nat) (hk : k0 < N) {host : String} (hlink : (own, index, ref, (T k0).2.1, (T k0).2.2.1, host) ∈ zn_f) (href : ref = (T k0).1) {v : Value} (hv : fs[k0]? = some v) (d : decode cc pc = .ok (.getfield index, 3)) (k : Z p l e R s m args below meth c nL D A Q w lv (pc + 3) (v :: st)) : Z p l e R s m args below meth c nL D A Q w lv pc (.ref a :: st) :=
  fun H locs ls hP hD hS hl => va_getN (D := D) (ci := ci) C.1 C.2.1 C.2.2.2.2.1 hin C.2.2.2.1 C.2.2.2.2.2.2.1 hP q0 he hc k0 hk (va_Nw.use rfl (C.2.2.2.2.2.2.2.1.1 _ hlink)) (fun _ h9 => by rw [href]; exact h9) hv d (k H locs ls hP hD hS hl)
theorem Z.put (C : Cx p R s m args meth c cc nL Ts own D tys A) {ref Cn : String} {T : u_T} {N ci index a : Nat} (hin : ∀ w ∈ u_ws Cn T N, w ∈ Ts) (q0 : Nat) {fs : List Value} (he : w[q0]? = some (a, .inr (ci, fs))) (hc : vwCl[ci]? = some (Cn, T, N)) (k0 : Nat) (hk : k0 < N) (ty0 : Nat → FieldType) (hty : ∀ k, k < N → parseFieldDescriptor (T k).2.2.1 = some (ty0 k)) (hnm : ∀ a, a < N → ∀ b, b < N → a ≠ b → (T a).2.1 ≠ (T b).2.1) (hlink : Cond.fieldLink own index ref (T k0).2.1 (T k0).2.2.1 ∈ Ts) (href : ref = (T k0).1) (hfin : (T k0).2.2.2 = false) {v : Value} (hn : narrow (ty0 k0) v = v) (hfit : fits (ty0 k0) v = true) (hl0 : k0 < fs.length) (d : decode cc pc = .ok (.putfield index, 3)) {w' : va_W} (hw : w.set q0 (a, .inr (ci, fs.set k0 v)) = w') (k : Z p l e R s m args below meth c nL D A Q w' lv (pc + 3) st) : Z p l e R s m args below meth c nL D A Q w lv pc (v :: .ref a :: st) := by
  subst hw
  exact fun H locs ls hP hD hS hl => va_put (D := D) (ci := ci) C.1 C.2.1 C.2.2.2.2.1 hin ty0 hty hnm C.2.2.2.1 C.2.2.2.2.2.2.1 hP hD hS q0 he hc k0 hk (C.2.2.2.2.1 _ hlink) (fun _ h9 => by rw [href]; exact h9) hfin (hty k0 hk) hn hfit hl0 d (fun H1 locs1 hP1 hD1 hS1 => k H1 locs1 ls hP1 hD1 hS1 hl)
theorem Z.putN (C : Cx p R s m args meth c cc nL Ts own D tys A) {ref Cn : String} {T : u_T} {N ci index a : Nat} (hin : ∀ w ∈ u_ws Cn T N, w ∈ Ts) (q0 : Nat) {fs : List Value} (he : w[q0]? = some (a, .inr (ci, fs))) (hc : vwCl[ci]? = some (Cn, T, N)) (k0 : Nat) (hk : k0 < N) (ty0 : Nat → FieldType) (hty : ∀ k, k < N → parseFieldDescriptor (T k).2.2.1 = some (ty0 k)) (hnm : ∀ a, a < N → ∀ b, b < N → a ≠ b → (T a).2.1 ≠ (T b).2.1) {host : String} (hlink : (own, index, ref, (T k0).2.1, (T k0).2.2.1, host) ∈ zn_f) (href : ref = (T k0).1) (hfin : (T k0).2.2.2 = false) {v : Value} (hn : narrow (ty0 k0) v = v) (hfit : fits (ty0 k0) v = true) (hl0 : k0 < fs.length) (d : decode cc pc = .ok (.putfield index, 3)) {w' : va_W} (hw : w.set q0 (a, .inr (ci, fs.set k0 v)) = w') (k : Z p l e R s m args below meth c nL D A Q w' lv (pc + 3) st) : Z p l e R s m args below meth c nL D A Q w lv pc (v :: .ref a :: st) := by
  subst hw
  exact fun H locs ls hP hD hS hl => va_putN (D := D) (ci := ci) C.1 C.2.1 C.2.2.2.2.1 hin ty0 hty hnm C.2.2.2.1 C.2.2.2.2.2.2.1 hP hD hS q0 he hc k0 hk (va_Nw.use rfl (C.2.2.2.2.2.2.2.1.1 _ hlink)) (fun _ h9 => by rw [href]; exact h9) hfin (hty k0 hk) hn hfit hl0 d (fun H1 locs1 hP1 hD1 hS1 => k H1 locs1 ls hP1 hD1 hS1 hl)
theorem Z.iald (C : Cx p R s m args meth c cc nL Ts own D tys A) (q0 t0 : Nat) {a n : Nat} {cA : ClassId} {f : Nat → Int32} (ha : w[q0]? = some (a, .inl (cA, n, .inl f))) (ht : tys[t0]? = some (cA, .int)) {i : Int32} (j : Nat) (hi : i = nI j) (hj : j < n) (hn : n < 2 ^ 31) (d : decode cc pc = .ok (.iaload, 1)) {v : Int32} (hv : f j = v) (k : Z p l e R s m args below meth c nL D A Q w lv (pc + 1) (.int v :: st)) : Z p l e R s m args below meth c nL D A Q w lv pc (.int i :: .ref a :: st) := by
  subst hi; subst hv
  have e1 : (nI j).toNatClampNeg = j := nI_clamp (Nat.lt_trans hj hn)
  intro H locs ls hP hD hS hl
  refine va_iald C.1 C.2.1 C.2.2.2.2.2.2.1 hP q0 t0 ha ht (vp_in_nI hj hn) d ?_
  rw [e1]
  exact k H locs ls hP hD hS hl
theorem Z.cald (C : Cx p R s m args meth c cc nL Ts own D tys A) (q0 t0 : Nat) {a n : Nat} {cA : ClassId} {f : Nat → Int32} (ha : w[q0]? = some (a, .inl (cA, n, .inl f))) (ht : tys[t0]? = some (cA, .char)) {i : Int32} (j : Nat) (hi : i = nI j) (hj : j < n) (hn : n < 2 ^ 31) (d : decode cc pc = .ok (.caload, 1)) {v : Int32} (hv : f j = v) (k : Z p l e R s m args below meth c nL D A Q w lv (pc + 1) (.int v :: st)) : Z p l e R s m args below meth c nL D A Q w lv pc (.int i :: .ref a :: st) := by
  subst hi; subst hv
  have e1 : (nI j).toNatClampNeg = j := nI_clamp (Nat.lt_trans hj hn)
  intro H locs ls hP hD hS hl
  refine va_cald C.1 C.2.1 C.2.2.2.2.2.2.1 hP q0 t0 ha ht (vp_in_nI hj hn) d ?_
  rw [e1]
  exact k H locs ls hP hD hS hl
theorem Z.zald (C : Cx p R s m args meth c cc nL Ts own D tys A) (q0 t0 : Nat) {a n : Nat} {cA : ClassId} {f : Nat → Int32} (ha : w[q0]? = some (a, .inl (cA, n, .inl f))) (ht : tys[t0]? = some (cA, .boolean)) {i : Int32} (j : Nat) (hi : i = nI j) (hj : j < n) (hn : n < 2 ^ 31) (d : decode cc pc = .ok (.baload, 1)) {v : Int32} (hv : f j = v) (k : Z p l e R s m args below meth c nL D A Q w lv (pc + 1) (.int v :: st)) : Z p l e R s m args below meth c nL D A Q w lv pc (.int i :: .ref a :: st) := by
  subst hi; subst hv
  have e1 : (nI j).toNatClampNeg = j := nI_clamp (Nat.lt_trans hj hn)
  intro H locs ls hP hD hS hl
  refine va_zald C.1 C.2.1 C.2.2.2.2.2.2.1 hP q0 t0 ha ht (vp_in_nI hj hn) d ?_
  rw [e1]
  exact k H locs ls hP hD hS hl
theorem Z.iast (C : Cx p R s m args meth c cc nL Ts own D tys A) (q0 t0 : Nat) {a n : Nat} {cA : ClassId} {f : Nat → Int32} (ha : w[q0]? = some (a, .inl (cA, n, .inl f))) (ht : tys[t0]? = some (cA, .int)) {i x : Int32} (j : Nat) (hi : i = nI j) (hj : j < n) (hn : n < 2 ^ 31) (d : decode cc pc = .ok (.iastore, 1)) {v : Int32} (hx : x = v) {w' : va_W} (hw : w.set q0 (a, .inl (cA, n, .inl (upd f j v))) = w') (k : Z p l e R s m args below meth c nL D A Q w' lv (pc + 1) st) : Z p l e R s m args below meth c nL D A Q w lv pc (.int x :: .int i :: .ref a :: st) := by
  subst hi; subst hx; subst hw
  have e1 : (nI j).toNatClampNeg = j := nI_clamp (Nat.lt_trans hj hn)
  intro H locs ls hP hD hS hl
  refine va_iast C.1 C.2.1 C.2.2.2.2.2.2.1 hP hD hS q0 t0 ha ht (vp_in_nI hj hn) d (fun H1 locs1 hP1 hD1 hS1 => ?_)
  rw [e1] at hP1 hD1
  exact k H1 locs1 ls hP1 hD1 hS1 hl
theorem Z.cast (C : Cx p R s m args meth c cc nL Ts own D tys A) (q0 t0 : Nat) {a n : Nat} {cA : ClassId} {f : Nat → Int32} (ha : w[q0]? = some (a, .inl (cA, n, .inl f))) (ht : tys[t0]? = some (cA, .char)) {i x : Int32} (j : Nat) (hi : i = nI j) (hj : j < n) (hn : n < 2 ^ 31) (d : decode cc pc = .ok (.castore, 1)) {v : Int32} (hx : (vp_nar .char x) = v) {w' : va_W} (hw : w.set q0 (a, .inl (cA, n, .inl (upd f j v))) = w') (k : Z p l e R s m args below meth c nL D A Q w' lv (pc + 1) st) : Z p l e R s m args below meth c nL D A Q w lv pc (.int x :: .int i :: .ref a :: st) := by
  subst hi; subst hx; subst hw
  have e1 : (nI j).toNatClampNeg = j := nI_clamp (Nat.lt_trans hj hn)
  intro H locs ls hP hD hS hl
  refine va_cast C.1 C.2.1 C.2.2.2.2.2.2.1 hP hD hS q0 t0 ha ht (vp_in_nI hj hn) d (fun H1 locs1 hP1 hD1 hS1 => ?_)
  rw [e1] at hP1 hD1
  exact k H1 locs1 ls hP1 hD1 hS1 hl
theorem Z.zast (C : Cx p R s m args meth c cc nL Ts own D tys A) (q0 t0 : Nat) {a n : Nat} {cA : ClassId} {f : Nat → Int32} (ha : w[q0]? = some (a, .inl (cA, n, .inl f))) (ht : tys[t0]? = some (cA, .boolean)) {i x : Int32} (j : Nat) (hi : i = nI j) (hj : j < n) (hn : n < 2 ^ 31) (d : decode cc pc = .ok (.bastore, 1)) {v : Int32} (hx : (vp_nar .boolean x) = v) {w' : va_W} (hw : w.set q0 (a, .inl (cA, n, .inl (upd f j v))) = w') (k : Z p l e R s m args below meth c nL D A Q w' lv (pc + 1) st) : Z p l e R s m args below meth c nL D A Q w lv pc (.int x :: .int i :: .ref a :: st) := by
  subst hi; subst hx; subst hw
  have e1 : (nI j).toNatClampNeg = j := nI_clamp (Nat.lt_trans hj hn)
  intro H locs ls hP hD hS hl
  refine va_zast C.1 C.2.1 C.2.2.2.2.2.2.1 hP hD hS q0 t0 ha ht (vp_in_nI hj hn) d (fun H1 locs1 hP1 hD1 hS1 => ?_)
  rw [e1] at hP1 hD1
  exact k H1 locs1 ls hP1 hD1 hS1 hl
theorem Z.alen (C : Cx p R s m args meth c cc nL Ts own D tys A) (q0 t0 : Nat) {a : Nat} {cA : ClassId} {x : vp_A} (ha : w[q0]? = some (a, .inl (cA, x))) {ty : FieldType} (ht : tys[t0]? = some (cA, ty)) {v : Int32} (hv : Int32.ofNat x.1 = v) (d : decode cc pc = .ok (.arraylength, 1)) (k : Z p l e R s m args below meth c nL D A Q w lv (pc + 1) (.int v :: st)) : Z p l e R s m args below meth c nL D A Q w lv pc (.ref a :: st) := fun H locs ls hP hD hS hl => va_alen C.1 C.2.1 C.2.2.2.2.2.2.1 hP q0 t0 ha ht hv d (k H locs ls hP hD hS hl)
theorem Z.eqw {w' : va_W} {st' : List Value} (hw : w = w') (hs : st = st') (k : Z p l e R s m args below meth c nL D A Q w' lv pc st') : Z p l e R s m args below meth c nL D A Q w lv pc st := by subst hw; subst hs; exact k
theorem Z.callVi (C : Cx p R s m args meth c cc nL Ts own D tys A) {y : MethodName} {bytes : ByteArray} {maxL n idx nA : Nat} {ret : Option FieldType} {ws' ws'' : List Cond} {rv : Int32} {Cn : String} {T : u_T} {N ci b : Nat} {As stk : List Value} {fs : List Value} {w1 : va_W} (hM : Mi l y ws' n D tys (.ref b :: As) w rv w1) (hG : GoodIn Ts (wsV own idx Cn y ws')) (hw' : ws' = .code y bytes maxL ret :: ws'') (hd : y.cls = Cn ∧ y.cls ≠ "java/lang/invoke/MethodHandle" ∧ y.cls ≠ "java/lang/invoke/VarHandle" ∧ (parseMethodDescriptor y.desc).map (fun d => d.parameters.length) = some nA) (hR : n + 1 ≤ R.frames ∧ 8 + (maxL + 11) + 32 * n ≤ R.locals) (q0 : Nat) (he : w[q0]? = some (b, .inr (ci, fs))) (hc : vwCl[ci]? = some (Cn, T, N)) (hn : As.length = nA) (hst : (st.map fun v => v.category).sum ≤ 8) (hs : stk = As.reverse ++ .ref b :: st) (d : decode cc pc = .ok (.invokevirtual idx, 3)) (k : Z p l e R s m args below meth c nL D A Q w1 lv (pc + 3) (.int rv :: st)) : Z p l e R s m args below meth c nL D A Q w lv pc stk := by
  subst hs
  intro H locs ls hP hD hS hl
  have hFc : ∀ q, va_A w H.size q → A q := fun q h => by
    rcases h with ⟨k1, e1, h⟩ | h
    · exact hD.2 k1 _ h
    · exact C.2.2.2.2.2.2.2.2 q (Nat.le_trans hS.1 h)
  refine va_calli (va_runV (b := b) (As := As) (rest := st) ⟨C.1, C.2.1, C.2.2.1, C.2.2.2.1, C.2.2.2.2.1⟩ (hM H.size) (cwV nA C.2.2.2.2.1 hG hw' rfl rfl hd hR) ⟨bP_blind, va_recv C.2.2.2.2.2.2.1 hP hc he, fun U hU hW => ⟨rfl, by rw [hU], by rw [hU]; exact hP, va_K.moved hW.alike C.2.2.2.2.2.2.1, hD.weaken (fun _ _ _ _ => trivial), zn.warm hW C.2.2.2.2.2.2.2.1⟩⟩ rfl hn hl.1 rfl (lv_room hst) d ⟨Nat.zero_le _, Nat.zero_le _⟩) hS (fun q _ h => hFc q h) hFc (fun r u t H1 locs1 ht hvm hw hB hz1 hk1 hS1 => ?_)
  cases hw
  obtain ⟨hP1, hK1, hD1⟩ := hB
  rw [ht] at hP1
  exact k H1 locs1 ls hP1 (hD1.weaken (fun k1 q1 _ h => hFc q1.1 h)) hS1 hl
theorem Z.callVv (C : Cx p R s m args meth c cc nL Ts own D tys A) {y : MethodName} {bytes : ByteArray} {maxL n idx nA : Nat} {ret : Option FieldType} {ws' ws'' : List Cond} {Cn : String} {T : u_T} {N ci b : Nat} {As stk : List Value} {fs : List Value} {w1 : va_W} (hM : Mv l y ws' n D tys (.ref b :: As) w w1) (hG : GoodIn Ts (wsV own idx Cn y ws')) (hw' : ws' = .code y bytes maxL ret :: ws'') (hd : y.cls = Cn ∧ y.cls ≠ "java/lang/invoke/MethodHandle" ∧ y.cls ≠ "java/lang/invoke/VarHandle" ∧ (parseMethodDescriptor y.desc).map (fun d => d.parameters.length) = some nA) (hR : n + 1 ≤ R.frames ∧ 8 + (maxL + 11) + 32 * n ≤ R.locals) (q0 : Nat) (he : w[q0]? = some (b, .inr (ci, fs))) (hc : vwCl[ci]? = some (Cn, T, N)) (hn : As.length = nA) (hst : (st.map fun v => v.category).sum ≤ 8) (hs : stk = As.reverse ++ .ref b :: st) (d : decode cc pc = .ok (.invokevirtual idx, 3)) (k : Z p l e R s m args below meth c nL D A Q w1 lv (pc + 3) st) : Z p l e R s m args below meth c nL D A Q w lv pc stk := by
  subst hs
  intro H locs ls hP hD hS hl
  have hFc : ∀ q, va_A w H.size q → A q := fun q h => by
    rcases h with ⟨k1, e1, h⟩ | h
    · exact hD.2 k1 _ h
    · exact C.2.2.2.2.2.2.2.2 q (Nat.le_trans hS.1 h)
  refine va_callv (va_runV (b := b) (As := As) (rest := st) ⟨C.1, C.2.1, C.2.2.1, C.2.2.2.1, C.2.2.2.2.1⟩ (hM H.size) (cwV nA C.2.2.2.2.1 hG hw' rfl rfl hd hR) ⟨bP_blind, va_recv C.2.2.2.2.2.2.1 hP hc he, fun U hU hW => ⟨rfl, by rw [hU], by rw [hU]; exact hP, va_K.moved hW.alike C.2.2.2.2.2.2.1, hD.weaken (fun _ _ _ _ => trivial), zn.warm hW C.2.2.2.2.2.2.2.1⟩⟩ rfl hn hl.1 rfl (lv_room hst) d ⟨Nat.zero_le _, Nat.zero_le _⟩) hS (fun q _ h => hFc q h) hFc (fun u t H1 locs1 ht hvm hw hB hz1 hk1 hS1 => ?_)
  obtain ⟨hP1, hK1, hD1⟩ := hB
  rw [ht] at hP1
  exact k H1 locs1 ls hP1 (hD1.weaken (fun k1 q1 _ h => hFc q1.1 h)) hS1 hl
theorem Z.callVNi (C : Cx p R s m args meth c cc nL Ts own D tys A) {y : MethodName} {bytes : ByteArray} {maxL n idx nA : Nat} {ret : Option FieldType} {ws' ws'' : List Cond} {rv : Int32} {Cn : String} {T : u_T} {N ci b : Nat} {As stk : List Value} {fs : List Value} {w1 : va_W} (hM : Mi l y ws' n D tys (.ref b :: As) w rv w1) {host : String} (hG : GoodIn Ts ws') (hw' : ws' = .code y bytes maxL ret :: ws'') (hlk : (own, idx, y, host) ∈ zn_m) (hini : Cond.initialized y.cls ∈ Ts) (hinst : Cond.instanceMethod y ∈ Ts) (hsel : Cond.selects Cn y y ∈ Ts) (hd : y.cls ≠ "java/lang/invoke/MethodHandle" ∧ y.cls ≠ "java/lang/invoke/VarHandle" ∧ (parseMethodDescriptor y.desc).map (fun d => d.parameters.length) = some nA) (hR : n + 1 ≤ R.frames ∧ 8 + (maxL + 11) + 32 * n ≤ R.locals) (q0 : Nat) (he : w[q0]? = some (b, .inr (ci, fs))) (hc : vwCl[ci]? = some (Cn, T, N)) (hn : As.length = nA) (hst : (st.map fun v => v.category).sum ≤ 8) (hs : stk = As.reverse ++ .ref b :: st) (d : decode cc pc = .ok (.invokevirtual idx, 3)) (k : Z p l e R s m args below meth c nL D A Q w1 lv (pc + 3) (.int rv :: st)) : Z p l e R s m args below meth c nL D A Q w lv pc stk := by
  subst hs
  intro H locs ls hP hD hS hl
  have hFc : ∀ q, va_A w H.size q → A q := fun q h => by
    rcases h with ⟨k1, e1, h⟩ | h
    · exact hD.2 k1 _ h
    · exact C.2.2.2.2.2.2.2.2 q (Nat.le_trans hS.1 h)
  refine va_calli (va_runVN (b := b) (As := As) (rest := st) ⟨C.1, C.2.1, C.2.2.1, C.2.2.2.1, C.2.2.2.2.1⟩ (hM H.size) ⟨va_cnB nA C.2.2.2.2.1 hG hw' rfl rfl (C.2.2.2.2.2.2.2.1.2 _ hlk) (C.2.2.2.2.1 _ hini) hd hR, C.2.2.2.2.1 _ hinst, C.2.2.2.2.1 _ hsel⟩ ⟨bP_blind, va_recv C.2.2.2.2.2.2.1 hP hc he, fun U hU hW => ⟨rfl, by rw [hU], by rw [hU]; exact hP, va_K.moved hW.alike C.2.2.2.2.2.2.1, hD.weaken (fun _ _ _ _ => trivial), zn.warm hW C.2.2.2.2.2.2.2.1⟩⟩ rfl hn hl.1 rfl (lv_room hst) d ⟨Nat.zero_le _, Nat.zero_le _⟩) hS (fun q _ h => hFc q h) hFc (fun r u t H1 locs1 ht hvm hw hB hz1 hk1 hS1 => ?_)
  cases hw
  obtain ⟨hP1, hK1, hD1⟩ := hB
  rw [ht] at hP1
  exact k H1 locs1 ls hP1 (hD1.weaken (fun k1 q1 _ h => hFc q1.1 h)) hS1 hl
theorem Z.callVNv (C : Cx p R s m args meth c cc nL Ts own D tys A) {y : MethodName} {bytes : ByteArray} {maxL n idx nA : Nat} {ret : Option FieldType} {ws' ws'' : List Cond} {Cn : String} {T : u_T} {N ci b : Nat} {As stk : List Value} {fs : List Value} {w1 : va_W} (hM : Mv l y ws' n D tys (.ref b :: As) w w1) {host : String} (hG : GoodIn Ts ws') (hw' : ws' = .code y bytes maxL ret :: ws'') (hlk : (own, idx, y, host) ∈ zn_m) (hini : Cond.initialized y.cls ∈ Ts) (hinst : Cond.instanceMethod y ∈ Ts) (hsel : Cond.selects Cn y y ∈ Ts) (hd : y.cls ≠ "java/lang/invoke/MethodHandle" ∧ y.cls ≠ "java/lang/invoke/VarHandle" ∧ (parseMethodDescriptor y.desc).map (fun d => d.parameters.length) = some nA) (hR : n + 1 ≤ R.frames ∧ 8 + (maxL + 11) + 32 * n ≤ R.locals) (q0 : Nat) (he : w[q0]? = some (b, .inr (ci, fs))) (hc : vwCl[ci]? = some (Cn, T, N)) (hn : As.length = nA) (hst : (st.map fun v => v.category).sum ≤ 8) (hs : stk = As.reverse ++ .ref b :: st) (d : decode cc pc = .ok (.invokevirtual idx, 3)) (k : Z p l e R s m args below meth c nL D A Q w1 lv (pc + 3) st) : Z p l e R s m args below meth c nL D A Q w lv pc stk := by
  subst hs
  intro H locs ls hP hD hS hl
  have hFc : ∀ q, va_A w H.size q → A q := fun q h => by
    rcases h with ⟨k1, e1, h⟩ | h
    · exact hD.2 k1 _ h
    · exact C.2.2.2.2.2.2.2.2 q (Nat.le_trans hS.1 h)
  refine va_callv (va_runVN (b := b) (As := As) (rest := st) ⟨C.1, C.2.1, C.2.2.1, C.2.2.2.1, C.2.2.2.2.1⟩ (hM H.size) ⟨va_cnB nA C.2.2.2.2.1 hG hw' rfl rfl (C.2.2.2.2.2.2.2.1.2 _ hlk) (C.2.2.2.2.1 _ hini) hd hR, C.2.2.2.2.1 _ hinst, C.2.2.2.2.1 _ hsel⟩ ⟨bP_blind, va_recv C.2.2.2.2.2.2.1 hP hc he, fun U hU hW => ⟨rfl, by rw [hU], by rw [hU]; exact hP, va_K.moved hW.alike C.2.2.2.2.2.2.1, hD.weaken (fun _ _ _ _ => trivial), zn.warm hW C.2.2.2.2.2.2.2.1⟩⟩ rfl hn hl.1 rfl (lv_room hst) d ⟨Nat.zero_le _, Nat.zero_le _⟩) hS (fun q _ h => hFc q h) hFc (fun u t H1 locs1 ht hvm hw hB hz1 hk1 hS1 => ?_)
  obtain ⟨hP1, hK1, hD1⟩ := hB
  rw [ht] at hP1
  exact k H1 locs1 ls hP1 (hD1.weaken (fun k1 q1 _ h => hFc q1.1 h)) hS1 hl
theorem Z.callSi (C : Cx p R s m args meth c cc nL Ts own D tys A) {y : MethodName} {bytes : ByteArray} {maxL n idx nA : Nat} {ret : Option FieldType} {ws' ws'' : List Cond} {rv : Int32} {As stk : List Value} (hM : Mi l y ws' n D [] As [] rv []) (hG : GoodIn Ts (wsS own idx y ws')) (hw' : ws' = .code y bytes maxL ret :: ws'') (hd : y.cls = own ∧ y.cls ≠ "java/lang/invoke/MethodHandle" ∧ y.cls ≠ "java/lang/invoke/VarHandle" ∧ (parseMethodDescriptor y.desc).map (fun d => d.parameters.length) = some nA) (hR : n + 1 ≤ R.frames ∧ 8 + (maxL + 11) + 32 * n ≤ R.locals) (hn : As.length = nA) (hst : (st.map fun v => v.category).sum ≤ 8) (hs : stk = As.reverse ++ st) (d : decode cc pc = .ok (.invokestatic idx, 3)) (k : Z p l e R s m args below meth c nL D A Q w lv (pc + 3) (.int rv :: st)) : Z p l e R s m args below meth c nL D A Q w lv pc stk := by
  subst hs
  intro H locs ls hP hD hS hl
  have hFc : ∀ q, va_A [] H.size q → A q := fun q h => by
    rcases h with ⟨k1, e1, h⟩ | h
    · simp at h
    · exact C.2.2.2.2.2.2.2.2 q (Nat.le_trans hS.1 h)
  refine va_calli (va_runS (As := As) (rest := st) ⟨C.1, C.2.1, C.2.2.1, C.2.2.2.1, C.2.2.2.2.1⟩ (hM H.size) (cwS nA C.2.2.2.2.1 hG hw' rfl rfl hd hR) ⟨bP_blind, fun U hU hW => ⟨rfl, by rw [hU], fun k1 q1 h1 => by simp at h1, (va_K.moved hW.alike C.2.2.2.2.2.2.1).sub (tys' := []) [] rfl, ⟨fun i j p q h => by simp at h, fun k1 q1 h1 => by simp at h1⟩, zn.warm hW C.2.2.2.2.2.2.2.1⟩⟩ rfl hn hl.1 rfl (lv_room hst) d ⟨Nat.zero_le _, Nat.zero_le _⟩) hS (fun q _ h => hFc q h) hFc (fun r u t H1 locs1 ht hvm hw hB hz1 hk1 hS1 => ?_)
  cases hw
  refine k H1 locs1 ls (hP.kept (fun k1 q1 h1 => hk1 q1.1 (hP k1 q1 h1).lt (fun z => ?_))) hD hS1 hl
  rcases z with ⟨k2, e2, h2⟩ | h2
  · simp at h2
  · exact absurd (hP k1 q1 h1).lt (by omega)
theorem Z.callSNi (C : Cx p R s m args meth c cc nL Ts own D tys A) {y : MethodName} {bytes : ByteArray} {maxL n idx nA : Nat} {ret : Option FieldType} {ws' ws'' : List Cond} {rv : Int32} {As stk : List Value} (hM : Mi l y ws' n D [] As [] rv []) {host : String} (hG : GoodIn Ts ws') (hw' : ws' = .code y bytes maxL ret :: ws'') (hlk : (own, idx, y, host) ∈ zn_m) (hini : Cond.initialized y.cls ∈ Ts) (hstat : Cond.static y ∈ Ts) (hd : y.cls ≠ "java/lang/invoke/MethodHandle" ∧ y.cls ≠ "java/lang/invoke/VarHandle" ∧ (parseMethodDescriptor y.desc).map (fun d => d.parameters.length) = some nA) (hR : n + 1 ≤ R.frames ∧ 8 + (maxL + 11) + 32 * n ≤ R.locals) (hn : As.length = nA) (hst : (st.map fun v => v.category).sum ≤ 8) (hs : stk = As.reverse ++ st) (d : decode cc pc = .ok (.invokestatic idx, 3)) (k : Z p l e R s m args below meth c nL D A Q w lv (pc + 3) (.int rv :: st)) : Z p l e R s m args below meth c nL D A Q w lv pc stk := by
  subst hs
  intro H locs ls hP hD hS hl
  have hFc : ∀ q, va_A [] H.size q → A q := fun q h => by
    rcases h with ⟨k1, e1, h⟩ | h
    · simp at h
    · exact C.2.2.2.2.2.2.2.2 q (Nat.le_trans hS.1 h)
  refine va_calli (va_runSN (As := As) (rest := st) ⟨C.1, C.2.1, C.2.2.1, C.2.2.2.1, C.2.2.2.2.1⟩ (hM H.size) ⟨va_cnB nA C.2.2.2.2.1 hG hw' rfl rfl (C.2.2.2.2.2.2.2.1.2 _ hlk) (C.2.2.2.2.1 _ hini) hd hR, C.2.2.2.2.1 _ hstat, trivial⟩ ⟨bP_blind, fun U hU hW => ⟨rfl, by rw [hU], fun k1 q1 h1 => by simp at h1, (va_K.moved hW.alike C.2.2.2.2.2.2.1).sub (tys' := []) [] rfl, ⟨fun i j p q h => by simp at h, fun k1 q1 h1 => by simp at h1⟩, zn.warm hW C.2.2.2.2.2.2.2.1⟩⟩ rfl hn hl.1 rfl (lv_room hst) d ⟨Nat.zero_le _, Nat.zero_le _⟩) hS (fun q _ h => hFc q h) hFc (fun r u t H1 locs1 ht hvm hw hB hz1 hk1 hS1 => ?_)
  cases hw
  refine k H1 locs1 ls (hP.kept (fun k1 q1 h1 => hk1 q1.1 (hP k1 q1 h1).lt (fun z => ?_))) hD hS1 hl
  rcases z with ⟨k2, e2, h2⟩ | h2
  · simp at h2
  · exact absurd (hP k1 q1 h1).lt (by omega)
end ZR
end
section
abbrev QI (below : List Frame) (D : va_G) (tys : List (ClassId × FieldType)) (av : List Value) (w : va_W) (rv : Int32) (w1 : va_W) (s : State) : State → Prop := MQ below (qI D tys w rv w1 s.heap.size) av.toArray s 0 0 (va_A w s.heap.size)
abbrev QV (below : List Frame) (D : va_G) (tys : List (ClassId × FieldType)) (av : List Value) (w : va_W) (w1 : va_W) (s : State) : State → Prop := MQ below (qV D tys w w1 s.heap.size) av.toArray s 0 0 (va_A w s.heap.size)
theorem Z.sub {p : Program} {l : Launch} {e : Env} {R : Room} {s : State} {m : MethodId} {args : Array Value} {below : List Frame} {meth : Method} {c : Code} {nL : Nat} {D : va_G} {A : Nat → Prop} {Q : State → Prop} {w : va_W} {lv lv' : List (Nat × Value)} {pc : Nat} {st : List Value} (ks : List Nat) (h : lv_pick lv ks = lv') (k : Z p l e R s m args below meth c nL D A Q w lv' pc st) : Z p l e R s m args below meth c nL D A Q w lv pc st :=
  fun H locs ls hP hD hS hl => k H locs ls hP hD hS (lv_sub hl ks h)
theorem rm_ok {n k maxL : Nat} (h : n + 1 ≤ k) (hm : maxL ≤ 13) : n + 1 ≤ (rmN k).frames ∧ 8 + (maxL + 11) + 32 * n ≤ (rmN k).locals := ⟨h, by show _ ≤ 32 * k; omega⟩
theorem lgc_lt {x y : Int64} : lg_cmp x y < 0 ↔ x < y := by
  rw [← Int32.not_le, lg_cmp_ge, Int64.not_le]
theorem lgc_le {x y : Int64} : lg_cmp x y ≤ 0 ↔ ¬ y < x := by
  unfold lg_cmp; split
  · rename_i h; exact ⟨fun q => absurd q (by decide), fun q => absurd h q⟩
  · rename_i h; split <;> exact ⟨fun _ => h, fun _ => by decide⟩
theorem i64_of {x : Int32} (h : 0 ≤ x) : x.toInt64 = lN x.toNatClampNeg := by
  obtain ⟨j, hj, rfl⟩ := nI_of (Int32.not_lt.mpr h)
  rw [nI_l hj, nI_clamp hj]
abbrev CS : Type := (Nat → Int32) × (Nat → Int32) × (Nat → Int32) × Nat × Nat × Nat
/-- the reader's state: at, fault, number, loops, turns, and the code: kinds, firsts, seconds, size, statements, operators -/
abbrev RS : Type := Nat × Nat × Nat × Int32 × Nat × CS
abbrev wR (aR aT aC aK aF aS : Nat) (cC cI : ClassId) (tx : Nat → Int32) (len : Nat) (r : RS) : va_W :=
  [(aR, .inr (2, [.ref aT, .int (nI len), .ref aC, .int (nI r.1), .int (nI r.2.1), .long (lN r.2.2.1), .int r.2.2.2.1, .int (nI r.2.2.2.2.1)])), (aT, .inl (cC, 480, .inl tx)),
   (aC, .inr (0, [.ref aK, .ref aF, .ref aS, .int (nI r.2.2.2.2.2.2.2.2.1), .int (nI r.2.2.2.2.2.2.2.2.2.1), .int (nI r.2.2.2.2.2.2.2.2.2.2)])), (aK, .inl (cI, 480, .inl r.2.2.2.2.2.1)), (aF, .inl (cI, 480, .inl r.2.2.2.2.2.2.1)), (aS, .inl (cI, 480, .inl r.2.2.2.2.2.2.2.1))]
theorem b2i_fit (b : Bool) : fits .boolean (.int (b2i b)) = true := by cases b <;> decide
/-- the reader's state with another code -/
def rC (r : RS) (c : CS) : RS := (r.1, r.2.1, r.2.2.1, r.2.2.2.1, r.2.2.2.2.1, c)
abbrev csz (c : CS) : Nat := c.2.2.2.1
def ofOneF (op wd bits : Int32) : Int32 := if op = 60 then (wd <<< (bits &&& 31)) ||| (wd.toUInt32 >>> (((32 : Int32) - bits).toUInt32 &&& Int32.toUInt32 31)).toInt32 else if op = 62 then (wd.toUInt32 >>> (bits.toUInt32 &&& Int32.toUInt32 31)).toInt32 else wd ^^^ (-1)
def ofTwoF (op a b : Int32) : Int32 := if op = 43 then a + b else if op = 45 then a - b else if op = 42 then a * b else if op = 38 then a &&& b else if op = 124 then a ||| b else a ^^^ b
def cAdd (k f s : Int32) (c : CS) : CS := if csz c < 480 then (upd c.1 (csz c) k, upd c.2.1 (csz c) f, upd c.2.2.1 (csz c) s, csz c + 1, c.2.2.2.2) else c
def cEnds (many : Nat) (c : CS) : Bool := decide (many ≤ csz c ∧ c.1 (csz c - 1) = 1 ∧ (many = 2 → c.1 (csz c - 2) = 1))
def cOne (op bits : Int32) (c : CS) : CS := if cEnds 1 c = true then (c.1, upd c.2.1 (csz c - 1) (ofOneF op (c.2.1 (csz c - 1)) bits), c.2.2) else ((cAdd op bits 0 c).1, (cAdd op bits 0 c).2.1, (cAdd op bits 0 c).2.2.1, (cAdd op bits 0 c).2.2.2.1, (cAdd op bits 0 c).2.2.2.2.1, (cAdd op bits 0 c).2.2.2.2.2 + 1)
def cTwo (op : Int32) (c : CS) : CS := if cEnds 2 c = true then (c.1, upd c.2.1 (csz c - 1 - 1) (ofTwoF op (c.2.1 (csz c - 1 - 1)) (c.2.1 (csz c - 1))), c.2.2.1, csz c - 1, c.2.2.2.2) else ((cAdd op 0 0 c).1, (cAdd op 0 0 c).2.1, (cAdd op 0 0 c).2.2.1, (cAdd op 0 0 c).2.2.2.1, (cAdd op 0 0 c).2.2.2.2.1, (cAdd op 0 0 c).2.2.2.2.2 + 1)
def cSet (at_ : Nat) (v : Int32) (c : CS) : CS := if at_ < csz c then (c.1, upd c.2.1 at_ v, c.2.2) else c
theorem cAdd_sz {k f s : Int32} {c : CS} (h : csz c ≤ 480) : csz (cAdd k f s c) ≤ 480 := by
  unfold cAdd; split
  · show csz c + 1 ≤ 480; omega
  · exact h
theorem cOne_sz {k f : Int32} {c : CS} (h : csz c ≤ 480) : csz (cOne k f c) ≤ 480 := by
  unfold cOne; split
  · exact h
  · exact cAdd_sz (k := k) (f := f) (s := 0) h
theorem cTwo_sz {k : Int32} {c : CS} (h : csz c ≤ 480) : csz (cTwo k c) ≤ 480 := by
  unfold cTwo; split
  · show csz c - 1 ≤ 480; omega
  · exact cAdd_sz (k := k) (f := 0) (s := 0) h
theorem cSet_sz {k : Nat} {f : Int32} {c : CS} (h : csz c ≤ 480) : csz (cSet k f c) ≤ 480 := by
  unfold cSet; split <;> exact h
def hereF (tx : Nat → Int32) (len a : Nat) : Int32 := if a < len then tx a else 0
theorem here_lt {tx : Nat → Int32} {len a : Nat} {c : Int32} (h : hereF tx len a = c) (hc : c ≠ 0) : a < len := by
  unfold hereF at h; split at h
  · assumption
  · exact absurd h.symm hc
def digitF (c base : Int32) : Int32 := if (48 : Int32) ≤ c ∧ c ≤ 57 then c - 48 else if base = 16 ∧ (97 : Int32) ≤ c ∧ c ≤ 102 then c - 97 + 10 else (-1)
theorem dig_lt {tx : Nat → Int32} {len a : Nat} {b : Int32} (h : 0 ≤ digitF (hereF tx len a) b) : a < len := by
  unfold hereF at h; split at h
  · assumption
  · exfalso; revert h; unfold digitF
    rw [if_neg (by decide), if_neg (fun q => absurd q.2.1 (by decide))]; decide
def isOpF (c : Int32) : Bool := decide (c = 38 ∨ c = 42 ∨ c = 43 ∨ c = 45 ∨ c = 94 ∨ c = 124)
theorem isOp_lt {tx : Nat → Int32} {len a : Nat} (h : isOpF (hereF tx len a) = true) : a < len := by
  unfold hereF at h; split at h
  · assumption
  · exact absurd h (by decide)
def nameF (c : Int32) : Int32 := if (97 : Int32) ≤ c ∧ c ≤ 122 then c - 97 else (-1)
def mExpect (tx : Nat → Int32) (len : Nat) (c : Int32) (r : RS) : Bool × RS := if hereF tx len r.1 = c then (true, (r.1 + 1, r.2)) else (false, (r.1, r.1 + 1, r.2.2))
def freeF (tx : Nat → Int32) (len : Nat) (r : RS) : Int32 := if 0 ≤ nameF (hereF tx len r.1) ∧ r.2.2.2.1 >>> (nameF (hereF tx len r.1) &&& 31) &&& 1 = 0 then nameF (hereF tx len r.1) else (-1)
def mNumEnd (lo hi start md dg : Nat) (r : RS) : Bool × RS := if dg = 0 then (false, (r.1, r.1 + 1, r.2.2)) else if md < dg ∨ lN r.2.2.1 < lN lo ∨ lN hi < lN r.2.2.1 then (false, (r.1, start + 1, r.2.2)) else (true, r)
def mNumLoop (tx : Nat → Int32) (len lo hi start md base : Nat) (b32 : Int32) : Nat → Nat → RS → Bool × RS
  | 0, dg, r => mNumEnd lo hi start md dg r
  | n + 1, dg, r => if 0 ≤ digitF (hereF tx len r.1) b32 then mNumLoop tx len lo hi start md base b32 n (dg + 1) (if dg < md then (r.1 + 1, r.2.1, r.2.2.1 * base + (digitF (hereF tx len r.1) b32).toNatClampNeg, r.2.2.2) else (r.1 + 1, r.2)) else mNumEnd lo hi start md dg r
def mNumber (tx : Nat → Int32) (len lo hi : Nat) (r : RS) : Bool × RS := if hereF tx len r.1 = 36 then mNumLoop tx len lo hi r.1 8 16 16 480 0 (r.1 + 1, r.2.1, 0, r.2.2.2) else mNumLoop tx len lo hi r.1 10 10 10 480 0 (r.1, r.2.1, 0, r.2.2.2)
/-- what the reader's numbers keep to -/
def InvR (len : Nat) (r : RS) : Prop := r.1 ≤ len ∧ len ≤ 480 ∧ csz r.2.2.2.2.2 ≤ 480 ∧ r.2.2.2.2.1 ≤ 640
end
section
set_option maxHeartbeats 4000000 in
set_option maxRecDepth 100000 in
theorem c_ofOne {l : Launch} {D : va_G} (p0 : Int32) (p1 : Int32) (p2 : Int32) : Mi l yX3_ofOne wsX3_ofOne 0 D [] [.int p0, .int p1, .int p2] [] (ofOneF p0 p1 p2) [] := by
  refine Mi.of (cc := cX3_ofOne) (maxL := 3) (by decide) rfl (Nat.le_of_ble_eq_true rfl) ?_
  intro p e s m below meth c A C hr hA
  show Z p l e (rmN _) s m _ below meth c _ D A _ _ [(0, .int p0), (1, .int p1), (2, .int p2)] 0 []
  refine Z.iload_n C dX3_ofOne_0 0 rfl rfl ?_
  by_cases s1 : p0 = 60
  · refine Z.lookup C (off := 27) 28 dX3_ofOne_1 (by decide) (by rw [s1]; decide) (by decide) ?_
    refine Z.iload_n C dX3_ofOne_28 1 rfl rfl ?_
    refine Z.iload_n C dX3_ofOne_29 2 rfl rfl ?_
    refine Z.ishl C (v := (p1 <<< (p2 &&& 31))) dX3_ofOne_30 rfl ?_
    refine Z.iload_n C dX3_ofOne_31 1 rfl rfl ?_
    refine Z.bipush C (v := (nI 32)) dX3_ofOne_32 (by decide) ?_
    refine Z.iload_n C dX3_ofOne_34 2 rfl rfl ?_
    refine Z.isub C (v := ((32 : Int32) - p2)) dX3_ofOne_35 rfl ?_
    refine Z.iushr C (v := ((p1.toUInt32 >>> (((32 : Int32) - p2).toUInt32 &&& Int32.toUInt32 31)).toInt32)) dX3_ofOne_36 rfl ?_
    refine Z.ior C (v := ((p1 <<< (p2 &&& 31)) ||| ((p1.toUInt32 >>> (((32 : Int32) - p2).toUInt32 &&& Int32.toUInt32 31)).toInt32))) dX3_ofOne_37 rfl ?_
    refine Z.iret C hr hA dX3_ofOne_38 ?_ ?_
    · first | rfl | (simp [nI_0, ofOneF, (eq_true s1)]; done) | (simp_all [nI_0, ofOneF]; done)
    · rfl
  by_cases s2 : p0 = 62
  · refine Z.lookup C (off := 38) 39 dX3_ofOne_1 (by decide) (by rw [s2]; decide) (by decide) ?_
    refine Z.iload_n C dX3_ofOne_39 1 rfl rfl ?_
    refine Z.iload_n C dX3_ofOne_40 2 rfl rfl ?_
    refine Z.iushr C (v := ((p1.toUInt32 >>> (p2.toUInt32 &&& Int32.toUInt32 31)).toInt32)) dX3_ofOne_41 rfl ?_
    refine Z.iret C hr hA dX3_ofOne_42 ?_ ?_
    · first | rfl | (simp [nI_0, ofOneF, (eq_false s1), (eq_true s2)]; done) | (simp_all [nI_0, ofOneF]; done)
    · rfl
  · refine Z.lookup C (off := 42) 43 dX3_ofOne_1 (by decide) (by show Op.lookupswitch.offset [(60, 27), (62, 38)] _ _ = _; rw [lv_osw s1 (k := 60) (by decide), lv_osw s2 (k := 62) (by decide)]; rfl) (by decide) ?_
    refine Z.iload_n C dX3_ofOne_43 1 rfl rfl ?_
    refine Z.iconst C (v := (-1)) dX3_ofOne_44 (by decide) ?_
    refine Z.ixor C (v := (p1 ^^^ (-1))) dX3_ofOne_45 rfl ?_
    refine Z.iret C hr hA dX3_ofOne_46 ?_ ?_
    · first | rfl | (simp [nI_0, ofOneF, (eq_false s1), (eq_false s2)]; done) | (simp_all [nI_0, ofOneF]; done)
    · rfl
set_option maxHeartbeats 4000000 in
set_option maxRecDepth 100000 in
theorem c_ofTwo {l : Launch} {D : va_G} (p0 : Int32) (p1 : Int32) (p2 : Int32) : Mi l yX3_ofTwo wsX3_ofTwo 0 D [] [.int p0, .int p1, .int p2] [] (ofTwoF p0 p1 p2) [] := by
  refine Mi.of (cc := cX3_ofTwo) (maxL := 3) (by decide) rfl (Nat.le_of_ble_eq_true rfl) ?_
  intro p e s m below meth c A C hr hA
  show Z p l e (rmN _) s m _ below meth c _ D A _ _ [(0, .int p0), (1, .int p1), (2, .int p2)] 0 []
  refine Z.iload_n C dX3_ofTwo_0 0 rfl rfl ?_
  by_cases s1 : p0 = 38
  · refine Z.lookup C (off := 63) 64 dX3_ofTwo_1 (by decide) (by rw [s1]; decide) (by decide) ?_
    refine Z.iload_n C dX3_ofTwo_64 1 rfl rfl ?_
    refine Z.iload_n C dX3_ofTwo_65 2 rfl rfl ?_
    refine Z.iand C (v := (p1 &&& p2)) dX3_ofTwo_66 rfl ?_
    refine Z.iret C hr hA dX3_ofTwo_67 ?_ ?_
    · first | rfl | (simp [nI_0, ofTwoF, (eq_true s1)]; done) | (simp_all [nI_0, ofTwoF]; done)
    · rfl
  by_cases s2 : p0 = 42
  · refine Z.lookup C (off := 59) 60 dX3_ofTwo_1 (by decide) (by rw [s2]; decide) (by decide) ?_
    refine Z.iload_n C dX3_ofTwo_60 1 rfl rfl ?_
    refine Z.iload_n C dX3_ofTwo_61 2 rfl rfl ?_
    refine Z.imul C (v := (p1 * p2)) dX3_ofTwo_62 rfl ?_
    refine Z.iret C hr hA dX3_ofTwo_63 ?_ ?_
    · first | rfl | (simp [nI_0, ofTwoF, (eq_false s1), (eq_true s2)]; done) | (simp_all [nI_0, ofTwoF]; done)
    · rfl
  by_cases s3 : p0 = 43
  · refine Z.lookup C (off := 51) 52 dX3_ofTwo_1 (by decide) (by rw [s3]; decide) (by decide) ?_
    refine Z.iload_n C dX3_ofTwo_52 1 rfl rfl ?_
    refine Z.iload_n C dX3_ofTwo_53 2 rfl rfl ?_
    refine Z.iadd C (v := (p1 + p2)) dX3_ofTwo_54 rfl ?_
    refine Z.iret C hr hA dX3_ofTwo_55 ?_ ?_
    · first | rfl | (simp [nI_0, ofTwoF, (eq_false s1), (eq_false s2), (eq_true s3)]; done) | (simp_all [nI_0, ofTwoF]; done)
    · rfl
  by_cases s4 : p0 = 45
  · refine Z.lookup C (off := 55) 56 dX3_ofTwo_1 (by decide) (by rw [s4]; decide) (by decide) ?_
    refine Z.iload_n C dX3_ofTwo_56 1 rfl rfl ?_
    refine Z.iload_n C dX3_ofTwo_57 2 rfl rfl ?_
    refine Z.isub C (v := (p1 - p2)) dX3_ofTwo_58 rfl ?_
    refine Z.iret C hr hA dX3_ofTwo_59 ?_ ?_
    · first | rfl | (simp [nI_0, ofTwoF, (eq_false s1), (eq_false s2), (eq_false s3), (eq_true s4)]; done) | (simp_all [nI_0, ofTwoF]; done)
    · rfl
  by_cases s5 : p0 = 124
  · refine Z.lookup C (off := 67) 68 dX3_ofTwo_1 (by decide) (by rw [s5]; decide) (by decide) ?_
    refine Z.iload_n C dX3_ofTwo_68 1 rfl rfl ?_
    refine Z.iload_n C dX3_ofTwo_69 2 rfl rfl ?_
    refine Z.ior C (v := (p1 ||| p2)) dX3_ofTwo_70 rfl ?_
    refine Z.iret C hr hA dX3_ofTwo_71 ?_ ?_
    · first | rfl | (simp [nI_0, ofTwoF, (eq_false s1), (eq_false s2), (eq_false s3), (eq_false s4), (eq_true s5)]; done) | (simp_all [nI_0, ofTwoF]; done)
    · rfl
  · refine Z.lookup C (off := 71) 72 dX3_ofTwo_1 (by decide) (by show Op.lookupswitch.offset [(38, 63), (42, 59), (43, 51), (45, 55), (124, 67)] _ _ = _; rw [lv_osw s1 (k := 38) (by decide), lv_osw s2 (k := 42) (by decide), lv_osw s3 (k := 43) (by decide), lv_osw s4 (k := 45) (by decide), lv_osw s5 (k := 124) (by decide)]; rfl) (by decide) ?_
    refine Z.iload_n C dX3_ofTwo_72 1 rfl rfl ?_
    refine Z.iload_n C dX3_ofTwo_73 2 rfl rfl ?_
    refine Z.ixor C (v := (p1 ^^^ p2)) dX3_ofTwo_74 rfl ?_
    refine Z.iret C hr hA dX3_ofTwo_75 ?_ ?_
    · first | rfl | (simp [nI_0, ofTwoF, (eq_false s1), (eq_false s2), (eq_false s3), (eq_false s4), (eq_false s5)]; done) | (simp_all [nI_0, ofTwoF]; done)
    · rfl
set_option maxHeartbeats 4000000 in
set_option maxRecDepth 100000 in
theorem c_nameOf {l : Launch} {D : va_G} (p0 : Int32) : Mi l yX2_nameOf wsX2_nameOf 0 D [] [.int p0] [] (nameF p0) [] := by
  refine Mi.of (cc := cX2_nameOf) (maxL := 1) (by decide) rfl (Nat.le_of_ble_eq_true rfl) ?_
  intro p e s m below meth c A C hr hA
  show Z p l e (rmN _) s m _ below meth c _ D A _ _ [(0, .int p0)] 0 []
  refine Z.iload_n C dX2_nameOf_0 0 rfl rfl ?_
  refine Z.bipush C (v := (nI 97)) dX2_nameOf_1 (by decide) ?_
  refine Z.icmp_lt C 19 dX2_nameOf_3 (by decide) (fun c1 => ?_) (fun c1 => ?_)
  · skip
    replace c1 : ¬ (97 : Int32) ≤ p0 := Int32.not_le.mpr c1
    refine Z.iconst C (v := (-1)) dX2_nameOf_19 (by decide) ?_
    refine Z.iret C hr hA dX2_nameOf_20 ?_ ?_
    · first | rfl | (simp [nI_0, nameF, (eq_false c1)]; done) | (simp_all [nI_0, nameF]; done)
    · rfl
  · skip
    replace c1 : (97 : Int32) ≤ p0 := Int32.not_lt.mp c1
    refine Z.iload_n C dX2_nameOf_6 0 rfl rfl ?_
    refine Z.bipush C (v := (nI 122)) dX2_nameOf_7 (by decide) ?_
    refine Z.icmp_gt C 19 dX2_nameOf_9 (by decide) (fun c2 => ?_) (fun c2 => ?_)
    · skip
      replace c2 : ¬ p0 ≤ (122 : Int32) := Int32.not_le.mpr c2
      refine Z.iconst C (v := (-1)) dX2_nameOf_19 (by decide) ?_
      refine Z.iret C hr hA dX2_nameOf_20 ?_ ?_
      · first | rfl | (simp [nI_0, nameF, (eq_true c1), (eq_false c2)]; done) | (simp_all [nI_0, nameF]; done)
      · rfl
    · skip
      replace c2 : p0 ≤ (122 : Int32) := Int32.not_lt.mp c2
      refine Z.iload_n C dX2_nameOf_12 0 rfl rfl ?_
      refine Z.bipush C (v := (nI 97)) dX2_nameOf_13 (by decide) ?_
      refine Z.isub C (v := (p0 - (97 : Int32))) dX2_nameOf_15 rfl ?_
      refine Z.goto C 20 dX2_nameOf_16 (by decide) ?_
      refine Z.iret C hr hA dX2_nameOf_20 ?_ ?_
      · first | rfl | (simp [nI_0, nameF, (eq_true c1), (eq_true c2)]; done) | (simp_all [nI_0, nameF]; done)
      · rfl
end
section
set_option maxHeartbeats 4000000 in
set_option maxRecDepth 100000 in
theorem c_empty {l : Launch} {D : va_G} {aR aT aC aK aF aS : Nat} {cC cI : ClassId} {tx : Nat → Int32} {len : Nat} (r : RS)  (hI : InvR len r) : Mv l yX0_empty wsX0_empty 1 D [(cC, .char), (cI, .int)] [.ref aC] (wR aR aT aC aK aF aS cC cI tx len r) (wR aR aT aC aK aF aS cC cI tx len (rC r (r.2.2.2.2.2.1, r.2.2.2.2.2.2.1, r.2.2.2.2.2.2.2.1, 0, 0, 0))) := by
  refine Mv.of (cc := cX0_empty) (maxL := 1) (by decide) rfl (Nat.le_of_ble_eq_true rfl) ?_
  intro p e s m below meth c A C hr hA
  have in0 : ∀ w ∈ wsX00, w ∈ wsX0_empty := by decide +kernel
  show Z p l e (rmN _) s m _ below meth c _ D A _ _ [(0, .ref aC)] 0 []
  obtain ⟨hI1, hI2, hI3, hI4⟩ := hI
  dsimp only [csz] at hI3
  refine Z.aload_n C dX0_empty_0 0 rfl rfl ?_
  refine Z.iconst C (v := (nI 0)) dX0_empty_1 (by decide) ?_
  refine Z.put C in0 2 rfl rfl 3 (by decide) tyX0 tyX0_ok nmX0 (by decide +kernel) rfl rfl rfl rfl (Nat.le_of_ble_eq_true rfl) dX0_empty_2 (w' := (wR aR aT aC aK aF aS cC cI tx len (r.1, r.2.1, r.2.2.1, r.2.2.2.1, r.2.2.2.2.1, r.2.2.2.2.2.1, r.2.2.2.2.2.2.1, r.2.2.2.2.2.2.2.1, 0, r.2.2.2.2.2.2.2.2.2))) rfl ?_
  refine Z.aload_n C dX0_empty_5 0 rfl rfl ?_
  refine Z.iconst C (v := (nI 0)) dX0_empty_6 (by decide) ?_
  refine Z.put C in0 2 rfl rfl 4 (by decide) tyX0 tyX0_ok nmX0 (by decide +kernel) rfl rfl rfl rfl (Nat.le_of_ble_eq_true rfl) dX0_empty_7 (w' := (wR aR aT aC aK aF aS cC cI tx len (r.1, r.2.1, r.2.2.1, r.2.2.2.1, r.2.2.2.2.1, r.2.2.2.2.2.1, r.2.2.2.2.2.2.1, r.2.2.2.2.2.2.2.1, 0, 0, r.2.2.2.2.2.2.2.2.2.2))) rfl ?_
  refine Z.aload_n C dX0_empty_10 0 rfl rfl ?_
  refine Z.iconst C (v := (nI 0)) dX0_empty_11 (by decide) ?_
  refine Z.put C in0 2 rfl rfl 5 (by decide) tyX0 tyX0_ok nmX0 (by decide +kernel) rfl rfl rfl rfl (Nat.le_of_ble_eq_true rfl) dX0_empty_12 (w' := (wR aR aT aC aK aF aS cC cI tx len (r.1, r.2.1, r.2.2.1, r.2.2.2.1, r.2.2.2.2.1, r.2.2.2.2.2.1, r.2.2.2.2.2.2.1, r.2.2.2.2.2.2.2.1, 0, 0, 0))) rfl ?_
  refine Z.vret C hr hA dX0_empty_15 ?_
  (refine congrArg (wR aR aT aC aK aF aS cC cI tx len) ?_; first | rfl | (simp [nI_0, rC]; done) | (simp_all [nI_0, rC]; done))
set_option maxHeartbeats 4000000 in
set_option maxRecDepth 100000 in
theorem c_add {l : Launch} {D : va_G} {aR aT aC aK aF aS : Nat} {cC cI : ClassId} {tx : Nat → Int32} {len : Nat} (r : RS) (p0 : Int32) (p1 : Int32) (p2 : Int32) (hI : InvR len r) : Mv l yX0_add wsX0_add 1 D [(cC, .char), (cI, .int)] [.ref aC, .int p0, .int p1, .int p2] (wR aR aT aC aK aF aS cC cI tx len r) (wR aR aT aC aK aF aS cC cI tx len (rC r (cAdd p0 p1 p2 r.2.2.2.2.2))) := by
  refine Mv.of (cc := cX0_add) (maxL := 4) (by decide) rfl (Nat.le_of_ble_eq_true rfl) ?_
  intro p e s m below meth c A C hr hA
  have in0 : ∀ w ∈ wsX00, w ∈ wsX0_add := by decide +kernel
  show Z p l e (rmN _) s m _ below meth c _ D A _ _ [(0, .ref aC), (1, .int p0), (2, .int p1), (3, .int p2)] 0 []
  obtain ⟨hI1, hI2, hI3, hI4⟩ := hI
  dsimp only [csz] at hI3
  refine Z.aload_n C dX0_add_0 0 rfl rfl ?_
  refine Z.get C in0 2 rfl rfl 3 (by decide) (by decide +kernel) rfl rfl dX0_add_1 ?_
  refine Z.aload_n C dX0_add_4 0 rfl rfl ?_
  refine Z.get C in0 2 rfl rfl 0 (by decide) (by decide +kernel) rfl rfl dX0_add_5 ?_
  refine Z.alen C 3 1 rfl rfl (v := nI 480) rfl dX0_add_8 ?_
  refine Z.icmp_ge C 52 dX0_add_9 (by decide) (fun c1 => ?_) (fun c1 => ?_)
  · skip
    replace c1 : ¬ r.2.2.2.2.2.2.2.2.1 < 480 := Nat.not_lt.mpr ((nI_leI (by omega) (by omega)).mp c1)
    refine Z.vret C hr hA dX0_add_52 ?_
    (refine congrArg (wR aR aT aC aK aF aS cC cI tx len) ?_; first | rfl | (simp [nI_0, rC, cAdd, csz, (eq_false c1)]; done) | (simp_all [nI_0, rC, cAdd, csz]; done))
  · skip
    replace c1 : r.2.2.2.2.2.2.2.2.1 < 480 := Nat.not_le.mp (mt (nI_leI (by omega) (by omega)).mpr c1)
    refine Z.aload_n C dX0_add_12 0 rfl rfl ?_
    refine Z.get C in0 2 rfl rfl 0 (by decide) (by decide +kernel) rfl rfl dX0_add_13 ?_
    refine Z.aload_n C dX0_add_16 0 rfl rfl ?_
    refine Z.get C in0 2 rfl rfl 3 (by decide) (by decide +kernel) rfl rfl dX0_add_17 ?_
    refine Z.iload_n C dX0_add_20 1 rfl rfl ?_
    refine Z.iast C 3 1 rfl rfl r.2.2.2.2.2.2.2.2.1 rfl (by omega) (by decide) dX0_add_21 (v := p0) rfl (w' := (wR aR aT aC aK aF aS cC cI tx len (r.1, r.2.1, r.2.2.1, r.2.2.2.1, r.2.2.2.2.1, (upd r.2.2.2.2.2.1 r.2.2.2.2.2.2.2.2.1 p0), r.2.2.2.2.2.2))) rfl ?_
    refine Z.aload_n C dX0_add_22 0 rfl rfl ?_
    refine Z.get C in0 2 rfl rfl 1 (by decide) (by decide +kernel) rfl rfl dX0_add_23 ?_
    refine Z.aload_n C dX0_add_26 0 rfl rfl ?_
    refine Z.get C in0 2 rfl rfl 3 (by decide) (by decide +kernel) rfl rfl dX0_add_27 ?_
    refine Z.iload_n C dX0_add_30 2 rfl rfl ?_
    refine Z.iast C 4 1 rfl rfl r.2.2.2.2.2.2.2.2.1 rfl (by omega) (by decide) dX0_add_31 (v := p1) rfl (w' := (wR aR aT aC aK aF aS cC cI tx len (r.1, r.2.1, r.2.2.1, r.2.2.2.1, r.2.2.2.2.1, (upd r.2.2.2.2.2.1 r.2.2.2.2.2.2.2.2.1 p0), (upd r.2.2.2.2.2.2.1 r.2.2.2.2.2.2.2.2.1 p1), r.2.2.2.2.2.2.2))) rfl ?_
    refine Z.aload_n C dX0_add_32 0 rfl rfl ?_
    refine Z.get C in0 2 rfl rfl 2 (by decide) (by decide +kernel) rfl rfl dX0_add_33 ?_
    refine Z.aload_n C dX0_add_36 0 rfl rfl ?_
    refine Z.get C in0 2 rfl rfl 3 (by decide) (by decide +kernel) rfl rfl dX0_add_37 ?_
    refine Z.iload_n C dX0_add_40 3 rfl rfl ?_
    refine Z.iast C 5 1 rfl rfl r.2.2.2.2.2.2.2.2.1 rfl (by omega) (by decide) dX0_add_41 (v := p2) rfl (w' := (wR aR aT aC aK aF aS cC cI tx len (r.1, r.2.1, r.2.2.1, r.2.2.2.1, r.2.2.2.2.1, (upd r.2.2.2.2.2.1 r.2.2.2.2.2.2.2.2.1 p0), (upd r.2.2.2.2.2.2.1 r.2.2.2.2.2.2.2.2.1 p1), (upd r.2.2.2.2.2.2.2.1 r.2.2.2.2.2.2.2.2.1 p2), r.2.2.2.2.2.2.2.2))) rfl ?_
    refine Z.aload_n C dX0_add_42 0 rfl rfl ?_
    refine Z.dup C dX0_add_43 rfl ?_
    refine Z.get C in0 2 rfl rfl 3 (by decide) (by decide +kernel) rfl rfl dX0_add_44 ?_
    refine Z.iconst C (v := (nI 1)) dX0_add_47 (by decide) ?_
    refine Z.iadd C (v := (nI (r.2.2.2.2.2.2.2.2.1 + 1))) dX0_add_48 (nI_add r.2.2.2.2.2.2.2.2.1 1) ?_
    refine Z.put C in0 2 rfl rfl 3 (by decide) tyX0 tyX0_ok nmX0 (by decide +kernel) rfl rfl rfl rfl (Nat.le_of_ble_eq_true rfl) dX0_add_49 (w' := (wR aR aT aC aK aF aS cC cI tx len (r.1, r.2.1, r.2.2.1, r.2.2.2.1, r.2.2.2.2.1, (upd r.2.2.2.2.2.1 r.2.2.2.2.2.2.2.2.1 p0), (upd r.2.2.2.2.2.2.1 r.2.2.2.2.2.2.2.2.1 p1), (upd r.2.2.2.2.2.2.2.1 r.2.2.2.2.2.2.2.2.1 p2), r.2.2.2.2.2.2.2.2.1 + 1, r.2.2.2.2.2.2.2.2.2))) rfl ?_
    refine Z.vret C hr hA dX0_add_52 ?_
    (refine congrArg (wR aR aT aC aK aF aS cC cI tx len) ?_; first | rfl | (simp [nI_0, rC, cAdd, csz, (eq_true c1)]; done) | (simp_all [nI_0, rC, cAdd, csz]; done))
set_option maxHeartbeats 4000000 in
set_option maxRecDepth 100000 in
theorem c_ends1 {l : Launch} {D : va_G} {aR aT aC aK aF aS : Nat} {cC cI : ClassId} {tx : Nat → Int32} {len : Nat} (r : RS)  (hI : InvR len r) : Mi l yX0_endsInNumbers wsX0_endsInNumbers 1 D [(cC, .char), (cI, .int)] [.ref aC, .int (nI 1)] (wR aR aT aC aK aF aS cC cI tx len r) (b2i (cEnds 1 r.2.2.2.2.2)) (wR aR aT aC aK aF aS cC cI tx len r) := by
  refine Mi.of (cc := cX0_endsInNumbers) (maxL := 3) (by decide) rfl (Nat.le_of_ble_eq_true rfl) ?_
  intro p e s m below meth c A C hr hA
  have in0 : ∀ w ∈ wsX00, w ∈ wsX0_endsInNumbers := by decide +kernel
  show Z p l e (rmN _) s m _ below meth c _ D A _ _ [(0, .ref aC), (1, .int (nI 1))] 0 []
  obtain ⟨hI1, hI2, hI3, hI4⟩ := hI
  dsimp only [csz] at hI3
  refine Z.aload_n C dX0_endsInNumbers_0 0 rfl rfl ?_
  refine Z.get C in0 2 rfl rfl 3 (by decide) (by decide +kernel) rfl rfl dX0_endsInNumbers_1 ?_
  refine Z.iload_n C dX0_endsInNumbers_4 1 rfl rfl ?_
  refine Z.icmp_ge C 10 dX0_endsInNumbers_5 (by decide) (fun c1 => ?_) (fun c1 => ?_)
  · skip
    replace c1 : ¬ r.2.2.2.2.2.2.2.2.1 < 1 := Nat.not_lt.mpr ((nI_leI (by omega) (by omega)).mp c1)
    refine Z.iconst C (v := (nI 1)) dX0_endsInNumbers_10 (by decide) ?_
    refine Z.istore_n C (lv' := [(2, .int (nI 1)), (0, .ref aC), (1, .int (nI 1))]) dX0_endsInNumbers_11 rfl (by decide) rfl ?_
    refine Z.iload_n C dX0_endsInNumbers_12 0 rfl rfl ?_
    refine Z.iload_n C dX0_endsInNumbers_13 2 rfl rfl ?_
    refine Z.icmp_gt C 40 dX0_endsInNumbers_14 (by decide) (fun c2 => ?_) (fun c2 => ?_)
    · skip
      replace c2 : 1 < 1 := (nI_ltI (by omega) (by omega)).mp c2
      exact absurd c2 (by decide)
    · skip
      replace c2 : ¬ 1 < 1 := mt (nI_ltI (by omega) (by omega)).mpr c2
      refine Z.aload_n C dX0_endsInNumbers_17 1 rfl rfl ?_
      refine Z.get C in0 2 rfl rfl 0 (by decide) (by decide +kernel) rfl rfl dX0_endsInNumbers_18 ?_
      refine Z.aload_n C dX0_endsInNumbers_21 1 rfl rfl ?_
      refine Z.get C in0 2 rfl rfl 3 (by decide) (by decide +kernel) rfl rfl dX0_endsInNumbers_22 ?_
      refine Z.iload_n C dX0_endsInNumbers_25 0 rfl rfl ?_
      refine Z.isub C (v := (nI (r.2.2.2.2.2.2.2.2.1 - 1))) dX0_endsInNumbers_26 (pk_sub (a := r.2.2.2.2.2.2.2.2.1) (b := 1) (by omega)) ?_
      refine Z.iald C 3 1 rfl rfl (r.2.2.2.2.2.2.2.2.1 - 1) rfl (by omega) (by decide) dX0_endsInNumbers_27 (v := (r.2.2.2.2.2.1 (r.2.2.2.2.2.2.2.2.1 - 1))) rfl ?_
      refine Z.iconst C (v := (nI 1)) dX0_endsInNumbers_28 (by decide) ?_
      refine Z.icmp_eq C 34 dX0_endsInNumbers_29 (by decide) (fun c3 => ?_) (fun c3 => ?_)
      · skip
        replace c3 : (r.2.2.2.2.2.1 (r.2.2.2.2.2.2.2.2.1 - 1)) = (1 : Int32) := c3
        refine Z.iinc C (v := (nI 2)) (lv' := [(2, .int (nI 2)), (0, .ref aC), (1, .int (nI 1))]) dX0_endsInNumbers_34 0 rfl (nI_add 1 1) (by decide) rfl ?_
        refine Z.goto C 12 dX0_endsInNumbers_37 (by decide) ?_
        refine Z.iload_n C dX0_endsInNumbers_12 0 rfl rfl ?_
        refine Z.iload_n C dX0_endsInNumbers_13 2 rfl rfl ?_
        refine Z.icmp_gt C 40 dX0_endsInNumbers_14 (by decide) (fun c4 => ?_) (fun c4 => ?_)
        · skip
          replace c4 : 1 < 2 := (nI_ltI (by omega) (by omega)).mp c4
          refine Z.iconst C (v := (nI 1)) dX0_endsInNumbers_40 (by decide) ?_
          refine Z.zret C hr hA dX0_endsInNumbers_41 (b := true) rfl ?_ ?_
          · first | exact congrArg b2i (decide_eq_true ⟨by dsimp only [csz]; omega, by assumption, by intro _; first | assumption | omega⟩).symm | exact congrArg b2i (decide_eq_false (fun h => by first | (have h1 := h.1; dsimp only [csz] at h1; omega) | (exact absurd h.2.1 (by assumption)) | (exact absurd (h.2.2 rfl) (by assumption)))).symm
          · (refine congrArg (wR aR aT aC aK aF aS cC cI tx len) ?_; first | rfl | (simp [nI_0, cEnds, csz, (eq_false c1), (eq_false c2), (eq_true c3), (eq_true c4)]; done) | (simp_all [nI_0, cEnds, csz]; done))
        · skip
          replace c4 : ¬ 1 < 2 := mt (nI_ltI (by omega) (by omega)).mpr c4
          exact absurd c4 (by decide)
      · skip
        replace c3 : ¬ (r.2.2.2.2.2.1 (r.2.2.2.2.2.2.2.2.1 - 1)) = (1 : Int32) := c3
        refine Z.iconst C (v := (nI 0)) dX0_endsInNumbers_32 (by decide) ?_
        refine Z.zret C hr hA dX0_endsInNumbers_33 (b := false) rfl ?_ ?_
        · first | exact congrArg b2i (decide_eq_true ⟨by dsimp only [csz]; omega, by assumption, by intro _; first | assumption | omega⟩).symm | exact congrArg b2i (decide_eq_false (fun h => by first | (have h1 := h.1; dsimp only [csz] at h1; omega) | (exact absurd h.2.1 (by assumption)) | (exact absurd (h.2.2 rfl) (by assumption)))).symm
        · (refine congrArg (wR aR aT aC aK aF aS cC cI tx len) ?_; first | rfl | (simp [nI_0, cEnds, csz, (eq_false c1), (eq_false c2), (eq_false c3)]; done) | (simp_all [nI_0, cEnds, csz]; done))
  · skip
    replace c1 : r.2.2.2.2.2.2.2.2.1 < 1 := Nat.not_le.mp (mt (nI_leI (by omega) (by omega)).mpr c1)
    refine Z.iconst C (v := (nI 0)) dX0_endsInNumbers_8 (by decide) ?_
    refine Z.zret C hr hA dX0_endsInNumbers_9 (b := false) rfl ?_ ?_
    · first | exact congrArg b2i (decide_eq_true ⟨by dsimp only [csz]; omega, by assumption, by intro _; first | assumption | omega⟩).symm | exact congrArg b2i (decide_eq_false (fun h => by first | (have h1 := h.1; dsimp only [csz] at h1; omega) | (exact absurd h.2.1 (by assumption)) | (exact absurd (h.2.2 rfl) (by assumption)))).symm
    · (refine congrArg (wR aR aT aC aK aF aS cC cI tx len) ?_; first | rfl | (simp [nI_0, cEnds, csz, (eq_true c1)]; done) | (simp_all [nI_0, cEnds, csz]; done))
set_option maxHeartbeats 4000000 in
set_option maxRecDepth 100000 in
theorem c_ends2 {l : Launch} {D : va_G} {aR aT aC aK aF aS : Nat} {cC cI : ClassId} {tx : Nat → Int32} {len : Nat} (r : RS)  (hI : InvR len r) : Mi l yX0_endsInNumbers wsX0_endsInNumbers 1 D [(cC, .char), (cI, .int)] [.ref aC, .int (nI 2)] (wR aR aT aC aK aF aS cC cI tx len r) (b2i (cEnds 2 r.2.2.2.2.2)) (wR aR aT aC aK aF aS cC cI tx len r) := by
  refine Mi.of (cc := cX0_endsInNumbers) (maxL := 3) (by decide) rfl (Nat.le_of_ble_eq_true rfl) ?_
  intro p e s m below meth c A C hr hA
  have in0 : ∀ w ∈ wsX00, w ∈ wsX0_endsInNumbers := by decide +kernel
  show Z p l e (rmN _) s m _ below meth c _ D A _ _ [(0, .ref aC), (1, .int (nI 2))] 0 []
  obtain ⟨hI1, hI2, hI3, hI4⟩ := hI
  dsimp only [csz] at hI3
  refine Z.aload_n C dX0_endsInNumbers_0 0 rfl rfl ?_
  refine Z.get C in0 2 rfl rfl 3 (by decide) (by decide +kernel) rfl rfl dX0_endsInNumbers_1 ?_
  refine Z.iload_n C dX0_endsInNumbers_4 1 rfl rfl ?_
  refine Z.icmp_ge C 10 dX0_endsInNumbers_5 (by decide) (fun c1 => ?_) (fun c1 => ?_)
  · skip
    replace c1 : ¬ r.2.2.2.2.2.2.2.2.1 < 2 := Nat.not_lt.mpr ((nI_leI (by omega) (by omega)).mp c1)
    refine Z.iconst C (v := (nI 1)) dX0_endsInNumbers_10 (by decide) ?_
    refine Z.istore_n C (lv' := [(2, .int (nI 1)), (0, .ref aC), (1, .int (nI 2))]) dX0_endsInNumbers_11 rfl (by decide) rfl ?_
    refine Z.iload_n C dX0_endsInNumbers_12 0 rfl rfl ?_
    refine Z.iload_n C dX0_endsInNumbers_13 2 rfl rfl ?_
    refine Z.icmp_gt C 40 dX0_endsInNumbers_14 (by decide) (fun c2 => ?_) (fun c2 => ?_)
    · skip
      replace c2 : 2 < 1 := (nI_ltI (by omega) (by omega)).mp c2
      exact absurd c2 (by decide)
    · skip
      replace c2 : ¬ 2 < 1 := mt (nI_ltI (by omega) (by omega)).mpr c2
      refine Z.aload_n C dX0_endsInNumbers_17 1 rfl rfl ?_
      refine Z.get C in0 2 rfl rfl 0 (by decide) (by decide +kernel) rfl rfl dX0_endsInNumbers_18 ?_
      refine Z.aload_n C dX0_endsInNumbers_21 1 rfl rfl ?_
      refine Z.get C in0 2 rfl rfl 3 (by decide) (by decide +kernel) rfl rfl dX0_endsInNumbers_22 ?_
      refine Z.iload_n C dX0_endsInNumbers_25 0 rfl rfl ?_
      refine Z.isub C (v := (nI (r.2.2.2.2.2.2.2.2.1 - 1))) dX0_endsInNumbers_26 (pk_sub (a := r.2.2.2.2.2.2.2.2.1) (b := 1) (by omega)) ?_
      refine Z.iald C 3 1 rfl rfl (r.2.2.2.2.2.2.2.2.1 - 1) rfl (by omega) (by decide) dX0_endsInNumbers_27 (v := (r.2.2.2.2.2.1 (r.2.2.2.2.2.2.2.2.1 - 1))) rfl ?_
      refine Z.iconst C (v := (nI 1)) dX0_endsInNumbers_28 (by decide) ?_
      refine Z.icmp_eq C 34 dX0_endsInNumbers_29 (by decide) (fun c3 => ?_) (fun c3 => ?_)
      · skip
        replace c3 : (r.2.2.2.2.2.1 (r.2.2.2.2.2.2.2.2.1 - 1)) = (1 : Int32) := c3
        refine Z.iinc C (v := (nI 2)) (lv' := [(2, .int (nI 2)), (0, .ref aC), (1, .int (nI 2))]) dX0_endsInNumbers_34 0 rfl (nI_add 1 1) (by decide) rfl ?_
        refine Z.goto C 12 dX0_endsInNumbers_37 (by decide) ?_
        refine Z.iload_n C dX0_endsInNumbers_12 0 rfl rfl ?_
        refine Z.iload_n C dX0_endsInNumbers_13 2 rfl rfl ?_
        refine Z.icmp_gt C 40 dX0_endsInNumbers_14 (by decide) (fun c4 => ?_) (fun c4 => ?_)
        · skip
          replace c4 : 2 < 2 := (nI_ltI (by omega) (by omega)).mp c4
          exact absurd c4 (by decide)
        · skip
          replace c4 : ¬ 2 < 2 := mt (nI_ltI (by omega) (by omega)).mpr c4
          refine Z.aload_n C dX0_endsInNumbers_17 1 rfl rfl ?_
          refine Z.get C in0 2 rfl rfl 0 (by decide) (by decide +kernel) rfl rfl dX0_endsInNumbers_18 ?_
          refine Z.aload_n C dX0_endsInNumbers_21 1 rfl rfl ?_
          refine Z.get C in0 2 rfl rfl 3 (by decide) (by decide +kernel) rfl rfl dX0_endsInNumbers_22 ?_
          refine Z.iload_n C dX0_endsInNumbers_25 0 rfl rfl ?_
          refine Z.isub C (v := (nI (r.2.2.2.2.2.2.2.2.1 - 2))) dX0_endsInNumbers_26 (pk_sub (a := r.2.2.2.2.2.2.2.2.1) (b := 2) (by omega)) ?_
          refine Z.iald C 3 1 rfl rfl (r.2.2.2.2.2.2.2.2.1 - 2) rfl (by omega) (by decide) dX0_endsInNumbers_27 (v := (r.2.2.2.2.2.1 (r.2.2.2.2.2.2.2.2.1 - 2))) rfl ?_
          refine Z.iconst C (v := (nI 1)) dX0_endsInNumbers_28 (by decide) ?_
          refine Z.icmp_eq C 34 dX0_endsInNumbers_29 (by decide) (fun c5 => ?_) (fun c5 => ?_)
          · skip
            replace c5 : (r.2.2.2.2.2.1 (r.2.2.2.2.2.2.2.2.1 - 2)) = (1 : Int32) := c5
            refine Z.iinc C (v := (nI 3)) (lv' := [(2, .int (nI 3)), (0, .ref aC), (1, .int (nI 2))]) dX0_endsInNumbers_34 0 rfl (nI_add 2 1) (by decide) rfl ?_
            refine Z.goto C 12 dX0_endsInNumbers_37 (by decide) ?_
            refine Z.iload_n C dX0_endsInNumbers_12 0 rfl rfl ?_
            refine Z.iload_n C dX0_endsInNumbers_13 2 rfl rfl ?_
            refine Z.icmp_gt C 40 dX0_endsInNumbers_14 (by decide) (fun c6 => ?_) (fun c6 => ?_)
            · skip
              replace c6 : 2 < 3 := (nI_ltI (by omega) (by omega)).mp c6
              refine Z.iconst C (v := (nI 1)) dX0_endsInNumbers_40 (by decide) ?_
              refine Z.zret C hr hA dX0_endsInNumbers_41 (b := true) rfl ?_ ?_
              · first | exact congrArg b2i (decide_eq_true ⟨by dsimp only [csz]; omega, by assumption, by intro _; first | assumption | omega⟩).symm | exact congrArg b2i (decide_eq_false (fun h => by first | (have h1 := h.1; dsimp only [csz] at h1; omega) | (exact absurd h.2.1 (by assumption)) | (exact absurd (h.2.2 rfl) (by assumption)))).symm
              · (refine congrArg (wR aR aT aC aK aF aS cC cI tx len) ?_; first | rfl | (simp [nI_0, cEnds, csz, (eq_false c1), (eq_false c2), (eq_true c3), (eq_false c4), (eq_true c5), (eq_true c6)]; done) | (simp_all [nI_0, cEnds, csz]; done))
            · skip
              replace c6 : ¬ 2 < 3 := mt (nI_ltI (by omega) (by omega)).mpr c6
              exact absurd c6 (by decide)
          · skip
            replace c5 : ¬ (r.2.2.2.2.2.1 (r.2.2.2.2.2.2.2.2.1 - 2)) = (1 : Int32) := c5
            refine Z.iconst C (v := (nI 0)) dX0_endsInNumbers_32 (by decide) ?_
            refine Z.zret C hr hA dX0_endsInNumbers_33 (b := false) rfl ?_ ?_
            · first | exact congrArg b2i (decide_eq_true ⟨by dsimp only [csz]; omega, by assumption, by intro _; first | assumption | omega⟩).symm | exact congrArg b2i (decide_eq_false (fun h => by first | (have h1 := h.1; dsimp only [csz] at h1; omega) | (exact absurd h.2.1 (by assumption)) | (exact absurd (h.2.2 rfl) (by assumption)))).symm
            · (refine congrArg (wR aR aT aC aK aF aS cC cI tx len) ?_; first | rfl | (simp [nI_0, cEnds, csz, (eq_false c1), (eq_false c2), (eq_true c3), (eq_false c4), (eq_false c5)]; done) | (simp_all [nI_0, cEnds, csz]; done))
      · skip
        replace c3 : ¬ (r.2.2.2.2.2.1 (r.2.2.2.2.2.2.2.2.1 - 1)) = (1 : Int32) := c3
        refine Z.iconst C (v := (nI 0)) dX0_endsInNumbers_32 (by decide) ?_
        refine Z.zret C hr hA dX0_endsInNumbers_33 (b := false) rfl ?_ ?_
        · first | exact congrArg b2i (decide_eq_true ⟨by dsimp only [csz]; omega, by assumption, by intro _; first | assumption | omega⟩).symm | exact congrArg b2i (decide_eq_false (fun h => by first | (have h1 := h.1; dsimp only [csz] at h1; omega) | (exact absurd h.2.1 (by assumption)) | (exact absurd (h.2.2 rfl) (by assumption)))).symm
        · (refine congrArg (wR aR aT aC aK aF aS cC cI tx len) ?_; first | rfl | (simp [nI_0, cEnds, csz, (eq_false c1), (eq_false c2), (eq_false c3)]; done) | (simp_all [nI_0, cEnds, csz]; done))
  · skip
    replace c1 : r.2.2.2.2.2.2.2.2.1 < 2 := Nat.not_le.mp (mt (nI_leI (by omega) (by omega)).mpr c1)
    refine Z.iconst C (v := (nI 0)) dX0_endsInNumbers_8 (by decide) ?_
    refine Z.zret C hr hA dX0_endsInNumbers_9 (b := false) rfl ?_ ?_
    · first | exact congrArg b2i (decide_eq_true ⟨by dsimp only [csz]; omega, by assumption, by intro _; first | assumption | omega⟩).symm | exact congrArg b2i (decide_eq_false (fun h => by first | (have h1 := h.1; dsimp only [csz] at h1; omega) | (exact absurd h.2.1 (by assumption)) | (exact absurd (h.2.2 rfl) (by assumption)))).symm
    · (refine congrArg (wR aR aT aC aK aF aS cC cI tx len) ?_; first | rfl | (simp [nI_0, cEnds, csz, (eq_true c1)]; done) | (simp_all [nI_0, cEnds, csz]; done))
set_option maxHeartbeats 4000000 in
set_option maxRecDepth 100000 in
theorem c_one {l : Launch} {D : va_G} {aR aT aC aK aF aS : Nat} {cC cI : ClassId} {tx : Nat → Int32} {len : Nat} (r : RS) (p0 : Int32) (p1 : Int32) (hI : InvR len r) : Mv l yX0_addOfOne wsX0_addOfOne 2 D [(cC, .char), (cI, .int)] [.ref aC, .int p0, .int p1] (wR aR aT aC aK aF aS cC cI tx len r) (wR aR aT aC aK aF aS cC cI tx len (rC r (cOne p0 p1 r.2.2.2.2.2))) := by
  refine Mv.of (cc := cX0_addOfOne) (maxL := 3) (by decide) rfl (Nat.le_of_ble_eq_true rfl) ?_
  intro p e s m below meth c A C hr hA
  have in0 : ∀ w ∈ wsX00, w ∈ wsX0_addOfOne := by decide +kernel
  show Z p l e (rmN _) s m _ below meth c _ D A _ _ [(0, .ref aC), (1, .int p0), (2, .int p1)] 0 []
  obtain ⟨hI1, hI2, hI3, hI4⟩ := hI
  dsimp only [csz] at hI3
  refine Z.aload_n C dX0_addOfOne_0 0 rfl rfl ?_
  refine Z.iconst C (v := (nI 1)) dX0_addOfOne_1 (by decide) ?_
  refine Z.callVi C (nA := 1) (As := [.int (nI 1)]) (st := []) (c_ends1 r ⟨by first | omega | (dsimp only; omega), by omega, by first | omega | (dsimp only [csz]; omega), by first | omega | (dsimp only; omega)⟩) gX0_addOfOne_X0_endsInNumbers rfl (by decide +kernel) (rm_ok (by omega) (by decide)) 2 rfl rfl rfl (Nat.le_of_ble_eq_true rfl) rfl dX0_addOfOne_2 ?_
  refine Z.if_eq C 38 dX0_addOfOne_5 (by decide) (fun c1 => ?_) (fun c1 => ?_)
  · skip
    replace c1 : cEnds 1 r.2.2.2.2.2 = false := b2i_0.mp c1
    refine Z.aload_n C dX0_addOfOne_38 0 rfl rfl ?_
    refine Z.iload_n C dX0_addOfOne_39 1 rfl rfl ?_
    refine Z.iload_n C dX0_addOfOne_40 2 rfl rfl ?_
    refine Z.iconst C (v := (nI 0)) dX0_addOfOne_41 (by decide) ?_
    refine Z.callVv C (nA := 3) (As := [.int p0, .int p1, .int (0 : Int32)]) (st := []) (c_add r p0 p1 (0 : Int32) ⟨by first | omega | (dsimp only; omega), by omega, by first | omega | (dsimp only [csz]; omega), by first | omega | (dsimp only; omega)⟩) gX0_addOfOne_X0_add rfl (by decide +kernel) (rm_ok (by omega) (by decide)) 2 rfl rfl rfl (Nat.le_of_ble_eq_true rfl) rfl dX0_addOfOne_42 ?_
    generalize e2 : cAdd p0 p1 (0 : Int32) r.2.2.2.2.2 = x2
    have b2 : x2.2.2.2.1 ≤ 480 := by rw [← e2]; exact cAdd_sz (by first | omega | (dsimp only [csz]; omega))
    refine Z.aload_n C dX0_addOfOne_45 0 rfl rfl ?_
    refine Z.dup C dX0_addOfOne_46 rfl ?_
    refine Z.get C in0 2 rfl rfl 5 (by decide) (by decide +kernel) rfl rfl dX0_addOfOne_47 ?_
    refine Z.iconst C (v := (nI 1)) dX0_addOfOne_50 (by decide) ?_
    refine Z.iadd C (v := (nI (x2.2.2.2.2.2 + 1))) dX0_addOfOne_51 (nI_add x2.2.2.2.2.2 1) ?_
    refine Z.put C in0 2 rfl rfl 5 (by decide) tyX0 tyX0_ok nmX0 (by decide +kernel) rfl rfl rfl rfl (Nat.le_of_ble_eq_true rfl) dX0_addOfOne_52 (w' := (wR aR aT aC aK aF aS cC cI tx len (r.1, r.2.1, r.2.2.1, r.2.2.2.1, r.2.2.2.2.1, x2.1, x2.2.1, x2.2.2.1, x2.2.2.2.1, x2.2.2.2.2.1, x2.2.2.2.2.2 + 1))) rfl ?_
    refine Z.vret C hr hA dX0_addOfOne_55 ?_
    (refine congrArg (wR aR aT aC aK aF aS cC cI tx len) ?_; first | rfl | (simp [nI_0, rC, cOne, csz, c1, e2]; done) | (simp_all [nI_0, rC, cOne, csz]; done))
  · skip
    replace c1 : cEnds 1 r.2.2.2.2.2 = true := b2i_n0.mp c1
    have c1b : 1 ≤ r.2.2.2.2.2.2.2.2.1 := (of_decide_eq_true c1).1
    refine Z.aload_n C dX0_addOfOne_8 0 rfl rfl ?_
    refine Z.get C in0 2 rfl rfl 1 (by decide) (by decide +kernel) rfl rfl dX0_addOfOne_9 ?_
    refine Z.aload_n C dX0_addOfOne_12 0 rfl rfl ?_
    refine Z.get C in0 2 rfl rfl 3 (by decide) (by decide +kernel) rfl rfl dX0_addOfOne_13 ?_
    refine Z.iconst C (v := (nI 1)) dX0_addOfOne_16 (by decide) ?_
    refine Z.isub C (v := (nI (r.2.2.2.2.2.2.2.2.1 - 1))) dX0_addOfOne_17 (pk_sub (a := r.2.2.2.2.2.2.2.2.1) (b := 1) (by omega)) ?_
    refine Z.iload_n C dX0_addOfOne_18 1 rfl rfl ?_
    refine Z.aload_n C dX0_addOfOne_19 0 rfl rfl ?_
    refine Z.get C in0 2 rfl rfl 1 (by decide) (by decide +kernel) rfl rfl dX0_addOfOne_20 ?_
    refine Z.aload_n C dX0_addOfOne_23 0 rfl rfl ?_
    refine Z.get C in0 2 rfl rfl 3 (by decide) (by decide +kernel) rfl rfl dX0_addOfOne_24 ?_
    refine Z.iconst C (v := (nI 1)) dX0_addOfOne_27 (by decide) ?_
    refine Z.isub C (v := (nI (r.2.2.2.2.2.2.2.2.1 - 1))) dX0_addOfOne_28 (pk_sub (a := r.2.2.2.2.2.2.2.2.1) (b := 1) (by omega)) ?_
    refine Z.iald C 4 1 rfl rfl (r.2.2.2.2.2.2.2.2.1 - 1) rfl (by omega) (by decide) dX0_addOfOne_29 (v := (r.2.2.2.2.2.2.1 (r.2.2.2.2.2.2.2.2.1 - 1))) rfl ?_
    refine Z.iload_n C dX0_addOfOne_30 2 rfl rfl ?_
    refine Z.callSNi C (nA := 3) (As := [.int p0, .int (r.2.2.2.2.2.2.1 (r.2.2.2.2.2.2.2.2.1 - 1)), .int p1]) (st := [.int (nI (r.2.2.2.2.2.2.2.2.1 - 1)), .ref aF]) (host := "RoundCompiler") (c_ofOne p0 (r.2.2.2.2.2.2.1 (r.2.2.2.2.2.2.2.2.1 - 1)) p1) gX0_addOfOne_X3_ofOne_n35 rfl (by decide +kernel) (by decide +kernel) (by decide +kernel) (by decide +kernel) (rm_ok (by omega) (by decide)) rfl (Nat.le_of_ble_eq_true rfl) rfl dX0_addOfOne_31 ?_
    refine Z.iast C 4 1 rfl rfl (r.2.2.2.2.2.2.2.2.1 - 1) rfl (by omega) (by decide) dX0_addOfOne_34 (v := (ofOneF p0 (r.2.2.2.2.2.2.1 (r.2.2.2.2.2.2.2.2.1 - 1)) p1)) rfl (w' := (wR aR aT aC aK aF aS cC cI tx len (r.1, r.2.1, r.2.2.1, r.2.2.2.1, r.2.2.2.2.1, r.2.2.2.2.2.1, (upd r.2.2.2.2.2.2.1 (r.2.2.2.2.2.2.2.2.1 - 1) (ofOneF p0 (r.2.2.2.2.2.2.1 (r.2.2.2.2.2.2.2.2.1 - 1)) p1)), r.2.2.2.2.2.2.2))) rfl ?_
    refine Z.goto C 55 dX0_addOfOne_35 (by decide) ?_
    refine Z.vret C hr hA dX0_addOfOne_55 ?_
    (refine congrArg (wR aR aT aC aK aF aS cC cI tx len) ?_; first | rfl | (simp [nI_0, rC, cOne, csz, c1]; done) | (simp_all [nI_0, rC, cOne, csz]; done))
set_option maxHeartbeats 4000000 in
set_option maxRecDepth 100000 in
theorem c_two {l : Launch} {D : va_G} {aR aT aC aK aF aS : Nat} {cC cI : ClassId} {tx : Nat → Int32} {len : Nat} (r : RS) (p0 : Int32) (hI : InvR len r) : Mv l yX0_addOfTwo wsX0_addOfTwo 2 D [(cC, .char), (cI, .int)] [.ref aC, .int p0] (wR aR aT aC aK aF aS cC cI tx len r) (wR aR aT aC aK aF aS cC cI tx len (rC r (cTwo p0 r.2.2.2.2.2))) := by
  refine Mv.of (cc := cX0_addOfTwo) (maxL := 2) (by decide) rfl (Nat.le_of_ble_eq_true rfl) ?_
  intro p e s m below meth c A C hr hA
  have in0 : ∀ w ∈ wsX00, w ∈ wsX0_addOfTwo := by decide +kernel
  show Z p l e (rmN _) s m _ below meth c _ D A _ _ [(0, .ref aC), (1, .int p0)] 0 []
  obtain ⟨hI1, hI2, hI3, hI4⟩ := hI
  dsimp only [csz] at hI3
  refine Z.aload_n C dX0_addOfTwo_0 0 rfl rfl ?_
  refine Z.iconst C (v := (nI 2)) dX0_addOfTwo_1 (by decide) ?_
  refine Z.callVi C (nA := 1) (As := [.int (nI 2)]) (st := []) (c_ends2 r ⟨by first | omega | (dsimp only; omega), by omega, by first | omega | (dsimp only [csz]; omega), by first | omega | (dsimp only; omega)⟩) gX0_addOfTwo_X0_endsInNumbers rfl (by decide +kernel) (rm_ok (by omega) (by decide)) 2 rfl rfl rfl (Nat.le_of_ble_eq_true rfl) rfl dX0_addOfTwo_2 ?_
  refine Z.if_eq C 56 dX0_addOfTwo_5 (by decide) (fun c1 => ?_) (fun c1 => ?_)
  · skip
    replace c1 : cEnds 2 r.2.2.2.2.2 = false := b2i_0.mp c1
    refine Z.aload_n C dX0_addOfTwo_56 0 rfl rfl ?_
    refine Z.iload_n C dX0_addOfTwo_57 1 rfl rfl ?_
    refine Z.iconst C (v := (nI 0)) dX0_addOfTwo_58 (by decide) ?_
    refine Z.iconst C (v := (nI 0)) dX0_addOfTwo_59 (by decide) ?_
    refine Z.callVv C (nA := 3) (As := [.int p0, .int (0 : Int32), .int (0 : Int32)]) (st := []) (c_add r p0 (0 : Int32) (0 : Int32) ⟨by first | omega | (dsimp only; omega), by omega, by first | omega | (dsimp only [csz]; omega), by first | omega | (dsimp only; omega)⟩) gX0_addOfTwo_X0_add rfl (by decide +kernel) (rm_ok (by omega) (by decide)) 2 rfl rfl rfl (Nat.le_of_ble_eq_true rfl) rfl dX0_addOfTwo_60 ?_
    generalize e2 : cAdd p0 (0 : Int32) (0 : Int32) r.2.2.2.2.2 = x2
    have b2 : x2.2.2.2.1 ≤ 480 := by rw [← e2]; exact cAdd_sz (by first | omega | (dsimp only [csz]; omega))
    refine Z.aload_n C dX0_addOfTwo_63 0 rfl rfl ?_
    refine Z.dup C dX0_addOfTwo_64 rfl ?_
    refine Z.get C in0 2 rfl rfl 5 (by decide) (by decide +kernel) rfl rfl dX0_addOfTwo_65 ?_
    refine Z.iconst C (v := (nI 1)) dX0_addOfTwo_68 (by decide) ?_
    refine Z.iadd C (v := (nI (x2.2.2.2.2.2 + 1))) dX0_addOfTwo_69 (nI_add x2.2.2.2.2.2 1) ?_
    refine Z.put C in0 2 rfl rfl 5 (by decide) tyX0 tyX0_ok nmX0 (by decide +kernel) rfl rfl rfl rfl (Nat.le_of_ble_eq_true rfl) dX0_addOfTwo_70 (w' := (wR aR aT aC aK aF aS cC cI tx len (r.1, r.2.1, r.2.2.1, r.2.2.2.1, r.2.2.2.2.1, x2.1, x2.2.1, x2.2.2.1, x2.2.2.2.1, x2.2.2.2.2.1, x2.2.2.2.2.2 + 1))) rfl ?_
    refine Z.vret C hr hA dX0_addOfTwo_73 ?_
    (refine congrArg (wR aR aT aC aK aF aS cC cI tx len) ?_; first | rfl | (simp [nI_0, rC, cTwo, csz, c1, e2]; done) | (simp_all [nI_0, rC, cTwo, csz]; done))
  · skip
    replace c1 : cEnds 2 r.2.2.2.2.2 = true := b2i_n0.mp c1
    have c1b : 2 ≤ r.2.2.2.2.2.2.2.2.1 := (of_decide_eq_true c1).1
    refine Z.aload_n C dX0_addOfTwo_8 0 rfl rfl ?_
    refine Z.dup C dX0_addOfTwo_9 rfl ?_
    refine Z.get C in0 2 rfl rfl 3 (by decide) (by decide +kernel) rfl rfl dX0_addOfTwo_10 ?_
    refine Z.iconst C (v := (nI 1)) dX0_addOfTwo_13 (by decide) ?_
    refine Z.isub C (v := (nI (r.2.2.2.2.2.2.2.2.1 - 1))) dX0_addOfTwo_14 (pk_sub (a := r.2.2.2.2.2.2.2.2.1) (b := 1) (by omega)) ?_
    refine Z.put C in0 2 rfl rfl 3 (by decide) tyX0 tyX0_ok nmX0 (by decide +kernel) rfl rfl rfl rfl (Nat.le_of_ble_eq_true rfl) dX0_addOfTwo_15 (w' := (wR aR aT aC aK aF aS cC cI tx len (r.1, r.2.1, r.2.2.1, r.2.2.2.1, r.2.2.2.2.1, r.2.2.2.2.2.1, r.2.2.2.2.2.2.1, r.2.2.2.2.2.2.2.1, r.2.2.2.2.2.2.2.2.1 - 1, r.2.2.2.2.2.2.2.2.2))) rfl ?_
    refine Z.aload_n C dX0_addOfTwo_18 0 rfl rfl ?_
    refine Z.get C in0 2 rfl rfl 1 (by decide) (by decide +kernel) rfl rfl dX0_addOfTwo_19 ?_
    refine Z.aload_n C dX0_addOfTwo_22 0 rfl rfl ?_
    refine Z.get C in0 2 rfl rfl 3 (by decide) (by decide +kernel) rfl rfl dX0_addOfTwo_23 ?_
    refine Z.iconst C (v := (nI 1)) dX0_addOfTwo_26 (by decide) ?_
    refine Z.isub C (v := (nI ((r.2.2.2.2.2.2.2.2.1 - 1) - 1))) dX0_addOfTwo_27 (pk_sub (a := r.2.2.2.2.2.2.2.2.1 - 1) (b := 1) (by omega)) ?_
    refine Z.iload_n C dX0_addOfTwo_28 1 rfl rfl ?_
    refine Z.aload_n C dX0_addOfTwo_29 0 rfl rfl ?_
    refine Z.get C in0 2 rfl rfl 1 (by decide) (by decide +kernel) rfl rfl dX0_addOfTwo_30 ?_
    refine Z.aload_n C dX0_addOfTwo_33 0 rfl rfl ?_
    refine Z.get C in0 2 rfl rfl 3 (by decide) (by decide +kernel) rfl rfl dX0_addOfTwo_34 ?_
    refine Z.iconst C (v := (nI 1)) dX0_addOfTwo_37 (by decide) ?_
    refine Z.isub C (v := (nI ((r.2.2.2.2.2.2.2.2.1 - 1) - 1))) dX0_addOfTwo_38 (pk_sub (a := r.2.2.2.2.2.2.2.2.1 - 1) (b := 1) (by omega)) ?_
    refine Z.iald C 4 1 rfl rfl ((r.2.2.2.2.2.2.2.2.1 - 1) - 1) rfl (by omega) (by decide) dX0_addOfTwo_39 (v := (r.2.2.2.2.2.2.1 ((r.2.2.2.2.2.2.2.2.1 - 1) - 1))) rfl ?_
    refine Z.aload_n C dX0_addOfTwo_40 0 rfl rfl ?_
    refine Z.get C in0 2 rfl rfl 1 (by decide) (by decide +kernel) rfl rfl dX0_addOfTwo_41 ?_
    refine Z.aload_n C dX0_addOfTwo_44 0 rfl rfl ?_
    refine Z.get C in0 2 rfl rfl 3 (by decide) (by decide +kernel) rfl rfl dX0_addOfTwo_45 ?_
    refine Z.iald C 4 1 rfl rfl (r.2.2.2.2.2.2.2.2.1 - 1) rfl (by omega) (by decide) dX0_addOfTwo_48 (v := (r.2.2.2.2.2.2.1 (r.2.2.2.2.2.2.2.2.1 - 1))) rfl ?_
    refine Z.callSNi C (nA := 3) (As := [.int p0, .int (r.2.2.2.2.2.2.1 ((r.2.2.2.2.2.2.2.2.1 - 1) - 1)), .int (r.2.2.2.2.2.2.1 (r.2.2.2.2.2.2.2.2.1 - 1))]) (st := [.int (nI ((r.2.2.2.2.2.2.2.2.1 - 1) - 1)), .ref aF]) (host := "RoundCompiler") (c_ofTwo p0 (r.2.2.2.2.2.2.1 ((r.2.2.2.2.2.2.2.2.1 - 1) - 1)) (r.2.2.2.2.2.2.1 (r.2.2.2.2.2.2.2.2.1 - 1))) gX0_addOfTwo_X3_ofTwo_n43 rfl (by decide +kernel) (by decide +kernel) (by decide +kernel) (by decide +kernel) (rm_ok (by omega) (by decide)) rfl (Nat.le_of_ble_eq_true rfl) rfl dX0_addOfTwo_49 ?_
    refine Z.iast C 4 1 rfl rfl ((r.2.2.2.2.2.2.2.2.1 - 1) - 1) rfl (by omega) (by decide) dX0_addOfTwo_52 (v := (ofTwoF p0 (r.2.2.2.2.2.2.1 ((r.2.2.2.2.2.2.2.2.1 - 1) - 1)) (r.2.2.2.2.2.2.1 (r.2.2.2.2.2.2.2.2.1 - 1)))) rfl (w' := (wR aR aT aC aK aF aS cC cI tx len (r.1, r.2.1, r.2.2.1, r.2.2.2.1, r.2.2.2.2.1, r.2.2.2.2.2.1, (upd r.2.2.2.2.2.2.1 ((r.2.2.2.2.2.2.2.2.1 - 1) - 1) (ofTwoF p0 (r.2.2.2.2.2.2.1 ((r.2.2.2.2.2.2.2.2.1 - 1) - 1)) (r.2.2.2.2.2.2.1 (r.2.2.2.2.2.2.2.2.1 - 1)))), r.2.2.2.2.2.2.2.1, r.2.2.2.2.2.2.2.2.1 - 1, r.2.2.2.2.2.2.2.2.2))) rfl ?_
    refine Z.goto C 73 dX0_addOfTwo_53 (by decide) ?_
    refine Z.vret C hr hA dX0_addOfTwo_73 ?_
    (refine congrArg (wR aR aT aC aK aF aS cC cI tx len) ?_; first | rfl | (simp [nI_0, rC, cTwo, csz, c1]; done) | (simp_all [nI_0, rC, cTwo, csz]; done))
set_option maxHeartbeats 4000000 in
set_option maxRecDepth 100000 in
theorem c_setFirst {l : Launch} {D : va_G} {aR aT aC aK aF aS : Nat} {cC cI : ClassId} {tx : Nat → Int32} {len : Nat} (r : RS) (p0 : Nat) (p1 : Int32) (hI : InvR len r) (hp0 : p0 < 2 ^ 31) : Mv l yX0_setFirst wsX0_setFirst 1 D [(cC, .char), (cI, .int)] [.ref aC, .int (nI p0), .int p1] (wR aR aT aC aK aF aS cC cI tx len r) (wR aR aT aC aK aF aS cC cI tx len (rC r (cSet p0 p1 r.2.2.2.2.2))) := by
  refine Mv.of (cc := cX0_setFirst) (maxL := 3) (by decide) rfl (Nat.le_of_ble_eq_true rfl) ?_
  intro p e s m below meth c A C hr hA
  have in0 : ∀ w ∈ wsX00, w ∈ wsX0_setFirst := by decide +kernel
  show Z p l e (rmN _) s m _ below meth c _ D A _ _ [(0, .ref aC), (1, .int (nI p0)), (2, .int p1)] 0 []
  obtain ⟨hI1, hI2, hI3, hI4⟩ := hI
  dsimp only [csz] at hI3
  refine Z.iload_n C dX0_setFirst_0 1 rfl rfl ?_
  refine Z.if_lt C 19 dX0_setFirst_1 (by decide) (fun c1 => ?_) (fun c1 => ?_)
  · skip
    replace c1 : p0 < 0 := (nI_ltI (by omega) (by omega)).mp c1
    exact absurd c1 (by omega)
  · skip
    replace c1 : ¬ p0 < 0 := mt (nI_ltI (by omega) (by omega)).mpr c1
    refine Z.iload_n C dX0_setFirst_4 1 rfl rfl ?_
    refine Z.aload_n C dX0_setFirst_5 0 rfl rfl ?_
    refine Z.get C in0 2 rfl rfl 3 (by decide) (by decide +kernel) rfl rfl dX0_setFirst_6 ?_
    refine Z.icmp_ge C 19 dX0_setFirst_9 (by decide) (fun c2 => ?_) (fun c2 => ?_)
    · skip
      replace c2 : ¬ p0 < r.2.2.2.2.2.2.2.2.1 := Nat.not_lt.mpr ((nI_leI (by omega) (by omega)).mp c2)
      refine Z.vret C hr hA dX0_setFirst_19 ?_
      (refine congrArg (wR aR aT aC aK aF aS cC cI tx len) ?_; first | rfl | (simp [nI_0, rC, cSet, csz, (eq_false c1), (eq_false c2)]; done) | (simp_all [nI_0, rC, cSet, csz]; done))
    · skip
      replace c2 : p0 < r.2.2.2.2.2.2.2.2.1 := Nat.not_le.mp (mt (nI_leI (by omega) (by omega)).mpr c2)
      refine Z.aload_n C dX0_setFirst_12 0 rfl rfl ?_
      refine Z.get C in0 2 rfl rfl 1 (by decide) (by decide +kernel) rfl rfl dX0_setFirst_13 ?_
      refine Z.iload_n C dX0_setFirst_16 1 rfl rfl ?_
      refine Z.iload_n C dX0_setFirst_17 2 rfl rfl ?_
      refine Z.iast C 4 1 rfl rfl p0 rfl (by omega) (by decide) dX0_setFirst_18 (v := p1) rfl (w' := (wR aR aT aC aK aF aS cC cI tx len (r.1, r.2.1, r.2.2.1, r.2.2.2.1, r.2.2.2.2.1, r.2.2.2.2.2.1, (upd r.2.2.2.2.2.2.1 p0 p1), r.2.2.2.2.2.2.2))) rfl ?_
      refine Z.vret C hr hA dX0_setFirst_19 ?_
      (refine congrArg (wR aR aT aC aK aF aS cC cI tx len) ?_; first | rfl | (simp [nI_0, rC, cSet, csz, (eq_false c1), (eq_true c2)]; done) | (simp_all [nI_0, rC, cSet, csz]; done))
end
section
set_option maxHeartbeats 4000000 in
set_option maxRecDepth 100000 in
theorem c_digitOf {l : Launch} {D : va_G} (p0 : Int32) (p1 : Int32) : Mi l yX2_digitOf wsX2_digitOf 0 D [] [.int p0, .int p1] [] (digitF p0 p1) [] := by
  refine Mi.of (cc := cX2_digitOf) (maxL := 2) (by decide) rfl (Nat.le_of_ble_eq_true rfl) ?_
  intro p e s m below meth c A C hr hA
  show Z p l e (rmN _) s m _ below meth c _ D A _ _ [(0, .int p0), (1, .int p1)] 0 []
  refine Z.iload_n C dX2_digitOf_0 0 rfl rfl ?_
  refine Z.bipush C (v := (nI 48)) dX2_digitOf_1 (by decide) ?_
  refine Z.icmp_lt C 17 dX2_digitOf_3 (by decide) (fun c1 => ?_) (fun c1 => ?_)
  · skip
    replace c1 : ¬ (48 : Int32) ≤ p0 := Int32.not_le.mpr c1
    refine Z.iload_n C dX2_digitOf_17 1 rfl rfl ?_
    refine Z.bipush C (v := (nI 16)) dX2_digitOf_18 (by decide) ?_
    refine Z.icmp_ne C 45 dX2_digitOf_20 (by decide) (fun c2 => ?_) (fun c2 => ?_)
    · skip
      replace c2 : ¬ p1 = (16 : Int32) := c2
      refine Z.iconst C (v := (-1)) dX2_digitOf_45 (by decide) ?_
      refine Z.iret C hr hA dX2_digitOf_46 ?_ ?_
      · first | rfl | (simp [nI_0, digitF, (eq_false c1), (eq_false c2)]; done) | (simp_all [nI_0, digitF]; done)
      · rfl
    · skip
      replace c2 : p1 = (16 : Int32) := c2
      refine Z.iload_n C dX2_digitOf_23 0 rfl rfl ?_
      refine Z.bipush C (v := (nI 97)) dX2_digitOf_24 (by decide) ?_
      refine Z.icmp_lt C 45 dX2_digitOf_26 (by decide) (fun c3 => ?_) (fun c3 => ?_)
      · skip
        replace c3 : ¬ (97 : Int32) ≤ p0 := Int32.not_le.mpr c3
        refine Z.iconst C (v := (-1)) dX2_digitOf_45 (by decide) ?_
        refine Z.iret C hr hA dX2_digitOf_46 ?_ ?_
        · first | rfl | (simp [nI_0, digitF, (eq_false c1), (eq_true c2), (eq_false c3)]; done) | (simp_all [nI_0, digitF]; done)
        · rfl
      · skip
        replace c3 : (97 : Int32) ≤ p0 := Int32.not_lt.mp c3
        refine Z.iload_n C dX2_digitOf_29 0 rfl rfl ?_
        refine Z.bipush C (v := (nI 102)) dX2_digitOf_30 (by decide) ?_
        refine Z.icmp_gt C 45 dX2_digitOf_32 (by decide) (fun c4 => ?_) (fun c4 => ?_)
        · skip
          replace c4 : ¬ p0 ≤ (102 : Int32) := Int32.not_le.mpr c4
          refine Z.iconst C (v := (-1)) dX2_digitOf_45 (by decide) ?_
          refine Z.iret C hr hA dX2_digitOf_46 ?_ ?_
          · first | rfl | (simp [nI_0, digitF, (eq_false c1), (eq_true c2), (eq_true c3), (eq_false c4)]; done) | (simp_all [nI_0, digitF]; done)
          · rfl
        · skip
          replace c4 : p0 ≤ (102 : Int32) := Int32.not_lt.mp c4
          refine Z.iload_n C dX2_digitOf_35 0 rfl rfl ?_
          refine Z.bipush C (v := (nI 97)) dX2_digitOf_36 (by decide) ?_
          refine Z.isub C (v := (p0 - (97 : Int32))) dX2_digitOf_38 rfl ?_
          refine Z.bipush C (v := (nI 10)) dX2_digitOf_39 (by decide) ?_
          refine Z.iadd C (v := ((p0 - (97 : Int32)) + (10 : Int32))) dX2_digitOf_41 rfl ?_
          refine Z.goto C 46 dX2_digitOf_42 (by decide) ?_
          refine Z.iret C hr hA dX2_digitOf_46 ?_ ?_
          · first | rfl | (simp [nI_0, digitF, (eq_false c1), (eq_true c2), (eq_true c3), (eq_true c4)]; done) | (simp_all [nI_0, digitF]; done)
          · rfl
  · skip
    replace c1 : (48 : Int32) ≤ p0 := Int32.not_lt.mp c1
    refine Z.iload_n C dX2_digitOf_6 0 rfl rfl ?_
    refine Z.bipush C (v := (nI 57)) dX2_digitOf_7 (by decide) ?_
    refine Z.icmp_gt C 17 dX2_digitOf_9 (by decide) (fun c5 => ?_) (fun c5 => ?_)
    · skip
      replace c5 : ¬ p0 ≤ (57 : Int32) := Int32.not_le.mpr c5
      refine Z.iload_n C dX2_digitOf_17 1 rfl rfl ?_
      refine Z.bipush C (v := (nI 16)) dX2_digitOf_18 (by decide) ?_
      refine Z.icmp_ne C 45 dX2_digitOf_20 (by decide) (fun c6 => ?_) (fun c6 => ?_)
      · skip
        replace c6 : ¬ p1 = (16 : Int32) := c6
        refine Z.iconst C (v := (-1)) dX2_digitOf_45 (by decide) ?_
        refine Z.iret C hr hA dX2_digitOf_46 ?_ ?_
        · first | rfl | (simp [nI_0, digitF, (eq_true c1), (eq_false c5), (eq_false c6)]; done) | (simp_all [nI_0, digitF]; done)
        · rfl
      · skip
        replace c6 : p1 = (16 : Int32) := c6
        refine Z.iload_n C dX2_digitOf_23 0 rfl rfl ?_
        refine Z.bipush C (v := (nI 97)) dX2_digitOf_24 (by decide) ?_
        refine Z.icmp_lt C 45 dX2_digitOf_26 (by decide) (fun c7 => ?_) (fun c7 => ?_)
        · skip
          replace c7 : ¬ (97 : Int32) ≤ p0 := Int32.not_le.mpr c7
          refine Z.iconst C (v := (-1)) dX2_digitOf_45 (by decide) ?_
          refine Z.iret C hr hA dX2_digitOf_46 ?_ ?_
          · first | rfl | (simp [nI_0, digitF, (eq_true c1), (eq_false c5), (eq_true c6), (eq_false c7)]; done) | (simp_all [nI_0, digitF]; done)
          · rfl
        · skip
          replace c7 : (97 : Int32) ≤ p0 := Int32.not_lt.mp c7
          refine Z.iload_n C dX2_digitOf_29 0 rfl rfl ?_
          refine Z.bipush C (v := (nI 102)) dX2_digitOf_30 (by decide) ?_
          refine Z.icmp_gt C 45 dX2_digitOf_32 (by decide) (fun c8 => ?_) (fun c8 => ?_)
          · skip
            replace c8 : ¬ p0 ≤ (102 : Int32) := Int32.not_le.mpr c8
            refine Z.iconst C (v := (-1)) dX2_digitOf_45 (by decide) ?_
            refine Z.iret C hr hA dX2_digitOf_46 ?_ ?_
            · first | rfl | (simp [nI_0, digitF, (eq_true c1), (eq_false c5), (eq_true c6), (eq_true c7), (eq_false c8)]; done) | (simp_all [nI_0, digitF]; done)
            · rfl
          · skip
            replace c8 : p0 ≤ (102 : Int32) := Int32.not_lt.mp c8
            refine Z.iload_n C dX2_digitOf_35 0 rfl rfl ?_
            refine Z.bipush C (v := (nI 97)) dX2_digitOf_36 (by decide) ?_
            refine Z.isub C (v := (p0 - (97 : Int32))) dX2_digitOf_38 rfl ?_
            refine Z.bipush C (v := (nI 10)) dX2_digitOf_39 (by decide) ?_
            refine Z.iadd C (v := ((p0 - (97 : Int32)) + (10 : Int32))) dX2_digitOf_41 rfl ?_
            refine Z.goto C 46 dX2_digitOf_42 (by decide) ?_
            refine Z.iret C hr hA dX2_digitOf_46 ?_ ?_
            · first | rfl | (simp [nI_0, digitF, (eq_true c1), (eq_false c5), (eq_true c6), (eq_true c7), (eq_true c8)]; done) | (simp_all [nI_0, digitF]; done)
            · rfl
    · skip
      replace c5 : p0 ≤ (57 : Int32) := Int32.not_lt.mp c5
      refine Z.iload_n C dX2_digitOf_12 0 rfl rfl ?_
      refine Z.bipush C (v := (nI 48)) dX2_digitOf_13 (by decide) ?_
      refine Z.isub C (v := (p0 - (48 : Int32))) dX2_digitOf_15 rfl ?_
      refine Z.iret C hr hA dX2_digitOf_16 ?_ ?_
      · first | rfl | (simp [nI_0, digitF, (eq_true c1), (eq_true c5)]; done) | (simp_all [nI_0, digitF]; done)
      · rfl
set_option maxHeartbeats 4000000 in
set_option maxRecDepth 100000 in
theorem c_isOp {l : Launch} {D : va_G} (p0 : Int32) : Mi l yX2_isOperator wsX2_isOperator 0 D [] [.int p0] [] (b2i (isOpF p0)) [] := by
  refine Mi.of (cc := cX2_isOperator) (maxL := 1) (by decide) rfl (Nat.le_of_ble_eq_true rfl) ?_
  intro p e s m below meth c A C hr hA
  show Z p l e (rmN _) s m _ below meth c _ D A _ _ [(0, .int p0)] 0 []
  refine Z.iload_n C dX2_isOperator_0 0 rfl rfl ?_
  by_cases s1 : p0 = 38
  · refine Z.lookup C (off := 59) 60 dX2_isOperator_1 (by decide) (by rw [s1]; decide) (by decide) ?_
    refine Z.iconst C (v := (nI 1)) dX2_isOperator_60 (by decide) ?_
    refine Z.zret C hr hA dX2_isOperator_61 (b := true) rfl ?_ ?_
    · first | rfl | (simp [nI_0, isOpF, (eq_true s1)]; done) | (simp_all [nI_0, isOpF]; done)
    · rfl
  by_cases s2 : p0 = 42
  · refine Z.lookup C (off := 59) 60 dX2_isOperator_1 (by decide) (by rw [s2]; decide) (by decide) ?_
    refine Z.iconst C (v := (nI 1)) dX2_isOperator_60 (by decide) ?_
    refine Z.zret C hr hA dX2_isOperator_61 (b := true) rfl ?_ ?_
    · first | rfl | (simp [nI_0, isOpF, (eq_false s1), (eq_true s2)]; done) | (simp_all [nI_0, isOpF]; done)
    · rfl
  by_cases s3 : p0 = 43
  · refine Z.lookup C (off := 59) 60 dX2_isOperator_1 (by decide) (by rw [s3]; decide) (by decide) ?_
    refine Z.iconst C (v := (nI 1)) dX2_isOperator_60 (by decide) ?_
    refine Z.zret C hr hA dX2_isOperator_61 (b := true) rfl ?_ ?_
    · first | rfl | (simp [nI_0, isOpF, (eq_false s1), (eq_false s2), (eq_true s3)]; done) | (simp_all [nI_0, isOpF]; done)
    · rfl
  by_cases s4 : p0 = 45
  · refine Z.lookup C (off := 59) 60 dX2_isOperator_1 (by decide) (by rw [s4]; decide) (by decide) ?_
    refine Z.iconst C (v := (nI 1)) dX2_isOperator_60 (by decide) ?_
    refine Z.zret C hr hA dX2_isOperator_61 (b := true) rfl ?_ ?_
    · first | rfl | (simp [nI_0, isOpF, (eq_false s1), (eq_false s2), (eq_false s3), (eq_true s4)]; done) | (simp_all [nI_0, isOpF]; done)
    · rfl
  by_cases s5 : p0 = 94
  · refine Z.lookup C (off := 59) 60 dX2_isOperator_1 (by decide) (by rw [s5]; decide) (by decide) ?_
    refine Z.iconst C (v := (nI 1)) dX2_isOperator_60 (by decide) ?_
    refine Z.zret C hr hA dX2_isOperator_61 (b := true) rfl ?_ ?_
    · first | rfl | (simp [nI_0, isOpF, (eq_false s1), (eq_false s2), (eq_false s3), (eq_false s4), (eq_true s5)]; done) | (simp_all [nI_0, isOpF]; done)
    · rfl
  by_cases s6 : p0 = 124
  · refine Z.lookup C (off := 59) 60 dX2_isOperator_1 (by decide) (by rw [s6]; decide) (by decide) ?_
    refine Z.iconst C (v := (nI 1)) dX2_isOperator_60 (by decide) ?_
    refine Z.zret C hr hA dX2_isOperator_61 (b := true) rfl ?_ ?_
    · first | rfl | (simp [nI_0, isOpF, (eq_false s1), (eq_false s2), (eq_false s3), (eq_false s4), (eq_false s5), (eq_true s6)]; done) | (simp_all [nI_0, isOpF]; done)
    · rfl
  · refine Z.lookup C (off := 61) 62 dX2_isOperator_1 (by decide) (by show Op.lookupswitch.offset [(38, 59), (42, 59), (43, 59), (45, 59), (94, 59), (124, 59)] _ _ = _; rw [lv_osw s1 (k := 38) (by decide), lv_osw s2 (k := 42) (by decide), lv_osw s3 (k := 43) (by decide), lv_osw s4 (k := 45) (by decide), lv_osw s5 (k := 94) (by decide), lv_osw s6 (k := 124) (by decide)]; rfl) (by decide) ?_
    refine Z.iconst C (v := (nI 0)) dX2_isOperator_62 (by decide) ?_
    refine Z.zret C hr hA dX2_isOperator_63 (b := false) rfl ?_ ?_
    · first | rfl | (simp [nI_0, isOpF, (eq_false s1), (eq_false s2), (eq_false s3), (eq_false s4), (eq_false s5), (eq_false s6)]; done) | (simp_all [nI_0, isOpF]; done)
    · rfl
set_option maxHeartbeats 4000000 in
set_option maxRecDepth 100000 in
theorem c_here {l : Launch} {D : va_G} {aR aT aC aK aF aS : Nat} {cC cI : ClassId} {tx : Nat → Int32} {len : Nat} (r : RS)  (hI : InvR len r) : Mi l yX2_here wsX2_here 1 D [(cC, .char), (cI, .int)] [.ref aR] (wR aR aT aC aK aF aS cC cI tx len r) (hereF tx len r.1) (wR aR aT aC aK aF aS cC cI tx len r) := by
  refine Mi.of (cc := cX2_here) (maxL := 1) (by decide) rfl (Nat.le_of_ble_eq_true rfl) ?_
  intro p e s m below meth c A C hr hA
  have in2 : ∀ w ∈ wsX20, w ∈ wsX2_here := by decide +kernel
  show Z p l e (rmN _) s m _ below meth c _ D A _ _ [(0, .ref aR)] 0 []
  obtain ⟨hI1, hI2, hI3, hI4⟩ := hI
  dsimp only [csz] at hI3
  refine Z.aload_n C dX2_here_0 0 rfl rfl ?_
  refine Z.get C in2 0 rfl rfl 3 (by decide) (by decide +kernel) rfl rfl dX2_here_1 ?_
  refine Z.aload_n C dX2_here_4 0 rfl rfl ?_
  refine Z.get C in2 0 rfl rfl 1 (by decide) (by decide +kernel) rfl rfl dX2_here_5 ?_
  refine Z.icmp_ge C 35 dX2_here_8 (by decide) (fun c1 => ?_) (fun c1 => ?_)
  · skip
    replace c1 : ¬ r.1 < len := Nat.not_lt.mpr ((nI_leI (by omega) (by omega)).mp c1)
    refine Z.iconst C (v := (nI 0)) dX2_here_35 (by decide) ?_
    refine Z.iret C hr hA dX2_here_36 ?_ ?_
    · first | rfl | (simp [nI_0, hereF, (eq_false c1)]; done) | (simp_all [nI_0, hereF]; done)
    · (refine congrArg (wR aR aT aC aK aF aS cC cI tx len) ?_; first | rfl | (simp [nI_0, hereF, (eq_false c1)]; done) | (simp_all [nI_0, hereF]; done))
  · skip
    replace c1 : r.1 < len := Nat.not_le.mp (mt (nI_leI (by omega) (by omega)).mpr c1)
    refine Z.aload_n C dX2_here_11 0 rfl rfl ?_
    refine Z.get C in2 0 rfl rfl 3 (by decide) (by decide +kernel) rfl rfl dX2_here_12 ?_
    refine Z.aload_n C dX2_here_15 0 rfl rfl ?_
    refine Z.get C in2 0 rfl rfl 0 (by decide) (by decide +kernel) rfl rfl dX2_here_16 ?_
    refine Z.alen C 1 0 rfl rfl (v := nI 480) rfl dX2_here_19 ?_
    refine Z.icmp_ge C 35 dX2_here_20 (by decide) (fun c2 => ?_) (fun c2 => ?_)
    · skip
      replace c2 : ¬ r.1 < 480 := Nat.not_lt.mpr ((nI_leI (by omega) (by omega)).mp c2)
      exact absurd c2 (by omega)
    · skip
      replace c2 : r.1 < 480 := Nat.not_le.mp (mt (nI_leI (by omega) (by omega)).mpr c2)
      refine Z.aload_n C dX2_here_23 0 rfl rfl ?_
      refine Z.get C in2 0 rfl rfl 0 (by decide) (by decide +kernel) rfl rfl dX2_here_24 ?_
      refine Z.aload_n C dX2_here_27 0 rfl rfl ?_
      refine Z.get C in2 0 rfl rfl 3 (by decide) (by decide +kernel) rfl rfl dX2_here_28 ?_
      refine Z.cald C 1 0 rfl rfl r.1 rfl (by omega) (by decide) dX2_here_31 (v := (tx r.1)) rfl ?_
      refine Z.goto C 36 dX2_here_32 (by decide) ?_
      refine Z.iret C hr hA dX2_here_36 ?_ ?_
      · first | rfl | (simp [nI_0, hereF, (eq_true c1), (eq_true c2)]; done) | (simp_all [nI_0, hereF]; done)
      · (refine congrArg (wR aR aT aC aK aF aS cC cI tx len) ?_; first | rfl | (simp [nI_0, hereF, (eq_true c1), (eq_true c2)]; done) | (simp_all [nI_0, hereF]; done))
set_option maxHeartbeats 4000000 in
set_option maxRecDepth 100000 in
theorem c_refuse {l : Launch} {D : va_G} {aR aT aC aK aF aS : Nat} {cC cI : ClassId} {tx : Nat → Int32} {len : Nat} (r : RS) (p0 : Nat)  : Mi l yX2_refuse wsX2_refuse 1 D [(cC, .char), (cI, .int)] [.ref aR, .int (nI p0)] (wR aR aT aC aK aF aS cC cI tx len r) (b2i (false)) (wR aR aT aC aK aF aS cC cI tx len (r.1, p0 + 1, r.2.2)) := by
  refine Mi.of (cc := cX2_refuse) (maxL := 2) (by decide) rfl (Nat.le_of_ble_eq_true rfl) ?_
  intro p e s m below meth c A C hr hA
  have in2 : ∀ w ∈ wsX20, w ∈ wsX2_refuse := by decide +kernel
  show Z p l e (rmN _) s m _ below meth c _ D A _ _ [(0, .ref aR), (1, .int (nI p0))] 0 []
  refine Z.aload_n C dX2_refuse_0 0 rfl rfl ?_
  refine Z.iload_n C dX2_refuse_1 1 rfl rfl ?_
  refine Z.iconst C (v := (nI 1)) dX2_refuse_2 (by decide) ?_
  refine Z.iadd C (v := (nI (p0 + 1))) dX2_refuse_3 (nI_add p0 1) ?_
  refine Z.put C in2 0 rfl rfl 4 (by decide) tyX2 tyX2_ok nmX2 (by decide +kernel) rfl rfl rfl rfl (Nat.le_of_ble_eq_true rfl) dX2_refuse_4 (w' := (wR aR aT aC aK aF aS cC cI tx len (r.1, p0 + 1, r.2.2))) rfl ?_
  refine Z.iconst C (v := (nI 0)) dX2_refuse_7 (by decide) ?_
  refine Z.zret C hr hA dX2_refuse_8 (b := false) rfl ?_ ?_
  · first | rfl | (simp [nI_0]; done) | (simp_all [nI_0]; done)
  · (refine congrArg (wR aR aT aC aK aF aS cC cI tx len) ?_; first | rfl | (simp [nI_0]; done) | (simp_all [nI_0]; done))
set_option maxHeartbeats 4000000 in
set_option maxRecDepth 100000 in
theorem c_expect {l : Launch} {D : va_G} {aR aT aC aK aF aS : Nat} {cC cI : ClassId} {tx : Nat → Int32} {len : Nat} (r : RS) (p0 : Int32) (hI : InvR len r) : Mi l yX2_expect wsX2_expect 2 D [(cC, .char), (cI, .int)] [.ref aR, .int p0] (wR aR aT aC aK aF aS cC cI tx len r) (b2i ((mExpect tx len p0 r).1)) (wR aR aT aC aK aF aS cC cI tx len ((mExpect tx len p0 r).2)) := by
  refine Mi.of (cc := cX2_expect) (maxL := 2) (by decide) rfl (Nat.le_of_ble_eq_true rfl) ?_
  intro p e s m below meth c A C hr hA
  have in2 : ∀ w ∈ wsX20, w ∈ wsX2_expect := by decide +kernel
  show Z p l e (rmN _) s m _ below meth c _ D A _ _ [(0, .ref aR), (1, .int p0)] 0 []
  obtain ⟨hI1, hI2, hI3, hI4⟩ := hI
  dsimp only [csz] at hI3
  refine Z.aload_n C dX2_expect_0 0 rfl rfl ?_
  refine Z.callVi C (nA := 0) (As := []) (st := []) (c_here r ⟨by first | omega | (dsimp only; omega), by omega, by first | omega | (dsimp only [csz]; omega), by first | omega | (dsimp only; omega)⟩) gX2_expect_X2_here rfl (by decide +kernel) (rm_ok (by omega) (by decide)) 0 rfl rfl rfl (Nat.le_of_ble_eq_true rfl) rfl dX2_expect_1 ?_
  refine Z.iload_n C dX2_expect_4 1 rfl rfl ?_
  refine Z.icmp_eq C 17 dX2_expect_5 (by decide) (fun c1 => ?_) (fun c1 => ?_)
  · skip
    replace c1 : (hereF tx len r.1) = p0 := c1
    refine Z.aload_n C dX2_expect_17 0 rfl rfl ?_
    refine Z.dup C dX2_expect_18 rfl ?_
    refine Z.get C in2 0 rfl rfl 3 (by decide) (by decide +kernel) rfl rfl dX2_expect_19 ?_
    refine Z.iconst C (v := (nI 1)) dX2_expect_22 (by decide) ?_
    refine Z.iadd C (v := (nI (r.1 + 1))) dX2_expect_23 (nI_add r.1 1) ?_
    refine Z.put C in2 0 rfl rfl 3 (by decide) tyX2 tyX2_ok nmX2 (by decide +kernel) rfl rfl rfl rfl (Nat.le_of_ble_eq_true rfl) dX2_expect_24 (w' := (wR aR aT aC aK aF aS cC cI tx len (r.1 + 1, r.2))) rfl ?_
    refine Z.iconst C (v := (nI 1)) dX2_expect_27 (by decide) ?_
    refine Z.zret C hr hA dX2_expect_28 (b := true) rfl ?_ ?_
    · first | rfl | (simp [nI_0, mExpect, (eq_true c1)]; done) | (simp_all [nI_0, mExpect]; done)
    · (refine congrArg (wR aR aT aC aK aF aS cC cI tx len) ?_; first | rfl | (simp [nI_0, mExpect, (eq_true c1)]; done) | (simp_all [nI_0, mExpect]; done))
  · skip
    replace c1 : ¬ (hereF tx len r.1) = p0 := c1
    refine Z.aload_n C dX2_expect_8 0 rfl rfl ?_
    refine Z.aload_n C dX2_expect_9 0 rfl rfl ?_
    refine Z.get C in2 0 rfl rfl 3 (by decide) (by decide +kernel) rfl rfl dX2_expect_10 ?_
    refine Z.callVi C (nA := 1) (As := [.int (nI r.1)]) (st := []) (c_refuse r r.1) gX2_expect_X2_refuse rfl (by decide +kernel) (rm_ok (by omega) (by decide)) 0 rfl rfl rfl (Nat.le_of_ble_eq_true rfl) rfl dX2_expect_13 ?_
    refine Z.zret C hr hA dX2_expect_16 (b := false) rfl ?_ ?_
    · first | rfl | (simp [nI_0, mExpect, (eq_false c1)]; done) | (simp_all [nI_0, mExpect]; done)
    · (refine congrArg (wR aR aT aC aK aF aS cC cI tx len) ?_; first | rfl | (simp [nI_0, mExpect, (eq_false c1)]; done) | (simp_all [nI_0, mExpect]; done))
set_option maxHeartbeats 4000000 in
set_option maxRecDepth 100000 in
theorem c_freeName {l : Launch} {D : va_G} {aR aT aC aK aF aS : Nat} {cC cI : ClassId} {tx : Nat → Int32} {len : Nat} (r : RS)  (hI : InvR len r) : Mi l yX2_freeName wsX2_freeName 2 D [(cC, .char), (cI, .int)] [.ref aR] (wR aR aT aC aK aF aS cC cI tx len r) (freeF tx len r) (wR aR aT aC aK aF aS cC cI tx len r) := by
  refine Mi.of (cc := cX2_freeName) (maxL := 2) (by decide) rfl (Nat.le_of_ble_eq_true rfl) ?_
  intro p e s m below meth c A C hr hA
  have in2 : ∀ w ∈ wsX20, w ∈ wsX2_freeName := by decide +kernel
  show Z p l e (rmN _) s m _ below meth c _ D A _ _ [(0, .ref aR)] 0 []
  obtain ⟨hI1, hI2, hI3, hI4⟩ := hI
  dsimp only [csz] at hI3
  refine Z.aload_n C dX2_freeName_0 0 rfl rfl ?_
  refine Z.callVi C (nA := 0) (As := []) (st := []) (c_here r ⟨by first | omega | (dsimp only; omega), by omega, by first | omega | (dsimp only [csz]; omega), by first | omega | (dsimp only; omega)⟩) gX2_freeName_X2_here rfl (by decide +kernel) (rm_ok (by omega) (by decide)) 0 rfl rfl rfl (Nat.le_of_ble_eq_true rfl) rfl dX2_freeName_1 ?_
  refine Z.callSi C (nA := 1) (As := [.int (hereF tx len r.1)]) (st := []) (c_nameOf (hereF tx len r.1)) gX2_freeName_X2_nameOf rfl (by decide +kernel) (rm_ok (by omega) (by decide)) rfl (Nat.le_of_ble_eq_true rfl) rfl dX2_freeName_4 ?_
  refine Z.istore_n C (lv' := [(1, .int (nameF (hereF tx len r.1))), (0, .ref aR)]) dX2_freeName_7 rfl (by decide) rfl ?_
  refine Z.iload_n C dX2_freeName_8 0 rfl rfl ?_
  refine Z.if_lt C 27 dX2_freeName_9 (by decide) (fun c1 => ?_) (fun c1 => ?_)
  · skip
    replace c1 : ¬ (0 : Int32) ≤ (nameF (hereF tx len r.1)) := Int32.not_le.mpr c1
    refine Z.iconst C (v := (-1)) dX2_freeName_27 (by decide) ?_
    refine Z.iret C hr hA dX2_freeName_28 ?_ ?_
    · first | rfl | (simp [nI_0, freeF, (eq_false c1)]; done) | (simp_all [nI_0, freeF]; done)
    · (refine congrArg (wR aR aT aC aK aF aS cC cI tx len) ?_; first | rfl | (simp [nI_0, freeF, (eq_false c1)]; done) | (simp_all [nI_0, freeF]; done))
  · skip
    replace c1 : (0 : Int32) ≤ (nameF (hereF tx len r.1)) := Int32.not_lt.mp c1
    refine Z.aload_n C dX2_freeName_12 1 rfl rfl ?_
    refine Z.get C in2 0 rfl rfl 6 (by decide) (by decide +kernel) rfl rfl dX2_freeName_13 ?_
    refine Z.iload_n C dX2_freeName_16 0 rfl rfl ?_
    refine Z.ishr C (v := (r.2.2.2.1 >>> ((nameF (hereF tx len r.1)) &&& 31))) dX2_freeName_17 rfl ?_
    refine Z.iconst C (v := (nI 1)) dX2_freeName_18 (by decide) ?_
    refine Z.iand C (v := ((r.2.2.2.1 >>> ((nameF (hereF tx len r.1)) &&& 31)) &&& (1 : Int32))) dX2_freeName_19 rfl ?_
    refine Z.if_ne C 27 dX2_freeName_20 (by decide) (fun c2 => ?_) (fun c2 => ?_)
    · skip
      replace c2 : ¬ ((r.2.2.2.1 >>> ((nameF (hereF tx len r.1)) &&& 31)) &&& (1 : Int32)) = (0 : Int32) := c2
      refine Z.iconst C (v := (-1)) dX2_freeName_27 (by decide) ?_
      refine Z.iret C hr hA dX2_freeName_28 ?_ ?_
      · first | rfl | (simp [nI_0, freeF, (eq_true c1), (eq_false c2)]; done) | (simp_all [nI_0, freeF]; done)
      · (refine congrArg (wR aR aT aC aK aF aS cC cI tx len) ?_; first | rfl | (simp [nI_0, freeF, (eq_true c1), (eq_false c2)]; done) | (simp_all [nI_0, freeF]; done))
    · skip
      replace c2 : ((r.2.2.2.1 >>> ((nameF (hereF tx len r.1)) &&& 31)) &&& (1 : Int32)) = (0 : Int32) := c2
      refine Z.iload_n C dX2_freeName_23 0 rfl rfl ?_
      refine Z.goto C 28 dX2_freeName_24 (by decide) ?_
      refine Z.iret C hr hA dX2_freeName_28 ?_ ?_
      · first | rfl | (simp [nI_0, freeF, (eq_true c1), (eq_true c2)]; done) | (simp_all [nI_0, freeF]; done)
      · (refine congrArg (wR aR aT aC aK aF aS cC cI tx len) ?_; first | rfl | (simp [nI_0, freeF, (eq_true c1), (eq_true c2)]; done) | (simp_all [nI_0, freeF]; done))
set_option maxHeartbeats 4000000 in
set_option maxRecDepth 100000 in
theorem c_readNumber {l : Launch} {D : va_G} {aR aT aC aK aF aS : Nat} {cC cI : ClassId} {tx : Nat → Int32} {len : Nat} (r : RS) (p0 : Nat) (p1 : Nat) (hI : InvR len r) : Mi l yX2_readNumber wsX2_readNumber 3 D [(cC, .char), (cI, .int)] [.ref aR, .long (lN p0), .long (lN p1)] (wR aR aT aC aK aF aS cC cI tx len r) (b2i ((mNumber tx len p0 p1 r).1)) (wR aR aT aC aK aF aS cC cI tx len ((mNumber tx len p0 p1 r).2)) := by
  refine Mi.of (cc := cX2_readNumber) (maxL := 10) (by decide) rfl (Nat.le_of_ble_eq_true rfl) ?_
  intro p e s m below meth c A C hr hA
  have in2 : ∀ w ∈ wsX20, w ∈ wsX2_readNumber := by decide +kernel
  show Z p l e (rmN _) s m _ below meth c _ D A _ _ [(0, .ref aR), (1, .long (lN p0)), (3, .long (lN p1))] 0 []
  obtain ⟨hI1, hI2, hI3, hI4⟩ := hI
  dsimp only [csz] at hI3
  refine Z.aload_n C dX2_readNumber_0 0 rfl rfl ?_
  refine Z.get C in2 0 rfl rfl 3 (by decide) (by decide +kernel) rfl rfl dX2_readNumber_1 ?_
  refine Z.istore C (lv' := [(5, .int (nI r.1)), (0, .ref aR), (1, .long (lN p0)), (3, .long (lN p1))]) dX2_readNumber_4 (by decide) rfl ?_
  refine Z.aload_n C dX2_readNumber_6 1 rfl rfl ?_
  refine Z.callVi C (nA := 0) (As := []) (st := []) (c_here r ⟨by first | omega | (dsimp only; omega), by omega, by first | omega | (dsimp only [csz]; omega), by first | omega | (dsimp only; omega)⟩) gX2_readNumber_X2_here rfl (by decide +kernel) (rm_ok (by omega) (by decide)) 0 rfl rfl rfl (Nat.le_of_ble_eq_true rfl) rfl dX2_readNumber_7 ?_
  refine Z.bipush C (v := (nI 36)) dX2_readNumber_10 (by decide) ?_
  refine Z.icmp_ne C 19 dX2_readNumber_12 (by decide) (fun c1 => ?_) (fun c1 => ?_)
  · skip
    replace c1 : ¬ (hereF tx len r.1) = (36 : Int32) := c1
    refine Z.iconst C (v := (nI 0)) dX2_readNumber_19 (by decide) ?_
    refine Z.istore C (lv' := [(6, .int (nI 0)), (5, .int (nI r.1)), (0, .ref aR), (1, .long (lN p0)), (3, .long (lN p1))]) dX2_readNumber_20 (by decide) rfl ?_
    refine Z.iload C dX2_readNumber_22 0 rfl ?_
    refine Z.if_eq C 37 dX2_readNumber_24 (by decide) (fun c2 => ?_) (fun c2 => ?_)
    · skip
      replace c2 : 0 = 0 := (nI_eq (by omega) (by omega)).mp c2
      refine Z.iload C dX2_readNumber_37 0 rfl ?_
      refine Z.if_eq C 47 dX2_readNumber_39 (by decide) (fun c3 => ?_) (fun c3 => ?_)
      · skip
        replace c3 : 0 = 0 := (nI_eq (by omega) (by omega)).mp c3
        refine Z.bipush C (v := (nI 10)) dX2_readNumber_47 (by decide) ?_
        refine Z.istore C (lv' := [(7, .int (nI 10)), (6, .int (nI 0)), (5, .int (nI r.1)), (0, .ref aR), (1, .long (lN p0)), (3, .long (lN p1))]) dX2_readNumber_49 (by decide) rfl ?_
        refine Z.iload C dX2_readNumber_51 1 rfl ?_
        refine Z.if_eq C 61 dX2_readNumber_53 (by decide) (fun c4 => ?_) (fun c4 => ?_)
        · skip
          replace c4 : 0 = 0 := (nI_eq (by omega) (by omega)).mp c4
          refine Z.bipush C (v := (nI 10)) dX2_readNumber_61 (by decide) ?_
          refine Z.istore C (lv' := [(8, .int (nI 10)), (7, .int (nI 10)), (6, .int (nI 0)), (5, .int (nI r.1)), (0, .ref aR), (1, .long (lN p0)), (3, .long (lN p1))]) dX2_readNumber_63 (by decide) rfl ?_
          refine Z.iconst C (v := (nI 0)) dX2_readNumber_65 (by decide) ?_
          refine Z.istore C (lv' := [(9, .int (nI 0)), (8, .int (nI 10)), (7, .int (nI 10)), (6, .int (nI 0)), (5, .int (nI r.1)), (0, .ref aR), (1, .long (lN p0)), (3, .long (lN p1))]) dX2_readNumber_66 (by decide) rfl ?_
          refine Z.aload_n C dX2_readNumber_68 5 rfl rfl ?_
          refine Z.lconst C (v := lN 0) dX2_readNumber_69 (by decide) ?_
          refine Z.put C in2 0 rfl rfl 5 (by decide) tyX2 tyX2_ok nmX2 (by decide +kernel) rfl rfl rfl rfl (Nat.le_of_ble_eq_true rfl) dX2_readNumber_70 (w' := (wR aR aT aC aK aF aS cC cI tx len (r.1, r.2.1, 0, r.2.2.2))) rfl ?_
          have key73 : ∀ (n : Nat) (dg : Nat) (r2 : RS), dg + n = 480 → InvR len r2 → mNumber tx len p0 p1 r = mNumLoop tx len p0 p1 r.1 10 10 10 n dg r2 → Z p l e (rmN 3) s m ([.ref aR, .long (lN p0), .long (lN p1)] : List Value).toArray below meth c 10 D A (QI below D [(cC, .char), (cI, .int)] [.ref aR, .long (lN p0), .long (lN p1)] (wR aR aT aC aK aF aS cC cI tx len r) (b2i ((mNumber tx len p0 p1 r).1)) (wR aR aT aC aK aF aS cC cI tx len ((mNumber tx len p0 p1 r).2)) s) (wR aR aT aC aK aF aS cC cI tx len r2) [(9, .int (nI dg)), (8, .int (nI 10)), (7, .int (nI 10)), (5, .int (nI r.1)), (0, .ref aR), (1, .long (lN p0)), (3, .long (lN p1))] 73 [] := by
            intro n
            induction n with
            | zero =>
              intro dg r2 hn hi hm73
              obtain ⟨k1, k2, k3, k4⟩ := hi
              dsimp only [csz] at k3
              refine Z.iload C dX2_readNumber_73 0 rfl ?_
              refine Z.sipush C (v := (nI 480)) dX2_readNumber_75 (by decide) ?_
              refine Z.icmp_ge C 139 dX2_readNumber_78 (by decide) (fun c5 => ?_) (fun c5 => ?_)
              · skip
                replace c5 : ¬ dg < 480 := Nat.not_lt.mpr ((nI_leI (by omega) (by omega)).mp c5)
                refine Z.iload C dX2_readNumber_139 0 rfl ?_
                refine Z.if_ne C 153 dX2_readNumber_141 (by decide) (fun c6 => ?_) (fun c6 => ?_)
                · skip
                  replace c6 : ¬ dg = 0 := mt (nI_eq (by omega) (by omega)).mpr c6
                  refine Z.iload C dX2_readNumber_153 0 rfl ?_
                  refine Z.iload C dX2_readNumber_155 1 rfl ?_
                  refine Z.icmp_gt C 178 dX2_readNumber_157 (by decide) (fun c7 => ?_) (fun c7 => ?_)
                  · skip
                    replace c7 : 10 < dg := (nI_ltI (by omega) (by omega)).mp c7
                    refine Z.aload_n C dX2_readNumber_178 4 rfl rfl ?_
                    refine Z.iload C dX2_readNumber_179 3 rfl ?_
                    refine Z.callVi C (nA := 1) (As := [.int (nI r.1)]) (st := []) (c_refuse r2 r.1) gX2_readNumber_X2_refuse rfl (by decide +kernel) (rm_ok (by omega) (by decide)) 0 rfl rfl rfl (Nat.le_of_ble_eq_true rfl) rfl dX2_readNumber_181 ?_
                    refine Z.zret C hr hA dX2_readNumber_184 (b := false) rfl ?_ ?_
                    · first | (rw [hm73]; simp [mNumLoop, mNumEnd, (eq_false c1), (eq_true c2), (eq_true c3), (eq_true c4), (eq_false c5), (eq_false c6), (eq_true c7)]; done) | (rw [hm73]; simp_all [mNumLoop, mNumEnd]; done)
                    · (refine congrArg (wR aR aT aC aK aF aS cC cI tx len) ?_; first | (rw [hm73]; simp [mNumLoop, mNumEnd, (eq_false c1), (eq_true c2), (eq_true c3), (eq_true c4), (eq_false c5), (eq_false c6), (eq_true c7)]; done) | (rw [hm73]; simp_all [mNumLoop, mNumEnd]; done))
                  · skip
                    replace c7 : ¬ 10 < dg := mt (nI_ltI (by omega) (by omega)).mpr c7
                    refine Z.aload_n C dX2_readNumber_160 4 rfl rfl ?_
                    refine Z.get C in2 0 rfl rfl 5 (by decide) (by decide +kernel) rfl rfl dX2_readNumber_161 ?_
                    refine Z.lload_n C dX2_readNumber_164 5 rfl rfl ?_
                    refine Z.lcmp C (v := (lg_cmp (lN r2.2.2.1) (lN p0))) dX2_readNumber_165 rfl ?_
                    refine Z.if_lt C 178 dX2_readNumber_166 (by decide) (fun c8 => ?_) (fun c8 => ?_)
                    · skip
                      replace c8 : lN r2.2.2.1 < lN p0 := lgc_lt.mp c8
                      refine Z.aload_n C dX2_readNumber_178 4 rfl rfl ?_
                      refine Z.iload C dX2_readNumber_179 3 rfl ?_
                      refine Z.callVi C (nA := 1) (As := [.int (nI r.1)]) (st := []) (c_refuse r2 r.1) gX2_readNumber_X2_refuse rfl (by decide +kernel) (rm_ok (by omega) (by decide)) 0 rfl rfl rfl (Nat.le_of_ble_eq_true rfl) rfl dX2_readNumber_181 ?_
                      refine Z.zret C hr hA dX2_readNumber_184 (b := false) rfl ?_ ?_
                      · first | (rw [hm73]; simp [mNumLoop, mNumEnd, (eq_false c1), (eq_true c2), (eq_true c3), (eq_true c4), (eq_false c5), (eq_false c6), (eq_false c7), (eq_true c8)]; done) | (rw [hm73]; simp_all [mNumLoop, mNumEnd]; done)
                      · (refine congrArg (wR aR aT aC aK aF aS cC cI tx len) ?_; first | (rw [hm73]; simp [mNumLoop, mNumEnd, (eq_false c1), (eq_true c2), (eq_true c3), (eq_true c4), (eq_false c5), (eq_false c6), (eq_false c7), (eq_true c8)]; done) | (rw [hm73]; simp_all [mNumLoop, mNumEnd]; done))
                    · skip
                      replace c8 : ¬ lN r2.2.2.1 < lN p0 := mt lgc_lt.mpr c8
                      refine Z.aload_n C dX2_readNumber_169 4 rfl rfl ?_
                      refine Z.get C in2 0 rfl rfl 5 (by decide) (by decide +kernel) rfl rfl dX2_readNumber_170 ?_
                      refine Z.lload_n C dX2_readNumber_173 6 rfl rfl ?_
                      refine Z.lcmp C (v := (lg_cmp (lN r2.2.2.1) (lN p1))) dX2_readNumber_174 rfl ?_
                      refine Z.if_le C 185 dX2_readNumber_175 (by decide) (fun c9 => ?_) (fun c9 => ?_)
                      · skip
                        replace c9 : ¬ lN p1 < lN r2.2.2.1 := lgc_le.mp c9
                        refine Z.iconst C (v := (nI 1)) dX2_readNumber_185 (by decide) ?_
                        refine Z.zret C hr hA dX2_readNumber_186 (b := true) rfl ?_ ?_
                        · first | (rw [hm73]; simp [mNumLoop, mNumEnd, (eq_false c1), (eq_true c2), (eq_true c3), (eq_true c4), (eq_false c5), (eq_false c6), (eq_false c7), (eq_false c8), (eq_false c9)]; done) | (rw [hm73]; simp_all [mNumLoop, mNumEnd]; done)
                        · (refine congrArg (wR aR aT aC aK aF aS cC cI tx len) ?_; first | (rw [hm73]; simp [mNumLoop, mNumEnd, (eq_false c1), (eq_true c2), (eq_true c3), (eq_true c4), (eq_false c5), (eq_false c6), (eq_false c7), (eq_false c8), (eq_false c9)]; done) | (rw [hm73]; simp_all [mNumLoop, mNumEnd]; done))
                      · skip
                        replace c9 : lN p1 < lN r2.2.2.1 := Classical.not_not.mp (mt lgc_le.mpr c9)
                        refine Z.aload_n C dX2_readNumber_178 4 rfl rfl ?_
                        refine Z.iload C dX2_readNumber_179 3 rfl ?_
                        refine Z.callVi C (nA := 1) (As := [.int (nI r.1)]) (st := []) (c_refuse r2 r.1) gX2_readNumber_X2_refuse rfl (by decide +kernel) (rm_ok (by omega) (by decide)) 0 rfl rfl rfl (Nat.le_of_ble_eq_true rfl) rfl dX2_readNumber_181 ?_
                        refine Z.zret C hr hA dX2_readNumber_184 (b := false) rfl ?_ ?_
                        · first | (rw [hm73]; simp [mNumLoop, mNumEnd, (eq_false c1), (eq_true c2), (eq_true c3), (eq_true c4), (eq_false c5), (eq_false c6), (eq_false c7), (eq_false c8), (eq_true c9)]; done) | (rw [hm73]; simp_all [mNumLoop, mNumEnd]; done)
                        · (refine congrArg (wR aR aT aC aK aF aS cC cI tx len) ?_; first | (rw [hm73]; simp [mNumLoop, mNumEnd, (eq_false c1), (eq_true c2), (eq_true c3), (eq_true c4), (eq_false c5), (eq_false c6), (eq_false c7), (eq_false c8), (eq_true c9)]; done) | (rw [hm73]; simp_all [mNumLoop, mNumEnd]; done))
                · skip
                  replace c6 : dg = 0 := (nI_eq (by omega) (by omega)).mp c6
                  refine Z.aload_n C dX2_readNumber_144 4 rfl rfl ?_
                  refine Z.aload_n C dX2_readNumber_145 4 rfl rfl ?_
                  refine Z.get C in2 0 rfl rfl 3 (by decide) (by decide +kernel) rfl rfl dX2_readNumber_146 ?_
                  refine Z.callVi C (nA := 1) (As := [.int (nI r2.1)]) (st := []) (c_refuse r2 r2.1) gX2_readNumber_X2_refuse rfl (by decide +kernel) (rm_ok (by omega) (by decide)) 0 rfl rfl rfl (Nat.le_of_ble_eq_true rfl) rfl dX2_readNumber_149 ?_
                  refine Z.zret C hr hA dX2_readNumber_152 (b := false) rfl ?_ ?_
                  · first | (rw [hm73]; simp [mNumLoop, mNumEnd, (eq_false c1), (eq_true c2), (eq_true c3), (eq_true c4), (eq_false c5), (eq_true c6)]; done) | (rw [hm73]; simp_all [mNumLoop, mNumEnd]; done)
                  · (refine congrArg (wR aR aT aC aK aF aS cC cI tx len) ?_; first | (rw [hm73]; simp [mNumLoop, mNumEnd, (eq_false c1), (eq_true c2), (eq_true c3), (eq_true c4), (eq_false c5), (eq_true c6)]; done) | (rw [hm73]; simp_all [mNumLoop, mNumEnd]; done))
              · skip
                replace c5 : dg < 480 := Nat.not_le.mp (mt (nI_leI (by omega) (by omega)).mpr c5)
                exact absurd c5 (by omega)
            | succ n ih73 =>
              intro dg r2 hn hi hm73
              obtain ⟨k1, k2, k3, k4⟩ := hi
              dsimp only [csz] at k3
              refine Z.iload C dX2_readNumber_73 0 rfl ?_
              refine Z.sipush C (v := (nI 480)) dX2_readNumber_75 (by decide) ?_
              refine Z.icmp_ge C 139 dX2_readNumber_78 (by decide) (fun c10 => ?_) (fun c10 => ?_)
              · skip
                replace c10 : ¬ dg < 480 := Nat.not_lt.mpr ((nI_leI (by omega) (by omega)).mp c10)
                exact absurd c10 (by omega)
              · skip
                replace c10 : dg < 480 := Nat.not_le.mp (mt (nI_leI (by omega) (by omega)).mpr c10)
                refine Z.aload_n C dX2_readNumber_81 4 rfl rfl ?_
                refine Z.callVi C (nA := 0) (As := []) (st := []) (c_here r2 ⟨by first | omega | (dsimp only; omega), by omega, by first | omega | (dsimp only [csz]; omega), by first | omega | (dsimp only; omega)⟩) gX2_readNumber_X2_here rfl (by decide +kernel) (rm_ok (by omega) (by decide)) 0 rfl rfl rfl (Nat.le_of_ble_eq_true rfl) rfl dX2_readNumber_82 ?_
                refine Z.iload C dX2_readNumber_85 2 rfl ?_
                refine Z.callSi C (nA := 2) (As := [.int (hereF tx len r2.1), .int (10 : Int32)]) (st := []) (c_digitOf (hereF tx len r2.1) (10 : Int32)) gX2_readNumber_X2_digitOf rfl (by decide +kernel) (rm_ok (by omega) (by decide)) rfl (Nat.le_of_ble_eq_true rfl) rfl dX2_readNumber_87 ?_
                refine Z.if_lt C 139 dX2_readNumber_90 (by decide) (fun c11 => ?_) (fun c11 => ?_)
                · skip
                  replace c11 : ¬ (0 : Int32) ≤ (digitF (hereF tx len r2.1) (10 : Int32)) := Int32.not_le.mpr c11
                  refine Z.iload C dX2_readNumber_139 0 rfl ?_
                  refine Z.if_ne C 153 dX2_readNumber_141 (by decide) (fun c12 => ?_) (fun c12 => ?_)
                  · skip
                    replace c12 : ¬ dg = 0 := mt (nI_eq (by omega) (by omega)).mpr c12
                    refine Z.iload C dX2_readNumber_153 0 rfl ?_
                    refine Z.iload C dX2_readNumber_155 1 rfl ?_
                    refine Z.icmp_gt C 178 dX2_readNumber_157 (by decide) (fun c13 => ?_) (fun c13 => ?_)
                    · skip
                      replace c13 : 10 < dg := (nI_ltI (by omega) (by omega)).mp c13
                      refine Z.aload_n C dX2_readNumber_178 4 rfl rfl ?_
                      refine Z.iload C dX2_readNumber_179 3 rfl ?_
                      refine Z.callVi C (nA := 1) (As := [.int (nI r.1)]) (st := []) (c_refuse r2 r.1) gX2_readNumber_X2_refuse rfl (by decide +kernel) (rm_ok (by omega) (by decide)) 0 rfl rfl rfl (Nat.le_of_ble_eq_true rfl) rfl dX2_readNumber_181 ?_
                      refine Z.zret C hr hA dX2_readNumber_184 (b := false) rfl ?_ ?_
                      · first | (rw [hm73]; simp [mNumLoop, mNumEnd, (eq_false c1), (eq_true c2), (eq_true c3), (eq_true c4), (eq_true c10), (eq_false c11), (eq_false c12), (eq_true c13)]; done) | (rw [hm73]; simp_all [mNumLoop, mNumEnd]; done)
                      · (refine congrArg (wR aR aT aC aK aF aS cC cI tx len) ?_; first | (rw [hm73]; simp [mNumLoop, mNumEnd, (eq_false c1), (eq_true c2), (eq_true c3), (eq_true c4), (eq_true c10), (eq_false c11), (eq_false c12), (eq_true c13)]; done) | (rw [hm73]; simp_all [mNumLoop, mNumEnd]; done))
                    · skip
                      replace c13 : ¬ 10 < dg := mt (nI_ltI (by omega) (by omega)).mpr c13
                      refine Z.aload_n C dX2_readNumber_160 4 rfl rfl ?_
                      refine Z.get C in2 0 rfl rfl 5 (by decide) (by decide +kernel) rfl rfl dX2_readNumber_161 ?_
                      refine Z.lload_n C dX2_readNumber_164 5 rfl rfl ?_
                      refine Z.lcmp C (v := (lg_cmp (lN r2.2.2.1) (lN p0))) dX2_readNumber_165 rfl ?_
                      refine Z.if_lt C 178 dX2_readNumber_166 (by decide) (fun c14 => ?_) (fun c14 => ?_)
                      · skip
                        replace c14 : lN r2.2.2.1 < lN p0 := lgc_lt.mp c14
                        refine Z.aload_n C dX2_readNumber_178 4 rfl rfl ?_
                        refine Z.iload C dX2_readNumber_179 3 rfl ?_
                        refine Z.callVi C (nA := 1) (As := [.int (nI r.1)]) (st := []) (c_refuse r2 r.1) gX2_readNumber_X2_refuse rfl (by decide +kernel) (rm_ok (by omega) (by decide)) 0 rfl rfl rfl (Nat.le_of_ble_eq_true rfl) rfl dX2_readNumber_181 ?_
                        refine Z.zret C hr hA dX2_readNumber_184 (b := false) rfl ?_ ?_
                        · first | (rw [hm73]; simp [mNumLoop, mNumEnd, (eq_false c1), (eq_true c2), (eq_true c3), (eq_true c4), (eq_true c10), (eq_false c11), (eq_false c12), (eq_false c13), (eq_true c14)]; done) | (rw [hm73]; simp_all [mNumLoop, mNumEnd]; done)
                        · (refine congrArg (wR aR aT aC aK aF aS cC cI tx len) ?_; first | (rw [hm73]; simp [mNumLoop, mNumEnd, (eq_false c1), (eq_true c2), (eq_true c3), (eq_true c4), (eq_true c10), (eq_false c11), (eq_false c12), (eq_false c13), (eq_true c14)]; done) | (rw [hm73]; simp_all [mNumLoop, mNumEnd]; done))
                      · skip
                        replace c14 : ¬ lN r2.2.2.1 < lN p0 := mt lgc_lt.mpr c14
                        refine Z.aload_n C dX2_readNumber_169 4 rfl rfl ?_
                        refine Z.get C in2 0 rfl rfl 5 (by decide) (by decide +kernel) rfl rfl dX2_readNumber_170 ?_
                        refine Z.lload_n C dX2_readNumber_173 6 rfl rfl ?_
                        refine Z.lcmp C (v := (lg_cmp (lN r2.2.2.1) (lN p1))) dX2_readNumber_174 rfl ?_
                        refine Z.if_le C 185 dX2_readNumber_175 (by decide) (fun c15 => ?_) (fun c15 => ?_)
                        · skip
                          replace c15 : ¬ lN p1 < lN r2.2.2.1 := lgc_le.mp c15
                          refine Z.iconst C (v := (nI 1)) dX2_readNumber_185 (by decide) ?_
                          refine Z.zret C hr hA dX2_readNumber_186 (b := true) rfl ?_ ?_
                          · first | (rw [hm73]; simp [mNumLoop, mNumEnd, (eq_false c1), (eq_true c2), (eq_true c3), (eq_true c4), (eq_true c10), (eq_false c11), (eq_false c12), (eq_false c13), (eq_false c14), (eq_false c15)]; done) | (rw [hm73]; simp_all [mNumLoop, mNumEnd]; done)
                          · (refine congrArg (wR aR aT aC aK aF aS cC cI tx len) ?_; first | (rw [hm73]; simp [mNumLoop, mNumEnd, (eq_false c1), (eq_true c2), (eq_true c3), (eq_true c4), (eq_true c10), (eq_false c11), (eq_false c12), (eq_false c13), (eq_false c14), (eq_false c15)]; done) | (rw [hm73]; simp_all [mNumLoop, mNumEnd]; done))
                        · skip
                          replace c15 : lN p1 < lN r2.2.2.1 := Classical.not_not.mp (mt lgc_le.mpr c15)
                          refine Z.aload_n C dX2_readNumber_178 4 rfl rfl ?_
                          refine Z.iload C dX2_readNumber_179 3 rfl ?_
                          refine Z.callVi C (nA := 1) (As := [.int (nI r.1)]) (st := []) (c_refuse r2 r.1) gX2_readNumber_X2_refuse rfl (by decide +kernel) (rm_ok (by omega) (by decide)) 0 rfl rfl rfl (Nat.le_of_ble_eq_true rfl) rfl dX2_readNumber_181 ?_
                          refine Z.zret C hr hA dX2_readNumber_184 (b := false) rfl ?_ ?_
                          · first | (rw [hm73]; simp [mNumLoop, mNumEnd, (eq_false c1), (eq_true c2), (eq_true c3), (eq_true c4), (eq_true c10), (eq_false c11), (eq_false c12), (eq_false c13), (eq_false c14), (eq_true c15)]; done) | (rw [hm73]; simp_all [mNumLoop, mNumEnd]; done)
                          · (refine congrArg (wR aR aT aC aK aF aS cC cI tx len) ?_; first | (rw [hm73]; simp [mNumLoop, mNumEnd, (eq_false c1), (eq_true c2), (eq_true c3), (eq_true c4), (eq_true c10), (eq_false c11), (eq_false c12), (eq_false c13), (eq_false c14), (eq_true c15)]; done) | (rw [hm73]; simp_all [mNumLoop, mNumEnd]; done))
                  · skip
                    replace c12 : dg = 0 := (nI_eq (by omega) (by omega)).mp c12
                    refine Z.aload_n C dX2_readNumber_144 4 rfl rfl ?_
                    refine Z.aload_n C dX2_readNumber_145 4 rfl rfl ?_
                    refine Z.get C in2 0 rfl rfl 3 (by decide) (by decide +kernel) rfl rfl dX2_readNumber_146 ?_
                    refine Z.callVi C (nA := 1) (As := [.int (nI r2.1)]) (st := []) (c_refuse r2 r2.1) gX2_readNumber_X2_refuse rfl (by decide +kernel) (rm_ok (by omega) (by decide)) 0 rfl rfl rfl (Nat.le_of_ble_eq_true rfl) rfl dX2_readNumber_149 ?_
                    refine Z.zret C hr hA dX2_readNumber_152 (b := false) rfl ?_ ?_
                    · first | (rw [hm73]; simp [mNumLoop, mNumEnd, (eq_false c1), (eq_true c2), (eq_true c3), (eq_true c4), (eq_true c10), (eq_false c11), (eq_true c12)]; done) | (rw [hm73]; simp_all [mNumLoop, mNumEnd]; done)
                    · (refine congrArg (wR aR aT aC aK aF aS cC cI tx len) ?_; first | (rw [hm73]; simp [mNumLoop, mNumEnd, (eq_false c1), (eq_true c2), (eq_true c3), (eq_true c4), (eq_true c10), (eq_false c11), (eq_true c12)]; done) | (rw [hm73]; simp_all [mNumLoop, mNumEnd]; done))
                · skip
                  replace c11 : (0 : Int32) ≤ (digitF (hereF tx len r2.1) (10 : Int32)) := Int32.not_lt.mp c11
                  have c11l := dig_lt c11
                  refine Z.iload C dX2_readNumber_93 0 rfl ?_
                  refine Z.iload C dX2_readNumber_95 1 rfl ?_
                  refine Z.icmp_ge C 123 dX2_readNumber_97 (by decide) (fun c16 => ?_) (fun c16 => ?_)
                  · skip
                    replace c16 : ¬ dg < 10 := Nat.not_lt.mpr ((nI_leI (by omega) (by omega)).mp c16)
                    refine Z.iinc C (v := (nI (dg + 1))) (lv' := [(9, .int (nI (dg + 1))), (8, .int (nI 10)), (7, .int (nI 10)), (5, .int (nI r.1)), (0, .ref aR), (1, .long (lN p0)), (3, .long (lN p1))]) dX2_readNumber_123 0 rfl (nI_add dg 1) (by decide) rfl ?_
                    refine Z.aload_n C dX2_readNumber_126 4 rfl rfl ?_
                    refine Z.dup C dX2_readNumber_127 rfl ?_
                    refine Z.get C in2 0 rfl rfl 3 (by decide) (by decide +kernel) rfl rfl dX2_readNumber_128 ?_
                    refine Z.iconst C (v := (nI 1)) dX2_readNumber_131 (by decide) ?_
                    refine Z.iadd C (v := (nI (r2.1 + 1))) dX2_readNumber_132 (nI_add r2.1 1) ?_
                    refine Z.put C in2 0 rfl rfl 3 (by decide) tyX2 tyX2_ok nmX2 (by decide +kernel) rfl rfl rfl rfl (Nat.le_of_ble_eq_true rfl) dX2_readNumber_133 (w' := (wR aR aT aC aK aF aS cC cI tx len (r2.1 + 1, r2.2))) rfl ?_
                    refine Z.goto C 73 dX2_readNumber_136 (by decide) ?_
                    refine Z.sub [0, 1, 2, 3, 4, 5, 6] rfl ?_
                    exact ih73 (dg + 1) (r2.1 + 1, r2.2) (by omega) ⟨by first | omega | (dsimp only; omega), by omega, by first | omega | (dsimp only [csz]; omega), by first | omega | (dsimp only; omega)⟩ (by rw [hm73, mNumLoop]; simp [(eq_true c11), (eq_false c16)])
                  · skip
                    replace c16 : dg < 10 := Nat.not_le.mp (mt (nI_leI (by omega) (by omega)).mpr c16)
                    refine Z.aload_n C dX2_readNumber_100 4 rfl rfl ?_
                    refine Z.aload_n C dX2_readNumber_101 4 rfl rfl ?_
                    refine Z.get C in2 0 rfl rfl 5 (by decide) (by decide +kernel) rfl rfl dX2_readNumber_102 ?_
                    refine Z.iload C dX2_readNumber_105 2 rfl ?_
                    refine Z.i2l C (v := (lN 10)) dX2_readNumber_107 (nI_l (by omega)) ?_
                    refine Z.lmul C (v := (lN (r2.2.2.1 * 10))) dX2_readNumber_108 (lN_mul r2.2.2.1 10) ?_
                    refine Z.aload_n C dX2_readNumber_109 4 rfl rfl ?_
                    refine Z.callVi C (nA := 0) (As := []) (st := [.long (lN (r2.2.2.1 * 10)), .ref aR]) (c_here r2 ⟨by first | omega | (dsimp only; omega), by omega, by first | omega | (dsimp only [csz]; omega), by first | omega | (dsimp only; omega)⟩) gX2_readNumber_X2_here rfl (by decide +kernel) (rm_ok (by omega) (by decide)) 0 rfl rfl rfl (Nat.le_of_ble_eq_true rfl) rfl dX2_readNumber_110 ?_
                    refine Z.iload C dX2_readNumber_113 2 rfl ?_
                    refine Z.callSi C (nA := 2) (As := [.int (hereF tx len r2.1), .int (10 : Int32)]) (st := [.long (lN (r2.2.2.1 * 10)), .ref aR]) (c_digitOf (hereF tx len r2.1) (10 : Int32)) gX2_readNumber_X2_digitOf rfl (by decide +kernel) (rm_ok (by omega) (by decide)) rfl (Nat.le_of_ble_eq_true rfl) rfl dX2_readNumber_115 ?_
                    refine Z.i2l C (v := (lN ((digitF (hereF tx len r2.1) (10 : Int32)).toNatClampNeg))) dX2_readNumber_118 (i64_of (by assumption)) ?_
                    refine Z.ladd C (v := (lN ((r2.2.2.1 * 10) + ((digitF (hereF tx len r2.1) (10 : Int32)).toNatClampNeg)))) dX2_readNumber_119 (lN_add (r2.2.2.1 * 10) ((digitF (hereF tx len r2.1) (10 : Int32)).toNatClampNeg)) ?_
                    refine Z.put C in2 0 rfl rfl 5 (by decide) tyX2 tyX2_ok nmX2 (by decide +kernel) rfl rfl rfl rfl (Nat.le_of_ble_eq_true rfl) dX2_readNumber_120 (w' := (wR aR aT aC aK aF aS cC cI tx len (r2.1, r2.2.1, (r2.2.2.1 * 10) + ((digitF (hereF tx len r2.1) (10 : Int32)).toNatClampNeg), r2.2.2.2))) rfl ?_
                    refine Z.iinc C (v := (nI (dg + 1))) (lv' := [(9, .int (nI (dg + 1))), (8, .int (nI 10)), (7, .int (nI 10)), (5, .int (nI r.1)), (0, .ref aR), (1, .long (lN p0)), (3, .long (lN p1))]) dX2_readNumber_123 0 rfl (nI_add dg 1) (by decide) rfl ?_
                    refine Z.aload_n C dX2_readNumber_126 4 rfl rfl ?_
                    refine Z.dup C dX2_readNumber_127 rfl ?_
                    refine Z.get C in2 0 rfl rfl 3 (by decide) (by decide +kernel) rfl rfl dX2_readNumber_128 ?_
                    refine Z.iconst C (v := (nI 1)) dX2_readNumber_131 (by decide) ?_
                    refine Z.iadd C (v := (nI (r2.1 + 1))) dX2_readNumber_132 (nI_add r2.1 1) ?_
                    refine Z.put C in2 0 rfl rfl 3 (by decide) tyX2 tyX2_ok nmX2 (by decide +kernel) rfl rfl rfl rfl (Nat.le_of_ble_eq_true rfl) dX2_readNumber_133 (w' := (wR aR aT aC aK aF aS cC cI tx len (r2.1 + 1, r2.2.1, (r2.2.2.1 * 10) + ((digitF (hereF tx len r2.1) (10 : Int32)).toNatClampNeg), r2.2.2.2))) rfl ?_
                    refine Z.goto C 73 dX2_readNumber_136 (by decide) ?_
                    refine Z.sub [0, 1, 2, 3, 4, 5, 6] rfl ?_
                    exact ih73 (dg + 1) (r2.1 + 1, r2.2.1, (r2.2.2.1 * 10) + ((digitF (hereF tx len r2.1) (10 : Int32)).toNatClampNeg), r2.2.2.2) (by omega) ⟨by first | omega | (dsimp only; omega), by omega, by first | omega | (dsimp only [csz]; omega), by first | omega | (dsimp only; omega)⟩ (by rw [hm73, mNumLoop]; simp [(eq_true c11), (eq_true c16)])
          refine Z.sub [0, 1, 2, 4, 5, 6, 7] rfl ?_
          exact key73 480 0 (r.1, r.2.1, 0, r.2.2.2) (by omega) ⟨by first | omega | (dsimp only; omega), by omega, by first | omega | (dsimp only [csz]; omega), by first | omega | (dsimp only; omega)⟩ (by simp [mNumber, (eq_false c1), (eq_true c2), (eq_true c3), (eq_true c4)])
        · skip
          replace c4 : ¬ 0 = 0 := mt (nI_eq (by omega) (by omega)).mpr c4
          exact absurd c4 (by decide)
      · skip
        replace c3 : ¬ 0 = 0 := mt (nI_eq (by omega) (by omega)).mpr c3
        exact absurd c3 (by decide)
    · skip
      replace c2 : ¬ 0 = 0 := mt (nI_eq (by omega) (by omega)).mpr c2
      exact absurd c2 (by decide)
  · skip
    replace c1 : (hereF tx len r.1) = (36 : Int32) := c1
    have c1l := here_lt c1 (by decide)
    refine Z.iconst C (v := (nI 1)) dX2_readNumber_15 (by decide) ?_
    refine Z.goto C 20 dX2_readNumber_16 (by decide) ?_
    refine Z.istore C (lv' := [(6, .int (nI 1)), (5, .int (nI r.1)), (0, .ref aR), (1, .long (lN p0)), (3, .long (lN p1))]) dX2_readNumber_20 (by decide) rfl ?_
    refine Z.iload C dX2_readNumber_22 0 rfl ?_
    refine Z.if_eq C 37 dX2_readNumber_24 (by decide) (fun c17 => ?_) (fun c17 => ?_)
    · skip
      replace c17 : 1 = 0 := (nI_eq (by omega) (by omega)).mp c17
      exact absurd c17 (by decide)
    · skip
      replace c17 : ¬ 1 = 0 := mt (nI_eq (by omega) (by omega)).mpr c17
      refine Z.aload_n C dX2_readNumber_27 2 rfl rfl ?_
      refine Z.dup C dX2_readNumber_28 rfl ?_
      refine Z.get C in2 0 rfl rfl 3 (by decide) (by decide +kernel) rfl rfl dX2_readNumber_29 ?_
      refine Z.iconst C (v := (nI 1)) dX2_readNumber_32 (by decide) ?_
      refine Z.iadd C (v := (nI (r.1 + 1))) dX2_readNumber_33 (nI_add r.1 1) ?_
      refine Z.put C in2 0 rfl rfl 3 (by decide) tyX2 tyX2_ok nmX2 (by decide +kernel) rfl rfl rfl rfl (Nat.le_of_ble_eq_true rfl) dX2_readNumber_34 (w' := (wR aR aT aC aK aF aS cC cI tx len (r.1 + 1, r.2))) rfl ?_
      refine Z.iload C dX2_readNumber_37 0 rfl ?_
      refine Z.if_eq C 47 dX2_readNumber_39 (by decide) (fun c18 => ?_) (fun c18 => ?_)
      · skip
        replace c18 : 1 = 0 := (nI_eq (by omega) (by omega)).mp c18
        exact absurd c18 (by decide)
      · skip
        replace c18 : ¬ 1 = 0 := mt (nI_eq (by omega) (by omega)).mpr c18
        refine Z.bipush C (v := (nI 16)) dX2_readNumber_42 (by decide) ?_
        refine Z.goto C 49 dX2_readNumber_44 (by decide) ?_
        refine Z.istore C (lv' := [(7, .int (nI 16)), (6, .int (nI 1)), (5, .int (nI r.1)), (0, .ref aR), (1, .long (lN p0)), (3, .long (lN p1))]) dX2_readNumber_49 (by decide) rfl ?_
        refine Z.iload C dX2_readNumber_51 1 rfl ?_
        refine Z.if_eq C 61 dX2_readNumber_53 (by decide) (fun c19 => ?_) (fun c19 => ?_)
        · skip
          replace c19 : 1 = 0 := (nI_eq (by omega) (by omega)).mp c19
          exact absurd c19 (by decide)
        · skip
          replace c19 : ¬ 1 = 0 := mt (nI_eq (by omega) (by omega)).mpr c19
          refine Z.bipush C (v := (nI 8)) dX2_readNumber_56 (by decide) ?_
          refine Z.goto C 63 dX2_readNumber_58 (by decide) ?_
          refine Z.istore C (lv' := [(8, .int (nI 8)), (7, .int (nI 16)), (6, .int (nI 1)), (5, .int (nI r.1)), (0, .ref aR), (1, .long (lN p0)), (3, .long (lN p1))]) dX2_readNumber_63 (by decide) rfl ?_
          refine Z.iconst C (v := (nI 0)) dX2_readNumber_65 (by decide) ?_
          refine Z.istore C (lv' := [(9, .int (nI 0)), (8, .int (nI 8)), (7, .int (nI 16)), (6, .int (nI 1)), (5, .int (nI r.1)), (0, .ref aR), (1, .long (lN p0)), (3, .long (lN p1))]) dX2_readNumber_66 (by decide) rfl ?_
          refine Z.aload_n C dX2_readNumber_68 5 rfl rfl ?_
          refine Z.lconst C (v := lN 0) dX2_readNumber_69 (by decide) ?_
          refine Z.put C in2 0 rfl rfl 5 (by decide) tyX2 tyX2_ok nmX2 (by decide +kernel) rfl rfl rfl rfl (Nat.le_of_ble_eq_true rfl) dX2_readNumber_70 (w' := (wR aR aT aC aK aF aS cC cI tx len (r.1 + 1, r.2.1, 0, r.2.2.2))) rfl ?_
          have key73 : ∀ (n : Nat) (dg : Nat) (r2 : RS), dg + n = 480 → InvR len r2 → mNumber tx len p0 p1 r = mNumLoop tx len p0 p1 r.1 8 16 16 n dg r2 → Z p l e (rmN 3) s m ([.ref aR, .long (lN p0), .long (lN p1)] : List Value).toArray below meth c 10 D A (QI below D [(cC, .char), (cI, .int)] [.ref aR, .long (lN p0), .long (lN p1)] (wR aR aT aC aK aF aS cC cI tx len r) (b2i ((mNumber tx len p0 p1 r).1)) (wR aR aT aC aK aF aS cC cI tx len ((mNumber tx len p0 p1 r).2)) s) (wR aR aT aC aK aF aS cC cI tx len r2) [(9, .int (nI dg)), (8, .int (nI 8)), (7, .int (nI 16)), (5, .int (nI r.1)), (0, .ref aR), (1, .long (lN p0)), (3, .long (lN p1))] 73 [] := by
            intro n
            induction n with
            | zero =>
              intro dg r2 hn hi hm73
              obtain ⟨k1, k2, k3, k4⟩ := hi
              dsimp only [csz] at k3
              refine Z.iload C dX2_readNumber_73 0 rfl ?_
              refine Z.sipush C (v := (nI 480)) dX2_readNumber_75 (by decide) ?_
              refine Z.icmp_ge C 139 dX2_readNumber_78 (by decide) (fun c20 => ?_) (fun c20 => ?_)
              · skip
                replace c20 : ¬ dg < 480 := Nat.not_lt.mpr ((nI_leI (by omega) (by omega)).mp c20)
                refine Z.iload C dX2_readNumber_139 0 rfl ?_
                refine Z.if_ne C 153 dX2_readNumber_141 (by decide) (fun c21 => ?_) (fun c21 => ?_)
                · skip
                  replace c21 : ¬ dg = 0 := mt (nI_eq (by omega) (by omega)).mpr c21
                  refine Z.iload C dX2_readNumber_153 0 rfl ?_
                  refine Z.iload C dX2_readNumber_155 1 rfl ?_
                  refine Z.icmp_gt C 178 dX2_readNumber_157 (by decide) (fun c22 => ?_) (fun c22 => ?_)
                  · skip
                    replace c22 : 8 < dg := (nI_ltI (by omega) (by omega)).mp c22
                    refine Z.aload_n C dX2_readNumber_178 4 rfl rfl ?_
                    refine Z.iload C dX2_readNumber_179 3 rfl ?_
                    refine Z.callVi C (nA := 1) (As := [.int (nI r.1)]) (st := []) (c_refuse r2 r.1) gX2_readNumber_X2_refuse rfl (by decide +kernel) (rm_ok (by omega) (by decide)) 0 rfl rfl rfl (Nat.le_of_ble_eq_true rfl) rfl dX2_readNumber_181 ?_
                    refine Z.zret C hr hA dX2_readNumber_184 (b := false) rfl ?_ ?_
                    · first | (rw [hm73]; simp [mNumLoop, mNumEnd, (eq_true c1), (eq_false c17), (eq_false c18), (eq_false c19), (eq_false c20), (eq_false c21), (eq_true c22)]; done) | (rw [hm73]; simp_all [mNumLoop, mNumEnd]; done)
                    · (refine congrArg (wR aR aT aC aK aF aS cC cI tx len) ?_; first | (rw [hm73]; simp [mNumLoop, mNumEnd, (eq_true c1), (eq_false c17), (eq_false c18), (eq_false c19), (eq_false c20), (eq_false c21), (eq_true c22)]; done) | (rw [hm73]; simp_all [mNumLoop, mNumEnd]; done))
                  · skip
                    replace c22 : ¬ 8 < dg := mt (nI_ltI (by omega) (by omega)).mpr c22
                    refine Z.aload_n C dX2_readNumber_160 4 rfl rfl ?_
                    refine Z.get C in2 0 rfl rfl 5 (by decide) (by decide +kernel) rfl rfl dX2_readNumber_161 ?_
                    refine Z.lload_n C dX2_readNumber_164 5 rfl rfl ?_
                    refine Z.lcmp C (v := (lg_cmp (lN r2.2.2.1) (lN p0))) dX2_readNumber_165 rfl ?_
                    refine Z.if_lt C 178 dX2_readNumber_166 (by decide) (fun c23 => ?_) (fun c23 => ?_)
                    · skip
                      replace c23 : lN r2.2.2.1 < lN p0 := lgc_lt.mp c23
                      refine Z.aload_n C dX2_readNumber_178 4 rfl rfl ?_
                      refine Z.iload C dX2_readNumber_179 3 rfl ?_
                      refine Z.callVi C (nA := 1) (As := [.int (nI r.1)]) (st := []) (c_refuse r2 r.1) gX2_readNumber_X2_refuse rfl (by decide +kernel) (rm_ok (by omega) (by decide)) 0 rfl rfl rfl (Nat.le_of_ble_eq_true rfl) rfl dX2_readNumber_181 ?_
                      refine Z.zret C hr hA dX2_readNumber_184 (b := false) rfl ?_ ?_
                      · first | (rw [hm73]; simp [mNumLoop, mNumEnd, (eq_true c1), (eq_false c17), (eq_false c18), (eq_false c19), (eq_false c20), (eq_false c21), (eq_false c22), (eq_true c23)]; done) | (rw [hm73]; simp_all [mNumLoop, mNumEnd]; done)
                      · (refine congrArg (wR aR aT aC aK aF aS cC cI tx len) ?_; first | (rw [hm73]; simp [mNumLoop, mNumEnd, (eq_true c1), (eq_false c17), (eq_false c18), (eq_false c19), (eq_false c20), (eq_false c21), (eq_false c22), (eq_true c23)]; done) | (rw [hm73]; simp_all [mNumLoop, mNumEnd]; done))
                    · skip
                      replace c23 : ¬ lN r2.2.2.1 < lN p0 := mt lgc_lt.mpr c23
                      refine Z.aload_n C dX2_readNumber_169 4 rfl rfl ?_
                      refine Z.get C in2 0 rfl rfl 5 (by decide) (by decide +kernel) rfl rfl dX2_readNumber_170 ?_
                      refine Z.lload_n C dX2_readNumber_173 6 rfl rfl ?_
                      refine Z.lcmp C (v := (lg_cmp (lN r2.2.2.1) (lN p1))) dX2_readNumber_174 rfl ?_
                      refine Z.if_le C 185 dX2_readNumber_175 (by decide) (fun c24 => ?_) (fun c24 => ?_)
                      · skip
                        replace c24 : ¬ lN p1 < lN r2.2.2.1 := lgc_le.mp c24
                        refine Z.iconst C (v := (nI 1)) dX2_readNumber_185 (by decide) ?_
                        refine Z.zret C hr hA dX2_readNumber_186 (b := true) rfl ?_ ?_
                        · first | (rw [hm73]; simp [mNumLoop, mNumEnd, (eq_true c1), (eq_false c17), (eq_false c18), (eq_false c19), (eq_false c20), (eq_false c21), (eq_false c22), (eq_false c23), (eq_false c24)]; done) | (rw [hm73]; simp_all [mNumLoop, mNumEnd]; done)
                        · (refine congrArg (wR aR aT aC aK aF aS cC cI tx len) ?_; first | (rw [hm73]; simp [mNumLoop, mNumEnd, (eq_true c1), (eq_false c17), (eq_false c18), (eq_false c19), (eq_false c20), (eq_false c21), (eq_false c22), (eq_false c23), (eq_false c24)]; done) | (rw [hm73]; simp_all [mNumLoop, mNumEnd]; done))
                      · skip
                        replace c24 : lN p1 < lN r2.2.2.1 := Classical.not_not.mp (mt lgc_le.mpr c24)
                        refine Z.aload_n C dX2_readNumber_178 4 rfl rfl ?_
                        refine Z.iload C dX2_readNumber_179 3 rfl ?_
                        refine Z.callVi C (nA := 1) (As := [.int (nI r.1)]) (st := []) (c_refuse r2 r.1) gX2_readNumber_X2_refuse rfl (by decide +kernel) (rm_ok (by omega) (by decide)) 0 rfl rfl rfl (Nat.le_of_ble_eq_true rfl) rfl dX2_readNumber_181 ?_
                        refine Z.zret C hr hA dX2_readNumber_184 (b := false) rfl ?_ ?_
                        · first | (rw [hm73]; simp [mNumLoop, mNumEnd, (eq_true c1), (eq_false c17), (eq_false c18), (eq_false c19), (eq_false c20), (eq_false c21), (eq_false c22), (eq_false c23), (eq_true c24)]; done) | (rw [hm73]; simp_all [mNumLoop, mNumEnd]; done)
                        · (refine congrArg (wR aR aT aC aK aF aS cC cI tx len) ?_; first | (rw [hm73]; simp [mNumLoop, mNumEnd, (eq_true c1), (eq_false c17), (eq_false c18), (eq_false c19), (eq_false c20), (eq_false c21), (eq_false c22), (eq_false c23), (eq_true c24)]; done) | (rw [hm73]; simp_all [mNumLoop, mNumEnd]; done))
                · skip
                  replace c21 : dg = 0 := (nI_eq (by omega) (by omega)).mp c21
                  refine Z.aload_n C dX2_readNumber_144 4 rfl rfl ?_
                  refine Z.aload_n C dX2_readNumber_145 4 rfl rfl ?_
                  refine Z.get C in2 0 rfl rfl 3 (by decide) (by decide +kernel) rfl rfl dX2_readNumber_146 ?_
                  refine Z.callVi C (nA := 1) (As := [.int (nI r2.1)]) (st := []) (c_refuse r2 r2.1) gX2_readNumber_X2_refuse rfl (by decide +kernel) (rm_ok (by omega) (by decide)) 0 rfl rfl rfl (Nat.le_of_ble_eq_true rfl) rfl dX2_readNumber_149 ?_
                  refine Z.zret C hr hA dX2_readNumber_152 (b := false) rfl ?_ ?_
                  · first | (rw [hm73]; simp [mNumLoop, mNumEnd, (eq_true c1), (eq_false c17), (eq_false c18), (eq_false c19), (eq_false c20), (eq_true c21)]; done) | (rw [hm73]; simp_all [mNumLoop, mNumEnd]; done)
                  · (refine congrArg (wR aR aT aC aK aF aS cC cI tx len) ?_; first | (rw [hm73]; simp [mNumLoop, mNumEnd, (eq_true c1), (eq_false c17), (eq_false c18), (eq_false c19), (eq_false c20), (eq_true c21)]; done) | (rw [hm73]; simp_all [mNumLoop, mNumEnd]; done))
              · skip
                replace c20 : dg < 480 := Nat.not_le.mp (mt (nI_leI (by omega) (by omega)).mpr c20)
                exact absurd c20 (by omega)
            | succ n ih73 =>
              intro dg r2 hn hi hm73
              obtain ⟨k1, k2, k3, k4⟩ := hi
              dsimp only [csz] at k3
              refine Z.iload C dX2_readNumber_73 0 rfl ?_
              refine Z.sipush C (v := (nI 480)) dX2_readNumber_75 (by decide) ?_
              refine Z.icmp_ge C 139 dX2_readNumber_78 (by decide) (fun c25 => ?_) (fun c25 => ?_)
              · skip
                replace c25 : ¬ dg < 480 := Nat.not_lt.mpr ((nI_leI (by omega) (by omega)).mp c25)
                exact absurd c25 (by omega)
              · skip
                replace c25 : dg < 480 := Nat.not_le.mp (mt (nI_leI (by omega) (by omega)).mpr c25)
                refine Z.aload_n C dX2_readNumber_81 4 rfl rfl ?_
                refine Z.callVi C (nA := 0) (As := []) (st := []) (c_here r2 ⟨by first | omega | (dsimp only; omega), by omega, by first | omega | (dsimp only [csz]; omega), by first | omega | (dsimp only; omega)⟩) gX2_readNumber_X2_here rfl (by decide +kernel) (rm_ok (by omega) (by decide)) 0 rfl rfl rfl (Nat.le_of_ble_eq_true rfl) rfl dX2_readNumber_82 ?_
                refine Z.iload C dX2_readNumber_85 2 rfl ?_
                refine Z.callSi C (nA := 2) (As := [.int (hereF tx len r2.1), .int (16 : Int32)]) (st := []) (c_digitOf (hereF tx len r2.1) (16 : Int32)) gX2_readNumber_X2_digitOf rfl (by decide +kernel) (rm_ok (by omega) (by decide)) rfl (Nat.le_of_ble_eq_true rfl) rfl dX2_readNumber_87 ?_
                refine Z.if_lt C 139 dX2_readNumber_90 (by decide) (fun c26 => ?_) (fun c26 => ?_)
                · skip
                  replace c26 : ¬ (0 : Int32) ≤ (digitF (hereF tx len r2.1) (16 : Int32)) := Int32.not_le.mpr c26
                  refine Z.iload C dX2_readNumber_139 0 rfl ?_
                  refine Z.if_ne C 153 dX2_readNumber_141 (by decide) (fun c27 => ?_) (fun c27 => ?_)
                  · skip
                    replace c27 : ¬ dg = 0 := mt (nI_eq (by omega) (by omega)).mpr c27
                    refine Z.iload C dX2_readNumber_153 0 rfl ?_
                    refine Z.iload C dX2_readNumber_155 1 rfl ?_
                    refine Z.icmp_gt C 178 dX2_readNumber_157 (by decide) (fun c28 => ?_) (fun c28 => ?_)
                    · skip
                      replace c28 : 8 < dg := (nI_ltI (by omega) (by omega)).mp c28
                      refine Z.aload_n C dX2_readNumber_178 4 rfl rfl ?_
                      refine Z.iload C dX2_readNumber_179 3 rfl ?_
                      refine Z.callVi C (nA := 1) (As := [.int (nI r.1)]) (st := []) (c_refuse r2 r.1) gX2_readNumber_X2_refuse rfl (by decide +kernel) (rm_ok (by omega) (by decide)) 0 rfl rfl rfl (Nat.le_of_ble_eq_true rfl) rfl dX2_readNumber_181 ?_
                      refine Z.zret C hr hA dX2_readNumber_184 (b := false) rfl ?_ ?_
                      · first | (rw [hm73]; simp [mNumLoop, mNumEnd, (eq_true c1), (eq_false c17), (eq_false c18), (eq_false c19), (eq_true c25), (eq_false c26), (eq_false c27), (eq_true c28)]; done) | (rw [hm73]; simp_all [mNumLoop, mNumEnd]; done)
                      · (refine congrArg (wR aR aT aC aK aF aS cC cI tx len) ?_; first | (rw [hm73]; simp [mNumLoop, mNumEnd, (eq_true c1), (eq_false c17), (eq_false c18), (eq_false c19), (eq_true c25), (eq_false c26), (eq_false c27), (eq_true c28)]; done) | (rw [hm73]; simp_all [mNumLoop, mNumEnd]; done))
                    · skip
                      replace c28 : ¬ 8 < dg := mt (nI_ltI (by omega) (by omega)).mpr c28
                      refine Z.aload_n C dX2_readNumber_160 4 rfl rfl ?_
                      refine Z.get C in2 0 rfl rfl 5 (by decide) (by decide +kernel) rfl rfl dX2_readNumber_161 ?_
                      refine Z.lload_n C dX2_readNumber_164 5 rfl rfl ?_
                      refine Z.lcmp C (v := (lg_cmp (lN r2.2.2.1) (lN p0))) dX2_readNumber_165 rfl ?_
                      refine Z.if_lt C 178 dX2_readNumber_166 (by decide) (fun c29 => ?_) (fun c29 => ?_)
                      · skip
                        replace c29 : lN r2.2.2.1 < lN p0 := lgc_lt.mp c29
                        refine Z.aload_n C dX2_readNumber_178 4 rfl rfl ?_
                        refine Z.iload C dX2_readNumber_179 3 rfl ?_
                        refine Z.callVi C (nA := 1) (As := [.int (nI r.1)]) (st := []) (c_refuse r2 r.1) gX2_readNumber_X2_refuse rfl (by decide +kernel) (rm_ok (by omega) (by decide)) 0 rfl rfl rfl (Nat.le_of_ble_eq_true rfl) rfl dX2_readNumber_181 ?_
                        refine Z.zret C hr hA dX2_readNumber_184 (b := false) rfl ?_ ?_
                        · first | (rw [hm73]; simp [mNumLoop, mNumEnd, (eq_true c1), (eq_false c17), (eq_false c18), (eq_false c19), (eq_true c25), (eq_false c26), (eq_false c27), (eq_false c28), (eq_true c29)]; done) | (rw [hm73]; simp_all [mNumLoop, mNumEnd]; done)
                        · (refine congrArg (wR aR aT aC aK aF aS cC cI tx len) ?_; first | (rw [hm73]; simp [mNumLoop, mNumEnd, (eq_true c1), (eq_false c17), (eq_false c18), (eq_false c19), (eq_true c25), (eq_false c26), (eq_false c27), (eq_false c28), (eq_true c29)]; done) | (rw [hm73]; simp_all [mNumLoop, mNumEnd]; done))
                      · skip
                        replace c29 : ¬ lN r2.2.2.1 < lN p0 := mt lgc_lt.mpr c29
                        refine Z.aload_n C dX2_readNumber_169 4 rfl rfl ?_
                        refine Z.get C in2 0 rfl rfl 5 (by decide) (by decide +kernel) rfl rfl dX2_readNumber_170 ?_
                        refine Z.lload_n C dX2_readNumber_173 6 rfl rfl ?_
                        refine Z.lcmp C (v := (lg_cmp (lN r2.2.2.1) (lN p1))) dX2_readNumber_174 rfl ?_
                        refine Z.if_le C 185 dX2_readNumber_175 (by decide) (fun c30 => ?_) (fun c30 => ?_)
                        · skip
                          replace c30 : ¬ lN p1 < lN r2.2.2.1 := lgc_le.mp c30
                          refine Z.iconst C (v := (nI 1)) dX2_readNumber_185 (by decide) ?_
                          refine Z.zret C hr hA dX2_readNumber_186 (b := true) rfl ?_ ?_
                          · first | (rw [hm73]; simp [mNumLoop, mNumEnd, (eq_true c1), (eq_false c17), (eq_false c18), (eq_false c19), (eq_true c25), (eq_false c26), (eq_false c27), (eq_false c28), (eq_false c29), (eq_false c30)]; done) | (rw [hm73]; simp_all [mNumLoop, mNumEnd]; done)
                          · (refine congrArg (wR aR aT aC aK aF aS cC cI tx len) ?_; first | (rw [hm73]; simp [mNumLoop, mNumEnd, (eq_true c1), (eq_false c17), (eq_false c18), (eq_false c19), (eq_true c25), (eq_false c26), (eq_false c27), (eq_false c28), (eq_false c29), (eq_false c30)]; done) | (rw [hm73]; simp_all [mNumLoop, mNumEnd]; done))
                        · skip
                          replace c30 : lN p1 < lN r2.2.2.1 := Classical.not_not.mp (mt lgc_le.mpr c30)
                          refine Z.aload_n C dX2_readNumber_178 4 rfl rfl ?_
                          refine Z.iload C dX2_readNumber_179 3 rfl ?_
                          refine Z.callVi C (nA := 1) (As := [.int (nI r.1)]) (st := []) (c_refuse r2 r.1) gX2_readNumber_X2_refuse rfl (by decide +kernel) (rm_ok (by omega) (by decide)) 0 rfl rfl rfl (Nat.le_of_ble_eq_true rfl) rfl dX2_readNumber_181 ?_
                          refine Z.zret C hr hA dX2_readNumber_184 (b := false) rfl ?_ ?_
                          · first | (rw [hm73]; simp [mNumLoop, mNumEnd, (eq_true c1), (eq_false c17), (eq_false c18), (eq_false c19), (eq_true c25), (eq_false c26), (eq_false c27), (eq_false c28), (eq_false c29), (eq_true c30)]; done) | (rw [hm73]; simp_all [mNumLoop, mNumEnd]; done)
                          · (refine congrArg (wR aR aT aC aK aF aS cC cI tx len) ?_; first | (rw [hm73]; simp [mNumLoop, mNumEnd, (eq_true c1), (eq_false c17), (eq_false c18), (eq_false c19), (eq_true c25), (eq_false c26), (eq_false c27), (eq_false c28), (eq_false c29), (eq_true c30)]; done) | (rw [hm73]; simp_all [mNumLoop, mNumEnd]; done))
                  · skip
                    replace c27 : dg = 0 := (nI_eq (by omega) (by omega)).mp c27
                    refine Z.aload_n C dX2_readNumber_144 4 rfl rfl ?_
                    refine Z.aload_n C dX2_readNumber_145 4 rfl rfl ?_
                    refine Z.get C in2 0 rfl rfl 3 (by decide) (by decide +kernel) rfl rfl dX2_readNumber_146 ?_
                    refine Z.callVi C (nA := 1) (As := [.int (nI r2.1)]) (st := []) (c_refuse r2 r2.1) gX2_readNumber_X2_refuse rfl (by decide +kernel) (rm_ok (by omega) (by decide)) 0 rfl rfl rfl (Nat.le_of_ble_eq_true rfl) rfl dX2_readNumber_149 ?_
                    refine Z.zret C hr hA dX2_readNumber_152 (b := false) rfl ?_ ?_
                    · first | (rw [hm73]; simp [mNumLoop, mNumEnd, (eq_true c1), (eq_false c17), (eq_false c18), (eq_false c19), (eq_true c25), (eq_false c26), (eq_true c27)]; done) | (rw [hm73]; simp_all [mNumLoop, mNumEnd]; done)
                    · (refine congrArg (wR aR aT aC aK aF aS cC cI tx len) ?_; first | (rw [hm73]; simp [mNumLoop, mNumEnd, (eq_true c1), (eq_false c17), (eq_false c18), (eq_false c19), (eq_true c25), (eq_false c26), (eq_true c27)]; done) | (rw [hm73]; simp_all [mNumLoop, mNumEnd]; done))
                · skip
                  replace c26 : (0 : Int32) ≤ (digitF (hereF tx len r2.1) (16 : Int32)) := Int32.not_lt.mp c26
                  have c26l := dig_lt c26
                  refine Z.iload C dX2_readNumber_93 0 rfl ?_
                  refine Z.iload C dX2_readNumber_95 1 rfl ?_
                  refine Z.icmp_ge C 123 dX2_readNumber_97 (by decide) (fun c31 => ?_) (fun c31 => ?_)
                  · skip
                    replace c31 : ¬ dg < 8 := Nat.not_lt.mpr ((nI_leI (by omega) (by omega)).mp c31)
                    refine Z.iinc C (v := (nI (dg + 1))) (lv' := [(9, .int (nI (dg + 1))), (8, .int (nI 8)), (7, .int (nI 16)), (5, .int (nI r.1)), (0, .ref aR), (1, .long (lN p0)), (3, .long (lN p1))]) dX2_readNumber_123 0 rfl (nI_add dg 1) (by decide) rfl ?_
                    refine Z.aload_n C dX2_readNumber_126 4 rfl rfl ?_
                    refine Z.dup C dX2_readNumber_127 rfl ?_
                    refine Z.get C in2 0 rfl rfl 3 (by decide) (by decide +kernel) rfl rfl dX2_readNumber_128 ?_
                    refine Z.iconst C (v := (nI 1)) dX2_readNumber_131 (by decide) ?_
                    refine Z.iadd C (v := (nI (r2.1 + 1))) dX2_readNumber_132 (nI_add r2.1 1) ?_
                    refine Z.put C in2 0 rfl rfl 3 (by decide) tyX2 tyX2_ok nmX2 (by decide +kernel) rfl rfl rfl rfl (Nat.le_of_ble_eq_true rfl) dX2_readNumber_133 (w' := (wR aR aT aC aK aF aS cC cI tx len (r2.1 + 1, r2.2))) rfl ?_
                    refine Z.goto C 73 dX2_readNumber_136 (by decide) ?_
                    refine Z.sub [0, 1, 2, 3, 4, 5, 6] rfl ?_
                    exact ih73 (dg + 1) (r2.1 + 1, r2.2) (by omega) ⟨by first | omega | (dsimp only; omega), by omega, by first | omega | (dsimp only [csz]; omega), by first | omega | (dsimp only; omega)⟩ (by rw [hm73, mNumLoop]; simp [(eq_true c26), (eq_false c31)])
                  · skip
                    replace c31 : dg < 8 := Nat.not_le.mp (mt (nI_leI (by omega) (by omega)).mpr c31)
                    refine Z.aload_n C dX2_readNumber_100 4 rfl rfl ?_
                    refine Z.aload_n C dX2_readNumber_101 4 rfl rfl ?_
                    refine Z.get C in2 0 rfl rfl 5 (by decide) (by decide +kernel) rfl rfl dX2_readNumber_102 ?_
                    refine Z.iload C dX2_readNumber_105 2 rfl ?_
                    refine Z.i2l C (v := (lN 16)) dX2_readNumber_107 (nI_l (by omega)) ?_
                    refine Z.lmul C (v := (lN (r2.2.2.1 * 16))) dX2_readNumber_108 (lN_mul r2.2.2.1 16) ?_
                    refine Z.aload_n C dX2_readNumber_109 4 rfl rfl ?_
                    refine Z.callVi C (nA := 0) (As := []) (st := [.long (lN (r2.2.2.1 * 16)), .ref aR]) (c_here r2 ⟨by first | omega | (dsimp only; omega), by omega, by first | omega | (dsimp only [csz]; omega), by first | omega | (dsimp only; omega)⟩) gX2_readNumber_X2_here rfl (by decide +kernel) (rm_ok (by omega) (by decide)) 0 rfl rfl rfl (Nat.le_of_ble_eq_true rfl) rfl dX2_readNumber_110 ?_
                    refine Z.iload C dX2_readNumber_113 2 rfl ?_
                    refine Z.callSi C (nA := 2) (As := [.int (hereF tx len r2.1), .int (16 : Int32)]) (st := [.long (lN (r2.2.2.1 * 16)), .ref aR]) (c_digitOf (hereF tx len r2.1) (16 : Int32)) gX2_readNumber_X2_digitOf rfl (by decide +kernel) (rm_ok (by omega) (by decide)) rfl (Nat.le_of_ble_eq_true rfl) rfl dX2_readNumber_115 ?_
                    refine Z.i2l C (v := (lN ((digitF (hereF tx len r2.1) (16 : Int32)).toNatClampNeg))) dX2_readNumber_118 (i64_of (by assumption)) ?_
                    refine Z.ladd C (v := (lN ((r2.2.2.1 * 16) + ((digitF (hereF tx len r2.1) (16 : Int32)).toNatClampNeg)))) dX2_readNumber_119 (lN_add (r2.2.2.1 * 16) ((digitF (hereF tx len r2.1) (16 : Int32)).toNatClampNeg)) ?_
                    refine Z.put C in2 0 rfl rfl 5 (by decide) tyX2 tyX2_ok nmX2 (by decide +kernel) rfl rfl rfl rfl (Nat.le_of_ble_eq_true rfl) dX2_readNumber_120 (w' := (wR aR aT aC aK aF aS cC cI tx len (r2.1, r2.2.1, (r2.2.2.1 * 16) + ((digitF (hereF tx len r2.1) (16 : Int32)).toNatClampNeg), r2.2.2.2))) rfl ?_
                    refine Z.iinc C (v := (nI (dg + 1))) (lv' := [(9, .int (nI (dg + 1))), (8, .int (nI 8)), (7, .int (nI 16)), (5, .int (nI r.1)), (0, .ref aR), (1, .long (lN p0)), (3, .long (lN p1))]) dX2_readNumber_123 0 rfl (nI_add dg 1) (by decide) rfl ?_
                    refine Z.aload_n C dX2_readNumber_126 4 rfl rfl ?_
                    refine Z.dup C dX2_readNumber_127 rfl ?_
                    refine Z.get C in2 0 rfl rfl 3 (by decide) (by decide +kernel) rfl rfl dX2_readNumber_128 ?_
                    refine Z.iconst C (v := (nI 1)) dX2_readNumber_131 (by decide) ?_
                    refine Z.iadd C (v := (nI (r2.1 + 1))) dX2_readNumber_132 (nI_add r2.1 1) ?_
                    refine Z.put C in2 0 rfl rfl 3 (by decide) tyX2 tyX2_ok nmX2 (by decide +kernel) rfl rfl rfl rfl (Nat.le_of_ble_eq_true rfl) dX2_readNumber_133 (w' := (wR aR aT aC aK aF aS cC cI tx len (r2.1 + 1, r2.2.1, (r2.2.2.1 * 16) + ((digitF (hereF tx len r2.1) (16 : Int32)).toNatClampNeg), r2.2.2.2))) rfl ?_
                    refine Z.goto C 73 dX2_readNumber_136 (by decide) ?_
                    refine Z.sub [0, 1, 2, 3, 4, 5, 6] rfl ?_
                    exact ih73 (dg + 1) (r2.1 + 1, r2.2.1, (r2.2.2.1 * 16) + ((digitF (hereF tx len r2.1) (16 : Int32)).toNatClampNeg), r2.2.2.2) (by omega) ⟨by first | omega | (dsimp only; omega), by omega, by first | omega | (dsimp only [csz]; omega), by first | omega | (dsimp only; omega)⟩ (by rw [hm73, mNumLoop]; simp [(eq_true c26), (eq_true c31)])
          refine Z.sub [0, 1, 2, 4, 5, 6, 7] rfl ?_
          exact key73 480 0 (r.1 + 1, r.2.1, 0, r.2.2.2) (by omega) ⟨by first | omega | (dsimp only; omega), by omega, by first | omega | (dsimp only [csz]; omega), by first | omega | (dsimp only; omega)⟩ (by simp [mNumber, (eq_true c1), (eq_false c17), (eq_false c18), (eq_false c19)])
end
section
def tLoop (tx : Nat → Int32) (len : Nat) : Nat → RS → Bool × RS
  | 0, r => (true, r)
  | n + 1, r => if hereF tx len r.1 = 60 ∨ hereF tx len r.1 = 62 then (if (mNumber tx len 1 31 (r.1 + 1, r.2)).1 = true then tLoop tx len n (rC (mNumber tx len 1 31 (r.1 + 1, r.2)).2 (cOne (hereF tx len r.1) (nI (mNumber tx len 1 31 (r.1 + 1, r.2)).2.2.2.1) (mNumber tx len 1 31 (r.1 + 1, r.2)).2.2.2.2.2.2)) else (false, (mNumber tx len 1 31 (r.1 + 1, r.2)).2)) else (true, r)
def mTurned (tx : Nat → Int32) (len : Nat) (f : RS → Bool × RS) (r : RS) : Bool × RS := if (f r).1 = true then tLoop tx len 480 (f r).2 else (false, (f r).2)
def sLoop (tx : Nat → Int32) (len : Nat) (f : RS → Bool × RS) : Nat → RS → Bool × RS
  | 0, r => (true, r)
  | n + 1, r => if isOpF (hereF tx len r.1) = true then (if (mTurned tx len f (r.1 + 1, r.2)).1 = true then sLoop tx len f n (rC (mTurned tx len f (r.1 + 1, r.2)).2 (cTwo (hereF tx len r.1) (mTurned tx len f (r.1 + 1, r.2)).2.2.2.2.2.2)) else (false, (mTurned tx len f (r.1 + 1, r.2)).2)) else (true, r)
def mSum (tx : Nat → Int32) (len : Nat) (f : RS → Bool × RS) (r : RS) : Bool × RS := if (mTurned tx len f r).1 = true then sLoop tx len f 480 (mTurned tx len f r).2 else (false, (mTurned tx len f r).2)
def mNest (tx : Nat → Int32) (len : Nat) (f : RS → Bool × RS) (r : RS) : Bool × RS :=
  if hereF tx len r.1 = 40 then (if (mSum tx len f (r.1 + 1, r.2)).1 = true then mExpect tx len 41 (mSum tx len f (r.1 + 1, r.2)).2 else (false, (mSum tx len f (r.1 + 1, r.2)).2))
  else if hereF tx len r.1 = 126 then (if (f (r.1 + 1, r.2)).1 = true then (true, rC (f (r.1 + 1, r.2)).2 (cOne (hereF tx len r.1) 0 (f (r.1 + 1, r.2)).2.2.2.2.2.2)) else (false, (f (r.1 + 1, r.2)).2))
  else if (mExpect tx len 91 (r.1 + 1, r.2)).1 = true then (if (mSum tx len f (mExpect tx len 91 (r.1 + 1, r.2)).2).1 = true then (if (mExpect tx len 93 (mSum tx len f (mExpect tx len 91 (r.1 + 1, r.2)).2).2).1 = true then (true, rC (mExpect tx len 93 (mSum tx len f (mExpect tx len 91 (r.1 + 1, r.2)).2).2).2 (cAdd 3 0 0 (mExpect tx len 93 (mSum tx len f (mExpect tx len 91 (r.1 + 1, r.2)).2).2).2.2.2.2.2.2)) else (false, (mExpect tx len 93 (mSum tx len f (mExpect tx len 91 (r.1 + 1, r.2)).2).2).2)) else (false, (mSum tx len f (mExpect tx len 91 (r.1 + 1, r.2)).2).2)) else (false, (mExpect tx len 91 (r.1 + 1, r.2)).2)
def gRef (r : RS) : Bool × RS := (false, (r.1, r.1 + 1, r.2.2))
def mFac (tx : Nat → Int32) (len : Nat) (g : RS → Bool × RS) (r : RS) : Bool × RS :=
  if 0 ≤ nameF (hereF tx len r.1) then (true, rC (r.1 + 1, r.2) (cAdd 2 (nameF (hereF tx len r.1)) 0 r.2.2.2.2.2))
  else if hereF tx len r.1 = 126 ∨ hereF tx len r.1 = 40 ∨ hereF tx len r.1 = 64 then g r
  else if (mNumber tx len 0 4294967295 r).1 = true then (true, rC (mNumber tx len 0 4294967295 r).2 (cAdd 1 (nI (mNumber tx len 0 4294967295 r).2.2.2.1) 0 (mNumber tx len 0 4294967295 r).2.2.2.2.2.2)) else (false, (mNumber tx len 0 4294967295 r).2)
/-- a factor inside of 12 - d others -/
def mF (tx : Nat → Int32) (len : Nat) : Nat → RS → Bool × RS
  | 0 => mFac tx len gRef
  | d + 1 => mFac tx len (mNest tx len (mF tx len d))
theorem name_lt {tx : Nat → Int32} {len a : Nat} (h : 0 ≤ nameF (hereF tx len a)) : a < len := by
  unfold hereF at h; split at h
  · assumption
  · exact absurd h (by decide)
theorem rC_inv {len : Nat} {r : RS} {c : CS} (h : InvR len r) (hc : csz c ≤ 480) : InvR len (rC r c) := ⟨h.1, h.2.1, hc, h.2.2.2⟩
theorem at_inv {len : Nat} {r : RS} (h : InvR len r) (ha : r.1 < len) : InvR len (r.1 + 1, r.2) := ⟨ha, h.2.1, h.2.2.1, h.2.2.2⟩
theorem mExpect_inv {tx : Nat → Int32} {len : Nat} {c : Int32} {r : RS} (hc : c ≠ 0) (h : InvR len r) : InvR len (mExpect tx len c r).2 := by
  unfold mExpect; split
  · rename_i q; exact at_inv h (here_lt q hc)
  · exact h
theorem mNumEnd_inv {len lo hi start md dg : Nat} {r : RS} (h : InvR len r) : InvR len (mNumEnd lo hi start md dg r).2 := by
  unfold mNumEnd; split
  · exact h
  · split <;> exact h
theorem mNumLoop_inv {tx : Nat → Int32} {len lo hi start md base : Nat} {b32 : Int32} : ∀ (n dg : Nat) (r : RS), InvR len r → InvR len (mNumLoop tx len lo hi start md base b32 n dg r).2 := by
  intro n
  induction n with
  | zero => intro dg r h; exact mNumEnd_inv h
  | succ n ih =>
    intro dg r h
    rw [mNumLoop]; split
    · rename_i q
      refine ih _ _ ?_
      have := dig_lt q
      split
      · exact ⟨this, h.2.1, h.2.2.1, h.2.2.2⟩
      · exact at_inv h this
    · exact mNumEnd_inv h
theorem mNumber_inv {tx : Nat → Int32} {len lo hi : Nat} {r : RS} (h : InvR len r) : InvR len (mNumber tx len lo hi r).2 := by
  unfold mNumber; split
  · rename_i q; exact mNumLoop_inv _ _ _ ⟨here_lt q (by decide), h.2.1, h.2.2.1, h.2.2.2⟩
  · exact mNumLoop_inv _ _ _ ⟨h.1, h.2.1, h.2.2.1, h.2.2.2⟩
theorem tLoop_inv {tx : Nat → Int32} {len : Nat} : ∀ (n : Nat) (r : RS), InvR len r → InvR len (tLoop tx len n r).2 := by
  intro n
  induction n with
  | zero => intro r h; exact h
  | succ n ih =>
    intro r h
    rw [tLoop]; split
    · rename_i q
      have ha : r.1 < len := q.elim (fun z => here_lt z (by decide)) (fun z => here_lt z (by decide))
      have h1 := mNumber_inv (tx := tx) (lo := 1) (hi := 31) (at_inv h ha)
      split
      · exact ih _ (rC_inv h1 (cOne_sz h1.2.2.1))
      · exact h1
    · exact h
theorem mTurned_inv {tx : Nat → Int32} {len : Nat} {f : RS → Bool × RS} (hf : ∀ r, InvR len r → InvR len (f r).2) {r : RS} (h : InvR len r) : InvR len (mTurned tx len f r).2 := by
  unfold mTurned; split
  · exact tLoop_inv _ _ (hf r h)
  · exact hf r h
theorem sLoop_inv {tx : Nat → Int32} {len : Nat} {f : RS → Bool × RS} (hf : ∀ r, InvR len r → InvR len (f r).2) : ∀ (n : Nat) (r : RS), InvR len r → InvR len (sLoop tx len f n r).2 := by
  intro n
  induction n with
  | zero => intro r h; exact h
  | succ n ih =>
    intro r h
    rw [sLoop]; split
    · rename_i q
      have h1 := mTurned_inv (tx := tx) hf (at_inv h (isOp_lt q))
      split
      · exact ih _ (rC_inv h1 (cTwo_sz h1.2.2.1))
      · exact h1
    · exact h
theorem mSum_inv {tx : Nat → Int32} {len : Nat} {f : RS → Bool × RS} (hf : ∀ r, InvR len r → InvR len (f r).2) {r : RS} (h : InvR len r) : InvR len (mSum tx len f r).2 := by
  unfold mSum; split
  · exact sLoop_inv hf _ _ (mTurned_inv hf h)
  · exact mTurned_inv hf h
theorem mNest_inv {tx : Nat → Int32} {len : Nat} {f : RS → Bool × RS} (hf : ∀ r, InvR len r → InvR len (f r).2) {r : RS} (h : InvR len r) (ha : r.1 < len) : InvR len (mNest tx len f r).2 := by
  have h0 := at_inv h ha
  have h1 := mSum_inv (tx := tx) hf h0
  have h2 := hf _ h0
  have h3 := mExpect_inv (tx := tx) (c := 91) (by decide) h0
  have h4 := mSum_inv (tx := tx) hf h3
  have h5 := mExpect_inv (tx := tx) (c := 93) (by decide) h4
  unfold mNest; split
  · split
    · exact mExpect_inv (by decide) h1
    · exact h1
  · split
    · split
      · exact rC_inv h2 (cOne_sz h2.2.2.1)
      · exact h2
    · split
      · split
        · split
          · exact rC_inv h5 (cAdd_sz h5.2.2.1)
          · exact h5
        · exact h4
      · exact h3
theorem mFac_inv {tx : Nat → Int32} {len : Nat} {g : RS → Bool × RS} (hg : ∀ r, InvR len r → r.1 < len → InvR len (g r).2) {r : RS} (h : InvR len r) : InvR len (mFac tx len g r).2 := by
  have h1 := mNumber_inv (tx := tx) (lo := 0) (hi := 4294967295) h
  unfold mFac; split
  · rename_i q; exact rC_inv (at_inv h (name_lt q)) (cAdd_sz h.2.2.1)
  · split
    · rename_i q; exact hg r h (q.elim (fun z => here_lt z (by decide)) (fun z => z.elim (fun z => here_lt z (by decide)) (fun z => here_lt z (by decide))))
    · split
      · exact rC_inv h1 (cAdd_sz h1.2.2.1)
      · exact h1
theorem mF_inv {tx : Nat → Int32} {len : Nat} : ∀ (d : Nat) (r : RS), InvR len r → InvR len (mF tx len d r).2 := by
  intro d
  induction d with
  | zero => intro r h; exact mFac_inv (fun _ h _ => h) h
  | succ d ih => intro r h; exact mFac_inv (fun _ h ha => mNest_inv ih h ha) h
end
section
set_option maxHeartbeats 4000000 in
set_option maxRecDepth 100000 in
theorem c_turned {l : Launch} {D : va_G} {aR aT aC aK aF aS : Nat} {cC cI : ClassId} {tx : Nat → Int32} {len : Nat} (r : RS)  (hI : InvR len r) (f : RS → Bool × RS) (ins k : Nat) (hk : 8 ≤ k) (hF : ∀ r : RS, InvR len r → Mi l yX2_readFactor wsX2_readFactor k D [(cC, .char), (cI, .int)] [.ref aR, .int (nI ins)] (wR aR aT aC aK aF aS cC cI tx len r) (b2i (f r).1) (wR aR aT aC aK aF aS cC cI tx len (f r).2)) (hfI : ∀ r, InvR len r → InvR len (f r).2) : Mi l yX2_readTurned wsX2_readTurned (k + 1) D [(cC, .char), (cI, .int)] [.ref aR, .int (nI ins)] (wR aR aT aC aK aF aS cC cI tx len r) (b2i ((mTurned tx len f r).1)) (wR aR aT aC aK aF aS cC cI tx len ((mTurned tx len f r).2)) := by
  refine Mi.of (cc := cX2_readTurned) (maxL := 4) (by decide) rfl (Nat.le_of_ble_eq_true rfl) ?_
  intro p e s m below meth c A C hr hA
  have in2 : ∀ w ∈ wsX20, w ∈ wsX2_readTurned := by decide +kernel
  show Z p l e (rmN _) s m _ below meth c _ D A _ _ [(0, .ref aR), (1, .int (nI ins))] 0 []
  obtain ⟨hI1, hI2, hI3, hI4⟩ := hI
  dsimp only [csz] at hI3
  refine Z.aload_n C dX2_readTurned_0 0 rfl rfl ?_
  refine Z.iload_n C dX2_readTurned_1 1 rfl rfl ?_
  refine Z.callVi C (nA := 1) (As := [.int (nI ins)]) (st := []) (hF r ⟨by first | omega | (dsimp only; omega), by omega, by first | omega | (dsimp only [csz]; omega), by first | omega | (dsimp only; omega)⟩) gX2_readTurned_X2_readFactor rfl (by decide +kernel) (rm_ok (by omega) (by decide)) 0 rfl rfl rfl (Nat.le_of_ble_eq_true rfl) rfl dX2_readTurned_2 ?_
  generalize e1 : f r = x1
  have i1 : InvR len x1.2 := by rw [← e1]; exact hfI _ ⟨by first | omega | (dsimp only; omega), by omega, by first | omega | (dsimp only [csz]; omega), by first | omega | (dsimp only; omega)⟩
  obtain ⟨h11, h21, h31, h41⟩ := i1
  dsimp only [csz] at h31
  refine Z.if_ne C 10 dX2_readTurned_5 (by decide) (fun c2 => ?_) (fun c2 => ?_)
  · skip
    replace c2 : x1.1 = true := b2i_n0.mp c2
    refine Z.iconst C (v := (nI 0)) dX2_readTurned_10 (by decide) ?_
    refine Z.istore_n C (lv' := [(2, .int (nI 0)), (0, .ref aR), (1, .int (nI ins))]) dX2_readTurned_11 rfl (by decide) rfl ?_
    have key12 : ∀ (n : Nat) (i : Nat) (r2 : RS), i + n = 480 → InvR len r2 → mTurned tx len f r = tLoop tx len n r2 → Z p l e (rmN (k + 1)) s m ([.ref aR, .int (nI ins)] : List Value).toArray below meth c 4 D A (QI below D [(cC, .char), (cI, .int)] [.ref aR, .int (nI ins)] (wR aR aT aC aK aF aS cC cI tx len r) (b2i ((mTurned tx len f r).1)) (wR aR aT aC aK aF aS cC cI tx len ((mTurned tx len f r).2)) s) (wR aR aT aC aK aF aS cC cI tx len r2) [(2, .int (nI i)), (0, .ref aR), (1, .int (nI ins))] 12 [] := by
      intro n
      induction n with
      | zero =>
        intro i r2 hn hi hm12
        obtain ⟨k1, k2, k3, k4⟩ := hi
        dsimp only [csz] at k3
        refine Z.iload_n C dX2_readTurned_12 0 rfl rfl ?_
        refine Z.sipush C (v := (nI 480)) dX2_readTurned_13 (by decide) ?_
        refine Z.icmp_ge C 84 dX2_readTurned_16 (by decide) (fun c3 => ?_) (fun c3 => ?_)
        · skip
          replace c3 : ¬ i < 480 := Nat.not_lt.mpr ((nI_leI (by omega) (by omega)).mp c3)
          refine Z.iconst C (v := (nI 1)) dX2_readTurned_84 (by decide) ?_
          refine Z.zret C hr hA dX2_readTurned_85 (b := true) rfl ?_ ?_
          · first | (rw [hm12]; simp [tLoop, rC, e1, c2, (eq_false c3)]; done) | (rw [hm12]; simp_all [tLoop, rC]; done)
          · (refine congrArg (wR aR aT aC aK aF aS cC cI tx len) ?_; first | (rw [hm12]; simp [tLoop, rC, e1, c2, (eq_false c3)]; done) | (rw [hm12]; simp_all [tLoop, rC]; done))
        · skip
          replace c3 : i < 480 := Nat.not_le.mp (mt (nI_leI (by omega) (by omega)).mpr c3)
          exact absurd c3 (by omega)
      | succ n ih12 =>
        intro i r2 hn hi hm12
        obtain ⟨k1, k2, k3, k4⟩ := hi
        dsimp only [csz] at k3
        refine Z.iload_n C dX2_readTurned_12 0 rfl rfl ?_
        refine Z.sipush C (v := (nI 480)) dX2_readTurned_13 (by decide) ?_
        refine Z.icmp_ge C 84 dX2_readTurned_16 (by decide) (fun c4 => ?_) (fun c4 => ?_)
        · skip
          replace c4 : ¬ i < 480 := Nat.not_lt.mpr ((nI_leI (by omega) (by omega)).mp c4)
          exact absurd c4 (by omega)
        · skip
          replace c4 : i < 480 := Nat.not_le.mp (mt (nI_leI (by omega) (by omega)).mpr c4)
          refine Z.aload_n C dX2_readTurned_19 1 rfl rfl ?_
          refine Z.callVi C (nA := 0) (As := []) (st := []) (c_here r2 ⟨by first | omega | (dsimp only; omega), by omega, by first | omega | (dsimp only [csz]; omega), by first | omega | (dsimp only; omega)⟩) gX2_readTurned_X2_here rfl (by decide +kernel) (rm_ok (by omega) (by decide)) 0 rfl rfl rfl (Nat.le_of_ble_eq_true rfl) rfl dX2_readTurned_20 ?_
          refine Z.bipush C (v := (nI 60)) dX2_readTurned_23 (by decide) ?_
          refine Z.icmp_eq C 37 dX2_readTurned_25 (by decide) (fun c5 => ?_) (fun c5 => ?_)
          · skip
            replace c5 : (hereF tx len r2.1) = (60 : Int32) := c5
            have c5l := here_lt c5 (by decide)
            refine Z.aload_n C dX2_readTurned_37 1 rfl rfl ?_
            refine Z.callVi C (nA := 0) (As := []) (st := []) (c_here r2 ⟨by first | omega | (dsimp only; omega), by omega, by first | omega | (dsimp only [csz]; omega), by first | omega | (dsimp only; omega)⟩) gX2_readTurned_X2_here rfl (by decide +kernel) (rm_ok (by omega) (by decide)) 0 rfl rfl rfl (Nat.le_of_ble_eq_true rfl) rfl dX2_readTurned_38 ?_
            refine Z.istore_n C (lv' := [(3, .int (hereF tx len r2.1)), (2, .int (nI i)), (0, .ref aR), (1, .int (nI ins))]) dX2_readTurned_41 rfl (by decide) rfl ?_
            refine Z.aload_n C dX2_readTurned_42 2 rfl rfl ?_
            refine Z.dup C dX2_readTurned_43 rfl ?_
            refine Z.get C in2 0 rfl rfl 3 (by decide) (by decide +kernel) rfl rfl dX2_readTurned_44 ?_
            refine Z.iconst C (v := (nI 1)) dX2_readTurned_47 (by decide) ?_
            refine Z.iadd C (v := (nI (r2.1 + 1))) dX2_readTurned_48 (nI_add r2.1 1) ?_
            refine Z.put C in2 0 rfl rfl 3 (by decide) tyX2 tyX2_ok nmX2 (by decide +kernel) rfl rfl rfl rfl (Nat.le_of_ble_eq_true rfl) dX2_readTurned_49 (w' := (wR aR aT aC aK aF aS cC cI tx len (r2.1 + 1, r2.2))) rfl ?_
            refine Z.aload_n C dX2_readTurned_52 2 rfl rfl ?_
            refine Z.lconst C (v := lN 1) dX2_readTurned_53 (by decide) ?_
            refine Z.ldc2 C (v := lN 31) dX2_readTurned_54 (by decide +kernel) ?_
            refine Z.callVi C (nA := 2) (As := [.long (lN 1), .long (lN 31)]) (st := []) (c_readNumber (r2.1 + 1, r2.2) 1 31 ⟨by first | omega | (dsimp only; omega), by omega, by first | omega | (dsimp only [csz]; omega), by first | omega | (dsimp only; omega)⟩) gX2_readTurned_X2_readNumber rfl (by decide +kernel) (rm_ok (by omega) (by decide)) 0 rfl rfl rfl (Nat.le_of_ble_eq_true rfl) rfl dX2_readTurned_57 ?_
            generalize e6 : mNumber tx len 1 31 (r2.1 + 1, r2.2) = x6
            have i6 : InvR len x6.2 := by rw [← e6]; exact mNumber_inv ⟨by first | omega | (dsimp only; omega), by omega, by first | omega | (dsimp only [csz]; omega), by first | omega | (dsimp only; omega)⟩
            obtain ⟨h16, h26, h36, h46⟩ := i6
            dsimp only [csz] at h36
            refine Z.if_ne C 65 dX2_readTurned_60 (by decide) (fun c7 => ?_) (fun c7 => ?_)
            · skip
              replace c7 : x6.1 = true := b2i_n0.mp c7
              refine Z.aload_n C dX2_readTurned_65 2 rfl rfl ?_
              refine Z.get C in2 0 rfl rfl 2 (by decide) (by decide +kernel) rfl rfl dX2_readTurned_66 ?_
              refine Z.iload_n C dX2_readTurned_69 0 rfl rfl ?_
              refine Z.aload_n C dX2_readTurned_70 2 rfl rfl ?_
              refine Z.get C in2 0 rfl rfl 5 (by decide) (by decide +kernel) rfl rfl dX2_readTurned_71 ?_
              refine Z.l2i C (v := (nI x6.2.2.2.1)) dX2_readTurned_74 (lN_i x6.2.2.2.1) ?_
              refine Z.callVNv C (nA := 2) (As := [.int (hereF tx len r2.1), .int (nI x6.2.2.2.1)]) (st := []) (host := "RoundCompiler") (c_one x6.2 (hereF tx len r2.1) (nI x6.2.2.2.1) ⟨by first | omega | (dsimp only; omega), by omega, by first | omega | (dsimp only [csz]; omega), by first | omega | (dsimp only; omega)⟩) gX2_readTurned_X0_addOfOne_n119 rfl (by decide +kernel) (by decide +kernel) (by decide +kernel) (by decide +kernel) (by decide +kernel) (rm_ok (by omega) (by decide)) 2 rfl rfl rfl (Nat.le_of_ble_eq_true rfl) rfl dX2_readTurned_75 ?_
              generalize e8 : cOne (hereF tx len r2.1) (nI x6.2.2.2.1) x6.2.2.2.2.2.2 = x8
              have b8 : x8.2.2.2.1 ≤ 480 := by rw [← e8]; exact cOne_sz (by first | omega | (dsimp only [csz]; omega))
              refine Z.iinc C (v := (nI (i + 1))) (lv' := [(2, .int (nI (i + 1))), (3, .int (hereF tx len r2.1)), (0, .ref aR), (1, .int (nI ins))]) dX2_readTurned_78 1 rfl (nI_add i 1) (by decide) rfl ?_
              refine Z.goto C 12 dX2_readTurned_81 (by decide) ?_
              refine Z.sub [0, 2, 3] rfl ?_
              exact ih12 (i + 1) (x6.2.1, x6.2.2.1, x6.2.2.2.1, x6.2.2.2.2.1, x6.2.2.2.2.2.1, x8) (by omega) ⟨by first | omega | (dsimp only; omega), by omega, by first | omega | (dsimp only [csz]; omega), by first | omega | (dsimp only; omega)⟩ (by rw [hm12, tLoop]; simp [rC, e1, c2, (eq_true c4), (eq_true c5), e6, c7, e8])
            · skip
              replace c7 : x6.1 = false := b2i_0.mp c7
              refine Z.iconst C (v := (nI 0)) dX2_readTurned_63 (by decide) ?_
              refine Z.zret C hr hA dX2_readTurned_64 (b := false) rfl ?_ ?_
              · first | (rw [hm12]; simp [tLoop, rC, e1, c2, (eq_true c4), (eq_true c5), e6, c7]; done) | (rw [hm12]; simp_all [tLoop, rC]; done)
              · (refine congrArg (wR aR aT aC aK aF aS cC cI tx len) ?_; first | (rw [hm12]; simp [tLoop, rC, e1, c2, (eq_true c4), (eq_true c5), e6, c7]; done) | (rw [hm12]; simp_all [tLoop, rC]; done))
          · skip
            replace c5 : ¬ (hereF tx len r2.1) = (60 : Int32) := c5
            refine Z.aload_n C dX2_readTurned_28 1 rfl rfl ?_
            refine Z.callVi C (nA := 0) (As := []) (st := []) (c_here r2 ⟨by first | omega | (dsimp only; omega), by omega, by first | omega | (dsimp only [csz]; omega), by first | omega | (dsimp only; omega)⟩) gX2_readTurned_X2_here rfl (by decide +kernel) (rm_ok (by omega) (by decide)) 0 rfl rfl rfl (Nat.le_of_ble_eq_true rfl) rfl dX2_readTurned_29 ?_
            refine Z.bipush C (v := (nI 62)) dX2_readTurned_32 (by decide) ?_
            refine Z.icmp_ne C 84 dX2_readTurned_34 (by decide) (fun c9 => ?_) (fun c9 => ?_)
            · skip
              replace c9 : ¬ (hereF tx len r2.1) = (62 : Int32) := c9
              refine Z.iconst C (v := (nI 1)) dX2_readTurned_84 (by decide) ?_
              refine Z.zret C hr hA dX2_readTurned_85 (b := true) rfl ?_ ?_
              · first | (rw [hm12]; simp [tLoop, rC, e1, c2, (eq_true c4), (eq_false c5), (eq_false c9)]; done) | (rw [hm12]; simp_all [tLoop, rC]; done)
              · (refine congrArg (wR aR aT aC aK aF aS cC cI tx len) ?_; first | (rw [hm12]; simp [tLoop, rC, e1, c2, (eq_true c4), (eq_false c5), (eq_false c9)]; done) | (rw [hm12]; simp_all [tLoop, rC]; done))
            · skip
              replace c9 : (hereF tx len r2.1) = (62 : Int32) := c9
              have c9l := here_lt c9 (by decide)
              refine Z.aload_n C dX2_readTurned_37 1 rfl rfl ?_
              refine Z.callVi C (nA := 0) (As := []) (st := []) (c_here r2 ⟨by first | omega | (dsimp only; omega), by omega, by first | omega | (dsimp only [csz]; omega), by first | omega | (dsimp only; omega)⟩) gX2_readTurned_X2_here rfl (by decide +kernel) (rm_ok (by omega) (by decide)) 0 rfl rfl rfl (Nat.le_of_ble_eq_true rfl) rfl dX2_readTurned_38 ?_
              refine Z.istore_n C (lv' := [(3, .int (hereF tx len r2.1)), (2, .int (nI i)), (0, .ref aR), (1, .int (nI ins))]) dX2_readTurned_41 rfl (by decide) rfl ?_
              refine Z.aload_n C dX2_readTurned_42 2 rfl rfl ?_
              refine Z.dup C dX2_readTurned_43 rfl ?_
              refine Z.get C in2 0 rfl rfl 3 (by decide) (by decide +kernel) rfl rfl dX2_readTurned_44 ?_
              refine Z.iconst C (v := (nI 1)) dX2_readTurned_47 (by decide) ?_
              refine Z.iadd C (v := (nI (r2.1 + 1))) dX2_readTurned_48 (nI_add r2.1 1) ?_
              refine Z.put C in2 0 rfl rfl 3 (by decide) tyX2 tyX2_ok nmX2 (by decide +kernel) rfl rfl rfl rfl (Nat.le_of_ble_eq_true rfl) dX2_readTurned_49 (w' := (wR aR aT aC aK aF aS cC cI tx len (r2.1 + 1, r2.2))) rfl ?_
              refine Z.aload_n C dX2_readTurned_52 2 rfl rfl ?_
              refine Z.lconst C (v := lN 1) dX2_readTurned_53 (by decide) ?_
              refine Z.ldc2 C (v := lN 31) dX2_readTurned_54 (by decide +kernel) ?_
              refine Z.callVi C (nA := 2) (As := [.long (lN 1), .long (lN 31)]) (st := []) (c_readNumber (r2.1 + 1, r2.2) 1 31 ⟨by first | omega | (dsimp only; omega), by omega, by first | omega | (dsimp only [csz]; omega), by first | omega | (dsimp only; omega)⟩) gX2_readTurned_X2_readNumber rfl (by decide +kernel) (rm_ok (by omega) (by decide)) 0 rfl rfl rfl (Nat.le_of_ble_eq_true rfl) rfl dX2_readTurned_57 ?_
              generalize e10 : mNumber tx len 1 31 (r2.1 + 1, r2.2) = x10
              have i10 : InvR len x10.2 := by rw [← e10]; exact mNumber_inv ⟨by first | omega | (dsimp only; omega), by omega, by first | omega | (dsimp only [csz]; omega), by first | omega | (dsimp only; omega)⟩
              obtain ⟨h110, h210, h310, h410⟩ := i10
              dsimp only [csz] at h310
              refine Z.if_ne C 65 dX2_readTurned_60 (by decide) (fun c11 => ?_) (fun c11 => ?_)
              · skip
                replace c11 : x10.1 = true := b2i_n0.mp c11
                refine Z.aload_n C dX2_readTurned_65 2 rfl rfl ?_
                refine Z.get C in2 0 rfl rfl 2 (by decide) (by decide +kernel) rfl rfl dX2_readTurned_66 ?_
                refine Z.iload_n C dX2_readTurned_69 0 rfl rfl ?_
                refine Z.aload_n C dX2_readTurned_70 2 rfl rfl ?_
                refine Z.get C in2 0 rfl rfl 5 (by decide) (by decide +kernel) rfl rfl dX2_readTurned_71 ?_
                refine Z.l2i C (v := (nI x10.2.2.2.1)) dX2_readTurned_74 (lN_i x10.2.2.2.1) ?_
                refine Z.callVNv C (nA := 2) (As := [.int (hereF tx len r2.1), .int (nI x10.2.2.2.1)]) (st := []) (host := "RoundCompiler") (c_one x10.2 (hereF tx len r2.1) (nI x10.2.2.2.1) ⟨by first | omega | (dsimp only; omega), by omega, by first | omega | (dsimp only [csz]; omega), by first | omega | (dsimp only; omega)⟩) gX2_readTurned_X0_addOfOne_n119 rfl (by decide +kernel) (by decide +kernel) (by decide +kernel) (by decide +kernel) (by decide +kernel) (rm_ok (by omega) (by decide)) 2 rfl rfl rfl (Nat.le_of_ble_eq_true rfl) rfl dX2_readTurned_75 ?_
                generalize e12 : cOne (hereF tx len r2.1) (nI x10.2.2.2.1) x10.2.2.2.2.2.2 = x12
                have b12 : x12.2.2.2.1 ≤ 480 := by rw [← e12]; exact cOne_sz (by first | omega | (dsimp only [csz]; omega))
                refine Z.iinc C (v := (nI (i + 1))) (lv' := [(2, .int (nI (i + 1))), (3, .int (hereF tx len r2.1)), (0, .ref aR), (1, .int (nI ins))]) dX2_readTurned_78 1 rfl (nI_add i 1) (by decide) rfl ?_
                refine Z.goto C 12 dX2_readTurned_81 (by decide) ?_
                refine Z.sub [0, 2, 3] rfl ?_
                exact ih12 (i + 1) (x10.2.1, x10.2.2.1, x10.2.2.2.1, x10.2.2.2.2.1, x10.2.2.2.2.2.1, x12) (by omega) ⟨by first | omega | (dsimp only; omega), by omega, by first | omega | (dsimp only [csz]; omega), by first | omega | (dsimp only; omega)⟩ (by rw [hm12, tLoop]; simp [rC, e1, c2, (eq_true c4), (eq_false c5), (eq_true c9), e10, c11, e12])
              · skip
                replace c11 : x10.1 = false := b2i_0.mp c11
                refine Z.iconst C (v := (nI 0)) dX2_readTurned_63 (by decide) ?_
                refine Z.zret C hr hA dX2_readTurned_64 (b := false) rfl ?_ ?_
                · first | (rw [hm12]; simp [tLoop, rC, e1, c2, (eq_true c4), (eq_false c5), (eq_true c9), e10, c11]; done) | (rw [hm12]; simp_all [tLoop, rC]; done)
                · (refine congrArg (wR aR aT aC aK aF aS cC cI tx len) ?_; first | (rw [hm12]; simp [tLoop, rC, e1, c2, (eq_true c4), (eq_false c5), (eq_true c9), e10, c11]; done) | (rw [hm12]; simp_all [tLoop, rC]; done))
    refine Z.sub [0, 1, 2] rfl ?_
    exact key12 480 0 x1.2 (by omega) ⟨by first | omega | (dsimp only; omega), by omega, by first | omega | (dsimp only [csz]; omega), by first | omega | (dsimp only; omega)⟩ (by simp [mTurned, e1, c2])
  · skip
    replace c2 : x1.1 = false := b2i_0.mp c2
    refine Z.iconst C (v := (nI 0)) dX2_readTurned_8 (by decide) ?_
    refine Z.zret C hr hA dX2_readTurned_9 (b := false) rfl ?_ ?_
    · first | (simp [mTurned, e1, c2]; done) | (simp_all [mTurned]; done)
    · (refine congrArg (wR aR aT aC aK aF aS cC cI tx len) ?_; first | (simp [mTurned, e1, c2]; done) | (simp_all [mTurned]; done))
set_option maxHeartbeats 4000000 in
set_option maxRecDepth 100000 in
theorem c_sum {l : Launch} {D : va_G} {aR aT aC aK aF aS : Nat} {cC cI : ClassId} {tx : Nat → Int32} {len : Nat} (r : RS)  (hI : InvR len r) (f : RS → Bool × RS) (ins k : Nat) (hk : 8 ≤ k) (hT : ∀ r : RS, InvR len r → Mi l yX2_readTurned wsX2_readTurned k D [(cC, .char), (cI, .int)] [.ref aR, .int (nI ins)] (wR aR aT aC aK aF aS cC cI tx len r) (b2i (mTurned tx len f r).1) (wR aR aT aC aK aF aS cC cI tx len (mTurned tx len f r).2)) (hfI : ∀ r, InvR len r → InvR len (f r).2) : Mi l yX2_readSum wsX2_readSum (k + 1) D [(cC, .char), (cI, .int)] [.ref aR, .int (nI ins)] (wR aR aT aC aK aF aS cC cI tx len r) (b2i ((mSum tx len f r).1)) (wR aR aT aC aK aF aS cC cI tx len ((mSum tx len f r).2)) := by
  refine Mi.of (cc := cX2_readSum) (maxL := 4) (by decide) rfl (Nat.le_of_ble_eq_true rfl) ?_
  intro p e s m below meth c A C hr hA
  have in2 : ∀ w ∈ wsX20, w ∈ wsX2_readSum := by decide +kernel
  show Z p l e (rmN _) s m _ below meth c _ D A _ _ [(0, .ref aR), (1, .int (nI ins))] 0 []
  obtain ⟨hI1, hI2, hI3, hI4⟩ := hI
  dsimp only [csz] at hI3
  refine Z.aload_n C dX2_readSum_0 0 rfl rfl ?_
  refine Z.iload_n C dX2_readSum_1 1 rfl rfl ?_
  refine Z.callVi C (nA := 1) (As := [.int (nI ins)]) (st := []) (hT r ⟨by first | omega | (dsimp only; omega), by omega, by first | omega | (dsimp only [csz]; omega), by first | omega | (dsimp only; omega)⟩) gX2_readSum_X2_readTurned rfl (by decide +kernel) (rm_ok (by omega) (by decide)) 0 rfl rfl rfl (Nat.le_of_ble_eq_true rfl) rfl dX2_readSum_2 ?_
  generalize e1 : mTurned tx len f r = x1
  have i1 : InvR len x1.2 := by rw [← e1]; exact mTurned_inv hfI ⟨by first | omega | (dsimp only; omega), by omega, by first | omega | (dsimp only [csz]; omega), by first | omega | (dsimp only; omega)⟩
  obtain ⟨h11, h21, h31, h41⟩ := i1
  dsimp only [csz] at h31
  refine Z.if_ne C 10 dX2_readSum_5 (by decide) (fun c2 => ?_) (fun c2 => ?_)
  · skip
    replace c2 : x1.1 = true := b2i_n0.mp c2
    refine Z.iconst C (v := (nI 0)) dX2_readSum_10 (by decide) ?_
    refine Z.istore_n C (lv' := [(2, .int (nI 0)), (0, .ref aR), (1, .int (nI ins))]) dX2_readSum_11 rfl (by decide) rfl ?_
    have key12 : ∀ (n : Nat) (i : Nat) (r2 : RS), i + n = 480 → InvR len r2 → mSum tx len f r = sLoop tx len f n r2 → Z p l e (rmN (k + 1)) s m ([.ref aR, .int (nI ins)] : List Value).toArray below meth c 4 D A (QI below D [(cC, .char), (cI, .int)] [.ref aR, .int (nI ins)] (wR aR aT aC aK aF aS cC cI tx len r) (b2i ((mSum tx len f r).1)) (wR aR aT aC aK aF aS cC cI tx len ((mSum tx len f r).2)) s) (wR aR aT aC aK aF aS cC cI tx len r2) [(2, .int (nI i)), (0, .ref aR), (1, .int (nI ins))] 12 [] := by
      intro n
      induction n with
      | zero =>
        intro i r2 hn hi hm12
        obtain ⟨k1, k2, k3, k4⟩ := hi
        dsimp only [csz] at k3
        refine Z.iload_n C dX2_readSum_12 0 rfl rfl ?_
        refine Z.sipush C (v := (nI 480)) dX2_readSum_13 (by decide) ?_
        refine Z.icmp_ge C 68 dX2_readSum_16 (by decide) (fun c3 => ?_) (fun c3 => ?_)
        · skip
          replace c3 : ¬ i < 480 := Nat.not_lt.mpr ((nI_leI (by omega) (by omega)).mp c3)
          refine Z.iconst C (v := (nI 1)) dX2_readSum_68 (by decide) ?_
          refine Z.zret C hr hA dX2_readSum_69 (b := true) rfl ?_ ?_
          · first | (rw [hm12]; simp [sLoop, rC, e1, c2, (eq_false c3)]; done) | (rw [hm12]; simp_all [sLoop, rC]; done)
          · (refine congrArg (wR aR aT aC aK aF aS cC cI tx len) ?_; first | (rw [hm12]; simp [sLoop, rC, e1, c2, (eq_false c3)]; done) | (rw [hm12]; simp_all [sLoop, rC]; done))
        · skip
          replace c3 : i < 480 := Nat.not_le.mp (mt (nI_leI (by omega) (by omega)).mpr c3)
          exact absurd c3 (by omega)
      | succ n ih12 =>
        intro i r2 hn hi hm12
        obtain ⟨k1, k2, k3, k4⟩ := hi
        dsimp only [csz] at k3
        refine Z.iload_n C dX2_readSum_12 0 rfl rfl ?_
        refine Z.sipush C (v := (nI 480)) dX2_readSum_13 (by decide) ?_
        refine Z.icmp_ge C 68 dX2_readSum_16 (by decide) (fun c4 => ?_) (fun c4 => ?_)
        · skip
          replace c4 : ¬ i < 480 := Nat.not_lt.mpr ((nI_leI (by omega) (by omega)).mp c4)
          exact absurd c4 (by omega)
        · skip
          replace c4 : i < 480 := Nat.not_le.mp (mt (nI_leI (by omega) (by omega)).mpr c4)
          refine Z.aload_n C dX2_readSum_19 1 rfl rfl ?_
          refine Z.callVi C (nA := 0) (As := []) (st := []) (c_here r2 ⟨by first | omega | (dsimp only; omega), by omega, by first | omega | (dsimp only [csz]; omega), by first | omega | (dsimp only; omega)⟩) gX2_readSum_X2_here rfl (by decide +kernel) (rm_ok (by omega) (by decide)) 0 rfl rfl rfl (Nat.le_of_ble_eq_true rfl) rfl dX2_readSum_20 ?_
          refine Z.callSi C (nA := 1) (As := [.int (hereF tx len r2.1)]) (st := []) (c_isOp (hereF tx len r2.1)) gX2_readSum_X2_isOperator rfl (by decide +kernel) (rm_ok (by omega) (by decide)) rfl (Nat.le_of_ble_eq_true rfl) rfl dX2_readSum_23 ?_
          refine Z.if_eq C 68 dX2_readSum_26 (by decide) (fun c5 => ?_) (fun c5 => ?_)
          · skip
            replace c5 : isOpF (hereF tx len r2.1) = false := b2i_0.mp c5
            refine Z.iconst C (v := (nI 1)) dX2_readSum_68 (by decide) ?_
            refine Z.zret C hr hA dX2_readSum_69 (b := true) rfl ?_ ?_
            · first | (rw [hm12]; simp [sLoop, rC, e1, c2, (eq_true c4), c5]; done) | (rw [hm12]; simp_all [sLoop, rC]; done)
            · (refine congrArg (wR aR aT aC aK aF aS cC cI tx len) ?_; first | (rw [hm12]; simp [sLoop, rC, e1, c2, (eq_true c4), c5]; done) | (rw [hm12]; simp_all [sLoop, rC]; done))
          · skip
            replace c5 : isOpF (hereF tx len r2.1) = true := b2i_n0.mp c5
            have c5l := isOp_lt c5
            refine Z.aload_n C dX2_readSum_29 1 rfl rfl ?_
            refine Z.callVi C (nA := 0) (As := []) (st := []) (c_here r2 ⟨by first | omega | (dsimp only; omega), by omega, by first | omega | (dsimp only [csz]; omega), by first | omega | (dsimp only; omega)⟩) gX2_readSum_X2_here rfl (by decide +kernel) (rm_ok (by omega) (by decide)) 0 rfl rfl rfl (Nat.le_of_ble_eq_true rfl) rfl dX2_readSum_30 ?_
            refine Z.istore_n C (lv' := [(3, .int (hereF tx len r2.1)), (2, .int (nI i)), (0, .ref aR), (1, .int (nI ins))]) dX2_readSum_33 rfl (by decide) rfl ?_
            refine Z.aload_n C dX2_readSum_34 2 rfl rfl ?_
            refine Z.dup C dX2_readSum_35 rfl ?_
            refine Z.get C in2 0 rfl rfl 3 (by decide) (by decide +kernel) rfl rfl dX2_readSum_36 ?_
            refine Z.iconst C (v := (nI 1)) dX2_readSum_39 (by decide) ?_
            refine Z.iadd C (v := (nI (r2.1 + 1))) dX2_readSum_40 (nI_add r2.1 1) ?_
            refine Z.put C in2 0 rfl rfl 3 (by decide) tyX2 tyX2_ok nmX2 (by decide +kernel) rfl rfl rfl rfl (Nat.le_of_ble_eq_true rfl) dX2_readSum_41 (w' := (wR aR aT aC aK aF aS cC cI tx len (r2.1 + 1, r2.2))) rfl ?_
            refine Z.aload_n C dX2_readSum_44 2 rfl rfl ?_
            refine Z.iload_n C dX2_readSum_45 3 rfl rfl ?_
            refine Z.callVi C (nA := 1) (As := [.int (nI ins)]) (st := []) (hT (r2.1 + 1, r2.2) ⟨by first | omega | (dsimp only; omega), by omega, by first | omega | (dsimp only [csz]; omega), by first | omega | (dsimp only; omega)⟩) gX2_readSum_X2_readTurned rfl (by decide +kernel) (rm_ok (by omega) (by decide)) 0 rfl rfl rfl (Nat.le_of_ble_eq_true rfl) rfl dX2_readSum_46 ?_
            generalize e6 : mTurned tx len f (r2.1 + 1, r2.2) = x6
            have i6 : InvR len x6.2 := by rw [← e6]; exact mTurned_inv hfI ⟨by first | omega | (dsimp only; omega), by omega, by first | omega | (dsimp only [csz]; omega), by first | omega | (dsimp only; omega)⟩
            obtain ⟨h16, h26, h36, h46⟩ := i6
            dsimp only [csz] at h36
            refine Z.if_ne C 54 dX2_readSum_49 (by decide) (fun c7 => ?_) (fun c7 => ?_)
            · skip
              replace c7 : x6.1 = true := b2i_n0.mp c7
              refine Z.aload_n C dX2_readSum_54 2 rfl rfl ?_
              refine Z.get C in2 0 rfl rfl 2 (by decide) (by decide +kernel) rfl rfl dX2_readSum_55 ?_
              refine Z.iload_n C dX2_readSum_58 0 rfl rfl ?_
              refine Z.callVNv C (nA := 1) (As := [.int (hereF tx len r2.1)]) (st := []) (host := "RoundCompiler") (c_two x6.2 (hereF tx len r2.1) ⟨by first | omega | (dsimp only; omega), by omega, by first | omega | (dsimp only [csz]; omega), by first | omega | (dsimp only; omega)⟩) gX2_readSum_X0_addOfTwo_n110 rfl (by decide +kernel) (by decide +kernel) (by decide +kernel) (by decide +kernel) (by decide +kernel) (rm_ok (by omega) (by decide)) 2 rfl rfl rfl (Nat.le_of_ble_eq_true rfl) rfl dX2_readSum_59 ?_
              generalize e8 : cTwo (hereF tx len r2.1) x6.2.2.2.2.2.2 = x8
              have b8 : x8.2.2.2.1 ≤ 480 := by rw [← e8]; exact cTwo_sz (by first | omega | (dsimp only [csz]; omega))
              refine Z.iinc C (v := (nI (i + 1))) (lv' := [(2, .int (nI (i + 1))), (3, .int (hereF tx len r2.1)), (0, .ref aR), (1, .int (nI ins))]) dX2_readSum_62 1 rfl (nI_add i 1) (by decide) rfl ?_
              refine Z.goto C 12 dX2_readSum_65 (by decide) ?_
              refine Z.sub [0, 2, 3] rfl ?_
              exact ih12 (i + 1) (x6.2.1, x6.2.2.1, x6.2.2.2.1, x6.2.2.2.2.1, x6.2.2.2.2.2.1, x8) (by omega) ⟨by first | omega | (dsimp only; omega), by omega, by first | omega | (dsimp only [csz]; omega), by first | omega | (dsimp only; omega)⟩ (by rw [hm12, sLoop]; simp [rC, e1, c2, (eq_true c4), c5, e6, c7, e8])
            · skip
              replace c7 : x6.1 = false := b2i_0.mp c7
              refine Z.iconst C (v := (nI 0)) dX2_readSum_52 (by decide) ?_
              refine Z.zret C hr hA dX2_readSum_53 (b := false) rfl ?_ ?_
              · first | (rw [hm12]; simp [sLoop, rC, e1, c2, (eq_true c4), c5, e6, c7]; done) | (rw [hm12]; simp_all [sLoop, rC]; done)
              · (refine congrArg (wR aR aT aC aK aF aS cC cI tx len) ?_; first | (rw [hm12]; simp [sLoop, rC, e1, c2, (eq_true c4), c5, e6, c7]; done) | (rw [hm12]; simp_all [sLoop, rC]; done))
    refine Z.sub [0, 1, 2] rfl ?_
    exact key12 480 0 x1.2 (by omega) ⟨by first | omega | (dsimp only; omega), by omega, by first | omega | (dsimp only [csz]; omega), by first | omega | (dsimp only; omega)⟩ (by simp [mSum, e1, c2])
  · skip
    replace c2 : x1.1 = false := b2i_0.mp c2
    refine Z.iconst C (v := (nI 0)) dX2_readSum_8 (by decide) ?_
    refine Z.zret C hr hA dX2_readSum_9 (b := false) rfl ?_ ?_
    · first | (simp [mSum, e1, c2]; done) | (simp_all [mSum]; done)
    · (refine congrArg (wR aR aT aC aK aF aS cC cI tx len) ?_; first | (simp [mSum, e1, c2]; done) | (simp_all [mSum]; done))
set_option maxHeartbeats 4000000 in
set_option maxRecDepth 100000 in
theorem c_nested {l : Launch} {D : va_G} {aR aT aC aK aF aS : Nat} {cC cI : ClassId} {tx : Nat → Int32} {len : Nat} (r : RS)  (hI : InvR len r) (f : RS → Bool × RS) (ins k : Nat) (hk : 8 ≤ k) (hF : ∀ r : RS, InvR len r → Mi l yX2_readFactor wsX2_readFactor k D [(cC, .char), (cI, .int)] [.ref aR, .int (nI ins)] (wR aR aT aC aK aF aS cC cI tx len r) (b2i (f r).1) (wR aR aT aC aK aF aS cC cI tx len (f r).2)) (hS : ∀ r : RS, InvR len r → Mi l yX2_readSum wsX2_readSum (k + 2) D [(cC, .char), (cI, .int)] [.ref aR, .int (nI ins)] (wR aR aT aC aK aF aS cC cI tx len r) (b2i (mSum tx len f r).1) (wR aR aT aC aK aF aS cC cI tx len (mSum tx len f r).2)) (hfI : ∀ r, InvR len r → InvR len (f r).2) (ha : r.1 < len) : Mi l yX2_readNested wsX2_readNested (k + 3) D [(cC, .char), (cI, .int)] [.ref aR, .int (nI ins)] (wR aR aT aC aK aF aS cC cI tx len r) (b2i ((mNest tx len f r).1)) (wR aR aT aC aK aF aS cC cI tx len ((mNest tx len f r).2)) := by
  refine Mi.of (cc := cX2_readNested) (maxL := 3) (by decide) rfl (Nat.le_of_ble_eq_true rfl) ?_
  intro p e s m below meth c A C hr hA
  have in2 : ∀ w ∈ wsX20, w ∈ wsX2_readNested := by decide +kernel
  show Z p l e (rmN _) s m _ below meth c _ D A _ _ [(0, .ref aR), (1, .int (nI ins))] 0 []
  obtain ⟨hI1, hI2, hI3, hI4⟩ := hI
  dsimp only [csz] at hI3
  refine Z.aload_n C dX2_readNested_0 0 rfl rfl ?_
  refine Z.callVi C (nA := 0) (As := []) (st := []) (c_here r ⟨by first | omega | (dsimp only; omega), by omega, by first | omega | (dsimp only [csz]; omega), by first | omega | (dsimp only; omega)⟩) gX2_readNested_X2_here rfl (by decide +kernel) (rm_ok (by omega) (by decide)) 0 rfl rfl rfl (Nat.le_of_ble_eq_true rfl) rfl dX2_readNested_1 ?_
  refine Z.istore_n C (lv' := [(2, .int (hereF tx len r.1)), (0, .ref aR), (1, .int (nI ins))]) dX2_readNested_4 rfl (by decide) rfl ?_
  refine Z.aload_n C dX2_readNested_5 1 rfl rfl ?_
  refine Z.dup C dX2_readNested_6 rfl ?_
  refine Z.get C in2 0 rfl rfl 3 (by decide) (by decide +kernel) rfl rfl dX2_readNested_7 ?_
  refine Z.iconst C (v := (nI 1)) dX2_readNested_10 (by decide) ?_
  refine Z.iadd C (v := (nI (r.1 + 1))) dX2_readNested_11 (nI_add r.1 1) ?_
  refine Z.put C in2 0 rfl rfl 3 (by decide) tyX2 tyX2_ok nmX2 (by decide +kernel) rfl rfl rfl rfl (Nat.le_of_ble_eq_true rfl) dX2_readNested_12 (w' := (wR aR aT aC aK aF aS cC cI tx len (r.1 + 1, r.2))) rfl ?_
  refine Z.iload_n C dX2_readNested_15 0 rfl rfl ?_
  refine Z.bipush C (v := (nI 40)) dX2_readNested_16 (by decide) ?_
  refine Z.icmp_ne C 44 dX2_readNested_18 (by decide) (fun c1 => ?_) (fun c1 => ?_)
  · skip
    replace c1 : ¬ (hereF tx len r.1) = (40 : Int32) := c1
    refine Z.iload_n C dX2_readNested_44 0 rfl rfl ?_
    refine Z.bipush C (v := (nI 126)) dX2_readNested_45 (by decide) ?_
    refine Z.icmp_ne C 71 dX2_readNested_47 (by decide) (fun c2 => ?_) (fun c2 => ?_)
    · skip
      replace c2 : ¬ (hereF tx len r.1) = (126 : Int32) := c2
      refine Z.aload_n C dX2_readNested_71 1 rfl rfl ?_
      refine Z.bipush C (v := (nI 91)) dX2_readNested_72 (by decide) ?_
      refine Z.callVi C (nA := 1) (As := [.int (91 : Int32)]) (st := []) (c_expect (r.1 + 1, r.2) (91 : Int32) ⟨by first | omega | (dsimp only; omega), by omega, by first | omega | (dsimp only [csz]; omega), by first | omega | (dsimp only; omega)⟩) gX2_readNested_X2_expect rfl (by decide +kernel) (rm_ok (by omega) (by decide)) 0 rfl rfl rfl (Nat.le_of_ble_eq_true rfl) rfl dX2_readNested_74 ?_
      generalize e3 : mExpect tx len (91 : Int32) (r.1 + 1, r.2) = x3
      have i3 : InvR len x3.2 := by rw [← e3]; exact mExpect_inv (by decide) ⟨by first | omega | (dsimp only; omega), by omega, by first | omega | (dsimp only [csz]; omega), by first | omega | (dsimp only; omega)⟩
      obtain ⟨h13, h23, h33, h43⟩ := i3
      dsimp only [csz] at h33
      refine Z.if_eq C 97 dX2_readNested_77 (by decide) (fun c4 => ?_) (fun c4 => ?_)
      · skip
        replace c4 : x3.1 = false := b2i_0.mp c4
        refine Z.iconst C (v := (nI 0)) dX2_readNested_97 (by decide) ?_
        refine Z.zret C hr hA dX2_readNested_98 (b := false) rfl ?_ ?_
        · first | (simp [mNest, rC, (eq_false c1), (eq_false c2), e3, c4]; done) | (simp_all [mNest, rC]; done)
        · (refine congrArg (wR aR aT aC aK aF aS cC cI tx len) ?_; first | (simp [mNest, rC, (eq_false c1), (eq_false c2), e3, c4]; done) | (simp_all [mNest, rC]; done))
      · skip
        replace c4 : x3.1 = true := b2i_n0.mp c4
        refine Z.aload_n C dX2_readNested_80 1 rfl rfl ?_
        refine Z.iload_n C dX2_readNested_81 2 rfl rfl ?_
        refine Z.callVi C (nA := 1) (As := [.int (nI ins)]) (st := []) (hS x3.2 ⟨by first | omega | (dsimp only; omega), by omega, by first | omega | (dsimp only [csz]; omega), by first | omega | (dsimp only; omega)⟩) gX2_readNested_X2_readSum rfl (by decide +kernel) (rm_ok (by omega) (by decide)) 0 rfl rfl rfl (Nat.le_of_ble_eq_true rfl) rfl dX2_readNested_82 ?_
        generalize e5 : mSum tx len f x3.2 = x5
        have i5 : InvR len x5.2 := by rw [← e5]; exact mSum_inv hfI ⟨by first | omega | (dsimp only; omega), by omega, by first | omega | (dsimp only [csz]; omega), by first | omega | (dsimp only; omega)⟩
        obtain ⟨h15, h25, h35, h45⟩ := i5
        dsimp only [csz] at h35
        refine Z.if_eq C 97 dX2_readNested_85 (by decide) (fun c6 => ?_) (fun c6 => ?_)
        · skip
          replace c6 : x5.1 = false := b2i_0.mp c6
          refine Z.iconst C (v := (nI 0)) dX2_readNested_97 (by decide) ?_
          refine Z.zret C hr hA dX2_readNested_98 (b := false) rfl ?_ ?_
          · first | (simp [mNest, rC, (eq_false c1), (eq_false c2), e3, c4, e5, c6]; done) | (simp_all [mNest, rC]; done)
          · (refine congrArg (wR aR aT aC aK aF aS cC cI tx len) ?_; first | (simp [mNest, rC, (eq_false c1), (eq_false c2), e3, c4, e5, c6]; done) | (simp_all [mNest, rC]; done))
        · skip
          replace c6 : x5.1 = true := b2i_n0.mp c6
          refine Z.aload_n C dX2_readNested_88 1 rfl rfl ?_
          refine Z.bipush C (v := (nI 93)) dX2_readNested_89 (by decide) ?_
          refine Z.callVi C (nA := 1) (As := [.int (93 : Int32)]) (st := []) (c_expect x5.2 (93 : Int32) ⟨by first | omega | (dsimp only; omega), by omega, by first | omega | (dsimp only [csz]; omega), by first | omega | (dsimp only; omega)⟩) gX2_readNested_X2_expect rfl (by decide +kernel) (rm_ok (by omega) (by decide)) 0 rfl rfl rfl (Nat.le_of_ble_eq_true rfl) rfl dX2_readNested_91 ?_
          generalize e7 : mExpect tx len (93 : Int32) x5.2 = x7
          have i7 : InvR len x7.2 := by rw [← e7]; exact mExpect_inv (by decide) ⟨by first | omega | (dsimp only; omega), by omega, by first | omega | (dsimp only [csz]; omega), by first | omega | (dsimp only; omega)⟩
          obtain ⟨h17, h27, h37, h47⟩ := i7
          dsimp only [csz] at h37
          refine Z.if_ne C 99 dX2_readNested_94 (by decide) (fun c8 => ?_) (fun c8 => ?_)
          · skip
            replace c8 : x7.1 = true := b2i_n0.mp c8
            refine Z.aload_n C dX2_readNested_99 1 rfl rfl ?_
            refine Z.get C in2 0 rfl rfl 2 (by decide) (by decide +kernel) rfl rfl dX2_readNested_100 ?_
            refine Z.iconst C (v := (nI 3)) dX2_readNested_103 (by decide) ?_
            refine Z.iconst C (v := (nI 0)) dX2_readNested_104 (by decide) ?_
            refine Z.iconst C (v := (nI 0)) dX2_readNested_105 (by decide) ?_
            refine Z.callVNv C (nA := 3) (As := [.int (3 : Int32), .int (0 : Int32), .int (0 : Int32)]) (st := []) (host := "RoundCompiler") (c_add x7.2 (3 : Int32) (0 : Int32) (0 : Int32) ⟨by first | omega | (dsimp only; omega), by omega, by first | omega | (dsimp only [csz]; omega), by first | omega | (dsimp only; omega)⟩) gX2_readNested_X0_add_n80 rfl (by decide +kernel) (by decide +kernel) (by decide +kernel) (by decide +kernel) (by decide +kernel) (rm_ok (by omega) (by decide)) 2 rfl rfl rfl (Nat.le_of_ble_eq_true rfl) rfl dX2_readNested_106 ?_
            generalize e9 : cAdd (3 : Int32) (0 : Int32) (0 : Int32) x7.2.2.2.2.2.2 = x9
            have b9 : x9.2.2.2.1 ≤ 480 := by rw [← e9]; exact cAdd_sz (by first | omega | (dsimp only [csz]; omega))
            refine Z.iconst C (v := (nI 1)) dX2_readNested_109 (by decide) ?_
            refine Z.zret C hr hA dX2_readNested_110 (b := true) rfl ?_ ?_
            · first | (simp [mNest, rC, (eq_false c1), (eq_false c2), e3, c4, e5, c6, e7, c8, e9]; done) | (simp_all [mNest, rC]; done)
            · (refine congrArg (wR aR aT aC aK aF aS cC cI tx len) ?_; first | (simp [mNest, rC, (eq_false c1), (eq_false c2), e3, c4, e5, c6, e7, c8, e9]; done) | (simp_all [mNest, rC]; done))
          · skip
            replace c8 : x7.1 = false := b2i_0.mp c8
            refine Z.iconst C (v := (nI 0)) dX2_readNested_97 (by decide) ?_
            refine Z.zret C hr hA dX2_readNested_98 (b := false) rfl ?_ ?_
            · first | (simp [mNest, rC, (eq_false c1), (eq_false c2), e3, c4, e5, c6, e7, c8]; done) | (simp_all [mNest, rC]; done)
            · (refine congrArg (wR aR aT aC aK aF aS cC cI tx len) ?_; first | (simp [mNest, rC, (eq_false c1), (eq_false c2), e3, c4, e5, c6, e7, c8]; done) | (simp_all [mNest, rC]; done))
    · skip
      replace c2 : (hereF tx len r.1) = (126 : Int32) := c2
      have c2l := here_lt c2 (by decide)
      refine Z.aload_n C dX2_readNested_50 1 rfl rfl ?_
      refine Z.iload_n C dX2_readNested_51 2 rfl rfl ?_
      refine Z.callVi C (nA := 1) (As := [.int (nI ins)]) (st := []) (hF (r.1 + 1, r.2) ⟨by first | omega | (dsimp only; omega), by omega, by first | omega | (dsimp only [csz]; omega), by first | omega | (dsimp only; omega)⟩) gX2_readNested_X2_readFactor rfl (by decide +kernel) (rm_ok (by omega) (by decide)) 0 rfl rfl rfl (Nat.le_of_ble_eq_true rfl) rfl dX2_readNested_52 ?_
      generalize e10 : f (r.1 + 1, r.2) = x10
      have i10 : InvR len x10.2 := by rw [← e10]; exact hfI _ ⟨by first | omega | (dsimp only; omega), by omega, by first | omega | (dsimp only [csz]; omega), by first | omega | (dsimp only; omega)⟩
      obtain ⟨h110, h210, h310, h410⟩ := i10
      dsimp only [csz] at h310
      refine Z.if_ne C 60 dX2_readNested_55 (by decide) (fun c11 => ?_) (fun c11 => ?_)
      · skip
        replace c11 : x10.1 = true := b2i_n0.mp c11
        refine Z.aload_n C dX2_readNested_60 1 rfl rfl ?_
        refine Z.get C in2 0 rfl rfl 2 (by decide) (by decide +kernel) rfl rfl dX2_readNested_61 ?_
        refine Z.iload_n C dX2_readNested_64 0 rfl rfl ?_
        refine Z.iconst C (v := (nI 0)) dX2_readNested_65 (by decide) ?_
        refine Z.callVNv C (nA := 2) (As := [.int (hereF tx len r.1), .int (0 : Int32)]) (st := []) (host := "RoundCompiler") (c_one x10.2 (hereF tx len r.1) (0 : Int32) ⟨by first | omega | (dsimp only; omega), by omega, by first | omega | (dsimp only [csz]; omega), by first | omega | (dsimp only; omega)⟩) gX2_readNested_X0_addOfOne_n119 rfl (by decide +kernel) (by decide +kernel) (by decide +kernel) (by decide +kernel) (by decide +kernel) (rm_ok (by omega) (by decide)) 2 rfl rfl rfl (Nat.le_of_ble_eq_true rfl) rfl dX2_readNested_66 ?_
        generalize e12 : cOne (hereF tx len r.1) (0 : Int32) x10.2.2.2.2.2.2 = x12
        have b12 : x12.2.2.2.1 ≤ 480 := by rw [← e12]; exact cOne_sz (by first | omega | (dsimp only [csz]; omega))
        refine Z.iconst C (v := (nI 1)) dX2_readNested_69 (by decide) ?_
        refine Z.zret C hr hA dX2_readNested_70 (b := true) rfl ?_ ?_
        · first | (simp [mNest, rC, (eq_false c1), (eq_true c2), e10, c11, e12]; done) | (simp_all [mNest, rC]; done)
        · (refine congrArg (wR aR aT aC aK aF aS cC cI tx len) ?_; first | (simp [mNest, rC, (eq_false c1), (eq_true c2), e10, c11, e12]; done) | (simp_all [mNest, rC]; done))
      · skip
        replace c11 : x10.1 = false := b2i_0.mp c11
        refine Z.iconst C (v := (nI 0)) dX2_readNested_58 (by decide) ?_
        refine Z.zret C hr hA dX2_readNested_59 (b := false) rfl ?_ ?_
        · first | (simp [mNest, rC, (eq_false c1), (eq_true c2), e10, c11]; done) | (simp_all [mNest, rC]; done)
        · (refine congrArg (wR aR aT aC aK aF aS cC cI tx len) ?_; first | (simp [mNest, rC, (eq_false c1), (eq_true c2), e10, c11]; done) | (simp_all [mNest, rC]; done))
  · skip
    replace c1 : (hereF tx len r.1) = (40 : Int32) := c1
    have c1l := here_lt c1 (by decide)
    refine Z.aload_n C dX2_readNested_21 1 rfl rfl ?_
    refine Z.iload_n C dX2_readNested_22 2 rfl rfl ?_
    refine Z.callVi C (nA := 1) (As := [.int (nI ins)]) (st := []) (hS (r.1 + 1, r.2) ⟨by first | omega | (dsimp only; omega), by omega, by first | omega | (dsimp only [csz]; omega), by first | omega | (dsimp only; omega)⟩) gX2_readNested_X2_readSum rfl (by decide +kernel) (rm_ok (by omega) (by decide)) 0 rfl rfl rfl (Nat.le_of_ble_eq_true rfl) rfl dX2_readNested_23 ?_
    generalize e13 : mSum tx len f (r.1 + 1, r.2) = x13
    have i13 : InvR len x13.2 := by rw [← e13]; exact mSum_inv hfI ⟨by first | omega | (dsimp only; omega), by omega, by first | omega | (dsimp only [csz]; omega), by first | omega | (dsimp only; omega)⟩
    obtain ⟨h113, h213, h313, h413⟩ := i13
    dsimp only [csz] at h313
    refine Z.if_eq C 42 dX2_readNested_26 (by decide) (fun c14 => ?_) (fun c14 => ?_)
    · skip
      replace c14 : x13.1 = false := b2i_0.mp c14
      refine Z.iconst C (v := (nI 0)) dX2_readNested_42 (by decide) ?_
      refine Z.zret C hr hA dX2_readNested_43 (b := false) rfl ?_ ?_
      · first | (simp [mNest, rC, (eq_true c1), e13, c14]; done) | (simp_all [mNest, rC]; done)
      · (refine congrArg (wR aR aT aC aK aF aS cC cI tx len) ?_; first | (simp [mNest, rC, (eq_true c1), e13, c14]; done) | (simp_all [mNest, rC]; done))
    · skip
      replace c14 : x13.1 = true := b2i_n0.mp c14
      refine Z.aload_n C dX2_readNested_29 1 rfl rfl ?_
      refine Z.bipush C (v := (nI 41)) dX2_readNested_30 (by decide) ?_
      refine Z.callVi C (nA := 1) (As := [.int (41 : Int32)]) (st := []) (c_expect x13.2 (41 : Int32) ⟨by first | omega | (dsimp only; omega), by omega, by first | omega | (dsimp only [csz]; omega), by first | omega | (dsimp only; omega)⟩) gX2_readNested_X2_expect rfl (by decide +kernel) (rm_ok (by omega) (by decide)) 0 rfl rfl rfl (Nat.le_of_ble_eq_true rfl) rfl dX2_readNested_32 ?_
      generalize e15 : mExpect tx len (41 : Int32) x13.2 = x15
      have i15 : InvR len x15.2 := by rw [← e15]; exact mExpect_inv (by decide) ⟨by first | omega | (dsimp only; omega), by omega, by first | omega | (dsimp only [csz]; omega), by first | omega | (dsimp only; omega)⟩
      obtain ⟨h115, h215, h315, h415⟩ := i15
      dsimp only [csz] at h315
      refine Z.if_eq C 42 dX2_readNested_35 (by decide) (fun c16 => ?_) (fun c16 => ?_)
      · skip
        replace c16 : x15.1 = false := b2i_0.mp c16
        refine Z.iconst C (v := (nI 0)) dX2_readNested_42 (by decide) ?_
        refine Z.zret C hr hA dX2_readNested_43 (b := false) rfl ?_ ?_
        · first | (simp [mNest, rC, (eq_true c1), e13, c14, e15, c16]; done) | (simp_all [mNest, rC]; done)
        · (refine congrArg (wR aR aT aC aK aF aS cC cI tx len) ?_; first | (simp [mNest, rC, (eq_true c1), e13, c14, e15, c16]; done) | (simp_all [mNest, rC]; done))
      · skip
        replace c16 : x15.1 = true := b2i_n0.mp c16
        refine Z.iconst C (v := (nI 1)) dX2_readNested_38 (by decide) ?_
        refine Z.goto C 43 dX2_readNested_39 (by decide) ?_
        refine Z.zret C hr hA dX2_readNested_43 (b := true) rfl ?_ ?_
        · first | (simp [mNest, rC, (eq_true c1), e13, c14, e15, c16]; done) | (simp_all [mNest, rC]; done)
        · (refine congrArg (wR aR aT aC aK aF aS cC cI tx len) ?_; first | (simp [mNest, rC, (eq_true c1), e13, c14, e15, c16]; done) | (simp_all [mNest, rC]; done))
set_option maxHeartbeats 4000000 in
set_option maxRecDepth 100000 in
theorem c_factor {l : Launch} {D : va_G} {aR aT aC aK aF aS : Nat} {cC cI : ClassId} {tx : Nat → Int32} {len : Nat} (r : RS)  (hI : InvR len r) (g : RS → Bool × RS) (ins k : Nat) (hk : 8 ≤ k) (hins : ins < 12) (hN : ∀ r : RS, InvR len r → r.1 < len → Mi l yX2_readNested wsX2_readNested k D [(cC, .char), (cI, .int)] [.ref aR, .int (nI (ins + 1))] (wR aR aT aC aK aF aS cC cI tx len r) (b2i (g r).1) (wR aR aT aC aK aF aS cC cI tx len (g r).2)) : Mi l yX2_readFactor wsX2_readFactor (k + 1) D [(cC, .char), (cI, .int)] [.ref aR, .int (nI ins)] (wR aR aT aC aK aF aS cC cI tx len r) (b2i ((mFac tx len g r).1)) (wR aR aT aC aK aF aS cC cI tx len ((mFac tx len g r).2)) := by
  refine Mi.of (cc := cX2_readFactor) (maxL := 3) (by decide) rfl (Nat.le_of_ble_eq_true rfl) ?_
  intro p e s m below meth c A C hr hA
  have in2 : ∀ w ∈ wsX20, w ∈ wsX2_readFactor := by decide +kernel
  show Z p l e (rmN _) s m _ below meth c _ D A _ _ [(0, .ref aR), (1, .int (nI ins))] 0 []
  obtain ⟨hI1, hI2, hI3, hI4⟩ := hI
  dsimp only [csz] at hI3
  refine Z.aload_n C dX2_readFactor_0 0 rfl rfl ?_
  refine Z.callVi C (nA := 0) (As := []) (st := []) (c_here r ⟨by first | omega | (dsimp only; omega), by omega, by first | omega | (dsimp only [csz]; omega), by first | omega | (dsimp only; omega)⟩) gX2_readFactor_X2_here rfl (by decide +kernel) (rm_ok (by omega) (by decide)) 0 rfl rfl rfl (Nat.le_of_ble_eq_true rfl) rfl dX2_readFactor_1 ?_
  refine Z.callSi C (nA := 1) (As := [.int (hereF tx len r.1)]) (st := []) (c_nameOf (hereF tx len r.1)) gX2_readFactor_X2_nameOf rfl (by decide +kernel) (rm_ok (by omega) (by decide)) rfl (Nat.le_of_ble_eq_true rfl) rfl dX2_readFactor_4 ?_
  refine Z.istore_n C (lv' := [(2, .int (nameF (hereF tx len r.1))), (0, .ref aR), (1, .int (nI ins))]) dX2_readFactor_7 rfl (by decide) rfl ?_
  refine Z.iload_n C dX2_readFactor_8 0 rfl rfl ?_
  refine Z.if_lt C 34 dX2_readFactor_9 (by decide) (fun c1 => ?_) (fun c1 => ?_)
  · skip
    replace c1 : ¬ (0 : Int32) ≤ (nameF (hereF tx len r.1)) := Int32.not_le.mpr c1
    refine Z.aload_n C dX2_readFactor_34 1 rfl rfl ?_
    refine Z.callVi C (nA := 0) (As := []) (st := []) (c_here r ⟨by first | omega | (dsimp only; omega), by omega, by first | omega | (dsimp only [csz]; omega), by first | omega | (dsimp only; omega)⟩) gX2_readFactor_X2_here rfl (by decide +kernel) (rm_ok (by omega) (by decide)) 0 rfl rfl rfl (Nat.le_of_ble_eq_true rfl) rfl dX2_readFactor_35 ?_
    refine Z.bipush C (v := (nI 126)) dX2_readFactor_38 (by decide) ?_
    refine Z.icmp_eq C 61 dX2_readFactor_40 (by decide) (fun c2 => ?_) (fun c2 => ?_)
    · skip
      replace c2 : (hereF tx len r.1) = (126 : Int32) := c2
      have c2l := here_lt c2 (by decide)
      refine Z.iload_n C dX2_readFactor_61 2 rfl rfl ?_
      refine Z.bipush C (v := (nI 12)) dX2_readFactor_62 (by decide) ?_
      refine Z.icmp_ge C 77 dX2_readFactor_64 (by decide) (fun c3 => ?_) (fun c3 => ?_)
      · skip
        replace c3 : ¬ ins < 12 := Nat.not_lt.mpr ((nI_leI (by omega) (by omega)).mp c3)
        exact absurd c3 (by omega)
      · skip
        replace c3 : ins < 12 := Nat.not_le.mp (mt (nI_leI (by omega) (by omega)).mpr c3)
        refine Z.aload_n C dX2_readFactor_67 1 rfl rfl ?_
        refine Z.iload_n C dX2_readFactor_68 2 rfl rfl ?_
        refine Z.iconst C (v := (nI 1)) dX2_readFactor_69 (by decide) ?_
        refine Z.iadd C (v := (nI (ins + 1))) dX2_readFactor_70 (nI_add ins 1) ?_
        refine Z.callVi C (nA := 1) (As := [.int (nI (ins + 1))]) (st := []) (hN r ⟨by first | omega | (dsimp only; omega), by omega, by first | omega | (dsimp only [csz]; omega), by first | omega | (dsimp only; omega)⟩ (by omega)) gX2_readFactor_X2_readNested rfl (by decide +kernel) (rm_ok (by omega) (by decide)) 0 rfl rfl rfl (Nat.le_of_ble_eq_true rfl) rfl dX2_readFactor_71 ?_
        generalize e4 : g r = x4
        refine Z.goto C 85 dX2_readFactor_74 (by decide) ?_
        refine Z.zret C hr hA dX2_readFactor_85 (b := x4.1) rfl ?_ ?_
        · first | (simp [mFac, rC, (eq_false c1), (eq_true c2), (eq_true c3), e4]; done) | (simp_all [mFac, rC]; done)
        · (refine congrArg (wR aR aT aC aK aF aS cC cI tx len) ?_; first | (simp [mFac, rC, (eq_false c1), (eq_true c2), (eq_true c3), e4]; done) | (simp_all [mFac, rC]; done))
    · skip
      replace c2 : ¬ (hereF tx len r.1) = (126 : Int32) := c2
      refine Z.aload_n C dX2_readFactor_43 1 rfl rfl ?_
      refine Z.callVi C (nA := 0) (As := []) (st := []) (c_here r ⟨by first | omega | (dsimp only; omega), by omega, by first | omega | (dsimp only [csz]; omega), by first | omega | (dsimp only; omega)⟩) gX2_readFactor_X2_here rfl (by decide +kernel) (rm_ok (by omega) (by decide)) 0 rfl rfl rfl (Nat.le_of_ble_eq_true rfl) rfl dX2_readFactor_44 ?_
      refine Z.bipush C (v := (nI 40)) dX2_readFactor_47 (by decide) ?_
      refine Z.icmp_eq C 61 dX2_readFactor_49 (by decide) (fun c5 => ?_) (fun c5 => ?_)
      · skip
        replace c5 : (hereF tx len r.1) = (40 : Int32) := c5
        have c5l := here_lt c5 (by decide)
        refine Z.iload_n C dX2_readFactor_61 2 rfl rfl ?_
        refine Z.bipush C (v := (nI 12)) dX2_readFactor_62 (by decide) ?_
        refine Z.icmp_ge C 77 dX2_readFactor_64 (by decide) (fun c6 => ?_) (fun c6 => ?_)
        · skip
          replace c6 : ¬ ins < 12 := Nat.not_lt.mpr ((nI_leI (by omega) (by omega)).mp c6)
          exact absurd c6 (by omega)
        · skip
          replace c6 : ins < 12 := Nat.not_le.mp (mt (nI_leI (by omega) (by omega)).mpr c6)
          refine Z.aload_n C dX2_readFactor_67 1 rfl rfl ?_
          refine Z.iload_n C dX2_readFactor_68 2 rfl rfl ?_
          refine Z.iconst C (v := (nI 1)) dX2_readFactor_69 (by decide) ?_
          refine Z.iadd C (v := (nI (ins + 1))) dX2_readFactor_70 (nI_add ins 1) ?_
          refine Z.callVi C (nA := 1) (As := [.int (nI (ins + 1))]) (st := []) (hN r ⟨by first | omega | (dsimp only; omega), by omega, by first | omega | (dsimp only [csz]; omega), by first | omega | (dsimp only; omega)⟩ (by omega)) gX2_readFactor_X2_readNested rfl (by decide +kernel) (rm_ok (by omega) (by decide)) 0 rfl rfl rfl (Nat.le_of_ble_eq_true rfl) rfl dX2_readFactor_71 ?_
          generalize e7 : g r = x7
          refine Z.goto C 85 dX2_readFactor_74 (by decide) ?_
          refine Z.zret C hr hA dX2_readFactor_85 (b := x7.1) rfl ?_ ?_
          · first | (simp [mFac, rC, (eq_false c1), (eq_false c2), (eq_true c5), (eq_true c6), e7]; done) | (simp_all [mFac, rC]; done)
          · (refine congrArg (wR aR aT aC aK aF aS cC cI tx len) ?_; first | (simp [mFac, rC, (eq_false c1), (eq_false c2), (eq_true c5), (eq_true c6), e7]; done) | (simp_all [mFac, rC]; done))
      · skip
        replace c5 : ¬ (hereF tx len r.1) = (40 : Int32) := c5
        refine Z.aload_n C dX2_readFactor_52 1 rfl rfl ?_
        refine Z.callVi C (nA := 0) (As := []) (st := []) (c_here r ⟨by first | omega | (dsimp only; omega), by omega, by first | omega | (dsimp only [csz]; omega), by first | omega | (dsimp only; omega)⟩) gX2_readFactor_X2_here rfl (by decide +kernel) (rm_ok (by omega) (by decide)) 0 rfl rfl rfl (Nat.le_of_ble_eq_true rfl) rfl dX2_readFactor_53 ?_
        refine Z.bipush C (v := (nI 64)) dX2_readFactor_56 (by decide) ?_
        refine Z.icmp_ne C 86 dX2_readFactor_58 (by decide) (fun c8 => ?_) (fun c8 => ?_)
        · skip
          replace c8 : ¬ (hereF tx len r.1) = (64 : Int32) := c8
          refine Z.aload_n C dX2_readFactor_86 1 rfl rfl ?_
          refine Z.lconst C (v := lN 0) dX2_readFactor_87 (by decide) ?_
          refine Z.ldc2 C (v := lN 4294967295) dX2_readFactor_88 (by decide +kernel) ?_
          refine Z.callVi C (nA := 2) (As := [.long (lN 0), .long (lN 4294967295)]) (st := []) (c_readNumber r 0 4294967295 ⟨by first | omega | (dsimp only; omega), by omega, by first | omega | (dsimp only [csz]; omega), by first | omega | (dsimp only; omega)⟩) gX2_readFactor_X2_readNumber rfl (by decide +kernel) (rm_ok (by omega) (by decide)) 0 rfl rfl rfl (Nat.le_of_ble_eq_true rfl) rfl dX2_readFactor_91 ?_
          generalize e9 : mNumber tx len 0 4294967295 r = x9
          have i9 : InvR len x9.2 := by rw [← e9]; exact mNumber_inv ⟨by first | omega | (dsimp only; omega), by omega, by first | omega | (dsimp only [csz]; omega), by first | omega | (dsimp only; omega)⟩
          obtain ⟨h19, h29, h39, h49⟩ := i9
          dsimp only [csz] at h39
          refine Z.if_ne C 99 dX2_readFactor_94 (by decide) (fun c10 => ?_) (fun c10 => ?_)
          · skip
            replace c10 : x9.1 = true := b2i_n0.mp c10
            refine Z.aload_n C dX2_readFactor_99 1 rfl rfl ?_
            refine Z.get C in2 0 rfl rfl 2 (by decide) (by decide +kernel) rfl rfl dX2_readFactor_100 ?_
            refine Z.iconst C (v := (nI 1)) dX2_readFactor_103 (by decide) ?_
            refine Z.aload_n C dX2_readFactor_104 1 rfl rfl ?_
            refine Z.get C in2 0 rfl rfl 5 (by decide) (by decide +kernel) rfl rfl dX2_readFactor_105 ?_
            refine Z.l2i C (v := (nI x9.2.2.2.1)) dX2_readFactor_108 (lN_i x9.2.2.2.1) ?_
            refine Z.iconst C (v := (nI 0)) dX2_readFactor_109 (by decide) ?_
            refine Z.callVNv C (nA := 3) (As := [.int (1 : Int32), .int (nI x9.2.2.2.1), .int (0 : Int32)]) (st := []) (host := "RoundCompiler") (c_add x9.2 (1 : Int32) (nI x9.2.2.2.1) (0 : Int32) ⟨by first | omega | (dsimp only; omega), by omega, by first | omega | (dsimp only [csz]; omega), by first | omega | (dsimp only; omega)⟩) gX2_readFactor_X0_add_n80 rfl (by decide +kernel) (by decide +kernel) (by decide +kernel) (by decide +kernel) (by decide +kernel) (rm_ok (by omega) (by decide)) 2 rfl rfl rfl (Nat.le_of_ble_eq_true rfl) rfl dX2_readFactor_110 ?_
            generalize e11 : cAdd (1 : Int32) (nI x9.2.2.2.1) (0 : Int32) x9.2.2.2.2.2.2 = x11
            have b11 : x11.2.2.2.1 ≤ 480 := by rw [← e11]; exact cAdd_sz (by first | omega | (dsimp only [csz]; omega))
            refine Z.iconst C (v := (nI 1)) dX2_readFactor_113 (by decide) ?_
            refine Z.zret C hr hA dX2_readFactor_114 (b := true) rfl ?_ ?_
            · first | (simp [mFac, rC, (eq_false c1), (eq_false c2), (eq_false c5), (eq_false c8), e9, c10, e11]; done) | (simp_all [mFac, rC]; done)
            · (refine congrArg (wR aR aT aC aK aF aS cC cI tx len) ?_; first | (simp [mFac, rC, (eq_false c1), (eq_false c2), (eq_false c5), (eq_false c8), e9, c10, e11]; done) | (simp_all [mFac, rC]; done))
          · skip
            replace c10 : x9.1 = false := b2i_0.mp c10
            refine Z.iconst C (v := (nI 0)) dX2_readFactor_97 (by decide) ?_
            refine Z.zret C hr hA dX2_readFactor_98 (b := false) rfl ?_ ?_
            · first | (simp [mFac, rC, (eq_false c1), (eq_false c2), (eq_false c5), (eq_false c8), e9, c10]; done) | (simp_all [mFac, rC]; done)
            · (refine congrArg (wR aR aT aC aK aF aS cC cI tx len) ?_; first | (simp [mFac, rC, (eq_false c1), (eq_false c2), (eq_false c5), (eq_false c8), e9, c10]; done) | (simp_all [mFac, rC]; done))
        · skip
          replace c8 : (hereF tx len r.1) = (64 : Int32) := c8
          have c8l := here_lt c8 (by decide)
          refine Z.iload_n C dX2_readFactor_61 2 rfl rfl ?_
          refine Z.bipush C (v := (nI 12)) dX2_readFactor_62 (by decide) ?_
          refine Z.icmp_ge C 77 dX2_readFactor_64 (by decide) (fun c12 => ?_) (fun c12 => ?_)
          · skip
            replace c12 : ¬ ins < 12 := Nat.not_lt.mpr ((nI_leI (by omega) (by omega)).mp c12)
            exact absurd c12 (by omega)
          · skip
            replace c12 : ins < 12 := Nat.not_le.mp (mt (nI_leI (by omega) (by omega)).mpr c12)
            refine Z.aload_n C dX2_readFactor_67 1 rfl rfl ?_
            refine Z.iload_n C dX2_readFactor_68 2 rfl rfl ?_
            refine Z.iconst C (v := (nI 1)) dX2_readFactor_69 (by decide) ?_
            refine Z.iadd C (v := (nI (ins + 1))) dX2_readFactor_70 (nI_add ins 1) ?_
            refine Z.callVi C (nA := 1) (As := [.int (nI (ins + 1))]) (st := []) (hN r ⟨by first | omega | (dsimp only; omega), by omega, by first | omega | (dsimp only [csz]; omega), by first | omega | (dsimp only; omega)⟩ (by omega)) gX2_readFactor_X2_readNested rfl (by decide +kernel) (rm_ok (by omega) (by decide)) 0 rfl rfl rfl (Nat.le_of_ble_eq_true rfl) rfl dX2_readFactor_71 ?_
            generalize e13 : g r = x13
            refine Z.goto C 85 dX2_readFactor_74 (by decide) ?_
            refine Z.zret C hr hA dX2_readFactor_85 (b := x13.1) rfl ?_ ?_
            · first | (simp [mFac, rC, (eq_false c1), (eq_false c2), (eq_false c5), (eq_true c8), (eq_true c12), e13]; done) | (simp_all [mFac, rC]; done)
            · (refine congrArg (wR aR aT aC aK aF aS cC cI tx len) ?_; first | (simp [mFac, rC, (eq_false c1), (eq_false c2), (eq_false c5), (eq_true c8), (eq_true c12), e13]; done) | (simp_all [mFac, rC]; done))
  · skip
    replace c1 : (0 : Int32) ≤ (nameF (hereF tx len r.1)) := Int32.not_lt.mp c1
    have c1l := name_lt c1
    refine Z.aload_n C dX2_readFactor_12 1 rfl rfl ?_
    refine Z.dup C dX2_readFactor_13 rfl ?_
    refine Z.get C in2 0 rfl rfl 3 (by decide) (by decide +kernel) rfl rfl dX2_readFactor_14 ?_
    refine Z.iconst C (v := (nI 1)) dX2_readFactor_17 (by decide) ?_
    refine Z.iadd C (v := (nI (r.1 + 1))) dX2_readFactor_18 (nI_add r.1 1) ?_
    refine Z.put C in2 0 rfl rfl 3 (by decide) tyX2 tyX2_ok nmX2 (by decide +kernel) rfl rfl rfl rfl (Nat.le_of_ble_eq_true rfl) dX2_readFactor_19 (w' := (wR aR aT aC aK aF aS cC cI tx len (r.1 + 1, r.2))) rfl ?_
    refine Z.aload_n C dX2_readFactor_22 1 rfl rfl ?_
    refine Z.get C in2 0 rfl rfl 2 (by decide) (by decide +kernel) rfl rfl dX2_readFactor_23 ?_
    refine Z.iconst C (v := (nI 2)) dX2_readFactor_26 (by decide) ?_
    refine Z.iload_n C dX2_readFactor_27 0 rfl rfl ?_
    refine Z.iconst C (v := (nI 0)) dX2_readFactor_28 (by decide) ?_
    refine Z.callVNv C (nA := 3) (As := [.int (2 : Int32), .int (nameF (hereF tx len r.1)), .int (0 : Int32)]) (st := []) (host := "RoundCompiler") (c_add (r.1 + 1, r.2) (2 : Int32) (nameF (hereF tx len r.1)) (0 : Int32) ⟨by first | omega | (dsimp only; omega), by omega, by first | omega | (dsimp only [csz]; omega), by first | omega | (dsimp only; omega)⟩) gX2_readFactor_X0_add_n80 rfl (by decide +kernel) (by decide +kernel) (by decide +kernel) (by decide +kernel) (by decide +kernel) (rm_ok (by omega) (by decide)) 2 rfl rfl rfl (Nat.le_of_ble_eq_true rfl) rfl dX2_readFactor_29 ?_
    generalize e14 : cAdd (2 : Int32) (nameF (hereF tx len r.1)) (0 : Int32) r.2.2.2.2.2 = x14
    have b14 : x14.2.2.2.1 ≤ 480 := by rw [← e14]; exact cAdd_sz (by first | omega | (dsimp only [csz]; omega))
    refine Z.iconst C (v := (nI 1)) dX2_readFactor_32 (by decide) ?_
    refine Z.zret C hr hA dX2_readFactor_33 (b := true) rfl ?_ ?_
    · first | (simp [mFac, rC, (eq_true c1), e14]; done) | (simp_all [mFac, rC]; done)
    · (refine congrArg (wR aR aT aC aK aF aS cC cI tx len) ?_; first | (simp [mFac, rC, (eq_true c1), e14]; done) | (simp_all [mFac, rC]; done))
set_option maxHeartbeats 4000000 in
set_option maxRecDepth 100000 in
theorem c_factor0 {l : Launch} {D : va_G} {aR aT aC aK aF aS : Nat} {cC cI : ClassId} {tx : Nat → Int32} {len : Nat} (r : RS)  (hI : InvR len r) : Mi l yX2_readFactor wsX2_readFactor 8 D [(cC, .char), (cI, .int)] [.ref aR, .int (nI 12)] (wR aR aT aC aK aF aS cC cI tx len r) (b2i ((mFac tx len gRef r).1)) (wR aR aT aC aK aF aS cC cI tx len ((mFac tx len gRef r).2)) := by
  refine Mi.of (cc := cX2_readFactor) (maxL := 3) (by decide) rfl (Nat.le_of_ble_eq_true rfl) ?_
  intro p e s m below meth c A C hr hA
  have in2 : ∀ w ∈ wsX20, w ∈ wsX2_readFactor := by decide +kernel
  show Z p l e (rmN _) s m _ below meth c _ D A _ _ [(0, .ref aR), (1, .int (nI 12))] 0 []
  obtain ⟨hI1, hI2, hI3, hI4⟩ := hI
  dsimp only [csz] at hI3
  refine Z.aload_n C dX2_readFactor_0 0 rfl rfl ?_
  refine Z.callVi C (nA := 0) (As := []) (st := []) (c_here r ⟨by first | omega | (dsimp only; omega), by omega, by first | omega | (dsimp only [csz]; omega), by first | omega | (dsimp only; omega)⟩) gX2_readFactor_X2_here rfl (by decide +kernel) (rm_ok (by omega) (by decide)) 0 rfl rfl rfl (Nat.le_of_ble_eq_true rfl) rfl dX2_readFactor_1 ?_
  refine Z.callSi C (nA := 1) (As := [.int (hereF tx len r.1)]) (st := []) (c_nameOf (hereF tx len r.1)) gX2_readFactor_X2_nameOf rfl (by decide +kernel) (rm_ok (by omega) (by decide)) rfl (Nat.le_of_ble_eq_true rfl) rfl dX2_readFactor_4 ?_
  refine Z.istore_n C (lv' := [(2, .int (nameF (hereF tx len r.1))), (0, .ref aR), (1, .int (nI 12))]) dX2_readFactor_7 rfl (by decide) rfl ?_
  refine Z.iload_n C dX2_readFactor_8 0 rfl rfl ?_
  refine Z.if_lt C 34 dX2_readFactor_9 (by decide) (fun c1 => ?_) (fun c1 => ?_)
  · skip
    replace c1 : ¬ (0 : Int32) ≤ (nameF (hereF tx len r.1)) := Int32.not_le.mpr c1
    refine Z.aload_n C dX2_readFactor_34 1 rfl rfl ?_
    refine Z.callVi C (nA := 0) (As := []) (st := []) (c_here r ⟨by first | omega | (dsimp only; omega), by omega, by first | omega | (dsimp only [csz]; omega), by first | omega | (dsimp only; omega)⟩) gX2_readFactor_X2_here rfl (by decide +kernel) (rm_ok (by omega) (by decide)) 0 rfl rfl rfl (Nat.le_of_ble_eq_true rfl) rfl dX2_readFactor_35 ?_
    refine Z.bipush C (v := (nI 126)) dX2_readFactor_38 (by decide) ?_
    refine Z.icmp_eq C 61 dX2_readFactor_40 (by decide) (fun c2 => ?_) (fun c2 => ?_)
    · skip
      replace c2 : (hereF tx len r.1) = (126 : Int32) := c2
      have c2l := here_lt c2 (by decide)
      refine Z.iload_n C dX2_readFactor_61 2 rfl rfl ?_
      refine Z.bipush C (v := (nI 12)) dX2_readFactor_62 (by decide) ?_
      refine Z.icmp_ge C 77 dX2_readFactor_64 (by decide) (fun c3 => ?_) (fun c3 => ?_)
      · skip
        replace c3 : ¬ 12 < 12 := Nat.not_lt.mpr ((nI_leI (by omega) (by omega)).mp c3)
        refine Z.aload_n C dX2_readFactor_77 1 rfl rfl ?_
        refine Z.aload_n C dX2_readFactor_78 1 rfl rfl ?_
        refine Z.get C in2 0 rfl rfl 3 (by decide) (by decide +kernel) rfl rfl dX2_readFactor_79 ?_
        refine Z.callVi C (nA := 1) (As := [.int (nI r.1)]) (st := []) (c_refuse r r.1) gX2_readFactor_X2_refuse rfl (by decide +kernel) (rm_ok (by omega) (by decide)) 0 rfl rfl rfl (Nat.le_of_ble_eq_true rfl) rfl dX2_readFactor_82 ?_
        refine Z.zret C hr hA dX2_readFactor_85 (b := false) rfl ?_ ?_
        · first | (simp [mFac, gRef, rC, (eq_false c1), (eq_true c2), (eq_false c3)]; done) | (simp_all [mFac, gRef, rC]; done)
        · (refine congrArg (wR aR aT aC aK aF aS cC cI tx len) ?_; first | (simp [mFac, gRef, rC, (eq_false c1), (eq_true c2), (eq_false c3)]; done) | (simp_all [mFac, gRef, rC]; done))
      · skip
        replace c3 : 12 < 12 := Nat.not_le.mp (mt (nI_leI (by omega) (by omega)).mpr c3)
        exact absurd c3 (by decide)
    · skip
      replace c2 : ¬ (hereF tx len r.1) = (126 : Int32) := c2
      refine Z.aload_n C dX2_readFactor_43 1 rfl rfl ?_
      refine Z.callVi C (nA := 0) (As := []) (st := []) (c_here r ⟨by first | omega | (dsimp only; omega), by omega, by first | omega | (dsimp only [csz]; omega), by first | omega | (dsimp only; omega)⟩) gX2_readFactor_X2_here rfl (by decide +kernel) (rm_ok (by omega) (by decide)) 0 rfl rfl rfl (Nat.le_of_ble_eq_true rfl) rfl dX2_readFactor_44 ?_
      refine Z.bipush C (v := (nI 40)) dX2_readFactor_47 (by decide) ?_
      refine Z.icmp_eq C 61 dX2_readFactor_49 (by decide) (fun c4 => ?_) (fun c4 => ?_)
      · skip
        replace c4 : (hereF tx len r.1) = (40 : Int32) := c4
        have c4l := here_lt c4 (by decide)
        refine Z.iload_n C dX2_readFactor_61 2 rfl rfl ?_
        refine Z.bipush C (v := (nI 12)) dX2_readFactor_62 (by decide) ?_
        refine Z.icmp_ge C 77 dX2_readFactor_64 (by decide) (fun c5 => ?_) (fun c5 => ?_)
        · skip
          replace c5 : ¬ 12 < 12 := Nat.not_lt.mpr ((nI_leI (by omega) (by omega)).mp c5)
          refine Z.aload_n C dX2_readFactor_77 1 rfl rfl ?_
          refine Z.aload_n C dX2_readFactor_78 1 rfl rfl ?_
          refine Z.get C in2 0 rfl rfl 3 (by decide) (by decide +kernel) rfl rfl dX2_readFactor_79 ?_
          refine Z.callVi C (nA := 1) (As := [.int (nI r.1)]) (st := []) (c_refuse r r.1) gX2_readFactor_X2_refuse rfl (by decide +kernel) (rm_ok (by omega) (by decide)) 0 rfl rfl rfl (Nat.le_of_ble_eq_true rfl) rfl dX2_readFactor_82 ?_
          refine Z.zret C hr hA dX2_readFactor_85 (b := false) rfl ?_ ?_
          · first | (simp [mFac, gRef, rC, (eq_false c1), (eq_false c2), (eq_true c4), (eq_false c5)]; done) | (simp_all [mFac, gRef, rC]; done)
          · (refine congrArg (wR aR aT aC aK aF aS cC cI tx len) ?_; first | (simp [mFac, gRef, rC, (eq_false c1), (eq_false c2), (eq_true c4), (eq_false c5)]; done) | (simp_all [mFac, gRef, rC]; done))
        · skip
          replace c5 : 12 < 12 := Nat.not_le.mp (mt (nI_leI (by omega) (by omega)).mpr c5)
          exact absurd c5 (by decide)
      · skip
        replace c4 : ¬ (hereF tx len r.1) = (40 : Int32) := c4
        refine Z.aload_n C dX2_readFactor_52 1 rfl rfl ?_
        refine Z.callVi C (nA := 0) (As := []) (st := []) (c_here r ⟨by first | omega | (dsimp only; omega), by omega, by first | omega | (dsimp only [csz]; omega), by first | omega | (dsimp only; omega)⟩) gX2_readFactor_X2_here rfl (by decide +kernel) (rm_ok (by omega) (by decide)) 0 rfl rfl rfl (Nat.le_of_ble_eq_true rfl) rfl dX2_readFactor_53 ?_
        refine Z.bipush C (v := (nI 64)) dX2_readFactor_56 (by decide) ?_
        refine Z.icmp_ne C 86 dX2_readFactor_58 (by decide) (fun c6 => ?_) (fun c6 => ?_)
        · skip
          replace c6 : ¬ (hereF tx len r.1) = (64 : Int32) := c6
          refine Z.aload_n C dX2_readFactor_86 1 rfl rfl ?_
          refine Z.lconst C (v := lN 0) dX2_readFactor_87 (by decide) ?_
          refine Z.ldc2 C (v := lN 4294967295) dX2_readFactor_88 (by decide +kernel) ?_
          refine Z.callVi C (nA := 2) (As := [.long (lN 0), .long (lN 4294967295)]) (st := []) (c_readNumber r 0 4294967295 ⟨by first | omega | (dsimp only; omega), by omega, by first | omega | (dsimp only [csz]; omega), by first | omega | (dsimp only; omega)⟩) gX2_readFactor_X2_readNumber rfl (by decide +kernel) (rm_ok (by omega) (by decide)) 0 rfl rfl rfl (Nat.le_of_ble_eq_true rfl) rfl dX2_readFactor_91 ?_
          generalize e7 : mNumber tx len 0 4294967295 r = x7
          have i7 : InvR len x7.2 := by rw [← e7]; exact mNumber_inv ⟨by first | omega | (dsimp only; omega), by omega, by first | omega | (dsimp only [csz]; omega), by first | omega | (dsimp only; omega)⟩
          obtain ⟨h17, h27, h37, h47⟩ := i7
          dsimp only [csz] at h37
          refine Z.if_ne C 99 dX2_readFactor_94 (by decide) (fun c8 => ?_) (fun c8 => ?_)
          · skip
            replace c8 : x7.1 = true := b2i_n0.mp c8
            refine Z.aload_n C dX2_readFactor_99 1 rfl rfl ?_
            refine Z.get C in2 0 rfl rfl 2 (by decide) (by decide +kernel) rfl rfl dX2_readFactor_100 ?_
            refine Z.iconst C (v := (nI 1)) dX2_readFactor_103 (by decide) ?_
            refine Z.aload_n C dX2_readFactor_104 1 rfl rfl ?_
            refine Z.get C in2 0 rfl rfl 5 (by decide) (by decide +kernel) rfl rfl dX2_readFactor_105 ?_
            refine Z.l2i C (v := (nI x7.2.2.2.1)) dX2_readFactor_108 (lN_i x7.2.2.2.1) ?_
            refine Z.iconst C (v := (nI 0)) dX2_readFactor_109 (by decide) ?_
            refine Z.callVNv C (nA := 3) (As := [.int (1 : Int32), .int (nI x7.2.2.2.1), .int (0 : Int32)]) (st := []) (host := "RoundCompiler") (c_add x7.2 (1 : Int32) (nI x7.2.2.2.1) (0 : Int32) ⟨by first | omega | (dsimp only; omega), by omega, by first | omega | (dsimp only [csz]; omega), by first | omega | (dsimp only; omega)⟩) gX2_readFactor_X0_add_n80 rfl (by decide +kernel) (by decide +kernel) (by decide +kernel) (by decide +kernel) (by decide +kernel) (rm_ok (by omega) (by decide)) 2 rfl rfl rfl (Nat.le_of_ble_eq_true rfl) rfl dX2_readFactor_110 ?_
            generalize e9 : cAdd (1 : Int32) (nI x7.2.2.2.1) (0 : Int32) x7.2.2.2.2.2.2 = x9
            have b9 : x9.2.2.2.1 ≤ 480 := by rw [← e9]; exact cAdd_sz (by first | omega | (dsimp only [csz]; omega))
            refine Z.iconst C (v := (nI 1)) dX2_readFactor_113 (by decide) ?_
            refine Z.zret C hr hA dX2_readFactor_114 (b := true) rfl ?_ ?_
            · first | (simp [mFac, gRef, rC, (eq_false c1), (eq_false c2), (eq_false c4), (eq_false c6), e7, c8, e9]; done) | (simp_all [mFac, gRef, rC]; done)
            · (refine congrArg (wR aR aT aC aK aF aS cC cI tx len) ?_; first | (simp [mFac, gRef, rC, (eq_false c1), (eq_false c2), (eq_false c4), (eq_false c6), e7, c8, e9]; done) | (simp_all [mFac, gRef, rC]; done))
          · skip
            replace c8 : x7.1 = false := b2i_0.mp c8
            refine Z.iconst C (v := (nI 0)) dX2_readFactor_97 (by decide) ?_
            refine Z.zret C hr hA dX2_readFactor_98 (b := false) rfl ?_ ?_
            · first | (simp [mFac, gRef, rC, (eq_false c1), (eq_false c2), (eq_false c4), (eq_false c6), e7, c8]; done) | (simp_all [mFac, gRef, rC]; done)
            · (refine congrArg (wR aR aT aC aK aF aS cC cI tx len) ?_; first | (simp [mFac, gRef, rC, (eq_false c1), (eq_false c2), (eq_false c4), (eq_false c6), e7, c8]; done) | (simp_all [mFac, gRef, rC]; done))
        · skip
          replace c6 : (hereF tx len r.1) = (64 : Int32) := c6
          have c6l := here_lt c6 (by decide)
          refine Z.iload_n C dX2_readFactor_61 2 rfl rfl ?_
          refine Z.bipush C (v := (nI 12)) dX2_readFactor_62 (by decide) ?_
          refine Z.icmp_ge C 77 dX2_readFactor_64 (by decide) (fun c10 => ?_) (fun c10 => ?_)
          · skip
            replace c10 : ¬ 12 < 12 := Nat.not_lt.mpr ((nI_leI (by omega) (by omega)).mp c10)
            refine Z.aload_n C dX2_readFactor_77 1 rfl rfl ?_
            refine Z.aload_n C dX2_readFactor_78 1 rfl rfl ?_
            refine Z.get C in2 0 rfl rfl 3 (by decide) (by decide +kernel) rfl rfl dX2_readFactor_79 ?_
            refine Z.callVi C (nA := 1) (As := [.int (nI r.1)]) (st := []) (c_refuse r r.1) gX2_readFactor_X2_refuse rfl (by decide +kernel) (rm_ok (by omega) (by decide)) 0 rfl rfl rfl (Nat.le_of_ble_eq_true rfl) rfl dX2_readFactor_82 ?_
            refine Z.zret C hr hA dX2_readFactor_85 (b := false) rfl ?_ ?_
            · first | (simp [mFac, gRef, rC, (eq_false c1), (eq_false c2), (eq_false c4), (eq_true c6), (eq_false c10)]; done) | (simp_all [mFac, gRef, rC]; done)
            · (refine congrArg (wR aR aT aC aK aF aS cC cI tx len) ?_; first | (simp [mFac, gRef, rC, (eq_false c1), (eq_false c2), (eq_false c4), (eq_true c6), (eq_false c10)]; done) | (simp_all [mFac, gRef, rC]; done))
          · skip
            replace c10 : 12 < 12 := Nat.not_le.mp (mt (nI_leI (by omega) (by omega)).mpr c10)
            exact absurd c10 (by decide)
  · skip
    replace c1 : (0 : Int32) ≤ (nameF (hereF tx len r.1)) := Int32.not_lt.mp c1
    have c1l := name_lt c1
    refine Z.aload_n C dX2_readFactor_12 1 rfl rfl ?_
    refine Z.dup C dX2_readFactor_13 rfl ?_
    refine Z.get C in2 0 rfl rfl 3 (by decide) (by decide +kernel) rfl rfl dX2_readFactor_14 ?_
    refine Z.iconst C (v := (nI 1)) dX2_readFactor_17 (by decide) ?_
    refine Z.iadd C (v := (nI (r.1 + 1))) dX2_readFactor_18 (nI_add r.1 1) ?_
    refine Z.put C in2 0 rfl rfl 3 (by decide) tyX2 tyX2_ok nmX2 (by decide +kernel) rfl rfl rfl rfl (Nat.le_of_ble_eq_true rfl) dX2_readFactor_19 (w' := (wR aR aT aC aK aF aS cC cI tx len (r.1 + 1, r.2))) rfl ?_
    refine Z.aload_n C dX2_readFactor_22 1 rfl rfl ?_
    refine Z.get C in2 0 rfl rfl 2 (by decide) (by decide +kernel) rfl rfl dX2_readFactor_23 ?_
    refine Z.iconst C (v := (nI 2)) dX2_readFactor_26 (by decide) ?_
    refine Z.iload_n C dX2_readFactor_27 0 rfl rfl ?_
    refine Z.iconst C (v := (nI 0)) dX2_readFactor_28 (by decide) ?_
    refine Z.callVNv C (nA := 3) (As := [.int (2 : Int32), .int (nameF (hereF tx len r.1)), .int (0 : Int32)]) (st := []) (host := "RoundCompiler") (c_add (r.1 + 1, r.2) (2 : Int32) (nameF (hereF tx len r.1)) (0 : Int32) ⟨by first | omega | (dsimp only; omega), by omega, by first | omega | (dsimp only [csz]; omega), by first | omega | (dsimp only; omega)⟩) gX2_readFactor_X0_add_n80 rfl (by decide +kernel) (by decide +kernel) (by decide +kernel) (by decide +kernel) (by decide +kernel) (rm_ok (by omega) (by decide)) 2 rfl rfl rfl (Nat.le_of_ble_eq_true rfl) rfl dX2_readFactor_29 ?_
    generalize e11 : cAdd (2 : Int32) (nameF (hereF tx len r.1)) (0 : Int32) r.2.2.2.2.2 = x11
    have b11 : x11.2.2.2.1 ≤ 480 := by rw [← e11]; exact cAdd_sz (by first | omega | (dsimp only [csz]; omega))
    refine Z.iconst C (v := (nI 1)) dX2_readFactor_32 (by decide) ?_
    refine Z.zret C hr hA dX2_readFactor_33 (b := true) rfl ?_ ?_
    · first | (simp [mFac, gRef, rC, (eq_true c1), e11]; done) | (simp_all [mFac, gRef, rC]; done)
    · (refine congrArg (wR aR aT aC aK aF aS cC cI tx len) ?_; first | (simp [mFac, gRef, rC, (eq_true c1), e11]; done) | (simp_all [mFac, gRef, rC]; done))
end
