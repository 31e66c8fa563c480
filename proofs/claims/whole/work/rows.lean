section
-- ===== PART A: goes FIRST, ahead of the names: the tables' words, and 'selects' of the private methods out of them =====
/-- a private method of a class that the tables say can be made, by its rows of tables_1 -/
def lw_okq (q : MethodName × Nat) : Prop := (q.1.cls ≠ "java/lang/invoke/MethodHandle" ∧ q.1.cls ≠ "java/lang/invoke/VarHandle") ∧ Cond.instantiable q.1.cls q.2 ∈ tables_1 ∧ Cond.privateMethod q.1 ∈ tables_1 ∧ Cond.instanceMethod q.1 ∈ tables_1
theorem lw_p0 : lw_okq (⟨"GraphRunner", "foldedCount", "()I"⟩, 9) := ⟨⟨by decide +kernel, by decide +kernel⟩, List.mem_of_getElem? (i := 19) (by decide +kernel), List.mem_of_getElem? (i := 159) (by decide +kernel), List.mem_of_getElem? (i := 160) (by decide +kernel)⟩
theorem lw_p1 : lw_okq (⟨"GraphRunner", "knownCount", "()I"⟩, 9) := ⟨⟨by decide +kernel, by decide +kernel⟩, List.mem_of_getElem? (i := 19) (by decide +kernel), List.mem_of_getElem? (i := 163) (by decide +kernel), List.mem_of_getElem? (i := 164) (by decide +kernel)⟩
theorem lw_p2 : lw_okq (⟨"GraphRunner", "inOrder", "(I)I"⟩, 9) := ⟨⟨by decide +kernel, by decide +kernel⟩, List.mem_of_getElem? (i := 19) (by decide +kernel), List.mem_of_getElem? (i := 167) (by decide +kernel), List.mem_of_getElem? (i := 168) (by decide +kernel)⟩
theorem lw_p3 : lw_okq (⟨"GraphRunner", "isFree", "(I)Z"⟩, 9) := ⟨⟨by decide +kernel, by decide +kernel⟩, List.mem_of_getElem? (i := 19) (by decide +kernel), List.mem_of_getElem? (i := 179) (by decide +kernel), List.mem_of_getElem? (i := 180) (by decide +kernel)⟩
theorem lw_p4 : lw_okq (⟨"java/lang/Throwable", "fillInStackTrace", "(I)Ljava/lang/Throwable;"⟩, 6) := ⟨⟨by decide +kernel, by decide +kernel⟩, List.mem_of_getElem? (i := 233) (by decide +kernel), List.mem_of_getElem? (i := 231) (by decide +kernel), List.mem_of_getElem? (i := 232) (by decide +kernel)⟩
theorem lw_p5 : lw_okq (⟨"GraphRunner$Table", "shape", "(III)Z"⟩, 4) := ⟨⟨by decide +kernel, by decide +kernel⟩, List.mem_of_getElem? (i := 31) (by decide +kernel), List.mem_of_getElem? (i := 258) (by decide +kernel), List.mem_of_getElem? (i := 259) (by decide +kernel)⟩
theorem lw_p6 : lw_okq (⟨"GraphRunner$Table", "clear", "()V"⟩, 4) := ⟨⟨by decide +kernel, by decide +kernel⟩, List.mem_of_getElem? (i := 31) (by decide +kernel), List.mem_of_getElem? (i := 263) (by decide +kernel), List.mem_of_getElem? (i := 264) (by decide +kernel)⟩
theorem lw_p7 : lw_okq (⟨"GraphRunner", "unprepare", "()V"⟩, 9) := ⟨⟨by decide +kernel, by decide +kernel⟩, List.mem_of_getElem? (i := 19) (by decide +kernel), List.mem_of_getElem? (i := 267) (by decide +kernel), List.mem_of_getElem? (i := 268) (by decide +kernel)⟩
theorem lw_p8 : lw_okq (⟨"GraphRunner", "forgetKnown", "()V"⟩, 9) := ⟨⟨by decide +kernel, by decide +kernel⟩, List.mem_of_getElem? (i := 19) (by decide +kernel), List.mem_of_getElem? (i := 271) (by decide +kernel), List.mem_of_getElem? (i := 272) (by decide +kernel)⟩
theorem lw_p9 : lw_okq (⟨"GraphRunner", "isFed", "(I)Z"⟩, 9) := ⟨⟨by decide +kernel, by decide +kernel⟩, List.mem_of_getElem? (i := 19) (by decide +kernel), List.mem_of_getElem? (i := 282) (by decide +kernel), List.mem_of_getElem? (i := 283) (by decide +kernel)⟩
theorem lw_p10 : lw_okq (⟨"GraphRunner$Table", "has", "(II)Z"⟩, 4) := ⟨⟨by decide +kernel, by decide +kernel⟩, List.mem_of_getElem? (i := 31) (by decide +kernel), List.mem_of_getElem? (i := 286) (by decide +kernel), List.mem_of_getElem? (i := 287) (by decide +kernel)⟩
theorem lw_p11 : lw_okq (⟨"GraphRunner$Table", "put", "(IID)V"⟩, 4) := ⟨⟨by decide +kernel, by decide +kernel⟩, List.mem_of_getElem? (i := 31) (by decide +kernel), List.mem_of_getElem? (i := 295) (by decide +kernel), List.mem_of_getElem? (i := 296) (by decide +kernel)⟩
theorem lw_p12 : lw_okq (⟨"GraphRunner$Node", "become", "(IIII)V"⟩, 9) := ⟨⟨by decide +kernel, by decide +kernel⟩, List.mem_of_getElem? (i := 80) (by decide +kernel), List.mem_of_getElem? (i := 330) (by decide +kernel), List.mem_of_getElem? (i := 331) (by decide +kernel)⟩
theorem lw_p13 : lw_okq (⟨"GraphRunner$Node", "takeArguments", "(III)V"⟩, 9) := ⟨⟨by decide +kernel, by decide +kernel⟩, List.mem_of_getElem? (i := 80) (by decide +kernel), List.mem_of_getElem? (i := 335) (by decide +kernel), List.mem_of_getElem? (i := 336) (by decide +kernel)⟩
theorem lw_p14 : lw_okq (⟨"GraphRunner", "orderNodes", "()Z"⟩, 9) := ⟨⟨by decide +kernel, by decide +kernel⟩, List.mem_of_getElem? (i := 19) (by decide +kernel), List.mem_of_getElem? (i := 370) (by decide +kernel), List.mem_of_getElem? (i := 371) (by decide +kernel)⟩
theorem lw_p15 : lw_okq (⟨"GraphRunner", "leastToOrder", "()I"⟩, 9) := ⟨⟨by decide +kernel, by decide +kernel⟩, List.mem_of_getElem? (i := 19) (by decide +kernel), List.mem_of_getElem? (i := 374) (by decide +kernel), List.mem_of_getElem? (i := 375) (by decide +kernel)⟩
def lw_privs_1 : List (MethodName × Nat) := [(⟨"GraphRunner", "foldedCount", "()I"⟩, 9), (⟨"GraphRunner", "knownCount", "()I"⟩, 9), (⟨"GraphRunner", "inOrder", "(I)I"⟩, 9), (⟨"GraphRunner", "isFree", "(I)Z"⟩, 9), (⟨"java/lang/Throwable", "fillInStackTrace", "(I)Ljava/lang/Throwable;"⟩, 6), (⟨"GraphRunner$Table", "shape", "(III)Z"⟩, 4), (⟨"GraphRunner$Table", "clear", "()V"⟩, 4), (⟨"GraphRunner", "unprepare", "()V"⟩, 9), (⟨"GraphRunner", "forgetKnown", "()V"⟩, 9), (⟨"GraphRunner", "isFed", "(I)Z"⟩, 9), (⟨"GraphRunner$Table", "has", "(II)Z"⟩, 4), (⟨"GraphRunner$Table", "put", "(IID)V"⟩, 4), (⟨"GraphRunner$Node", "become", "(IIII)V"⟩, 9), (⟨"GraphRunner$Node", "takeArguments", "(III)V"⟩, 9), (⟨"GraphRunner", "orderNodes", "()Z"⟩, 9), (⟨"GraphRunner", "leastToOrder", "()I"⟩, 9)]
theorem lw_r1 : ∀ q ∈ lw_privs_1, lw_okq q := List.forall_mem_cons.mpr ⟨lw_p0, List.forall_mem_cons.mpr ⟨lw_p1, List.forall_mem_cons.mpr ⟨lw_p2, List.forall_mem_cons.mpr ⟨lw_p3, List.forall_mem_cons.mpr ⟨lw_p4, List.forall_mem_cons.mpr ⟨lw_p5, List.forall_mem_cons.mpr ⟨lw_p6, List.forall_mem_cons.mpr ⟨lw_p7, List.forall_mem_cons.mpr ⟨lw_p8, List.forall_mem_cons.mpr ⟨lw_p9, List.forall_mem_cons.mpr ⟨lw_p10, List.forall_mem_cons.mpr ⟨lw_p11, List.forall_mem_cons.mpr ⟨lw_p12, List.forall_mem_cons.mpr ⟨lw_p13, List.forall_mem_cons.mpr ⟨lw_p14, List.forall_mem_cons.mpr ⟨lw_p15, fun _ h => absurd h List.not_mem_nil⟩⟩⟩⟩⟩⟩⟩⟩⟩⟩⟩⟩⟩⟩⟩⟩
theorem lw_p16 : lw_okq (⟨"GraphRunner", "argumentsAreOrdered", "(LGraphRunner$Node;)Z"⟩, 9) := ⟨⟨by decide +kernel, by decide +kernel⟩, List.mem_of_getElem? (i := 19) (by decide +kernel), List.mem_of_getElem? (i := 378) (by decide +kernel), List.mem_of_getElem? (i := 379) (by decide +kernel)⟩
theorem lw_p17 : lw_okq (⟨"GraphRunner", "isOrdered", "(I)Z"⟩, 9) := ⟨⟨by decide +kernel, by decide +kernel⟩, List.mem_of_getElem? (i := 19) (by decide +kernel), List.mem_of_getElem? (i := 382) (by decide +kernel), List.mem_of_getElem? (i := 383) (by decide +kernel)⟩
theorem lw_p18 : lw_okq (⟨"GraphRunner", "findShapes", "()Z"⟩, 9) := ⟨⟨by decide +kernel, by decide +kernel⟩, List.mem_of_getElem? (i := 19) (by decide +kernel), List.mem_of_getElem? (i := 386) (by decide +kernel), List.mem_of_getElem? (i := 387) (by decide +kernel)⟩
theorem lw_p19 : lw_okq (⟨"GraphRunner", "argument", "(LGraphRunner$Node;I)LGraphRunner$Table;"⟩, 9) := ⟨⟨by decide +kernel, by decide +kernel⟩, List.mem_of_getElem? (i := 19) (by decide +kernel), List.mem_of_getElem? (i := 390) (by decide +kernel), List.mem_of_getElem? (i := 391) (by decide +kernel)⟩
theorem lw_p20 : lw_okq (⟨"GraphRunner", "foldNodes", "()V"⟩, 9) := ⟨⟨by decide +kernel, by decide +kernel⟩, List.mem_of_getElem? (i := 19) (by decide +kernel), List.mem_of_getElem? (i := 438) (by decide +kernel), List.mem_of_getElem? (i := 439) (by decide +kernel)⟩
theorem lw_p21 : lw_okq (⟨"GraphRunner", "argumentsAreFolded", "(LGraphRunner$Node;)Z"⟩, 9) := ⟨⟨by decide +kernel, by decide +kernel⟩, List.mem_of_getElem? (i := 19) (by decide +kernel), List.mem_of_getElem? (i := 442) (by decide +kernel), List.mem_of_getElem? (i := 443) (by decide +kernel)⟩
theorem lw_p22 : lw_okq (⟨"GraphRunner", "isConstantOrFolded", "(I)Z"⟩, 9) := ⟨⟨by decide +kernel, by decide +kernel⟩, List.mem_of_getElem? (i := 19) (by decide +kernel), List.mem_of_getElem? (i := 446) (by decide +kernel), List.mem_of_getElem? (i := 447) (by decide +kernel)⟩
theorem lw_p23 : lw_okq (⟨"GraphRunner", "workOut", "(LGraphRunner$Node;)I"⟩, 9) := ⟨⟨by decide +kernel, by decide +kernel⟩, List.mem_of_getElem? (i := 19) (by decide +kernel), List.mem_of_getElem? (i := 450) (by decide +kernel), List.mem_of_getElem? (i := 451) (by decide +kernel)⟩
theorem lw_p24 : lw_okq (⟨"GraphRunner$Table", "atAgain", "(II)D"⟩, 4) := ⟨⟨by decide +kernel, by decide +kernel⟩, List.mem_of_getElem? (i := 31) (by decide +kernel), List.mem_of_getElem? (i := 460) (by decide +kernel), List.mem_of_getElem? (i := 461) (by decide +kernel)⟩
theorem lw_p25 : lw_okq (⟨"GraphRunner$Table", "at", "(II)D"⟩, 4) := ⟨⟨by decide +kernel, by decide +kernel⟩, List.mem_of_getElem? (i := 31) (by decide +kernel), List.mem_of_getElem? (i := 471) (by decide +kernel), List.mem_of_getElem? (i := 472) (by decide +kernel)⟩
theorem lw_p26 : lw_okq (⟨"GraphRunner$Table", "isZero", "()Z"⟩, 4) := ⟨⟨by decide +kernel, by decide +kernel⟩, List.mem_of_getElem? (i := 31) (by decide +kernel), List.mem_of_getElem? (i := 509) (by decide +kernel), List.mem_of_getElem? (i := 510) (by decide +kernel)⟩
theorem lw_p27 : lw_okq (⟨"GraphRunner$Table", "isTooLarge", "()Z"⟩, 4) := ⟨⟨by decide +kernel, by decide +kernel⟩, List.mem_of_getElem? (i := 31) (by decide +kernel), List.mem_of_getElem? (i := 526) (by decide +kernel), List.mem_of_getElem? (i := 527) (by decide +kernel)⟩
theorem lw_p28 : lw_okq (⟨"GraphRunner", "runFor", "(I)I"⟩, 9) := ⟨⟨by decide +kernel, by decide +kernel⟩, List.mem_of_getElem? (i := 19) (by decide +kernel), List.mem_of_getElem? (i := 541) (by decide +kernel), List.mem_of_getElem? (i := 542) (by decide +kernel)⟩
theorem lw_p29 : lw_okq (⟨"GraphRunner", "isThere", "(I)Z"⟩, 9) := ⟨⟨by decide +kernel, by decide +kernel⟩, List.mem_of_getElem? (i := 19) (by decide +kernel), List.mem_of_getElem? (i := 545) (by decide +kernel), List.mem_of_getElem? (i := 546) (by decide +kernel)⟩
theorem lw_p30 : lw_okq (⟨"GraphRunner$Node", "hasOutcome", "()Z"⟩, 9) := ⟨⟨by decide +kernel, by decide +kernel⟩, List.mem_of_getElem? (i := 80) (by decide +kernel), List.mem_of_getElem? (i := 549) (by decide +kernel), List.mem_of_getElem? (i := 550) (by decide +kernel)⟩
theorem lw_p31 : lw_okq (⟨"GraphRunner", "firstNeeded", "(LGraphRunner$Node;)I"⟩, 9) := ⟨⟨by decide +kernel, by decide +kernel⟩, List.mem_of_getElem? (i := 19) (by decide +kernel), List.mem_of_getElem? (i := 553) (by decide +kernel), List.mem_of_getElem? (i := 554) (by decide +kernel)⟩
def lw_privs_2 : List (MethodName × Nat) := [(⟨"GraphRunner", "argumentsAreOrdered", "(LGraphRunner$Node;)Z"⟩, 9), (⟨"GraphRunner", "isOrdered", "(I)Z"⟩, 9), (⟨"GraphRunner", "findShapes", "()Z"⟩, 9), (⟨"GraphRunner", "argument", "(LGraphRunner$Node;I)LGraphRunner$Table;"⟩, 9), (⟨"GraphRunner", "foldNodes", "()V"⟩, 9), (⟨"GraphRunner", "argumentsAreFolded", "(LGraphRunner$Node;)Z"⟩, 9), (⟨"GraphRunner", "isConstantOrFolded", "(I)Z"⟩, 9), (⟨"GraphRunner", "workOut", "(LGraphRunner$Node;)I"⟩, 9), (⟨"GraphRunner$Table", "atAgain", "(II)D"⟩, 4), (⟨"GraphRunner$Table", "at", "(II)D"⟩, 4), (⟨"GraphRunner$Table", "isZero", "()Z"⟩, 4), (⟨"GraphRunner$Table", "isTooLarge", "()Z"⟩, 4), (⟨"GraphRunner", "runFor", "(I)I"⟩, 9), (⟨"GraphRunner", "isThere", "(I)Z"⟩, 9), (⟨"GraphRunner$Node", "hasOutcome", "()Z"⟩, 9), (⟨"GraphRunner", "firstNeeded", "(LGraphRunner$Node;)I"⟩, 9)]
theorem lw_r2 : ∀ q ∈ lw_privs_2, lw_okq q := List.forall_mem_cons.mpr ⟨lw_p16, List.forall_mem_cons.mpr ⟨lw_p17, List.forall_mem_cons.mpr ⟨lw_p18, List.forall_mem_cons.mpr ⟨lw_p19, List.forall_mem_cons.mpr ⟨lw_p20, List.forall_mem_cons.mpr ⟨lw_p21, List.forall_mem_cons.mpr ⟨lw_p22, List.forall_mem_cons.mpr ⟨lw_p23, List.forall_mem_cons.mpr ⟨lw_p24, List.forall_mem_cons.mpr ⟨lw_p25, List.forall_mem_cons.mpr ⟨lw_p26, List.forall_mem_cons.mpr ⟨lw_p27, List.forall_mem_cons.mpr ⟨lw_p28, List.forall_mem_cons.mpr ⟨lw_p29, List.forall_mem_cons.mpr ⟨lw_p30, List.forall_mem_cons.mpr ⟨lw_p31, fun _ h => absurd h List.not_mem_nil⟩⟩⟩⟩⟩⟩⟩⟩⟩⟩⟩⟩⟩⟩⟩⟩
theorem lw_p32 : lw_okq (⟨"GraphRunner", "firstNeededByChoice", "(LGraphRunner$Node;)I"⟩, 9) := ⟨⟨by decide +kernel, by decide +kernel⟩, List.mem_of_getElem? (i := 19) (by decide +kernel), List.mem_of_getElem? (i := 557) (by decide +kernel), List.mem_of_getElem? (i := 558) (by decide +kernel)⟩
theorem lw_p33 : lw_okq (⟨"GraphRunner", "learn", "(LGraphRunner$Node;)I"⟩, 9) := ⟨⟨by decide +kernel, by decide +kernel⟩, List.mem_of_getElem? (i := 19) (by decide +kernel), List.mem_of_getElem? (i := 562) (by decide +kernel), List.mem_of_getElem? (i := 563) (by decide +kernel)⟩
theorem lw_p34 : lw_okq (⟨"GraphRunnerModel", "noSlot", "(I)Z"⟩, 21) := ⟨⟨by decide +kernel, by decide +kernel⟩, List.mem_of_getElem? (i := 611) (by decide +kernel), List.mem_of_getElem? (i := 689) (by decide +kernel), List.mem_of_getElem? (i := 690) (by decide +kernel)⟩
theorem lw_p35 : lw_okq (⟨"GraphRunnerModel", "out", "(III)Z"⟩, 21) := ⟨⟨by decide +kernel, by decide +kernel⟩, List.mem_of_getElem? (i := 611) (by decide +kernel), List.mem_of_getElem? (i := 693) (by decide +kernel), List.mem_of_getElem? (i := 694) (by decide +kernel)⟩
theorem lw_p36 : lw_okq (⟨"GraphRunnerModel", "change", "()V"⟩, 21) := ⟨⟨by decide +kernel, by decide +kernel⟩, List.mem_of_getElem? (i := 611) (by decide +kernel), List.mem_of_getElem? (i := 697) (by decide +kernel), List.mem_of_getElem? (i := 698) (by decide +kernel)⟩
theorem lw_p37 : lw_okq (⟨"GraphRunnerModel", "arity", "(I)I"⟩, 21) := ⟨⟨by decide +kernel, by decide +kernel⟩, List.mem_of_getElem? (i := 611) (by decide +kernel), List.mem_of_getElem? (i := 711) (by decide +kernel), List.mem_of_getElem? (i := 712) (by decide +kernel)⟩
theorem lw_p38 : lw_okq (⟨"GraphRunnerModel", "ordered", "()Z"⟩, 21) := ⟨⟨by decide +kernel, by decide +kernel⟩, List.mem_of_getElem? (i := 611) (by decide +kernel), List.mem_of_getElem? (i := 723) (by decide +kernel), List.mem_of_getElem? (i := 724) (by decide +kernel)⟩
theorem lw_p39 : lw_okq (⟨"GraphRunnerModel", "there", "(IIZ)Z"⟩, 21) := ⟨⟨by decide +kernel, by decide +kernel⟩, List.mem_of_getElem? (i := 611) (by decide +kernel), List.mem_of_getElem? (i := 727) (by decide +kernel), List.mem_of_getElem? (i := 728) (by decide +kernel)⟩
theorem lw_p40 : lw_okq (⟨"GraphRunnerModel", "shape", "(I)Z"⟩, 21) := ⟨⟨by decide +kernel, by decide +kernel⟩, List.mem_of_getElem? (i := 611) (by decide +kernel), List.mem_of_getElem? (i := 731) (by decide +kernel), List.mem_of_getElem? (i := 732) (by decide +kernel)⟩
theorem lw_p41 : lw_okq (⟨"GraphRunnerModel", "fitting", "(II)Z"⟩, 21) := ⟨⟨by decide +kernel, by decide +kernel⟩, List.mem_of_getElem? (i := 611) (by decide +kernel), List.mem_of_getElem? (i := 735) (by decide +kernel), List.mem_of_getElem? (i := 736) (by decide +kernel)⟩
theorem lw_p42 : lw_okq (⟨"GraphRunnerModel", "near", "(II)Z"⟩, 21) := ⟨⟨by decide +kernel, by decide +kernel⟩, List.mem_of_getElem? (i := 611) (by decide +kernel), List.mem_of_getElem? (i := 739) (by decide +kernel), List.mem_of_getElem? (i := 740) (by decide +kernel)⟩
theorem lw_p43 : lw_okq (⟨"GraphRunnerModel", "most", "(II)I"⟩, 21) := ⟨⟨by decide +kernel, by decide +kernel⟩, List.mem_of_getElem? (i := 611) (by decide +kernel), List.mem_of_getElem? (i := 743) (by decide +kernel), List.mem_of_getElem? (i := 744) (by decide +kernel)⟩
theorem lw_p44 : lw_okq (⟨"GraphRunnerModel", "give", "(IIII)Z"⟩, 21) := ⟨⟨by decide +kernel, by decide +kernel⟩, List.mem_of_getElem? (i := 611) (by decide +kernel), List.mem_of_getElem? (i := 747) (by decide +kernel), List.mem_of_getElem? (i := 748) (by decide +kernel)⟩
theorem lw_p45 : lw_okq (⟨"GraphRunnerModel", "work", "(I)I"⟩, 21) := ⟨⟨by decide +kernel, by decide +kernel⟩, List.mem_of_getElem? (i := 611) (by decide +kernel), List.mem_of_getElem? (i := 751) (by decide +kernel), List.mem_of_getElem? (i := 752) (by decide +kernel)⟩
theorem lw_p46 : lw_okq (⟨"GraphRunnerModel", "element", "(III)D"⟩, 21) := ⟨⟨by decide +kernel, by decide +kernel⟩, List.mem_of_getElem? (i := 611) (by decide +kernel), List.mem_of_getElem? (i := 755) (by decide +kernel), List.mem_of_getElem? (i := 756) (by decide +kernel)⟩
theorem lw_p47 : lw_okq (⟨"GraphRunnerModel", "at", "(III)D"⟩, 21) := ⟨⟨by decide +kernel, by decide +kernel⟩, List.mem_of_getElem? (i := 611) (by decide +kernel), List.mem_of_getElem? (i := 759) (by decide +kernel), List.mem_of_getElem? (i := 760) (by decide +kernel)⟩
def lw_privs_3 : List (MethodName × Nat) := [(⟨"GraphRunner", "firstNeededByChoice", "(LGraphRunner$Node;)I"⟩, 9), (⟨"GraphRunner", "learn", "(LGraphRunner$Node;)I"⟩, 9), (⟨"GraphRunnerModel", "noSlot", "(I)Z"⟩, 21), (⟨"GraphRunnerModel", "out", "(III)Z"⟩, 21), (⟨"GraphRunnerModel", "change", "()V"⟩, 21), (⟨"GraphRunnerModel", "arity", "(I)I"⟩, 21), (⟨"GraphRunnerModel", "ordered", "()Z"⟩, 21), (⟨"GraphRunnerModel", "there", "(IIZ)Z"⟩, 21), (⟨"GraphRunnerModel", "shape", "(I)Z"⟩, 21), (⟨"GraphRunnerModel", "fitting", "(II)Z"⟩, 21), (⟨"GraphRunnerModel", "near", "(II)Z"⟩, 21), (⟨"GraphRunnerModel", "most", "(II)I"⟩, 21), (⟨"GraphRunnerModel", "give", "(IIII)Z"⟩, 21), (⟨"GraphRunnerModel", "work", "(I)I"⟩, 21), (⟨"GraphRunnerModel", "element", "(III)D"⟩, 21), (⟨"GraphRunnerModel", "at", "(III)D"⟩, 21)]
theorem lw_r3 : ∀ q ∈ lw_privs_3, lw_okq q := List.forall_mem_cons.mpr ⟨lw_p32, List.forall_mem_cons.mpr ⟨lw_p33, List.forall_mem_cons.mpr ⟨lw_p34, List.forall_mem_cons.mpr ⟨lw_p35, List.forall_mem_cons.mpr ⟨lw_p36, List.forall_mem_cons.mpr ⟨lw_p37, List.forall_mem_cons.mpr ⟨lw_p38, List.forall_mem_cons.mpr ⟨lw_p39, List.forall_mem_cons.mpr ⟨lw_p40, List.forall_mem_cons.mpr ⟨lw_p41, List.forall_mem_cons.mpr ⟨lw_p42, List.forall_mem_cons.mpr ⟨lw_p43, List.forall_mem_cons.mpr ⟨lw_p44, List.forall_mem_cons.mpr ⟨lw_p45, List.forall_mem_cons.mpr ⟨lw_p46, List.forall_mem_cons.mpr ⟨lw_p47, fun _ h => absurd h List.not_mem_nil⟩⟩⟩⟩⟩⟩⟩⟩⟩⟩⟩⟩⟩⟩⟩⟩
theorem lw_p48 : lw_okq (⟨"GraphRunnerModel", "plain", "(IDDZ)D"⟩, 21) := ⟨⟨by decide +kernel, by decide +kernel⟩, List.mem_of_getElem? (i := 611) (by decide +kernel), List.mem_of_getElem? (i := 763) (by decide +kernel), List.mem_of_getElem? (i := 764) (by decide +kernel)⟩
theorem lw_p49 : lw_okq (⟨"GraphRunnerModel", "trouble", "(I)V"⟩, 21) := ⟨⟨by decide +kernel, by decide +kernel⟩, List.mem_of_getElem? (i := 611) (by decide +kernel), List.mem_of_getElem? (i := 767) (by decide +kernel), List.mem_of_getElem? (i := 768) (by decide +kernel)⟩
theorem lw_p50 : lw_okq (⟨"GraphRunnerModel", "product", "(IIII)D"⟩, 21) := ⟨⟨by decide +kernel, by decide +kernel⟩, List.mem_of_getElem? (i := 611) (by decide +kernel), List.mem_of_getElem? (i := 771) (by decide +kernel), List.mem_of_getElem? (i := 772) (by decide +kernel)⟩
theorem lw_p51 : lw_okq (⟨"GraphRunnerModel", "cast", "(ID)D"⟩, 21) := ⟨⟨by decide +kernel, by decide +kernel⟩, List.mem_of_getElem? (i := 611) (by decide +kernel), List.mem_of_getElem? (i := 775) (by decide +kernel), List.mem_of_getElem? (i := 776) (by decide +kernel)⟩
theorem lw_p52 : lw_okq (⟨"GraphRunnerModel", "total", "(IIIZ)D"⟩, 21) := ⟨⟨by decide +kernel, by decide +kernel⟩, List.mem_of_getElem? (i := 611) (by decide +kernel), List.mem_of_getElem? (i := 779) (by decide +kernel), List.mem_of_getElem? (i := 780) (by decide +kernel)⟩
theorem lw_p53 : lw_okq (⟨"GraphRunnerModel", "first", "(IIIZ)I"⟩, 21) := ⟨⟨by decide +kernel, by decide +kernel⟩, List.mem_of_getElem? (i := 611) (by decide +kernel), List.mem_of_getElem? (i := 783) (by decide +kernel), List.mem_of_getElem? (i := 784) (by decide +kernel)⟩
theorem lw_p54 : lw_okq (⟨"GraphRunnerModel", "joined", "(IIIII)D"⟩, 21) := ⟨⟨by decide +kernel, by decide +kernel⟩, List.mem_of_getElem? (i := 611) (by decide +kernel), List.mem_of_getElem? (i := 787) (by decide +kernel), List.mem_of_getElem? (i := 788) (by decide +kernel)⟩
theorem lw_p55 : lw_okq (⟨"GraphRunnerModel", "picked", "(IIII)D"⟩, 21) := ⟨⟨by decide +kernel, by decide +kernel⟩, List.mem_of_getElem? (i := 611) (by decide +kernel), List.mem_of_getElem? (i := 791) (by decide +kernel), List.mem_of_getElem? (i := 792) (by decide +kernel)⟩
theorem lw_p56 : lw_okq (⟨"GraphRunnerModel", "slid", "(IIIII)D"⟩, 21) := ⟨⟨by decide +kernel, by decide +kernel⟩, List.mem_of_getElem? (i := 611) (by decide +kernel), List.mem_of_getElem? (i := 795) (by decide +kernel), List.mem_of_getElem? (i := 796) (by decide +kernel)⟩
theorem lw_p57 : lw_okq (⟨"GraphRunnerModel", "bounded", "(ID)D"⟩, 21) := ⟨⟨by decide +kernel, by decide +kernel⟩, List.mem_of_getElem? (i := 611) (by decide +kernel), List.mem_of_getElem? (i := 799) (by decide +kernel), List.mem_of_getElem? (i := 800) (by decide +kernel)⟩
theorem lw_p58 : lw_okq (⟨"GraphRunnerModel", "need", "(I)I"⟩, 21) := ⟨⟨by decide +kernel, by decide +kernel⟩, List.mem_of_getElem? (i := 611) (by decide +kernel), List.mem_of_getElem? (i := 809) (by decide +kernel), List.mem_of_getElem? (i := 810) (by decide +kernel)⟩
theorem lw_p59 : lw_okq (⟨"GraphRunnerModel", "known", "(I)Z"⟩, 21) := ⟨⟨by decide +kernel, by decide +kernel⟩, List.mem_of_getElem? (i := 611) (by decide +kernel), List.mem_of_getElem? (i := 813) (by decide +kernel), List.mem_of_getElem? (i := 814) (by decide +kernel)⟩
theorem lw_p60 : lw_okq (⟨"GraphRunnerModel", "missing", "(I)I"⟩, 21) := ⟨⟨by decide +kernel, by decide +kernel⟩, List.mem_of_getElem? (i := 611) (by decide +kernel), List.mem_of_getElem? (i := 817) (by decide +kernel), List.mem_of_getElem? (i := 818) (by decide +kernel)⟩
def lw_privs_4 : List (MethodName × Nat) := [(⟨"GraphRunnerModel", "plain", "(IDDZ)D"⟩, 21), (⟨"GraphRunnerModel", "trouble", "(I)V"⟩, 21), (⟨"GraphRunnerModel", "product", "(IIII)D"⟩, 21), (⟨"GraphRunnerModel", "cast", "(ID)D"⟩, 21), (⟨"GraphRunnerModel", "total", "(IIIZ)D"⟩, 21), (⟨"GraphRunnerModel", "first", "(IIIZ)I"⟩, 21), (⟨"GraphRunnerModel", "joined", "(IIIII)D"⟩, 21), (⟨"GraphRunnerModel", "picked", "(IIII)D"⟩, 21), (⟨"GraphRunnerModel", "slid", "(IIIII)D"⟩, 21), (⟨"GraphRunnerModel", "bounded", "(ID)D"⟩, 21), (⟨"GraphRunnerModel", "need", "(I)I"⟩, 21), (⟨"GraphRunnerModel", "known", "(I)Z"⟩, 21), (⟨"GraphRunnerModel", "missing", "(I)I"⟩, 21)]
theorem lw_r4 : ∀ q ∈ lw_privs_4, lw_okq q := List.forall_mem_cons.mpr ⟨lw_p48, List.forall_mem_cons.mpr ⟨lw_p49, List.forall_mem_cons.mpr ⟨lw_p50, List.forall_mem_cons.mpr ⟨lw_p51, List.forall_mem_cons.mpr ⟨lw_p52, List.forall_mem_cons.mpr ⟨lw_p53, List.forall_mem_cons.mpr ⟨lw_p54, List.forall_mem_cons.mpr ⟨lw_p55, List.forall_mem_cons.mpr ⟨lw_p56, List.forall_mem_cons.mpr ⟨lw_p57, List.forall_mem_cons.mpr ⟨lw_p58, List.forall_mem_cons.mpr ⟨lw_p59, List.forall_mem_cons.mpr ⟨lw_p60, fun _ h => absurd h List.not_mem_nil⟩⟩⟩⟩⟩⟩⟩⟩⟩⟩⟩⟩⟩
def lw_privs : List (MethodName × Nat) := lw_privs_1 ++ (lw_privs_2 ++ (lw_privs_3 ++ (lw_privs_4)))
def lw_tbl : List Cond := k2_sels lw_privs ++ tables_1
theorem lw_privs_ok : ∀ q ∈ lw_privs, lw_okq q := by
  show ∀ q ∈ lw_privs_1 ++ (lw_privs_2 ++ (lw_privs_3 ++ (lw_privs_4))), lw_okq q
  exact List.forall_mem_append.mpr ⟨lw_r1, List.forall_mem_append.mpr ⟨lw_r2, List.forall_mem_append.mpr ⟨lw_r3, lw_r4⟩⟩⟩
/-! ===== BEGIN words of one list among another's, by their places ===== -/
theorem goodIn_r {big : List Cond} (ws : List Cond) (ps : List Nat) (hp : ws = ps.filterMap (fun i => big[i]?)) (h : ws.all goodWord = true) : GoodIn big ws := by
  intro w hw
  have h1 := List.all_eq_true.mp h w hw
  rw [hp] at hw
  obtain ⟨i, -, hi⟩ := List.mem_filterMap.mp hw
  have hm : w ∈ big := by first | exact List.mem_of_getElem? hi | exact List.getElem?_mem hi
  exact ⟨hm, good_of_word h1⟩
theorem goodIn_app {big a b : List Cond} (ha : GoodIn big a) (hb : GoodIn big b) : GoodIn big (a ++ b) := fun w h => (List.mem_append.mp h).elim (ha w) (hb w)
theorem goodIn_ca {big a b : List Cond} {c : Cond} (ha : GoodIn big (c :: a)) (hb : GoodIn big b) : GoodIn big (c :: (a ++ b)) := fun w h => (List.mem_cons.mp h).elim (fun e => ha w (List.mem_cons.mpr (Or.inl e))) (fun h => (List.mem_append.mp h).elim (fun h => ha w (List.mem_cons.mpr (Or.inr h))) (hb w))
theorem goodIn_sub {big ws : List Cond} (hm : ∀ w ∈ ws, w ∈ big) (h : ws.all goodWord = true) : GoodIn big ws := fun w hw => ⟨hm w hw, good_of_word (List.all_eq_true.mp h w hw)⟩
/-! ===== END ===== -/

/-! ===== BEGIN exceptions that leave a method, and their catching by the caller (launches without stack traces) ===== -/
section VXA
/-! The laws vx_back, vx_callV, vx_callS, vx_callSW, vx_throw0, vx_throwS follow proofs of the library, with one case more: JvmDerived/Free/Laws.lean (Back.of_free), Shelf42/LK1.lean (callV, callS), Shelf/KitTraced.lean (throwNew0V, throwNewS). -/
/-- where a method has thrown q: the class by its name, the cell, what was written, the world -/
def vx_T (XC : String → State → State → Prop) (st : State) (q : Addr) (t : State) (mc ms : Nat) (free : Addr → Prop) : Prop :=
  ∃ (E : String) (ce : Cell) (L : List Loc), XC E st t ∧ t.heap[q]? = some ce ∧ ce.vm = .none ∧ st.vm.findClass E = some ce.cls ∧ st.WarmedH t.vm ∧ st.sameButNew ({ t with vm := st.vm } : State) L mc ms ∧ ∀ z ∈ L, free z.base
def vx_Q (Qc : Array Value → State → Outcome → State → Prop) (XC : String → State → State → Prop) (mc ms : Nat) (free : Addr → Prop) : Array Value → State → Outcome → State → Prop := fun a st o t =>
  (Qc a st o t ∧ ∃ L, FrameEnd st o t L mc ms ∧ ∀ q ∈ L, free q.base) ∨ ∃ q, o = .threw q ∧ vx_T XC st q t mc ms free
/-- a callee that returns or throws -/
def vx_Met (l : Launch) (y : MethodName) (ws : List Cond) (rm : Room) (Pc : Array Value → State → Prop) (Qc : Array Value → State → Outcome → State → Prop) (XC : String → State → State → Prop) (mc ms : Nat) (free : Addr → Prop) : Prop :=
  MetFree l y (headSpec ws rm) Pc (fun _ _ _ _ _ => True) (vx_Q Qc XC mc ms free)
def vx_Post (XC : String → State → State → Prop) (mc ms : Nat) (free : Addr → Prop) : Pt → Array Value → Addr → Pt → Prop := fun A a q B =>
  ∃ (g : JFrame) (mk : MethodId) (t : State) (L : List Loc) (E : String) (ce : Cell), B.U.heap = t.heap ∧ B.U.vm = t.vm ∧ XC E (A.U.calling g mk a) t ∧ t.heap[q]? = some ce ∧ ce.vm = .none ∧ A.U.vm.findClass E = some ce.cls ∧ B.locs = A.locs ++ L ∧ (∀ z ∈ L, free z.base) ∧ B.cells = A.cells + mc ∧ B.slots = A.slots + ms
def vx_Back (l : Launch) (R : Room) (p : Program) (e : Env) (below : List Frame) (s : State) (sargs : Array Value) (y : MethodName) (len W9 : Nat)
    (Pre : Pt → Array Value → Prop) (Post : Pt → Array Value → Option Value → Pt → Prop) (PostX : Pt → Array Value → Addr → Pt → Prop) : Prop :=
  ∀ (m : MethodId) (meth : Method) (c : Code) (A : Pt) (g : JFrame) (ig : Instr) (mk : MethodId) (a : Array Value),
    Stand p l e R s m sargs below meth c A.U A.locs A.cells A.slots → g.method = m → g.locals.size = c.maxLocals → decode c.code g.pc = .ok (ig, len) →
    2 * g.monitorRoom + (g.stack.map fun v => v.category).sum ≤ W9 → A.U.methodNamed? y = some mk → Pre A a →
    (∃ (v : Option Value) (B : Pt), Stand p l e R s m sargs below meth c B.U B.locs B.cells B.slots ∧ Post A a v B ∧
      Steps p.tables e below (doInvoke e (A.U.setTop g) [] mk a).1 (B.U.setTop { g with pc := g.pc + len, stack := v.toList ++ g.stack })) ∨
    (∃ (q : Addr) (B : Pt), Stand p l e R s m sargs below meth c B.U B.locs B.cells B.slots ∧ PostX A a q B ∧
      Steps p.tables e below (doInvoke e (A.U.setTop g) [] mk a).1 ((B.U.setTop g).pushFrame (.throwing q)))
section Payer
variable {l : Launch} {R : Room} {p : Program} {e : Env} {below : List Frame} {s : State} {sargs : Array Value} {y : MethodName} {len W9 : Nat}
theorem vx_back {ws : List Cond} {rm : Room} {Pc : Array Value → State → Prop} {Qc : Array Value → State → Outcome → State → Prop} {XC : String → State → State → Prop} {mc ms : Nat} {free : Addr → Prop} {bytes : ByteArray} {maxL : Nat} {ret : Option FieldType}
    (hM : vx_Met l y ws rm Pc Qc XC mc ms free) (hblind : FrameBlind Pc) (hrc : rm.cells = mc) (hrs : rm.slots = ms)
    (hframes : rm.frames + 1 ≤ R.frames) (hlocals : W9 + (maxL + 11) + rm.locals ≤ R.locals)
    (hws : ∀ w ∈ ws, ∀ a' U, s.WarmedH U.vm → w.before a' U = true) (hcode : Cond.code y bytes maxL ret ∈ ws) (hinit : ∀ a' U, s.WarmedH U.vm → (Cond.initialized y.cls).before a' U = true) :
    vx_Back l R p e below s sargs y len W9 (PreOf R mc ms Pc) (PostOf Qc mc ms free) (vx_Post XC mc ms free) := by
  intro m meth c A g ig mk a X hg hsize hdg hW hn hp
  have h1 : (headSpec ws rm).pre.before a A.U = true := atoms_intro fun w hw => hws w hw _ _ X.warmed
  have h2 : (Cond.code y bytes maxL ret).before a A.U = true := hws _ hcode _ _ X.warmed
  have h3 : (Cond.initialized y.cls).before a A.U = true := hinit _ _ X.warmed
  have h4 : A.cells + (headSpec ws rm).room.cells ≤ R.cells := by rw [show (headSpec ws rm).room.cells = mc from hrc]; exact hp.1
  have h5 : A.slots + (headSpec ws rm).room.slots ≤ R.slots := by rw [show (headSpec ws rm).room.slots = ms from hrs]; exact hp.2.1
  have hPc : Pc a (A.U.calling g mk a) := hblind _ _ _ _ hp.2.2
  obtain ⟨U, Ls, c0, s0⟩ := A
  dsimp only [Pt.U, Pt.locs, Pt.cells, Pt.slots] at h1 h2 h3 h4 h5 X hn hPc ⊢
  obtain ⟨methY, cY, hmY, hcY, -, hlY, -, -, -, -⟩ := Cond.code_spec hn h2
  obtain ⟨kY, hkY, -⟩ := className_of_methodNamed hn
  have hinitY : kY.init = .initialized := Cond.initialized_spec (findClass_of_methodNamed hn) hkY h3
  have h : At U g.method c below := by rw [hg]; exact X.here
  have hlocals9 : W9 + (maxL + 11) + (headSpec ws rm).room.locals ≤ R.locals := hlocals
  have happ : (headSpec ws rm).appliesLoose y e.platform (U.calling g mk a) = true :=
    Spec.appliesLoose_calling (g := g) h hdg hn hkY hinitY
      (X.room_calling (g := g) (R' := (headSpec ws rm).room) hsize hmY hcY hframes (by rw [hlY]; omega) h4 h5) h1
  obtain ⟨mid, hmid⟩ := h.above
  have hfr : (U.setTop g).frames = (.java g :: mid) ++ below := by rw [State.frames_setTop' g h.top, hmid]; rfl
  obtain ⟨o, s₂, hsteps, -, hend, hq⟩ := Steps.callFree hM p X.admits X.cas X.clock (acts := []) hfr happ hPc trivial
  have hq' : vx_Q Qc XC mc ms free a (U.calling g mk a) o s₂ := hq
  rw [State.frames_setTop' g h.top] at hend
  obtain ⟨g₀, hg0⟩ := Option.isSome_iff_exists.mp h.top
  obtain ⟨r, hr⟩ := State.topJava?_eq_some.mp hg0
  have hr' : (({ U with heap := s₂.heap, slotsUsed := s₂.slotsUsed } : State).setVm s₂.vm).frames = .java g₀ :: r := hr
  rcases hq' with ⟨hqc, L, hfe, hL⟩ | ⟨q, rfl, E, ce, L, hx, hce, hcv, hcl, hW₂, hsm, hL⟩
  · obtain ⟨⟨v, rfl⟩, hW₂, e2, q2, q3, q4, q5, q6⟩ := id hfe
    have e3 : s₂ = ({ (U.calling g mk a).setFrames s₂.frames with heap := s₂.heap, slotsUsed := s₂.slotsUsed } : State).setVm s₂.vm := by
      have : s₂ = ({ s₂ with vm := (U.calling g mk a).vm } : State).setVm s₂.vm := rfl
      rw [e2] at this
      exact this
    obtain ⟨c₂, i₂, len₂, hc₂, hd₂, hf₂⟩ := hend
    have hW' : U.WarmedH s₂.vm := hW₂
    have hcc : c₂ = c := by
      have h1 : s₂.code? g.method = U.code? g.method := by
        rw [State.code?_eq, State.code?_eq, hW'.alike.method?]
      exact Option.some.inj (hc₂.symm.trans (h1.trans h.code))
    subst hcc
    have hlen : len₂ = len := by rw [hdg] at hd₂; cases hd₂; rfl
    subst hlen
    have hs₂ : s₂ = (({ U with heap := s₂.heap, slotsUsed := s₂.slotsUsed } : State).setVm s₂.vm).setTop { g with pc := g.pc + len₂, stack := v.toList ++ g.stack } := by
      refine e3.trans ?_
      rw [hf₂, State.calling_eq h.top, State.setFrames_setFrames, State.setTop_of_frames _ hr', hr]
      rfl
    have hsame : U.sameButNew ({ U with heap := s₂.heap, slotsUsed := s₂.slotsUsed } : State) L mc ms := by
      refine ⟨?_, q2, q3, q4, q5, q6⟩
      obtain ⟨t, ht, -⟩ := State.frames_cons hr
      show ({ U with heap := s₂.heap, slotsUsed := s₂.slotsUsed } : State) = { U.setFrames U.frames with heap := s₂.heap, slotsUsed := s₂.slotsUsed }
      rw [State.setFrames_self ht]
    subst hg
    refine Or.inl ⟨v, ⟨(({ U with heap := s₂.heap, slotsUsed := s₂.slotsUsed } : State).setVm s₂.vm), Ls ++ L, c0 + mc, s0 + ms⟩,
      ⟨X.admits, X.cas, X.clock, X.frames, X.room, X.hears, X.method, X.code, (X.here.setHeapUsed s₂.heap s₂.slotsUsed).setVm hW'.alike, X.tail, State.WarmedH.trans X.warmed hW', X.limits, X.bytes, X.same.trans (hsame.setVm s.vm)⟩,
      ⟨g, mk, s₂, L, rfl, rfl, hqc, rfl, hL, rfl, rfl⟩, ?_⟩
    show Steps p.tables e below _ ((({ U with heap := s₂.heap, slotsUsed := s₂.slotsUsed } : State).setVm s₂.vm).setTop { g with pc := g.pc + len₂, stack := v.toList ++ g.stack })
    rw [← hs₂]
    exact hsteps
  · obtain ⟨e2, q2, q3, q4, q5, q6⟩ := id hsm
    have e3 : s₂ = ({ (U.calling g mk a).setFrames s₂.frames with heap := s₂.heap, slotsUsed := s₂.slotsUsed } : State).setVm s₂.vm := by
      have : s₂ = ({ s₂ with vm := (U.calling g mk a).vm } : State).setVm s₂.vm := rfl
      rw [e2] at this
      exact this
    have hf₂ : s₂.frames = .throwing q :: .java g :: U.frames.tail := hend
    have hW' : U.WarmedH s₂.vm := hW₂
    have hs₂ : s₂ = ((({ U with heap := s₂.heap, slotsUsed := s₂.slotsUsed } : State).setVm s₂.vm).setTop g).pushFrame (.throwing q) := by
      refine e3.trans ?_
      rw [hf₂, State.calling_eq h.top, State.setFrames_setFrames, State.pushFrame, State.frames_setTop _ hr', State.setTop_of_frames _ hr', State.setFrames_setFrames, hr]
      rfl
    have hsame : U.sameButNew ({ U with heap := s₂.heap, slotsUsed := s₂.slotsUsed } : State) L mc ms := by
      refine ⟨?_, q2, q3, q4, q5, q6⟩
      obtain ⟨t, ht, -⟩ := State.frames_cons hr
      show ({ U with heap := s₂.heap, slotsUsed := s₂.slotsUsed } : State) = { U.setFrames U.frames with heap := s₂.heap, slotsUsed := s₂.slotsUsed }
      rw [State.setFrames_self ht]
    subst hg
    refine Or.inr ⟨q, ⟨(({ U with heap := s₂.heap, slotsUsed := s₂.slotsUsed } : State).setVm s₂.vm), Ls ++ L, c0 + mc, s0 + ms⟩,
      ⟨X.admits, X.cas, X.clock, X.frames, X.room, X.hears, X.method, X.code, (X.here.setHeapUsed s₂.heap s₂.slotsUsed).setVm hW'.alike, X.tail, State.WarmedH.trans X.warmed hW', X.limits, X.bytes, X.same.trans (hsame.setVm s.vm)⟩,
      ⟨g, mk, s₂, L, E, ce, rfl, rfl, hx, hce, hcv, hcl, rfl, hL, rfl, rfl⟩, ?_⟩
    show Steps p.tables e below _ (((({ U with heap := s₂.heap, slotsUsed := s₂.slotsUsed } : State).setVm s₂.vm).setTop g).pushFrame (.throwing q))
    rw [← hs₂]
    exact hsteps
end Payer
section Calls
variable {p : Program} {l : Launch} {e : Env} {R : Room} {s : State} {m : MethodId} {args : Array Value} {below : List Frame} {meth : Method} {c : Code} {T : State} {locs : List Loc} {cells slots : Nat}
theorem vx_callV (X : Stand p l e R s m args below meth c T locs cells slots) (hexec : p.tables.exec = Jvm.exec) {own C : String} {index : Nat} {y : MethodName} {bytes : ByteArray} {maxL : Nat} {ret : Option FieldType}
    (hown : s.vm.findClass own = some m.cls) (hlink : (Cond.methodLink own index y).before args s = true) (hinst : (Cond.instanceMethod y).before args s = true) (hsel : (Cond.selects C y y).before args s = true)
    (hcode : (Cond.code y bytes maxL ret).before args s = true) (hy : y.cls ≠ "java/lang/invoke/MethodHandle" ∧ y.cls ≠ "java/lang/invoke/VarHandle")
    {W9 : Nat} {Pre : Pt → Array Value → Prop} {Post : Pt → Array Value → Option Value → Pt → Prop} {PostX : Pt → Array Value → Addr → Pt → Prop} (hK : vx_Back l R p e below s args y 3 W9 Pre Post PostX)
    {b : Addr} {cellB : Cell} (hcell : T.heap[b]? = some cellB) (hobj : cellB.vm.isStatics = false) (hcls : s.vm.findClass C = some cellB.cls)
    {g : JFrame} (hg : g.method = m) (hsize : g.locals.size = c.maxLocals) {argsL rest : List Value} (hlen : ∀ sig, parseMethodDescriptor y.desc = some sig → argsL.length = sig.parameters.length)
    (hstack : g.stack = argsL.reverse ++ .ref b :: rest) (hW : 2 * g.monitorRoom + (rest.map fun v => v.category).sum ≤ W9) (hdg : decode c.code g.pc = .ok (.invokevirtual index, 3))
    (hpre : ∀ vm₁, s.WarmedH vm₁ → Pre ⟨T.setVm vm₁, locs, cells, slots⟩ (Value.ref b :: argsL).toArray) :
    (∃ (v : Option Value) (vm₁ : Vm) (B : Pt), s.WarmedH vm₁ ∧ Stand p l e R s m args below meth c B.U B.locs B.cells B.slots ∧ Post ⟨T.setVm vm₁, locs, cells, slots⟩ (Value.ref b :: argsL).toArray v B ∧
      ∀ target, Steps p.tables e below (B.U.setTop { g with pc := g.pc + 3, stack := v.toList ++ rest }) target → Steps p.tables e below (T.setTop g) target) ∨
    (∃ (q : Addr) (vm₁ : Vm) (B : Pt), s.WarmedH vm₁ ∧ Stand p l e R s m args below meth c B.U B.locs B.cells B.slots ∧ PostX ⟨T.setVm vm₁, locs, cells, slots⟩ (Value.ref b :: argsL).toArray q B ∧
      Steps p.tables e below (T.setTop g) ((B.U.setTop { g with stack := rest }).pushFrame (.throwing q))) := by
  obtain ⟨mk, methM, hnamed, hmethM, hstM, habM⟩ := Cond.instanceMethod_spec hinst
  obtain ⟨methM', cM, hmethM', -, -, -, -, -, -, hsigM⟩ := Cond.code_spec hnamed hcode
  cases hmethM.symm.trans hmethM'
  obtain ⟨c2, r2, m2, q1, q2, q3, q4, kP, hkP, hkPi⟩ := Cond.selects_spec hsel
  cases hcls.symm.trans q1
  cases (State.methodFound?_of_named hnamed hy).symm.trans q2
  cases hnamed.symm.trans q3
  have hselP : selectMethod e.platform s.vm cellB.cls mk = .method mk := by rw [Launch.admits_selectMethod X.admits]; exact q4
  obtain ⟨vm₁, X₁, hstep₁⟩ := X.invokevirtual hexec hown hlink hnamed hmethM hstM hkP hkPi hy (a := b) (cell := cellB) hcell
    (fun z h => by rw [h] at hobj; cases hobj) hselP hmethM habM hkP hkPi (g := g) hg (argsL := argsL) (rest := rest) (hlen _ hsigM) hstack hdg
  rcases hK m meth c ⟨T.setVm vm₁, locs, cells, slots⟩ { g with stack := rest } (.invokevirtual index) mk (Value.ref b :: argsL).toArray X₁ hg hsize hdg hW (X₁.named hnamed) (hpre vm₁ X₁.warmed) with ⟨v, B, X', hpost, hsteps⟩ | ⟨q, B, X', hpost, hsteps⟩
  · exact Or.inl ⟨v, vm₁, B, X₁.warmed, X', hpost, fun target h => hstep₁ _ fun acts => by rw [doInvoke_state]; exact hsteps.trans h⟩
  · exact Or.inr ⟨q, vm₁, B, X₁.warmed, X', hpost, hstep₁ _ fun acts => by rw [doInvoke_state]; exact hsteps⟩
theorem vx_callS (X : Stand p l e R s m args below meth c T locs cells slots) (hexec : p.tables.exec = Jvm.exec) {own : String} {index : Nat} {y : MethodName} {bytes : ByteArray} {maxL : Nat} {ret : Option FieldType}
    (hown : s.vm.findClass own = some m.cls) (hlink : (Cond.methodLink own index y).before args s = true) (hstat : (Cond.static y).before args s = true) (hinit : (Cond.initialized y.cls).before args s = true)
    (hcode : (Cond.code y bytes maxL ret).before args s = true) (hy : y.cls ≠ "java/lang/invoke/MethodHandle" ∧ y.cls ≠ "java/lang/invoke/VarHandle")
    {W9 : Nat} {Pre : Pt → Array Value → Prop} {Post : Pt → Array Value → Option Value → Pt → Prop} {PostX : Pt → Array Value → Addr → Pt → Prop} (hK : vx_Back l R p e below s args y 3 W9 Pre Post PostX)
    {g : JFrame} (hg : g.method = m) (hsize : g.locals.size = c.maxLocals) {argsL rest : List Value} (hlen : ∀ sig, parseMethodDescriptor y.desc = some sig → argsL.length = sig.parameters.length)
    (hstack : g.stack = argsL.reverse ++ rest) (hW : 2 * g.monitorRoom + (rest.map fun v => v.category).sum ≤ W9) (hdg : decode c.code g.pc = .ok (.invokestatic index, 3))
    (hpre : ∀ vm₁, s.WarmedH vm₁ → Pre ⟨T.setVm vm₁, locs, cells, slots⟩ argsL.toArray) :
    (∃ (v : Option Value) (vm₁ : Vm) (B : Pt), s.WarmedH vm₁ ∧ Stand p l e R s m args below meth c B.U B.locs B.cells B.slots ∧ Post ⟨T.setVm vm₁, locs, cells, slots⟩ argsL.toArray v B ∧
      ∀ target, Steps p.tables e below (B.U.setTop { g with pc := g.pc + 3, stack := v.toList ++ rest }) target → Steps p.tables e below (T.setTop g) target) ∨
    (∃ (q : Addr) (vm₁ : Vm) (B : Pt), s.WarmedH vm₁ ∧ Stand p l e R s m args below meth c B.U B.locs B.cells B.slots ∧ PostX ⟨T.setVm vm₁, locs, cells, slots⟩ argsL.toArray q B ∧
      Steps p.tables e below (T.setTop g) ((B.U.setTop { g with stack := rest }).pushFrame (.throwing q))) := by
  obtain ⟨mk, hnamed⟩ := Cond.code_named hcode
  obtain ⟨methM, cM, hmethM, -, -, -, -, -, -, hsigM⟩ := Cond.code_spec hnamed hcode
  have hstatic : methM.isStatic = true := Cond.static_spec hnamed hmethM hstat
  obtain ⟨kP, hkP, -⟩ := className_of_methodNamed hnamed
  have hinitP : kP.init = .initialized := Cond.initialized_spec (findClass_of_methodNamed hnamed) hkP hinit
  obtain ⟨vm₁, X₁, hstep₁⟩ := X.invokestatic hexec hown hlink hnamed hmethM hstatic hkP hinitP hy (g := g) hg (argsL := argsL) (rest := rest) (hlen _ hsigM) hstack hdg
  rcases hK m meth c ⟨T.setVm vm₁, locs, cells, slots⟩ { g with stack := rest } (.invokestatic index) mk argsL.toArray X₁ hg hsize hdg hW (X₁.named hnamed) (hpre vm₁ X₁.warmed) with ⟨v, B, X', hpost, hsteps⟩ | ⟨q, B, X', hpost, hsteps⟩
  · exact Or.inl ⟨v, vm₁, B, X₁.warmed, X', hpost, fun target h => hstep₁ _ fun acts => by rw [doInvoke_state]; exact hsteps.trans h⟩
  · exact Or.inr ⟨q, vm₁, B, X₁.warmed, X', hpost, hstep₁ _ fun acts => by rw [doInvoke_state]; exact hsteps⟩
end Calls
theorem vx_cls {s : State} {T : State} {vm₁ : Vm} {E : String} {k : ClassId} (hW : s.WarmedH vm₁) (h : (T.setVm vm₁).vm.findClass E = some k) : s.vm.findClass E = some k := by
  have h1 : vm₁.findClass E = some k := h
  rw [hW.alike.findClass] at h1
  exact h1
/-- the method's frame g, with q thrown over it -/
def vx_W (p : Program) (l : Launch) (e : Env) (R : Room) (s : State) (m : MethodId) (args : Array Value) (below : List Frame) (meth : Method) (c : Code) (H : Heap) (locs : List Loc) (cells slots : Nat) (Q : State → Prop) (g : JFrame) (q : Addr) : Prop :=
  ∀ T : State, T.heap = H → Stand p l e R s m args below meth c T locs cells slots → ∃ t, Steps p.tables e below ((T.setTop g).pushFrame (.throwing q)) t ∧ Q t
def vx_Run (p : Program) (l : Launch) (e : Env) (R : Room) (s : State) (m : MethodId) (args : Array Value) (below : List Frame) (meth : Method) (c : Code) (H : Heap) (locs : List Loc) (cells slots mc ms : Nat) (g : JFrame) (rest : List Value) (Qa : State → Outcome → State → Prop) (XC : String → State → State → Prop) (free : Addr → Prop) : Prop :=
  ∀ T : State, T.heap = H → Stand p l e R s m args below meth c T locs cells slots →
    (∃ (v : Option Value) (st₀ t T' : State) (L : List Loc), st₀.heap = H ∧ Stand p l e R s m args below meth c T' (locs ++ L) (cells + mc) (slots + ms) ∧ (∀ q ∈ L, free q.base) ∧ T'.heap = t.heap ∧ T'.vm = t.vm ∧ Qa st₀ (.returned v) t ∧
      Goes p e below T g T' { g with pc := g.pc + 3, stack := v.toList ++ rest }) ∨
    (∃ (q : Addr) (st₀ t T' : State) (L : List Loc) (E : String) (ce : Cell), st₀.heap = H ∧ Stand p l e R s m args below meth c T' (locs ++ L) (cells + mc) (slots + ms) ∧ (∀ z ∈ L, free z.base) ∧ T'.heap = t.heap ∧ T'.vm = t.vm ∧ XC E st₀ t ∧ t.heap[q]? = some ce ∧ ce.vm = .none ∧ s.vm.findClass E = some ce.cls ∧
      Steps p.tables e below (T.setTop g) ((T'.setTop { g with stack := rest }).pushFrame (.throwing q)))
def vx_X {S : Type} (px : S → Prop) (B : String → S → State → Prop) (A : Nat → Prop) : String → State → State → Prop := fun E st t => ∃ u : S, px u ∧ B E u t ∧ va_F A st t
section Runs
variable {p : Program} {l : Launch} {e : Env} {R : Room} {s : State} {m : MethodId} {args : Array Value} {below : List Frame} {meth : Method} {c : Code} {H : Heap} {locs : List Loc} {cells slots : Nat}
variable {y : MethodName} {bytes cc : ByteArray} {maxL nL mc ms n index : Nat} {ret : Option FieldType} {ws : List Cond} {rm : Room} {Pc : Array Value → State → Prop} {Qc : Array Value → State → Outcome → State → Prop} {XC : String → State → State → Prop} {free : Addr → Prop} {Ts : List Cond} {own C : String} {b : Addr} {As rest : List Value} {g : JFrame}
theorem vx_callBack (cb : CallB R s args own index y bytes maxL ret ws rm mc ms n) (hM : vx_Met l y ws rm Pc Qc XC mc ms free) (hbl : FrameBlind Pc) : vx_Back l R p e below s args y 3 8 (PreOf R mc ms Pc) (PostOf Qc mc ms free) (vx_Post XC mc ms free) := by
  obtain ⟨hrc, hrs, hfr, hlo, hws, hcw, -, hini, -⟩ := cb
  exact vx_back (bytes := bytes) (maxL := maxL) (ret := ret) hM hbl hrc hrs hfr hlo hws hcw (fun a' U hW => word_at hW (Or.inl (by first | rfl | simp [Cond.onTables, Cond.keeps, Cond.steady])) hini)
theorem vx_runV (S : CallFix p m c cc nL s args Ts own) (hM : vx_Met l y ws rm Pc Qc XC mc ms free) (cw : CallW R s args own C index y bytes maxL ret ws rm mc ms n) (hp : PreV s H C b Pc As)
    (hg : g.method = m) (hn : As.length = n) (hsize : g.locals.size = nL) (hstack : g.stack = As.reverse ++ .ref b :: rest) (hW : 2 * g.monitorRoom + (rest.map fun v => v.category).sum ≤ 8) (hdg : decode cc g.pc = .ok (.invokevirtual index, 3)) (hf : cells + mc ≤ R.cells ∧ slots + ms ≤ R.slots) :
    vx_Run p l e R s m args below meth c H locs cells slots mc ms g rest (Qc (Value.ref b :: As).toArray) XC free := by
  have hK : vx_Back l R p e below s args y 3 8 (PreOf R mc ms Pc) (PostOf Qc mc ms free) (vx_Post XC mc ms free) := vx_callBack cw.1 hM hp.1
  obtain ⟨⟨-, -, -, -, -, -, hcode, -, hy, hlen, hl⟩, hin, hse⟩ := cw
  obtain ⟨hx, hb, hml, ho, -⟩ := S
  obtain ⟨-, ⟨cellB, hcB, hoB, hclB⟩, hPc⟩ := hp
  intro T hT X
  rcases vx_callV X hx (C := C) (bytes := bytes) (maxL := maxL) (ret := ret) ho hl hin hse hcode hy hK (by rw [hT]; exact hcB) hoB hclB hg (hsize.trans hml.symm) (argsL := As) (rest := rest) (fun sig h => hn.trans (hlen sig h)) hstack hW (by rw [hb]; exact hdg)
    (fun vm₁ hW₁ => ⟨hf.1, hf.2, hPc (T.setVm vm₁) hT hW₁⟩) with ⟨v, vm₁, ⟨U', l2, c2, s2⟩, hW₁, X', ⟨g', mk, t, L, e1, e2, hq, h1, hL, h2, h3⟩, st⟩ | ⟨q, vm₁, ⟨U', l2, c2, s2⟩, hW₁, X', ⟨g', mk, t, L, E, ce, e1, e2, hq, hce, hcv, hcl, h1, hL, h2, h3⟩, st⟩
  · dsimp only [Pt.U, Pt.locs, Pt.cells, Pt.slots] at X' e1 e2 h1 h2 h3 st
    subst h1; subst h2; subst h3
    exact Or.inl ⟨v, (T.setVm vm₁).calling g' mk (Value.ref b :: As).toArray, t, U', L, hT, X', hL, e1, e2, hq, st⟩
  · dsimp only [Pt.U, Pt.locs, Pt.cells, Pt.slots] at X' e1 e2 h1 h2 h3 st hcl
    subst h1; subst h2; subst h3
    exact Or.inr ⟨q, (T.setVm vm₁).calling g' mk (Value.ref b :: As).toArray, t, U', L, E, ce, hT, X', hL, e1, e2, hq, hce, hcv, vx_cls hW₁ hcl, st⟩
theorem vx_runS (S : CallFix p m c cc nL s args Ts own) (hM : vx_Met l y ws rm Pc Qc XC mc ms free) (cw : CallB R s args own index y bytes maxL ret ws rm mc ms n ∧ (Cond.static y).before args s = true) (hp : PreS s H Pc As)
    (hg : g.method = m) (hn : As.length = n) (hsize : g.locals.size = nL) (hstack : g.stack = As.reverse ++ rest) (hW : 2 * g.monitorRoom + (rest.map fun v => v.category).sum ≤ 8) (hdg : decode cc g.pc = .ok (.invokestatic index, 3)) (hf : cells + mc ≤ R.cells ∧ slots + ms ≤ R.slots) :
    vx_Run p l e R s m args below meth c H locs cells slots mc ms g rest (Qc As.toArray) XC free := by
  have hK : vx_Back l R p e below s args y 3 8 (PreOf R mc ms Pc) (PostOf Qc mc ms free) (vx_Post XC mc ms free) := vx_callBack cw.1 hM hp.1
  obtain ⟨⟨-, -, -, -, -, -, hcode, hini, hy, hlen, hl⟩, hstt⟩ := cw
  obtain ⟨hx, hb, hml, ho, -⟩ := S
  intro T hT X
  rcases vx_callS X hx (bytes := bytes) (maxL := maxL) (ret := ret) ho hl hstt hini hcode hy hK hg (hsize.trans hml.symm) (argsL := As) (rest := rest) (fun sig h => hn.trans (hlen sig h)) hstack hW (by rw [hb]; exact hdg)
    (fun vm₁ hW₁ => ⟨hf.1, hf.2, hp.2 (T.setVm vm₁) hT hW₁⟩) with ⟨v, vm₁, ⟨U', l2, c2, s2⟩, hW₁, X', ⟨g', mk, t, L, e1, e2, hq, h1, hL, h2, h3⟩, st⟩ | ⟨q, vm₁, ⟨U', l2, c2, s2⟩, hW₁, X', ⟨g', mk, t, L, E, ce, e1, e2, hq, hce, hcv, hcl, h1, hL, h2, h3⟩, st⟩
  · dsimp only [Pt.U, Pt.locs, Pt.cells, Pt.slots] at X' e1 e2 h1 h2 h3 st
    subst h1; subst h2; subst h3
    exact Or.inl ⟨v, (T.setVm vm₁).calling g' mk As.toArray, t, U', L, hT, X', hL, e1, e2, hq, st⟩
  · dsimp only [Pt.U, Pt.locs, Pt.cells, Pt.slots] at X' e1 e2 h1 h2 h3 st hcl
    subst h1; subst h2; subst h3
    exact Or.inr ⟨q, (T.setVm vm₁).calling g' mk As.toArray, t, U', L, E, ce, hT, X', hL, e1, e2, hq, hce, hcv, vx_cls hW₁ hcl, st⟩
end Runs
section Rows
variable {p : Program} {l : Launch} {e : Env} {R : Room} {s : State} {m : MethodId} {args : Array Value} {below : List Frame} {meth : Method} {c : Code} {H : Heap} {locs : List Loc} {cells slots : Nat} {Q : State → Prop}
variable {mc ms : Nat} {free : Addr → Prop} {A0 A1 : Nat → Prop} {H0 : Heap} {a : Array Value} {pc : Nat} {ls : Array Slot} {st0 rest : List Value}
theorem vx_keep {st₀ t T' : State} {L : List Loc} (h0 : st₀.heap = H) (e1 : T'.heap = t.heap) (hS : va_S A0 H0 H locs) (hA : ∀ q, q < H.size → A1 q → A0 q) (hf : ∀ q, free q → A0 q) (hL : ∀ q ∈ L, free q.base) (hF : va_F A1 st₀ t) :
    H.size ≤ T'.heap.size ∧ (∀ q : Nat, q < H.size → ¬ A1 q → T'.heap[q]? = H[q]?) ∧ va_S A0 H0 T'.heap (locs ++ L) := by
  obtain ⟨hz, hk⟩ := hF
  rw [h0] at hz hk
  exact ⟨by rw [e1]; exact hz, fun q h1 h2 => by rw [e1]; exact hk q h1 h2,
    ⟨Nat.le_trans hS.1 (by rw [e1]; exact hz), fun q h1 h2 => by rw [e1, hk q (Nat.lt_of_lt_of_le h1 hS.1) (fun z => h2 (hA q (Nat.lt_of_lt_of_le h1 hS.1) z))]; exact hS.2.1 q h1 h2, fun q hq => by
      rcases List.mem_append.mp hq with h | h
      · exact hS.2.2 q h
      · exact hf _ (hL q h)⟩⟩
theorem vx_calli {S SX : Type} {post : Int32 → S → Prop} {px : SX → Prop} {B : S → State → Prop} {BX : String → SX → State → Prop} {AX : Nat → Prop} (hr : vx_Run p l e R s m args below meth c H locs cells slots mc ms (F0 m pc ls st0) rest (va_Qi post B A1 a) (vx_X px BX AX) free) (hS : va_S A0 H0 H locs) (hA : ∀ q, q < H.size → A1 q → A0 q) (hf : ∀ q, free q → A0 q) (hAX : ∀ q, q < H.size → AX q → A0 q)
    (kx : ∀ (E : String) (ce : Cell) (q9 : Addr) (u : SX) (t : State) (H1 : Heap) (locs1 : List Loc), t.heap = H1 → s.vm.Alike t.vm → px u → BX E u t → H.size ≤ H1.size → (∀ q : Nat, q < H.size → ¬ AX q → H1[q]? = H[q]?) → va_S A0 H0 H1 locs1 → H1[q9]? = some ce → ce.vm = .none → s.vm.findClass E = some ce.cls → vx_W p l e R s m args below meth c H1 locs1 (cells + mc) (slots + ms) Q (F0 m pc ls rest) q9)
    (kk : ∀ (r : Int32) (u : S) (t : State) (H1 : Heap) (locs1 : List Loc), t.heap = H1 → s.vm.Alike t.vm → post r u → B u t → H.size ≤ H1.size → (∀ q : Nat, q < H.size → ¬ A1 q → H1[q]? = H[q]?) → va_S A0 H0 H1 locs1 → W p l e R s m args below meth c H1 locs1 (cells + mc) (slots + ms) Q (F0 m (pc + 3) ls (.int r :: rest))) : W p l e R s m args below meth c H locs cells slots Q (F0 m pc ls st0) := by
  intro T hT X
  rcases hr T hT X with ⟨v, st₀, t, T', L, h0, X', hL, e1, e2, ⟨⟨r, u, hv, hp, hb⟩, hF⟩, st⟩ | ⟨q, st₀, t, T', L, E, ce, h0, X', hL, e1, e2, ⟨u, hp, hb, hF⟩, hce, hcv, hcl, st⟩
  · cases hv
    obtain ⟨k1, k2, k3⟩ := vx_keep h0 e1 hS hA hf hL hF
    obtain ⟨t2, a1, b1⟩ := kk r u t T'.heap (locs ++ L) e1.symm (by rw [← e2]; exact X'.warmed.alike) hp hb k1 k2 k3 T' rfl X'
    exact ⟨t2, st t2 a1, b1⟩
  · obtain ⟨k1, k2, k3⟩ := vx_keep h0 e1 hS hAX hf hL hF
    obtain ⟨t2, a1, b1⟩ := kx E ce q u t T'.heap (locs ++ L) e1.symm (by rw [← e2]; exact X'.warmed.alike) hp hb k1 k2 k3 (by rw [e1]; exact hce) hcv hcl T' rfl X'
    exact ⟨t2, st.trans a1, b1⟩
theorem vx_calll {S SX : Type} {post : Int64 → S → Prop} {px : SX → Prop} {B : S → State → Prop} {BX : String → SX → State → Prop} {AX : Nat → Prop} (hr : vx_Run p l e R s m args below meth c H locs cells slots mc ms (F0 m pc ls st0) rest (va_Ql post B A1 a) (vx_X px BX AX) free) (hS : va_S A0 H0 H locs) (hA : ∀ q, q < H.size → A1 q → A0 q) (hf : ∀ q, free q → A0 q) (hAX : ∀ q, q < H.size → AX q → A0 q)
    (kx : ∀ (E : String) (ce : Cell) (q9 : Addr) (u : SX) (t : State) (H1 : Heap) (locs1 : List Loc), t.heap = H1 → s.vm.Alike t.vm → px u → BX E u t → H.size ≤ H1.size → (∀ q : Nat, q < H.size → ¬ AX q → H1[q]? = H[q]?) → va_S A0 H0 H1 locs1 → H1[q9]? = some ce → ce.vm = .none → s.vm.findClass E = some ce.cls → vx_W p l e R s m args below meth c H1 locs1 (cells + mc) (slots + ms) Q (F0 m pc ls rest) q9)
    (kk : ∀ (r : Int64) (u : S) (t : State) (H1 : Heap) (locs1 : List Loc), t.heap = H1 → s.vm.Alike t.vm → post r u → B u t → H.size ≤ H1.size → (∀ q : Nat, q < H.size → ¬ A1 q → H1[q]? = H[q]?) → va_S A0 H0 H1 locs1 → W p l e R s m args below meth c H1 locs1 (cells + mc) (slots + ms) Q (F0 m (pc + 3) ls (.long r :: rest))) : W p l e R s m args below meth c H locs cells slots Q (F0 m pc ls st0) := by
  intro T hT X
  rcases hr T hT X with ⟨v, st₀, t, T', L, h0, X', hL, e1, e2, ⟨⟨r, u, hv, hp, hb⟩, hF⟩, st⟩ | ⟨q, st₀, t, T', L, E, ce, h0, X', hL, e1, e2, ⟨u, hp, hb, hF⟩, hce, hcv, hcl, st⟩
  · cases hv
    obtain ⟨k1, k2, k3⟩ := vx_keep h0 e1 hS hA hf hL hF
    obtain ⟨t2, a1, b1⟩ := kk r u t T'.heap (locs ++ L) e1.symm (by rw [← e2]; exact X'.warmed.alike) hp hb k1 k2 k3 T' rfl X'
    exact ⟨t2, st t2 a1, b1⟩
  · obtain ⟨k1, k2, k3⟩ := vx_keep h0 e1 hS hAX hf hL hF
    obtain ⟨t2, a1, b1⟩ := kx E ce q u t T'.heap (locs ++ L) e1.symm (by rw [← e2]; exact X'.warmed.alike) hp hb k1 k2 k3 (by rw [e1]; exact hce) hcv hcl T' rfl X'
    exact ⟨t2, st.trans a1, b1⟩
theorem vx_callf {S SX : Type} {post : UInt32 → S → Prop} {px : SX → Prop} {B : S → State → Prop} {BX : String → SX → State → Prop} {AX : Nat → Prop} (hr : vx_Run p l e R s m args below meth c H locs cells slots mc ms (F0 m pc ls st0) rest (va_Qf post B A1 a) (vx_X px BX AX) free) (hS : va_S A0 H0 H locs) (hA : ∀ q, q < H.size → A1 q → A0 q) (hf : ∀ q, free q → A0 q) (hAX : ∀ q, q < H.size → AX q → A0 q)
    (kx : ∀ (E : String) (ce : Cell) (q9 : Addr) (u : SX) (t : State) (H1 : Heap) (locs1 : List Loc), t.heap = H1 → s.vm.Alike t.vm → px u → BX E u t → H.size ≤ H1.size → (∀ q : Nat, q < H.size → ¬ AX q → H1[q]? = H[q]?) → va_S A0 H0 H1 locs1 → H1[q9]? = some ce → ce.vm = .none → s.vm.findClass E = some ce.cls → vx_W p l e R s m args below meth c H1 locs1 (cells + mc) (slots + ms) Q (F0 m pc ls rest) q9)
    (kk : ∀ (r : UInt32) (u : S) (t : State) (H1 : Heap) (locs1 : List Loc), t.heap = H1 → s.vm.Alike t.vm → post r u → B u t → H.size ≤ H1.size → (∀ q : Nat, q < H.size → ¬ A1 q → H1[q]? = H[q]?) → va_S A0 H0 H1 locs1 → W p l e R s m args below meth c H1 locs1 (cells + mc) (slots + ms) Q (F0 m (pc + 3) ls (.float r :: rest))) : W p l e R s m args below meth c H locs cells slots Q (F0 m pc ls st0) := by
  intro T hT X
  rcases hr T hT X with ⟨v, st₀, t, T', L, h0, X', hL, e1, e2, ⟨⟨r, u, hv, hp, hb⟩, hF⟩, st⟩ | ⟨q, st₀, t, T', L, E, ce, h0, X', hL, e1, e2, ⟨u, hp, hb, hF⟩, hce, hcv, hcl, st⟩
  · cases hv
    obtain ⟨k1, k2, k3⟩ := vx_keep h0 e1 hS hA hf hL hF
    obtain ⟨t2, a1, b1⟩ := kk r u t T'.heap (locs ++ L) e1.symm (by rw [← e2]; exact X'.warmed.alike) hp hb k1 k2 k3 T' rfl X'
    exact ⟨t2, st t2 a1, b1⟩
  · obtain ⟨k1, k2, k3⟩ := vx_keep h0 e1 hS hAX hf hL hF
    obtain ⟨t2, a1, b1⟩ := kx E ce q u t T'.heap (locs ++ L) e1.symm (by rw [← e2]; exact X'.warmed.alike) hp hb k1 k2 k3 (by rw [e1]; exact hce) hcv hcl T' rfl X'
    exact ⟨t2, st.trans a1, b1⟩
theorem vx_calld {S SX : Type} {post : UInt64 → S → Prop} {px : SX → Prop} {B : S → State → Prop} {BX : String → SX → State → Prop} {AX : Nat → Prop} (hr : vx_Run p l e R s m args below meth c H locs cells slots mc ms (F0 m pc ls st0) rest (va_Qd post B A1 a) (vx_X px BX AX) free) (hS : va_S A0 H0 H locs) (hA : ∀ q, q < H.size → A1 q → A0 q) (hf : ∀ q, free q → A0 q) (hAX : ∀ q, q < H.size → AX q → A0 q)
    (kx : ∀ (E : String) (ce : Cell) (q9 : Addr) (u : SX) (t : State) (H1 : Heap) (locs1 : List Loc), t.heap = H1 → s.vm.Alike t.vm → px u → BX E u t → H.size ≤ H1.size → (∀ q : Nat, q < H.size → ¬ AX q → H1[q]? = H[q]?) → va_S A0 H0 H1 locs1 → H1[q9]? = some ce → ce.vm = .none → s.vm.findClass E = some ce.cls → vx_W p l e R s m args below meth c H1 locs1 (cells + mc) (slots + ms) Q (F0 m pc ls rest) q9)
    (kk : ∀ (r : UInt64) (u : S) (t : State) (H1 : Heap) (locs1 : List Loc), t.heap = H1 → s.vm.Alike t.vm → post r u → B u t → H.size ≤ H1.size → (∀ q : Nat, q < H.size → ¬ A1 q → H1[q]? = H[q]?) → va_S A0 H0 H1 locs1 → W p l e R s m args below meth c H1 locs1 (cells + mc) (slots + ms) Q (F0 m (pc + 3) ls (.double r :: rest))) : W p l e R s m args below meth c H locs cells slots Q (F0 m pc ls st0) := by
  intro T hT X
  rcases hr T hT X with ⟨v, st₀, t, T', L, h0, X', hL, e1, e2, ⟨⟨r, u, hv, hp, hb⟩, hF⟩, st⟩ | ⟨q, st₀, t, T', L, E, ce, h0, X', hL, e1, e2, ⟨u, hp, hb, hF⟩, hce, hcv, hcl, st⟩
  · cases hv
    obtain ⟨k1, k2, k3⟩ := vx_keep h0 e1 hS hA hf hL hF
    obtain ⟨t2, a1, b1⟩ := kk r u t T'.heap (locs ++ L) e1.symm (by rw [← e2]; exact X'.warmed.alike) hp hb k1 k2 k3 T' rfl X'
    exact ⟨t2, st t2 a1, b1⟩
  · obtain ⟨k1, k2, k3⟩ := vx_keep h0 e1 hS hAX hf hL hF
    obtain ⟨t2, a1, b1⟩ := kx E ce q u t T'.heap (locs ++ L) e1.symm (by rw [← e2]; exact X'.warmed.alike) hp hb k1 k2 k3 (by rw [e1]; exact hce) hcv hcl T' rfl X'
    exact ⟨t2, st.trans a1, b1⟩
theorem vx_callv {S SX : Type} {post : S → Prop} {px : SX → Prop} {B : S → State → Prop} {BX : String → SX → State → Prop} {AX : Nat → Prop} (hr : vx_Run p l e R s m args below meth c H locs cells slots mc ms (F0 m pc ls st0) rest (va_Qv post B A1 a) (vx_X px BX AX) free) (hS : va_S A0 H0 H locs) (hA : ∀ q, q < H.size → A1 q → A0 q) (hf : ∀ q, free q → A0 q) (hAX : ∀ q, q < H.size → AX q → A0 q)
    (kx : ∀ (E : String) (ce : Cell) (q9 : Addr) (u : SX) (t : State) (H1 : Heap) (locs1 : List Loc), t.heap = H1 → s.vm.Alike t.vm → px u → BX E u t → H.size ≤ H1.size → (∀ q : Nat, q < H.size → ¬ AX q → H1[q]? = H[q]?) → va_S A0 H0 H1 locs1 → H1[q9]? = some ce → ce.vm = .none → s.vm.findClass E = some ce.cls → vx_W p l e R s m args below meth c H1 locs1 (cells + mc) (slots + ms) Q (F0 m pc ls rest) q9)
    (kk : ∀ (u : S) (t : State) (H1 : Heap) (locs1 : List Loc), t.heap = H1 → s.vm.Alike t.vm → post u → B u t → H.size ≤ H1.size → (∀ q : Nat, q < H.size → ¬ A1 q → H1[q]? = H[q]?) → va_S A0 H0 H1 locs1 → W p l e R s m args below meth c H1 locs1 (cells + mc) (slots + ms) Q (F0 m (pc + 3) ls (rest))) : W p l e R s m args below meth c H locs cells slots Q (F0 m pc ls st0) := by
  intro T hT X
  rcases hr T hT X with ⟨v, st₀, t, T', L, h0, X', hL, e1, e2, ⟨⟨u, hv, hp, hb⟩, hF⟩, st⟩ | ⟨q, st₀, t, T', L, E, ce, h0, X', hL, e1, e2, ⟨u, hp, hb, hF⟩, hce, hcv, hcl, st⟩
  · cases hv
    obtain ⟨k1, k2, k3⟩ := vx_keep h0 e1 hS hA hf hL hF
    obtain ⟨t2, a1, b1⟩ := kk u t T'.heap (locs ++ L) e1.symm (by rw [← e2]; exact X'.warmed.alike) hp hb k1 k2 k3 T' rfl X'
    exact ⟨t2, st t2 a1, b1⟩
  · obtain ⟨k1, k2, k3⟩ := vx_keep h0 e1 hS hAX hf hL hF
    obtain ⟨t2, a1, b1⟩ := kx E ce q u t T'.heap (locs ++ L) e1.symm (by rw [← e2]; exact X'.warmed.alike) hp hb k1 k2 k3 (by rw [e1]; exact hce) hcv hcl T' rfl X'
    exact ⟨t2, st.trans a1, b1⟩
/-- caught by the row x of this method's table; the rows ahead don't take it -/
theorem vx_catch {own name : String} {E : String} {ce : Cell} {q : Addr} (hown : s.vm.findClass own = some m.cls) (pre : List ExceptionTableEntry) (x : ExceptionTableEntry) (suf : List ExceptionTableEntry) (hsplit : c.exceptionTable.toList = pre ++ x :: suf)
    (hpass : ∀ z ∈ pre, covers z pc = false ∨ (z.catchType ≠ 0 ∧ ∃ nm : String, (Cond.classLink own z.catchType nm).before args s = true ∧ va_Nc E nm s)) (hx : covers x pc = true) (h0 : x.catchType ≠ 0)
    (hlink : (Cond.classLink own x.catchType name).before args s = true) (hcast : (Cond.castable E name).before args s = true) (hcell : H[q]? = some ce) (hv : ce.vm = .none) (hcl : s.vm.findClass E = some ce.cls)
    (kk : W p l e R s m args below meth c H locs cells slots Q (F0 m x.handlerPc ls [.ref q])) : vx_W p l e R s m args below meth c H locs cells slots Q (F0 m pc ls rest) q := by
  intro T hT X
  have hpl : e.platform.magicAccessors = ({} : Platform).magicAccessors := by rw [X.admits.platform]
  obtain ⟨c3, c4, hc3, hc4, hasg⟩ := Cond.castable_spec hcast
  cases Option.some.inj (hc3.symm.trans hcl)
  obtain ⟨c5, hc5, hcl5⟩ := Cond.classLink_spec hown hlink e.platform hpl
  cases Option.some.inj (hc4.symm.trans hc5)
  obtain ⟨vm', X', st⟩ := X.thenCaughtThrough q (g := F0 m pc ls rest) rfl (Steps.refl _) (by rw [hT]; exact hcell) (by rw [hv]; rfl) (by obtain ⟨k9, h9, -⟩ := Vm.findClass_spec hcl; exact ⟨k9, h9⟩) pre x suf hsplit
    (fun z hz => by
      rcases hpass z hz with h | ⟨hz0, nm, hl1, hn1⟩
      · exact Or.inl h
      · obtain ⟨c6, hc6, hcl6⟩ := Cond.classLink_spec hown hl1 e.platform hpl
        obtain ⟨a8, b8, h1, h2, h3⟩ := hn1
        cases Option.some.inj (h1.symm.trans hcl)
        cases Option.some.inj (h2.symm.trans hc6)
        exact Or.inr ⟨hz0, _, hcl6, h3⟩) hx (Or.inr ⟨h0, c4, hcl5, hasg⟩)
  obtain ⟨t, a1, b1⟩ := kk (T.setVm vm') hT X'
  exact ⟨t, st.trans a1, b1⟩
end Rows
section Ends
variable {p : Program} {l : Launch} {e : Env} {R : Room} {s : State} {m : MethodId} {args : Array Value} {below : List Frame} {meth : Method} {c : Code} {H : Heap} {locs : List Loc} {cells slots : Nat} {Q : State → Prop}
variable {mc ms : Nat} {free : Addr → Prop} {A0 A1 : Nat → Prop} {H0 : Heap} {a : Array Value} {ls : Array Slot} {st0 rest : List Value}
variable {Qc : Array Value → State → Outcome → State → Prop} {XC : String → State → State → Prop}
/-- what a body that may throw owes at its end -/
def vx_MQ (below : List Frame) (Qc : Array Value → State → Outcome → State → Prop) (XC : String → State → State → Prop) (a : Array Value) (s : State) (mc ms : Nat) (free : Addr → Prop) : State → Prop := fun t =>
  ∃ o, t.status = .running ∧ Ended t below o ∧ vx_Q Qc XC mc ms free a s o t
theorem vx_ret {g : JFrame} {mc ms : Nat} (k : W p l e R s m args below meth c H locs cells slots (MQ below Qc args s mc ms free) g) : W p l e R s m args below meth c H locs cells slots (vx_MQ below Qc XC args s mc ms free) g := by
  intro T hT X
  obtain ⟨t, a1, o, b1, b2, b3, b4⟩ := k T hT X
  exact ⟨t, a1, o, b1, b2, Or.inl ⟨b3, b4⟩⟩
/-- not caught here: it goes on to the caller -/
theorem vx_widen {g : JFrame} {q : Addr} {k n : Nat} (h1 : cells ≤ k) (h2 : slots ≤ n) (kk : vx_W p l e R s m args below meth c H locs k n Q g q) : vx_W p l e R s m args below meth c H locs cells slots Q g q := fun T hT X => kk T hT (stand_widen X h1 h2)
theorem vx_out {pc : Nat} {E : String} {ce : Cell} {q : Addr} {mc ms : Nat} (hout : ∀ x ∈ c.exceptionTable.toList, covers x pc = false) (hlocks : meth.locks = false) (hcell : H[q]? = some ce) (hv : ce.vm = .none) (hcl : s.vm.findClass E = some ce.cls)
    (hx : ∀ t : State, t.heap = H → s.vm.Alike t.vm → XC E s t) (hf : ∀ z ∈ locs, free z.base) (hc : cells ≤ mc) (hs : slots ≤ ms) :
    vx_W p l e R s m args below meth c H locs cells slots (vx_MQ below Qc XC args s mc ms free) (F0 m pc ls rest) q := by
  intro T hT X
  obtain ⟨st1, hrun, hend, hW, hsm⟩ := X.leaveThrown q (g := F0 m pc ls rest) rfl rfl rfl hout hlocks
  have hcell9 : (T.setFrames (.throwing q :: below)).heap[q]? = some ce := by
    show T.heap[q]? = some ce
    rw [hT]; exact hcell
  exact ⟨_, st1, .threw q, hrun, hend, Or.inr ⟨q, rfl, E, ce, locs, hx _ hT hW.alike, hcell9, hv, hcl, hW, hsm.mono hc hs, hf⟩⟩
theorem vx_frame {U : State} {k n : Nat} (h : s.sameButNew ({ U with vm := s.vm } : State) locs k n) : s.heap.size ≤ U.heap.size ∧ ∀ q : Nat, q < s.heap.size → (∀ z ∈ locs, z.base ≠ q) → U.heap[q]? = s.heap[q]? := by
  obtain ⟨-, h2, -, -, -, h6⟩ := h
  refine ⟨h2, fun q hq hz => ?_⟩
  obtain ⟨c9, e1, e2, e3, e4⟩ := h6 q _ (Array.getElem?_eq_getElem hq)
  have hs : c9.slots = (s.heap[q]).slots := Array.ext_getElem? fun i => e4 i fun hm => hz _ hm rfl
  have h9 : c9 = s.heap[q] := by
    rw [hs] at e2
    exact e2
  have e5 : U.heap[q]? = some c9 := e1
  rw [e5, h9, Array.getElem?_eq_getElem hq]
/-- the words of a throw but the four that speak of the heap -/
def vx_no (w : Cond) : Bool := decide (w ≠ .isRef (.static Bundle.tN "UNASSIGNED_STACK" Bundle.steD)) && decide (w ≠ .isRef (.static Bundle.tN "SUPPRESSED_SENTINEL" Bundle.listD)) && decide (w ≠ .laysStatic Bundle.tN "UNASSIGNED_STACK" Bundle.steD) && decide (w ≠ .laysStatic Bundle.tN "SUPPRESSED_SENTINEL" Bundle.listD)
def vx_at0 (own : String) (ic : Nat) (X : String) (names : List String) : List Cond := (Bundle.ownAtoms0 own ic X names).filter vx_no
def vx_atS (own : String) (ic : Nat) (X : String) (names : List String) : List Cond := (Bundle.ownAtoms own ic X names).filter vx_no
/-- a word that the tables alone decide, or a good one -/
def vx_ot (w : Cond) : Bool := w.onTables || goodWord w
theorem vx_ot_at {args a' : Array Value} {s U : State} {w : Cond} (hW : s.WarmedH U.vm) (hvm : s.vm = U.vm) (hg : vx_ot w = true) (h : w.before args s = true) : w.before a' U = true := by
  simp only [vx_ot, Bool.or_eq_true] at hg
  rcases hg with hg | hg
  · exact va_tabs hg hvm h
  · exact word_at hW (good_of_word hg) h
/-- a list's words: the good ones out of the method's own list, the others by premises of their own -/
theorem vx_hat {args : Array Value} {s : State} {L B : List Cond} (h1 : ∀ w ∈ L.filter goodWord, w.before args s = true) (h2 : ∀ w ∈ L.filter (fun w => !goodWord w), w ∈ B) (h3 : ∀ w ∈ B, w.before args s = true) : ∀ w ∈ L, w.before args s = true := by
  intro w hw
  by_cases g : goodWord w = true
  · exact h1 w (List.mem_filter.mpr ⟨hw, g⟩)
  · refine h3 w (h2 w (List.mem_filter.mpr ⟨hw, ?_⟩))
    show (!goodWord w) = true
    cases hgw : goodWord w
    · rfl
    · exact absurd hgw g
theorem vx_c {args : Array Value} {s : State} {w : Cond} {B : List Cond} (h : w.before args s = true) (t : ∀ w ∈ B, w.before args s = true) : ∀ w' ∈ w :: B, w'.before args s = true := fun w' h' => (List.mem_cons.mp h').elim (fun e => by rw [e]; exact h) (t w')
theorem vx_n {args : Array Value} {s : State} : ∀ w ∈ ([] : List Cond), w.before args s = true := fun _ h => nomatch h
theorem vx_own {args : Array Value} {s : State} {L : List Cond} (h1 : ∀ w ∈ L.filter vx_no, w.before args s = true)
    (hU : (Cond.isRef (.static Bundle.tN "UNASSIGNED_STACK" Bundle.steD)).before args s = true) (hN : (Cond.isRef (.static Bundle.tN "SUPPRESSED_SENTINEL" Bundle.listD)).before args s = true)
    (lU : (Cond.laysStatic Bundle.tN "UNASSIGNED_STACK" Bundle.steD).before args s = true) (lN : (Cond.laysStatic Bundle.tN "SUPPRESSED_SENTINEL" Bundle.listD).before args s = true) : ∀ w ∈ L, w.before args s = true := by
  intro w hw
  by_cases e1 : w = .isRef (.static Bundle.tN "UNASSIGNED_STACK" Bundle.steD)
  · rw [e1]; exact hU
  · by_cases e2 : w = .isRef (.static Bundle.tN "SUPPRESSED_SENTINEL" Bundle.listD)
    · rw [e2]; exact hN
    · by_cases e3 : w = .laysStatic Bundle.tN "UNASSIGNED_STACK" Bundle.steD
      · rw [e3]; exact lU
      · by_cases e4 : w = .laysStatic Bundle.tN "SUPPRESSED_SENTINEL" Bundle.listD
        · rw [e4]; exact lN
        · exact h1 w (List.mem_filter.mpr ⟨hw, by unfold vx_no; rw [decide_eq_true e1, decide_eq_true e2, decide_eq_true e3, decide_eq_true e4]; rfl⟩)
/-- where a static field lies, its class's statics cell in H -/
def vx_L (C n d : String) (A : Nat → Prop) (U : State) (H : Heap) : Prop := ∃ (c : ClassId) (k : Class) (i : Nat) (f : Field) (a : Nat) (cell : Cell), U.vm.findClass C = some c ∧ U.fieldFound? C n d = some (c, k, i, f) ∧ f.isStatic = true ∧ k.statics = some a ∧ H[a]? = some cell ∧ cell.vm.isStatics = true ∧ cell.cls = c ∧ f.slot < cell.slots.size ∧ k.staticTypes[f.slot]? = some f.type ∧ ¬ A a
theorem vx_L.moved {C n d : String} {A : Nat → Prop} {u U : State} {H : Heap} (hvm : u.vm.Alike U.vm) (h : vx_L C n d A u H) : vx_L C n d A U H := by
  obtain ⟨c, k, i, f, a, cell, h1, h2, h3, h4, h5, h6, h7, h8, h9, h10⟩ := h
  obtain ⟨k', hi', he⟩ := State.fieldFound?_setVm hvm h2
  exact ⟨c, k', i, f, a, cell, by rw [hvm.findClass]; exact h1, hi', h3, by rw [he]; exact h4, h5, h6, h7, h8, by rw [he]; exact h9, h10⟩
theorem vx_L.kept {C n d : String} {A : Nat → Prop} {U : State} {H H1 : Heap} (h : vx_L C n d A U H) (hq : ∀ a : Nat, a < H.size → ¬ A a → H1[a]? = H[a]?) : vx_L C n d A U H1 := by
  obtain ⟨c, k, i, f, a, cell, h1, h2, h3, h4, h5, h6, h7, h8, h9, h10⟩ := h
  exact ⟨c, k, i, f, a, cell, h1, h2, h3, h4, by rw [hq a (Array.getElem?_eq_some_iff.mp h5).1 h10]; exact h5, h6, h7, h8, h9, h10⟩
theorem vx_L.narrow {C n d : String} {A B : Nat → Prop} {U : State} {H : Heap} (h : vx_L C n d A U H) (hAB : ∀ q, B q → A q) : vx_L C n d B U H := by
  obtain ⟨c, k, i, f, a, cell, h1, h2, h3, h4, h5, h6, h7, h8, h9, h10⟩ := h
  exact ⟨c, k, i, f, a, cell, h1, h2, h3, h4, h5, h6, h7, h8, h9, fun z => h10 (hAB _ z)⟩
theorem vx_L.word {C n d : String} {A : Nat → Prop} {s : State} {args : Array Value} (h : vx_L C n d A s s.heap) : (Cond.laysStatic C n d).before args s = true := by
  obtain ⟨c, k, i, f, a, cell, h1, h2, h3, h4, h5, h6, h7, h8, h9, -⟩ := h
  show (Cond.laysStatic C n d).holds args s none s [] = true
  exact Cond.laysStatic_of h1 h2 h3 h4 h5 h6 h7 h8 h9
/-- .. and what it holds: null or some reference -/
def vx_Zq (C n d : String) (A : Nat → Prop) (U : State) (H : Heap) : Prop := va_Zq C n d A U H ∧ vx_L C n d A U H
theorem vx_Zq.moved {C n d : String} {A : Nat → Prop} {u U : State} {H : Heap} (hvm : u.vm.Alike U.vm) (h : vx_Zq C n d A u H) : vx_Zq C n d A U H := ⟨va_Zq.moved hvm h.1, vx_L.moved hvm h.2⟩
theorem vx_Zq.kept {C n d : String} {A : Nat → Prop} {U : State} {H H1 : Heap} (h : vx_Zq C n d A U H) (hq : ∀ a : Nat, a < H.size → ¬ A a → H1[a]? = H[a]?) : vx_Zq C n d A U H1 := ⟨va_Zq.kept h.1 hq, vx_L.kept h.2 hq⟩
theorem vx_Zq.narrow {C n d : String} {A B : Nat → Prop} {U : State} {H : Heap} (h : vx_Zq C n d A U H) (hAB : ∀ q, B q → A q) : vx_Zq C n d B U H := ⟨va_Zq.narrow h.1 hAB, vx_L.narrow h.2 hAB⟩
theorem vx_Zqof {args : Array Value} {s : State} {C n d : String} {A : Nat → Prop} (hl : (Cond.laysStatic C n d).before args s = true) (hini : (Cond.initialized C).before args s = true) (h : (Cond.isRef (.static C n d)).before args s = true) (hA : ∀ a : Nat, a < s.heap.size → ¬ A a) : vx_Zq C n d A s s.heap := by
  refine ⟨va_Zqof hl hini h hA, ?_⟩
  obtain ⟨c, k, i, f, a, cell, h1, h2, h3, h4, h5, h6, h7, h8, h9⟩ := Cond.laysStatic_spec hl
  exact ⟨c, k, i, f, a, cell, h1, h2, h3, h4, h5, h6, h7, h8, h9, hA a (Array.getElem?_eq_some_iff.mp h5).1⟩
theorem vx_isRef {C n d : String} {v : Value} {A : Nat → Prop} {s : State} {args : Array Value} (h : va_Z C n d v A s s.heap) (hv : v.isRef = true) : (Cond.isRef (.static C n d)).before args s = true := by
  obtain ⟨cf, kf, fi, f, a, cell, h1, h2, h3, h4, h5, h6, h7, -⟩ := h
  have he : (Term.static C n d).eval args s none [] s = some v := by
    simp [Term.eval, State.fieldNamed?, h1, h2, h4, h5, h6, h7]
  simp only [Cond.before, Cond.holds, Cond.value, he]
  cases v <;> simp_all [Value.isRef]
theorem vx_isRefq {C n d : String} {A : Nat → Prop} {s : State} {args : Array Value} (h : va_Zq C n d A s s.heap) : (Cond.isRef (.static C n d)).before args s = true := by
  rcases h with h | ⟨t, h⟩
  · exact vx_isRef h rfl
  · exact vx_isRef h rfl
/-- the same frame, seen from here: as if the method were called anew in this heap -/
theorem vx_rebase {T : State} (X : Stand p l e R s m args below meth c T locs cells slots) {R' : Room} (hf : R'.frames ≤ R.frames) (hl : R'.locals ≤ R.locals) (hc : cells + R'.cells ≤ R.cells) (hs : slots + R'.slots ≤ R.slots) :
    Stand p l e R' ((T.setVm s.vm).setFrames (.invoking m args :: below)) m args below meth c T [] 0 0 := by
  have htop : (T.setVm s.vm).topJava?.isSome := X.here.top
  have hF : ((T.setVm s.vm).setFrames (.invoking m args :: below)).frames = .invoking m args :: below := State.frames_setFrames _ (State.cur_lt_of_top htop)
  obtain ⟨g₀, hg0⟩ := Option.isSome_iff_exists.mp htop
  obtain ⟨r, hr⟩ := State.topJava?_eq_some.mp hg0
  have hl9 : e.platform.stackLimits (T.setVm s.vm).me = e.platform.stackLimits s.me := X.limits
  have hb9 : (T.setVm s.vm).me.stackBytes = s.me.stackBytes := X.bytes
  refine ⟨X.admits, X.cas, X.clock, hF, ?_, X.hears, X.method, X.code, X.here, X.tail, X.warmed, ?_, ?_, ?_⟩
  · have h := X.room
    have hU : ((T.setVm s.vm).setFrames (.invoking m args :: below)).localsInUse = s.localsInUse := by
      rw [State.localsInUse_invoking hF (meth := meth) (c := c) X.method X.code, State.localsInUse_invoking X.frames X.method X.code]
    simp only [State.hasRoom, Bool.and_eq_true, decide_eq_true_eq] at h ⊢
    obtain ⟨⟨⟨⟨h1, h2, h3, h4, h5, h6⟩, h7⟩, h8⟩, h9⟩ := h
    rw [X.frames, List.length_cons] at h2 h3
    have q1 := X.heapSize
    have q2 := X.used
    simp only [hF, hU, List.length_cons, State.stackLimits_setFrames, State.stackBytes_setFrames, hl9, hb9]
    refine ⟨⟨⟨⟨by omega, by omega, by omega, by omega, by omega, h6⟩, ?_⟩, ?_⟩, X.book⟩
    · show T.heap.size + R'.cells ≤ e.platform.maxCells
      omega
    · show T.slotsUsed + R'.slots ≤ e.platform.maxSlots
      omega
  · rw [State.stackLimits_setFrames]; rfl
  · rw [State.stackBytes_setFrames]; rfl
  · refine ⟨?_, Nat.le_refl _, Nat.le_refl _, ?_, ?_, fun a c9 h9 => ⟨c9, h9, rfl, rfl, fun _ _ => rfl⟩⟩
    · obtain ⟨t, ht, -⟩ := State.frames_cons hr
      show T.setVm s.vm = { ((T.setVm s.vm).setFrames (.invoking m args :: below)).setFrames (T.setVm s.vm).frames with heap := T.heap, slotsUsed := T.slotsUsed }
      rw [State.setFrames_setFrames, State.setFrames_self ht]
      rfl
    · show T.slotsUsed = T.slotsUsed + ((T.heap.toList.drop T.heap.size).map (·.slots.size)).sum
      rw [List.drop_eq_nil_of_le (Nat.le_of_eq Array.length_toList)]
      rfl
    · show ((T.heap.toList.drop T.heap.size).map (·.slots.size)).sum ≤ 0
      rw [List.drop_eq_nil_of_le (Nat.le_of_eq Array.length_toList)]
      exact Nat.le_refl _
/-- 'throw new E()': new; dup; invokespecial; athrow -/
theorem vx_throw0 {cc : ByteArray} {pc : Nat} (hexec : p.tables.exec = Jvm.exec) (hb : c.code = cc) (hl : l.stackTraces = false) {own cls : String} {names : List String} {ik ic mc ms : Nat} {A : Nat → Prop}
    (hown : s.vm.findClass own = some m.cls) (hcls : Bundle.fit cls = true) (hnames : ∀ n ∈ names, Bundle.fit n = true)
    (hk : (Cond.classLink own ik cls).before args s = true) (hini : (Cond.initialized cls).before args s = true) (hat : ∀ w ∈ vx_at0 own ic cls names, w.before args s = true)
    (hgood : ∀ w ∈ Cond.classLink own ik cls :: Cond.initialized cls :: vx_at0 own ic cls names, vx_ot w = true)
    (hU : vx_Zq Bundle.tN "UNASSIGNED_STACK" Bundle.steD A s s.heap) (hN : vx_Zq Bundle.tN "SUPPRESSED_SENTINEL" Bundle.listD A s s.heap) (hS : va_S A s.heap H locs) (hsize : ls.size = c.maxLocals)
    (d0 : decode cc pc = .ok (.new ik, 3)) (d3 : decode cc (pc + 3) = .ok (.dup, 1)) (d4 : decode cc (pc + 4) = .ok (.invokespecial ic, 3)) (d7 : decode cc (pc + 7) = .ok (.athrow, 1))
    (hout : ∀ x ∈ c.exceptionTable.toList, covers x (pc + 7) = false)
    (hRframes : names.length + 3 < R.frames) (hRlocals : (rest.map fun v => v.category).sum + (13 * (names.length + 1) + 42) ≤ R.locals) (hRcells : cells + 1 ≤ R.cells) (hRslots : slots + 6 ≤ R.slots) (hlocks : meth.locks = false)
    (hx : ∀ t : State, s.vm.Alike t.vm → H.size ≤ t.heap.size → (∀ q : Nat, q < H.size → t.heap[q]? = H[q]?) → XC cls s t)
    (hf : ∀ z ∈ locs, free z.base) (hc : cells + 1 ≤ mc) (hs : slots + 6 ≤ ms) :
    W p l e R s m args below meth c H locs cells slots (vx_MQ below Qc XC args s mc ms free) (F0 m pc ls rest) := by
  intro T hT X
  have htr : e.platform.stackTraces = false := (show e.platform.stackTraces = l.stackTraces by rw [X.admits.platform]).trans hl
  have Y := vx_rebase X (R' := { frames := R.frames, locals := R.locals, cells := 1, slots := 6 }) (Nat.le_refl _) (Nat.le_refl _) hRcells hRslots
  obtain ⟨s', hA⟩ : ∃ z, z = (T.setVm s.vm).setFrames (.invoking m args :: below) := ⟨_, rfl⟩
  rw [← hA] at Y
  have hvm : s'.vm = s.vm := by rw [hA]; rfl
  have hhp : s'.heap = H := by rw [hA]; exact hT
  have hW0 : s.WarmedH s'.vm := by rw [hvm]; exact State.WarmedH.refl s
  have hat' : ∀ w ∈ vx_at0 own ic cls names, w.before args s' = true := fun w hw => vx_ot_at hW0 hvm.symm (hgood w (List.mem_cons_of_mem _ (List.mem_cons_of_mem _ hw))) (hat w hw)
  have hk' : (Cond.classLink own ik cls).before args s' = true := vx_ot_at hW0 hvm.symm (hgood _ List.mem_cons_self) hk
  have hini' : (Cond.initialized cls).before args s' = true := vx_ot_at hW0 hvm.symm (hgood _ (List.mem_cons_of_mem _ List.mem_cons_self)) hini
  have hU' : vx_Zq Bundle.tN "UNASSIGNED_STACK" Bundle.steD A s' s'.heap := by rw [hhp]; exact vx_Zq.moved hW0.alike (hU.kept hS.2.1)
  have hN' : vx_Zq Bundle.tN "SUPPRESSED_SENTINEL" Bundle.listD A s' s'.heap := by rw [hhp]; exact vx_Zq.moved hW0.alike (hN.kept hS.2.1)
  have h : ∀ w ∈ Bundle.ownAtoms0 own ic cls names, w.before args s' = true := vx_own hat' (vx_isRefq hU'.1) (vx_isRefq hN'.1) hU'.2.word hN'.2.word
  have hown' : s'.vm.findClass own = some m.cls := by rw [hvm]; exact hown
  have hins : (Cond.instantiable cls 6).before args s' = true := h _ (by simp [Bundle.ownAtoms0])
  obtain ⟨vm₁, cX, kX, hfX, hkX, -, -, X₁, st1⟩ := Y.newCold hexec (own := own) (C := cls) (index := ik) (n := 6) hown' hk' hins hini'
    (g := F0 m pc ls rest) rfl (by rw [hb]; exact d0) (Nat.le_refl _) (Nat.le_refl _)
  generalize hT1 : (T.setVm vm₁).pushCell { cls := cX, slots := kX.instanceTypes.map defaultValue, vm := .none } = T1 at X₁ st1
  have hcat : (Value.ref T.heap.size).category = 1 := rfl
  have hcellA : T1.heap[T.heap.size]? = some (freshCell cX kX) := by rw [← hT1]; exact State.heap_pushCell_size _ _
  have d3' : decode c.code (pc + 3) = .ok (.dup, 1) := by rw [hb]; exact d3
  obtain ⟨U, hsteps, hrun, hend, hW, hsame, ce, hce, hO⟩ := X₁.ctorThrow0 hexec htr (own := own) (cls := cls) (names := names) (ic := ic) hown' hcls hnames h (fun x hx => nomatch hx) hfX hkX hcellA (by rw [hhp, hT]; exact Nat.le_refl _)
    (g := { method := m, pc := pc + 4, locals := ls, stack := .ref T.heap.size :: .ref T.heap.size :: rest, locked := none }) rfl hsize rfl rfl (rest := rest) rfl
    (by rw [hb]; exact d4) (by rw [hb]; exact d7) hout hRframes (by simp only [List.map_cons, List.sum_cons, hcat]; omega) hlocks
  obtain ⟨f1, f2⟩ := vx_frame hsame
  rw [hhp] at f1 f2
  have hWs : s.WarmedH U.vm := State.WarmedH.trans hW0 hW
  have hcl : s.vm.findClass cls = some ce.cls := by
    have h9 := hO.cls
    rw [hvm] at h9
    exact h9
  have hall : s.sameButNew ({ U with vm := s.vm } : State) locs mc ms := by
    subst hA
    obtain ⟨e1, e2⟩ := hsame
    rw [State.setFrames_setFrames] at e1
    have h2 : (T.setVm s.vm).sameButNew ({ U with vm := s.vm } : State) [] (0 + 1) (0 + 6) := ⟨e1, e2⟩
    have h3 := X.same.trans h2
    rw [List.append_nil] at h3
    exact h3.mono hc hs
  refine ⟨U, ?_, .threw T.heap.size, hrun, hend, Or.inr ⟨T.heap.size, rfl, cls, ce, locs, hx U hWs.alike f1 (fun q hq => f2 q hq (fun z hz => nomatch hz)), hce, hO.vm, hcl, hWs, hall, hf⟩⟩
  refine st1 _ ?_
  show Steps p.tables e below (T1.setTop { method := m, pc := pc + 3, locals := ls, stack := .ref T.heap.size :: rest, locked := none }) _
  jvm_step X₁.here [X₁.here.top, hexec, d3', Value.category]
  exact hsteps
end Ends
section Bodies
variable {l : Launch}
theorem vx_ofW {y : MethodName} {ws ws' : List Cond} {rm : Room} {Pc : Array Value → State → Prop} {Qc : Array Value → State → Outcome → State → Prop} {XC : String → State → State → Prop} {mc ms : Nat} {free : Addr → Prop} {cc : ByteArray} {maxL : Nat} {ret : Option FieldType}
    (hy : plainName y.cls = true) (hw : ws = Cond.code y cc maxL ret :: ws')
    (body : ∀ p e s m args below meth c s₁, BodyLoose p l y (headSpec ws rm) cc maxL ret e s m args below meth c s₁ → c.maxLocals = maxL → (∀ x ∈ c.exceptionTable.toList, False) → Pc args s →
      W p l e (headSpec ws rm).room s m args below meth c s.heap [] 0 0 (vx_MQ below Qc XC args s mc ms free) (entryFrame m args maxL)) : vx_Met l y ws rm Pc Qc XC mc ms free := by
  refine MetFree.of_bodyS (code := cc) (maxLocals := maxL) (ret := ret) hy ?_ ?_
  · intro args s m h hn
    obtain ⟨meth, c, h1, h2, h3, h4, h5, h6, -, -⟩ := Cond.code_spec hn (atoms_spec (ws := ws) h _ (by rw [hw]; exact List.mem_cons_self))
    exact ⟨meth, c, h1, h2, h3, h4, h5, h6⟩
  · intro p e s m args below meth c s₁ B hml hP _
    have hh0 : s₁.heap = s.heap := by rw [B.state]; rfl
    have ht : ∀ x ∈ c.exceptionTable.toList, False := by
      obtain ⟨meth9, c9, h1, h2, -, -, -, -, h7, -⟩ := Cond.code_spec B.named (atoms_spec (ws := ws) B.pre _ (by rw [hw]; exact List.mem_cons_self))
      cases Option.some.inj (h1.symm.trans B.method)
      cases Option.some.inj (h2.symm.trans (Stand.of_body B).code)
      intro x hx
      rw [Array.isEmpty_iff.mp h7] at hx
      cases hx
    obtain ⟨t, a1, o, b1, b2, b3⟩ := body p e s m args below meth c s₁ B hml ht hP s₁ hh0 (Stand.of_body B)
    exact ⟨t, o, a1, b1, b2, b3⟩
/-- the table of a body with handlers -/
theorem vx_table {p : Program} {x y : MethodName} {S : Spec} {cc bytes : ByteArray} {maxL maxL' : Nat} {ret ret' : Option FieldType} {e : Env} {s s₁ : State} {m : MethodId} {args : Array Value} {below : List Frame} {meth : Method} {c : Code} {hh : List (Nat × Nat × Nat × Nat)}
    (B : BodyLoose p l y S cc maxL ret e s m args below meth c s₁) (h : (Cond.codeWith y bytes maxL' ret' hh).before args s = true) : c.exceptionTable.toList = tableOf hh := by
  obtain ⟨m9, meth9, c9, hn9, h1, h2, -, -, h6, -⟩ := Cond.codeWith_spec h
  cases Option.some.inj (hn9.symm.trans B.named)
  cases Option.some.inj (h1.symm.trans B.method)
  cases Option.some.inj (h2.symm.trans (Stand.of_body B).code)
  rw [← h6, table_eq]
end Bodies
end VXA
/-! ===== END ===== -/
/-! ===== BEGIN a static call of a method with an exception table ===== -/
section VXS
variable {p : Program} {l : Launch} {e : Env} {R : Room} {s : State} {m : MethodId} {args : Array Value} {below : List Frame} {meth : Method} {c : Code} {T : State} {H : Heap} {locs : List Loc} {cells slots : Nat}
abbrev vx_CSW (R : Room) (s : State) (args : Array Value) (own : String) (index : Nat) (y : MethodName) (bytes : ByteArray) (maxL : Nat) (ret : Option FieldType) (hh : List (Nat × Nat × Nat × Nat)) (ws : List Cond) (rm : Room) (mc ms n : Nat) : Prop :=
  (rm.cells = mc ∧ rm.slots = ms ∧ rm.frames + 1 ≤ R.frames ∧ 8 + (maxL + 11) + rm.locals ≤ R.locals ∧ (∀ w ∈ ws, ∀ (a' : Array Value) (U : State), s.WarmedH U.vm → w.before a' U = true) ∧ Cond.codeWith y bytes maxL ret hh ∈ ws) ∧
  (Cond.codeWith y bytes maxL ret hh).before args s = true ∧ (Cond.initialized y.cls).before args s = true ∧ (y.cls ≠ "java/lang/invoke/MethodHandle" ∧ y.cls ≠ "java/lang/invoke/VarHandle") ∧
  (∀ sig, parseMethodDescriptor y.desc = some sig → n = sig.parameters.length) ∧ (Cond.methodLink own index y).before args s = true ∧ (Cond.static y).before args s = true
theorem vx_cwSW {own : String} {index maxL mc ms : Nat} {y : MethodName} {bytes : ByteArray} {ret : Option FieldType} {hh : List (Nat × Nat × Nat × Nat)} {Ts ws ws' : List Cond} {rm : Room} (n : Nat) (ht : ∀ w ∈ Ts, w.before args s = true) (hT : GoodIn Ts (va_wsS own index y ws)) (hw : ws = Cond.codeWith y bytes maxL ret hh :: ws') (hrc : rm.cells = mc) (hrs : rm.slots = ms)
    (hd : y.cls ≠ "java/lang/invoke/MethodHandle" ∧ y.cls ≠ "java/lang/invoke/VarHandle" ∧ (parseMethodDescriptor y.desc).map (fun d => d.parameters.length) = some n) (hR : rm.frames + 1 ≤ R.frames ∧ 8 + (maxL + 11) + rm.locals ≤ R.locals) :
    vx_CSW R s args own index y bytes maxL ret hh ws rm mc ms n := by
  have ok : ∀ w ∈ va_wsS own index y ws, w.before args s = true := fun w h => ht w (hT w h).1
  have hG : GoodIn Ts ws := fun w h => hT w (by unfold va_wsS; exact List.mem_append_right _ h)
  have hc : Cond.codeWith y bytes maxL ret hh ∈ ws := by rw [hw]; exact List.mem_cons_self
  refine ⟨⟨hrc, hrs, hR.1, hR.2, pay_in ht hG, hc⟩, ht _ (hG _ hc).1, ok _ (by simp [va_wsS]), ⟨hd.1, hd.2.1⟩, fun sig h => ?_, ok _ (by simp [va_wsS]), ok _ (by simp [va_wsS])⟩
  have h2 := hd.2.2
  rw [h] at h2
  exact (Option.some.inj h2).symm
theorem vx_callSW (X : Stand p l e R s m args below meth c T locs cells slots) (hexec : p.tables.exec = Jvm.exec) {own : String} {index : Nat} {y : MethodName} {bytes : ByteArray} {maxL : Nat} {ret : Option FieldType} {hh : List (Nat × Nat × Nat × Nat)}
    (hown : s.vm.findClass own = some m.cls) (hlink : (Cond.methodLink own index y).before args s = true) (hstat : (Cond.static y).before args s = true) (hinit : (Cond.initialized y.cls).before args s = true)
    (hcode : (Cond.codeWith y bytes maxL ret hh).before args s = true) (hy : y.cls ≠ "java/lang/invoke/MethodHandle" ∧ y.cls ≠ "java/lang/invoke/VarHandle")
    {W9 : Nat} {Pre : Pt → Array Value → Prop} {Post : Pt → Array Value → Option Value → Pt → Prop} (hK : Back l R p e below s args y 3 W9 Pre Post)
    {g : JFrame} (hg : g.method = m) (hsize : g.locals.size = c.maxLocals) {argsL rest : List Value} (hlen : ∀ sig, parseMethodDescriptor y.desc = some sig → argsL.length = sig.parameters.length)
    (hstack : g.stack = argsL.reverse ++ rest) (hW : 2 * g.monitorRoom + (rest.map fun v => v.category).sum ≤ W9) (hdg : decode c.code g.pc = .ok (.invokestatic index, 3))
    (hpre : ∀ vm₁, s.WarmedH vm₁ → Pre ⟨T.setVm vm₁, locs, cells, slots⟩ argsL.toArray) :
    ∃ (v : Option Value) (vm₁ : Vm) (B : Pt), s.WarmedH vm₁ ∧ Stand p l e R s m args below meth c B.U B.locs B.cells B.slots ∧ Post ⟨T.setVm vm₁, locs, cells, slots⟩ argsL.toArray v B ∧
      ∀ target, Steps p.tables e below (B.U.setTop { g with pc := g.pc + 3, stack := v.toList ++ rest }) target → Steps p.tables e below (T.setTop g) target := by
  obtain ⟨mk, methM, cM, hnamed, hmethM, -, -, -, -, -, -, hsigM⟩ := Cond.codeWith_spec hcode
  have hstatic : methM.isStatic = true := Cond.static_spec hnamed hmethM hstat
  obtain ⟨kP, hkP, -⟩ := className_of_methodNamed hnamed
  have hinitP : kP.init = .initialized := Cond.initialized_spec (findClass_of_methodNamed hnamed) hkP hinit
  obtain ⟨vm₁, X₁, hstep₁⟩ := X.invokestatic hexec hown hlink hnamed hmethM hstatic hkP hinitP hy (g := g) hg (argsL := argsL) (rest := rest) (hlen _ hsigM) hstack hdg
  obtain ⟨v, B, X', hpost, hsteps⟩ := hK m meth c ⟨T.setVm vm₁, locs, cells, slots⟩ { g with stack := rest } (.invokestatic index) mk argsL.toArray X₁ hg hsize hdg hW (X₁.named hnamed) (hpre vm₁ X₁.warmed)
  exact ⟨v, vm₁, B, X₁.warmed, X', hpost, fun target h => hstep₁ _ fun acts => by rw [doInvoke_state]; exact hsteps.trans h⟩
theorem vx_runSW {y : MethodName} {bytes cc : ByteArray} {maxL nL mc ms n index : Nat} {ret : Option FieldType} {hh : List (Nat × Nat × Nat × Nat)} {ws : List Cond} {rm : Room} {Pc : Array Value → State → Prop} {Qc : Array Value → State → Outcome → State → Prop} {free : Addr → Prop} {Ts : List Cond} {own : String} {As rest : List Value} {g : JFrame}
    (S : CallFix p m c cc nL s args Ts own) (hM : Met l y ws rm Pc Qc mc ms free) (cw : vx_CSW R s args own index y bytes maxL ret hh ws rm mc ms n) (hp : PreS s H Pc As)
    (hg : g.method = m) (hn : As.length = n) (hsize : g.locals.size = nL) (hstack : g.stack = As.reverse ++ rest) (hW : 2 * g.monitorRoom + (rest.map fun v => v.category).sum ≤ 8) (hdg : decode cc g.pc = .ok (.invokestatic index, 3)) (hf : cells + mc ≤ R.cells ∧ slots + ms ≤ R.slots) :
    va_Run p l e R s m args below meth c H locs cells slots mc ms g rest (Qc As.toArray) (free) := by
  obtain ⟨⟨hrc, hrs, hfr, hlo, hws, hcw⟩, hcode, hini, hy, hlen, hl, hstt⟩ := cw
  have hK : Back l R p e below s args y 3 8 (PreOf R mc ms Pc) (PostOf Qc mc ms free) := va_backW (hh := hh) (bytes := bytes) (maxL := maxL) (ret := ret) hM hp.1 hrc hrs hfr hlo hws hcw (fun a' U hW => word_at hW (Or.inl (by first | rfl | simp [Cond.onTables, Cond.keeps, Cond.steady])) hini)
  obtain ⟨hx, hb, hml, ho, -⟩ := S
  intro T hT X
  obtain ⟨v, vm₁, ⟨U', l2, c2, s2⟩, hW₁, X', ⟨g', mk, t, L, e1, e2, hq, h1, hL, h2, h3⟩, st⟩ := vx_callSW X hx (hh := hh) (bytes := bytes) (maxL := maxL) (ret := ret) ho hl hstt hini hcode hy hK hg (hsize.trans hml.symm) (argsL := As) (rest := rest) (fun sig h => hn.trans (hlen sig h)) hstack hW (by rw [hb]; exact hdg)
    (fun vm₁ hW₁ => ⟨hf.1, hf.2, hp.2 (T.setVm vm₁) hT hW₁⟩)
  dsimp only [Pt.U, Pt.locs, Pt.cells, Pt.slots] at X' e1 e2 h1 h2 h3 st
  subst h1; subst h2; subst h3
  exact ⟨v, (T.setVm vm₁).calling g' mk As.toArray, t, U', L, hT, X', hL, e1, e2, hq, st⟩
/-- not caught here, past rows that name other classes: it goes on to the caller -/
theorem vx_outP {p : Program} {l : Launch} {e : Env} {R : Room} {s : State} {m : MethodId} {args : Array Value} {below : List Frame} {meth : Method} {c : Code} {H : Heap} {locs : List Loc} {cells slots : Nat} {free : Addr → Prop} {ls : Array Slot} {rest : List Value} {Qc : Array Value → State → Outcome → State → Prop} {XC : String → State → State → Prop}
    {pc : Nat} {own E : String} {ce : Cell} {q : Addr} {mc ms : Nat} (hown : s.vm.findClass own = some m.cls) (hlocks : meth.locks = false)
    (hpass : ∀ z ∈ c.exceptionTable.toList, covers z pc = false ∨ (z.catchType ≠ 0 ∧ ∃ nm : String, (Cond.classLink own z.catchType nm).before args s = true ∧ va_Nc E nm s)) (hcell : H[q]? = some ce) (hv : ce.vm = .none) (hcl : s.vm.findClass E = some ce.cls)
    (hx : ∀ t : State, t.heap = H → s.vm.Alike t.vm → XC E s t) (hf : ∀ z ∈ locs, free z.base) (hc : cells ≤ mc) (hs : slots ≤ ms) :
    vx_W p l e R s m args below meth c H locs cells slots (vx_MQ below Qc XC args s mc ms free) (F0 m pc ls rest) q := by
  intro T hT X
  have hpl : e.platform.magicAccessors = ({} : Platform).magicAccessors := by rw [X.admits.platform]
  obtain ⟨vm', hW', X', st⟩ := X.outThrough hlocks q (g := F0 m pc ls rest) rfl rfl rfl (cell := ce) (by rw [hT]; exact hcell) (by rw [hv]; rfl)
    (by obtain ⟨k9, h9, -⟩ := Vm.findClass_spec hcl; exact ⟨k9, h9⟩) (fun z hz => by
      rcases hpass z hz with h | ⟨hz0, nm, hl1, hn1⟩
      · exact Or.inl h
      · obtain ⟨c6, hc6, hcl6⟩ := Cond.classLink_spec hown hl1 e.platform hpl
        obtain ⟨a8, b8, h1, h2, h3⟩ := hn1
        cases Option.some.inj (h1.symm.trans hcl)
        cases Option.some.inj (h2.symm.trans hc6)
        exact Or.inr ⟨hz0, _, hcl6, h3⟩)
  obtain ⟨g₀, hfr⟩ := X'.frames_eq
  have hcell9 : ((T.setVm vm').setFrames (.throwing q :: below)).heap[q]? = some ce := by
    show T.heap[q]? = some ce
    rw [hT]; exact hcell
  have hend : Ended ((T.setVm vm').setFrames (.throwing q :: below)) below (.threw q) := State.frames_setFrames _ (State.cur_lt_of_frames hfr)
  refine ⟨(T.setVm vm').setFrames (.throwing q :: below), ?_, .threw q, X'.here.running, hend, Or.inr ⟨q, rfl, E, ce, locs, hx _ hT (X'.ends _).1.alike, hcell9, hv, hcl, (X'.ends _).1, (X'.ends _).2.mono hc hs, hf⟩⟩
  rw [X.pushThrowing_eq]
  exact st
/-- a thing of a world lies in the heap -/
theorem vx_lt {D : va_G} {cl : List vw_C} {ws : va_W} {H1 : Heap} (h : va_P D cl ws H1) {k : Nat} {q : Nat × va_E} (hk : ws[k]? = some q) : q.1 < H1.size := (h k q hk).lt
end VXS
/-! ===== END ===== -/
/-! ===== BEGIN methods with a table of their own: called by a name, returning or throwing ===== -/
section VXH
/-! vx_backW, vx_callVX, vx_callSX, vx_callVW, vx_runVW, vx_runVX, vx_runSX, vx_ofWH follow the same proofs as their sisters above (Free/Laws.lean, Shelf42/LK1.lean); vx_outP calls Shelf42/NT130.lean (outThrough). -/
section
variable {l : Launch} {R : Room} {p : Program} {e : Env} {below : List Frame} {s : State} {sargs : Array Value} {y : MethodName} {len W9 : Nat}
theorem vx_backW {ws : List Cond} {rm : Room} {Pc : Array Value → State → Prop} {Qc : Array Value → State → Outcome → State → Prop} {XC : String → State → State → Prop} {mc ms : Nat} {free : Addr → Prop} {bytes : ByteArray} {maxL : Nat} {ret : Option FieldType} {hh : List (Nat × Nat × Nat × Nat)}
    (hM : vx_Met l y ws rm Pc Qc XC mc ms free) (hblind : FrameBlind Pc) (hrc : rm.cells = mc) (hrs : rm.slots = ms)
    (hframes : rm.frames + 1 ≤ R.frames) (hlocals : W9 + (maxL + 11) + rm.locals ≤ R.locals)
    (hws : ∀ w ∈ ws, ∀ a' U, s.WarmedH U.vm → w.before a' U = true) (hcode : Cond.codeWith y bytes maxL ret hh ∈ ws) (hinit : ∀ a' U, s.WarmedH U.vm → (Cond.initialized y.cls).before a' U = true) :
    vx_Back l R p e below s sargs y len W9 (PreOf R mc ms Pc) (PostOf Qc mc ms free) (vx_Post XC mc ms free) := by
  intro m meth c A g ig mk a X hg hsize hdg hW hn hp
  have h1 : (headSpec ws rm).pre.before a A.U = true := atoms_intro fun w hw => hws w hw _ _ X.warmed
  have h2 : (Cond.codeWith y bytes maxL ret hh).before a A.U = true := hws _ hcode _ _ X.warmed
  have h3 : (Cond.initialized y.cls).before a A.U = true := hinit _ _ X.warmed
  have h4 : A.cells + (headSpec ws rm).room.cells ≤ R.cells := by rw [show (headSpec ws rm).room.cells = mc from hrc]; exact hp.1
  have h5 : A.slots + (headSpec ws rm).room.slots ≤ R.slots := by rw [show (headSpec ws rm).room.slots = ms from hrs]; exact hp.2.1
  have hPc : Pc a (A.U.calling g mk a) := hblind _ _ _ _ hp.2.2
  obtain ⟨U, Ls, c0, s0⟩ := A
  dsimp only [Pt.U, Pt.locs, Pt.cells, Pt.slots] at h1 h2 h3 h4 h5 X hn hPc ⊢
  obtain ⟨m9, methY, cY, hn9, hmY, hcY, -, hlY, -⟩ := Cond.codeWith_spec h2
  cases Option.some.inj (hn9.symm.trans hn)
  obtain ⟨kY, hkY, -⟩ := className_of_methodNamed hn
  have hinitY : kY.init = .initialized := Cond.initialized_spec (findClass_of_methodNamed hn) hkY h3
  have h : At U g.method c below := by rw [hg]; exact X.here
  have hlocals9 : W9 + (maxL + 11) + (headSpec ws rm).room.locals ≤ R.locals := hlocals
  have happ : (headSpec ws rm).appliesLoose y e.platform (U.calling g mk a) = true :=
    Spec.appliesLoose_calling (g := g) h hdg hn hkY hinitY
      (X.room_calling (g := g) (R' := (headSpec ws rm).room) hsize hmY hcY hframes (by rw [hlY]; omega) h4 h5) h1
  obtain ⟨mid, hmid⟩ := h.above
  have hfr : (U.setTop g).frames = (.java g :: mid) ++ below := by rw [State.frames_setTop' g h.top, hmid]; rfl
  obtain ⟨o, s₂, hsteps, -, hend, hq⟩ := Steps.callFree hM p X.admits X.cas X.clock (acts := []) hfr happ hPc trivial
  have hq' : vx_Q Qc XC mc ms free a (U.calling g mk a) o s₂ := hq
  rw [State.frames_setTop' g h.top] at hend
  obtain ⟨g₀, hg0⟩ := Option.isSome_iff_exists.mp h.top
  obtain ⟨r, hr⟩ := State.topJava?_eq_some.mp hg0
  have hr' : (({ U with heap := s₂.heap, slotsUsed := s₂.slotsUsed } : State).setVm s₂.vm).frames = .java g₀ :: r := hr
  rcases hq' with ⟨hqc, L, hfe, hL⟩ | ⟨q, rfl, E, ce, L, hx, hce, hcv, hcl, hW₂, hsm, hL⟩
  · obtain ⟨⟨v, rfl⟩, hW₂, e2, q2, q3, q4, q5, q6⟩ := id hfe
    have e3 : s₂ = ({ (U.calling g mk a).setFrames s₂.frames with heap := s₂.heap, slotsUsed := s₂.slotsUsed } : State).setVm s₂.vm := by
      have : s₂ = ({ s₂ with vm := (U.calling g mk a).vm } : State).setVm s₂.vm := rfl
      rw [e2] at this
      exact this
    obtain ⟨c₂, i₂, len₂, hc₂, hd₂, hf₂⟩ := hend
    have hW' : U.WarmedH s₂.vm := hW₂
    have hcc : c₂ = c := by
      have h1 : s₂.code? g.method = U.code? g.method := by
        rw [State.code?_eq, State.code?_eq, hW'.alike.method?]
      exact Option.some.inj (hc₂.symm.trans (h1.trans h.code))
    subst hcc
    have hlen : len₂ = len := by rw [hdg] at hd₂; cases hd₂; rfl
    subst hlen
    have hs₂ : s₂ = (({ U with heap := s₂.heap, slotsUsed := s₂.slotsUsed } : State).setVm s₂.vm).setTop { g with pc := g.pc + len₂, stack := v.toList ++ g.stack } := by
      refine e3.trans ?_
      rw [hf₂, State.calling_eq h.top, State.setFrames_setFrames, State.setTop_of_frames _ hr', hr]
      rfl
    have hsame : U.sameButNew ({ U with heap := s₂.heap, slotsUsed := s₂.slotsUsed } : State) L mc ms := by
      refine ⟨?_, q2, q3, q4, q5, q6⟩
      obtain ⟨t, ht, -⟩ := State.frames_cons hr
      show ({ U with heap := s₂.heap, slotsUsed := s₂.slotsUsed } : State) = { U.setFrames U.frames with heap := s₂.heap, slotsUsed := s₂.slotsUsed }
      rw [State.setFrames_self ht]
    subst hg
    refine Or.inl ⟨v, ⟨(({ U with heap := s₂.heap, slotsUsed := s₂.slotsUsed } : State).setVm s₂.vm), Ls ++ L, c0 + mc, s0 + ms⟩,
      ⟨X.admits, X.cas, X.clock, X.frames, X.room, X.hears, X.method, X.code, (X.here.setHeapUsed s₂.heap s₂.slotsUsed).setVm hW'.alike, X.tail, State.WarmedH.trans X.warmed hW', X.limits, X.bytes, X.same.trans (hsame.setVm s.vm)⟩,
      ⟨g, mk, s₂, L, rfl, rfl, hqc, rfl, hL, rfl, rfl⟩, ?_⟩
    show Steps p.tables e below _ ((({ U with heap := s₂.heap, slotsUsed := s₂.slotsUsed } : State).setVm s₂.vm).setTop { g with pc := g.pc + len₂, stack := v.toList ++ g.stack })
    rw [← hs₂]
    exact hsteps
  · obtain ⟨e2, q2, q3, q4, q5, q6⟩ := id hsm
    have e3 : s₂ = ({ (U.calling g mk a).setFrames s₂.frames with heap := s₂.heap, slotsUsed := s₂.slotsUsed } : State).setVm s₂.vm := by
      have : s₂ = ({ s₂ with vm := (U.calling g mk a).vm } : State).setVm s₂.vm := rfl
      rw [e2] at this
      exact this
    have hf₂ : s₂.frames = .throwing q :: .java g :: U.frames.tail := hend
    have hW' : U.WarmedH s₂.vm := hW₂
    have hs₂ : s₂ = ((({ U with heap := s₂.heap, slotsUsed := s₂.slotsUsed } : State).setVm s₂.vm).setTop g).pushFrame (.throwing q) := by
      refine e3.trans ?_
      rw [hf₂, State.calling_eq h.top, State.setFrames_setFrames, State.pushFrame, State.frames_setTop _ hr', State.setTop_of_frames _ hr', State.setFrames_setFrames, hr]
      rfl
    have hsame : U.sameButNew ({ U with heap := s₂.heap, slotsUsed := s₂.slotsUsed } : State) L mc ms := by
      refine ⟨?_, q2, q3, q4, q5, q6⟩
      obtain ⟨t, ht, -⟩ := State.frames_cons hr
      show ({ U with heap := s₂.heap, slotsUsed := s₂.slotsUsed } : State) = { U.setFrames U.frames with heap := s₂.heap, slotsUsed := s₂.slotsUsed }
      rw [State.setFrames_self ht]
    subst hg
    refine Or.inr ⟨q, ⟨(({ U with heap := s₂.heap, slotsUsed := s₂.slotsUsed } : State).setVm s₂.vm), Ls ++ L, c0 + mc, s0 + ms⟩,
      ⟨X.admits, X.cas, X.clock, X.frames, X.room, X.hears, X.method, X.code, (X.here.setHeapUsed s₂.heap s₂.slotsUsed).setVm hW'.alike, X.tail, State.WarmedH.trans X.warmed hW', X.limits, X.bytes, X.same.trans (hsame.setVm s.vm)⟩,
      ⟨g, mk, s₂, L, E, ce, rfl, rfl, hx, hce, hcv, hcl, rfl, hL, rfl, rfl⟩, ?_⟩
    show Steps p.tables e below _ (((({ U with heap := s₂.heap, slotsUsed := s₂.slotsUsed } : State).setVm s₂.vm).setTop g).pushFrame (.throwing q))
    rw [← hs₂]
    exact hsteps
end
variable {p : Program} {l : Launch} {e : Env} {R : Room} {s : State} {m : MethodId} {args : Array Value} {below : List Frame} {meth : Method} {c : Code} {T : State} {H : Heap} {locs : List Loc} {cells slots : Nat}
theorem vx_callVX (X : Stand p l e R s m args below meth c T locs cells slots) (hexec : p.tables.exec = Jvm.exec) {own C : String} {index : Nat} {y : MethodName} {bytes : ByteArray} {maxL : Nat} {ret : Option FieldType} {hh : List (Nat × Nat × Nat × Nat)}
    (hown : s.vm.findClass own = some m.cls) (hlink : (Cond.methodLink own index y).before args s = true) (hinst : (Cond.instanceMethod y).before args s = true) (hsel : (Cond.selects C y y).before args s = true)
    (hcode : (Cond.codeWith y bytes maxL ret hh).before args s = true) (hy : y.cls ≠ "java/lang/invoke/MethodHandle" ∧ y.cls ≠ "java/lang/invoke/VarHandle")
    {W9 : Nat} {Pre : Pt → Array Value → Prop} {Post : Pt → Array Value → Option Value → Pt → Prop} {PostX : Pt → Array Value → Addr → Pt → Prop} (hK : vx_Back l R p e below s args y 3 W9 Pre Post PostX)
    {b : Addr} {cellB : Cell} (hcell : T.heap[b]? = some cellB) (hobj : cellB.vm.isStatics = false) (hcls : s.vm.findClass C = some cellB.cls)
    {g : JFrame} (hg : g.method = m) (hsize : g.locals.size = c.maxLocals) {argsL rest : List Value} (hlen : ∀ sig, parseMethodDescriptor y.desc = some sig → argsL.length = sig.parameters.length)
    (hstack : g.stack = argsL.reverse ++ .ref b :: rest) (hW : 2 * g.monitorRoom + (rest.map fun v => v.category).sum ≤ W9) (hdg : decode c.code g.pc = .ok (.invokevirtual index, 3))
    (hpre : ∀ vm₁, s.WarmedH vm₁ → Pre ⟨T.setVm vm₁, locs, cells, slots⟩ (Value.ref b :: argsL).toArray) :
    (∃ (v : Option Value) (vm₁ : Vm) (B : Pt), s.WarmedH vm₁ ∧ Stand p l e R s m args below meth c B.U B.locs B.cells B.slots ∧ Post ⟨T.setVm vm₁, locs, cells, slots⟩ (Value.ref b :: argsL).toArray v B ∧
      ∀ target, Steps p.tables e below (B.U.setTop { g with pc := g.pc + 3, stack := v.toList ++ rest }) target → Steps p.tables e below (T.setTop g) target) ∨
    (∃ (q : Addr) (vm₁ : Vm) (B : Pt), s.WarmedH vm₁ ∧ Stand p l e R s m args below meth c B.U B.locs B.cells B.slots ∧ PostX ⟨T.setVm vm₁, locs, cells, slots⟩ (Value.ref b :: argsL).toArray q B ∧
      Steps p.tables e below (T.setTop g) ((B.U.setTop { g with stack := rest }).pushFrame (.throwing q))) := by
  obtain ⟨mk, methM, hnamed, hmethM, hstM, habM⟩ := Cond.instanceMethod_spec hinst
  obtain ⟨m8, methM', cM, hn8, hmethM', -, -, -, -, -, -, hsigM⟩ := Cond.codeWith_spec hcode
  cases Option.some.inj (hn8.symm.trans hnamed)
  cases hmethM.symm.trans hmethM'
  obtain ⟨c2, r2, m2, q1, q2, q3, q4, kP, hkP, hkPi⟩ := Cond.selects_spec hsel
  cases hcls.symm.trans q1
  cases (State.methodFound?_of_named hnamed hy).symm.trans q2
  cases hnamed.symm.trans q3
  have hselP : selectMethod e.platform s.vm cellB.cls mk = .method mk := by rw [Launch.admits_selectMethod X.admits]; exact q4
  obtain ⟨vm₁, X₁, hstep₁⟩ := X.invokevirtual hexec hown hlink hnamed hmethM hstM hkP hkPi hy (a := b) (cell := cellB) hcell
    (fun z h => by rw [h] at hobj; cases hobj) hselP hmethM habM hkP hkPi (g := g) hg (argsL := argsL) (rest := rest) (hlen _ hsigM) hstack hdg
  rcases hK m meth c ⟨T.setVm vm₁, locs, cells, slots⟩ { g with stack := rest } (.invokevirtual index) mk (Value.ref b :: argsL).toArray X₁ hg hsize hdg hW (X₁.named hnamed) (hpre vm₁ X₁.warmed) with ⟨v, B, X', hpost, hsteps⟩ | ⟨q, B, X', hpost, hsteps⟩
  · exact Or.inl ⟨v, vm₁, B, X₁.warmed, X', hpost, fun target h => hstep₁ _ fun acts => by rw [doInvoke_state]; exact hsteps.trans h⟩
  · exact Or.inr ⟨q, vm₁, B, X₁.warmed, X', hpost, hstep₁ _ fun acts => by rw [doInvoke_state]; exact hsteps⟩
theorem vx_callSX (X : Stand p l e R s m args below meth c T locs cells slots) (hexec : p.tables.exec = Jvm.exec) {own : String} {index : Nat} {y : MethodName} {bytes : ByteArray} {maxL : Nat} {ret : Option FieldType} {hh : List (Nat × Nat × Nat × Nat)}
    (hown : s.vm.findClass own = some m.cls) (hlink : (Cond.methodLink own index y).before args s = true) (hstat : (Cond.static y).before args s = true) (hinit : (Cond.initialized y.cls).before args s = true)
    (hcode : (Cond.codeWith y bytes maxL ret hh).before args s = true) (hy : y.cls ≠ "java/lang/invoke/MethodHandle" ∧ y.cls ≠ "java/lang/invoke/VarHandle")
    {W9 : Nat} {Pre : Pt → Array Value → Prop} {Post : Pt → Array Value → Option Value → Pt → Prop} {PostX : Pt → Array Value → Addr → Pt → Prop} (hK : vx_Back l R p e below s args y 3 W9 Pre Post PostX)
    {g : JFrame} (hg : g.method = m) (hsize : g.locals.size = c.maxLocals) {argsL rest : List Value} (hlen : ∀ sig, parseMethodDescriptor y.desc = some sig → argsL.length = sig.parameters.length)
    (hstack : g.stack = argsL.reverse ++ rest) (hW : 2 * g.monitorRoom + (rest.map fun v => v.category).sum ≤ W9) (hdg : decode c.code g.pc = .ok (.invokestatic index, 3))
    (hpre : ∀ vm₁, s.WarmedH vm₁ → Pre ⟨T.setVm vm₁, locs, cells, slots⟩ argsL.toArray) :
    (∃ (v : Option Value) (vm₁ : Vm) (B : Pt), s.WarmedH vm₁ ∧ Stand p l e R s m args below meth c B.U B.locs B.cells B.slots ∧ Post ⟨T.setVm vm₁, locs, cells, slots⟩ argsL.toArray v B ∧
      ∀ target, Steps p.tables e below (B.U.setTop { g with pc := g.pc + 3, stack := v.toList ++ rest }) target → Steps p.tables e below (T.setTop g) target) ∨
    (∃ (q : Addr) (vm₁ : Vm) (B : Pt), s.WarmedH vm₁ ∧ Stand p l e R s m args below meth c B.U B.locs B.cells B.slots ∧ PostX ⟨T.setVm vm₁, locs, cells, slots⟩ argsL.toArray q B ∧
      Steps p.tables e below (T.setTop g) ((B.U.setTop { g with stack := rest }).pushFrame (.throwing q))) := by
  obtain ⟨mk, methM, cM, hnamed, hmethM, -, -, -, -, -, -, hsigM⟩ := Cond.codeWith_spec hcode
  have hstatic : methM.isStatic = true := Cond.static_spec hnamed hmethM hstat
  obtain ⟨kP, hkP, -⟩ := className_of_methodNamed hnamed
  have hinitP : kP.init = .initialized := Cond.initialized_spec (findClass_of_methodNamed hnamed) hkP hinit
  obtain ⟨vm₁, X₁, hstep₁⟩ := X.invokestatic hexec hown hlink hnamed hmethM hstatic hkP hinitP hy (g := g) hg (argsL := argsL) (rest := rest) (hlen _ hsigM) hstack hdg
  rcases hK m meth c ⟨T.setVm vm₁, locs, cells, slots⟩ { g with stack := rest } (.invokestatic index) mk argsL.toArray X₁ hg hsize hdg hW (X₁.named hnamed) (hpre vm₁ X₁.warmed) with ⟨v, B, X', hpost, hsteps⟩ | ⟨q, B, X', hpost, hsteps⟩
  · exact Or.inl ⟨v, vm₁, B, X₁.warmed, X', hpost, fun target h => hstep₁ _ fun acts => by rw [doInvoke_state]; exact hsteps.trans h⟩
  · exact Or.inr ⟨q, vm₁, B, X₁.warmed, X', hpost, hstep₁ _ fun acts => by rw [doInvoke_state]; exact hsteps⟩
theorem vx_callVW (X : Stand p l e R s m args below meth c T locs cells slots) (hexec : p.tables.exec = Jvm.exec) {own C : String} {index : Nat} {y : MethodName} {bytes : ByteArray} {maxL : Nat} {ret : Option FieldType} {hh : List (Nat × Nat × Nat × Nat)}
    (hown : s.vm.findClass own = some m.cls) (hlink : (Cond.methodLink own index y).before args s = true) (hinst : (Cond.instanceMethod y).before args s = true) (hsel : (Cond.selects C y y).before args s = true)
    (hcode : (Cond.codeWith y bytes maxL ret hh).before args s = true) (hy : y.cls ≠ "java/lang/invoke/MethodHandle" ∧ y.cls ≠ "java/lang/invoke/VarHandle")
    {W9 : Nat} {Pre : Pt → Array Value → Prop} {Post : Pt → Array Value → Option Value → Pt → Prop} (hK : Back l R p e below s args y 3 W9 Pre Post)
    {b : Addr} {cellB : Cell} (hcell : T.heap[b]? = some cellB) (hobj : cellB.vm.isStatics = false) (hcls : s.vm.findClass C = some cellB.cls)
    {g : JFrame} (hg : g.method = m) (hsize : g.locals.size = c.maxLocals) {argsL rest : List Value} (hlen : ∀ sig, parseMethodDescriptor y.desc = some sig → argsL.length = sig.parameters.length)
    (hstack : g.stack = argsL.reverse ++ .ref b :: rest) (hW : 2 * g.monitorRoom + (rest.map fun v => v.category).sum ≤ W9) (hdg : decode c.code g.pc = .ok (.invokevirtual index, 3))
    (hpre : ∀ vm₁, s.WarmedH vm₁ → Pre ⟨T.setVm vm₁, locs, cells, slots⟩ (Value.ref b :: argsL).toArray) :
    ∃ (v : Option Value) (vm₁ : Vm) (B : Pt), s.WarmedH vm₁ ∧ Stand p l e R s m args below meth c B.U B.locs B.cells B.slots ∧ Post ⟨T.setVm vm₁, locs, cells, slots⟩ (Value.ref b :: argsL).toArray v B ∧
      ∀ target, Steps p.tables e below (B.U.setTop { g with pc := g.pc + 3, stack := v.toList ++ rest }) target → Steps p.tables e below (T.setTop g) target := by
  obtain ⟨mk, methM, hnamed, hmethM, hstM, habM⟩ := Cond.instanceMethod_spec hinst
  obtain ⟨m8, methM', cM, hn8, hmethM', -, -, -, -, -, -, hsigM⟩ := Cond.codeWith_spec hcode
  cases Option.some.inj (hn8.symm.trans hnamed)
  cases hmethM.symm.trans hmethM'
  obtain ⟨c2, r2, m2, q1, q2, q3, q4, kP, hkP, hkPi⟩ := Cond.selects_spec hsel
  cases hcls.symm.trans q1
  cases (State.methodFound?_of_named hnamed hy).symm.trans q2
  cases hnamed.symm.trans q3
  have hselP : selectMethod e.platform s.vm cellB.cls mk = .method mk := by rw [Launch.admits_selectMethod X.admits]; exact q4
  obtain ⟨vm₁, X₁, hstep₁⟩ := X.invokevirtual hexec hown hlink hnamed hmethM hstM hkP hkPi hy (a := b) (cell := cellB) hcell
    (fun z h => by rw [h] at hobj; cases hobj) hselP hmethM habM hkP hkPi (g := g) hg (argsL := argsL) (rest := rest) (hlen _ hsigM) hstack hdg
  obtain ⟨v, B, X', hpost, hsteps⟩ := hK m meth c ⟨T.setVm vm₁, locs, cells, slots⟩ { g with stack := rest } (.invokevirtual index) mk (Value.ref b :: argsL).toArray X₁ hg hsize hdg hW (X₁.named hnamed) (hpre vm₁ X₁.warmed)
  exact ⟨v, vm₁, B, X₁.warmed, X', hpost, fun target h => hstep₁ _ fun acts => by rw [doInvoke_state]; exact hsteps.trans h⟩
abbrev vx_CVW (R : Room) (s : State) (args : Array Value) (own C : String) (index : Nat) (y : MethodName) (bytes : ByteArray) (maxL : Nat) (ret : Option FieldType) (hh : List (Nat × Nat × Nat × Nat)) (ws : List Cond) (rm : Room) (mc ms n : Nat) : Prop :=
  (rm.cells = mc ∧ rm.slots = ms ∧ rm.frames + 1 ≤ R.frames ∧ 8 + (maxL + 11) + rm.locals ≤ R.locals ∧ (∀ w ∈ ws, ∀ (a' : Array Value) (U : State), s.WarmedH U.vm → w.before a' U = true) ∧ Cond.codeWith y bytes maxL ret hh ∈ ws) ∧
  (Cond.codeWith y bytes maxL ret hh).before args s = true ∧ (Cond.initialized y.cls).before args s = true ∧ (y.cls ≠ "java/lang/invoke/MethodHandle" ∧ y.cls ≠ "java/lang/invoke/VarHandle") ∧
  (∀ sig, parseMethodDescriptor y.desc = some sig → n = sig.parameters.length) ∧ (Cond.methodLink own index y).before args s = true ∧ (Cond.instanceMethod y).before args s = true ∧ (Cond.selects C y y).before args s = true
theorem vx_cwVW {own C : String} {index maxL mc ms : Nat} {y : MethodName} {bytes : ByteArray} {ret : Option FieldType} {hh : List (Nat × Nat × Nat × Nat)} {Ts ws ws' : List Cond} {rm : Room} (n : Nat) (ht : ∀ w ∈ Ts, w.before args s = true) (hT : GoodIn Ts (wsV own index C y ws)) (hw : ws = Cond.codeWith y bytes maxL ret hh :: ws') (hrc : rm.cells = mc) (hrs : rm.slots = ms)
    (hd : y.cls = C ∧ y.cls ≠ "java/lang/invoke/MethodHandle" ∧ y.cls ≠ "java/lang/invoke/VarHandle" ∧ (parseMethodDescriptor y.desc).map (fun d => d.parameters.length) = some n) (hR : rm.frames + 1 ≤ R.frames ∧ 8 + (maxL + 11) + rm.locals ≤ R.locals) :
    vx_CVW R s args own C index y bytes maxL ret hh ws rm mc ms n := by
  obtain ⟨hC, hd⟩ := hd
  subst hC
  have ok : ∀ w ∈ wsV own index y.cls y ws, w.before args s = true := fun w h => ht w (hT w h).1
  have hG : GoodIn Ts ws := fun w h => hT w (by unfold wsV; exact List.mem_append_right _ h)
  have hc : Cond.codeWith y bytes maxL ret hh ∈ ws := by rw [hw]; exact List.mem_cons_self
  refine ⟨⟨hrc, hrs, hR.1, hR.2, pay_in ht hG, hc⟩, ht _ (hG _ hc).1, ok _ (by simp [wsV]), ⟨hd.1, hd.2.1⟩, fun sig h => ?_, ok _ (by simp [wsV]), ok _ (by simp [wsV]), ok _ (by simp [wsV])⟩
  have h2 := hd.2.2
  rw [h] at h2
  exact (Option.some.inj h2).symm
theorem vx_runVW {y : MethodName} {bytes cc : ByteArray} {maxL nL mc ms n index : Nat} {ret : Option FieldType} {hh : List (Nat × Nat × Nat × Nat)} {ws : List Cond} {rm : Room} {Pc : Array Value → State → Prop} {Qc : Array Value → State → Outcome → State → Prop} {free : Addr → Prop} {Ts : List Cond} {own C : String} {b : Addr} {As rest : List Value} {g : JFrame}
    (S : CallFix p m c cc nL s args Ts own) (hM : Met l y ws rm Pc Qc mc ms free) (cw : vx_CVW R s args own C index y bytes maxL ret hh ws rm mc ms n) (hp : PreV s H C b Pc As)
    (hg : g.method = m) (hn : As.length = n) (hsize : g.locals.size = nL) (hstack : g.stack = As.reverse ++ .ref b :: rest) (hW : 2 * g.monitorRoom + (rest.map fun v => v.category).sum ≤ 8) (hdg : decode cc g.pc = .ok (.invokevirtual index, 3)) (hf : cells + mc ≤ R.cells ∧ slots + ms ≤ R.slots) :
    va_Run p l e R s m args below meth c H locs cells slots mc ms g rest (Qc (Value.ref b :: As).toArray) free := by
  obtain ⟨⟨hrc, hrs, hfr, hlo, hws, hcw⟩, hcode, hini, hy, hlen, hl, hin, hse⟩ := cw
  have hK : Back l R p e below s args y 3 8 (PreOf R mc ms Pc) (PostOf Qc mc ms free) := va_backW (hh := hh) (bytes := bytes) (maxL := maxL) (ret := ret) hM hp.1 hrc hrs hfr hlo hws hcw (fun a' U hW => word_at hW (Or.inl (by first | rfl | simp [Cond.onTables, Cond.keeps, Cond.steady])) hini)
  obtain ⟨hx, hb, hml, ho, -⟩ := S
  obtain ⟨-, ⟨cellB, hcB, hoB, hclB⟩, hPc⟩ := hp
  intro T hT X
  obtain ⟨v, vm₁, ⟨U', l2, c2, s2⟩, hW₁, X', ⟨g', mk, t, L, e1, e2, hq, h1, hL, h2, h3⟩, st⟩ := vx_callVW X hx (C := C) (hh := hh) (bytes := bytes) (maxL := maxL) (ret := ret) ho hl hin hse hcode hy hK (by rw [hT]; exact hcB) hoB hclB hg (hsize.trans hml.symm) (argsL := As) (rest := rest) (fun sig h => hn.trans (hlen sig h)) hstack hW (by rw [hb]; exact hdg)
    (fun vm₁ hW₁ => ⟨hf.1, hf.2, hPc (T.setVm vm₁) hT hW₁⟩)
  dsimp only [Pt.U, Pt.locs, Pt.cells, Pt.slots] at X' e1 e2 h1 h2 h3 st
  subst h1; subst h2; subst h3
  exact ⟨v, (T.setVm vm₁).calling g' mk (Value.ref b :: As).toArray, t, U', L, hT, X', hL, e1, e2, hq, st⟩
section
variable {y : MethodName} {bytes cc : ByteArray} {maxL nL mc ms n index : Nat} {ret : Option FieldType} {ws : List Cond} {rm : Room} {Pc : Array Value → State → Prop} {Qc : Array Value → State → Outcome → State → Prop} {XC : String → State → State → Prop} {free : Addr → Prop} {Ts : List Cond} {own C : String} {b : Addr} {As rest : List Value} {g : JFrame}
theorem vx_runVX {hh : List (Nat × Nat × Nat × Nat)} (S : CallFix p m c cc nL s args Ts own) (hM : vx_Met l y ws rm Pc Qc XC mc ms free) (cw : vx_CVW R s args own C index y bytes maxL ret hh ws rm mc ms n) (hp : PreV s H C b Pc As)
    (hg : g.method = m) (hn : As.length = n) (hsize : g.locals.size = nL) (hstack : g.stack = As.reverse ++ .ref b :: rest) (hW : 2 * g.monitorRoom + (rest.map fun v => v.category).sum ≤ 8) (hdg : decode cc g.pc = .ok (.invokevirtual index, 3)) (hf : cells + mc ≤ R.cells ∧ slots + ms ≤ R.slots) :
    vx_Run p l e R s m args below meth c H locs cells slots mc ms g rest (Qc (Value.ref b :: As).toArray) XC free := by
  obtain ⟨⟨hrc, hrs, hfr, hlo, hws, hcw⟩, hcode, hini, hy, hlen, hl, hin, hse⟩ := cw
  have hK : vx_Back l R p e below s args y 3 8 (PreOf R mc ms Pc) (PostOf Qc mc ms free) (vx_Post XC mc ms free) := vx_backW (hh := hh) (bytes := bytes) (maxL := maxL) (ret := ret) hM hp.1 hrc hrs hfr hlo hws hcw (fun a' U hW => word_at hW (Or.inl (by first | rfl | simp [Cond.onTables, Cond.keeps, Cond.steady])) hini)
  obtain ⟨hx, hb, hml, ho, -⟩ := S
  obtain ⟨-, ⟨cellB, hcB, hoB, hclB⟩, hPc⟩ := hp
  intro T hT X
  rcases vx_callVX X hx (C := C) (hh := hh) (bytes := bytes) (maxL := maxL) (ret := ret) ho hl hin hse hcode hy hK (by rw [hT]; exact hcB) hoB hclB hg (hsize.trans hml.symm) (argsL := As) (rest := rest) (fun sig h => hn.trans (hlen sig h)) hstack hW (by rw [hb]; exact hdg)
    (fun vm₁ hW₁ => ⟨hf.1, hf.2, hPc (T.setVm vm₁) hT hW₁⟩) with ⟨v, vm₁, ⟨U', l2, c2, s2⟩, hW₁, X', ⟨g', mk, t, L, e1, e2, hq, h1, hL, h2, h3⟩, st⟩ | ⟨q, vm₁, ⟨U', l2, c2, s2⟩, hW₁, X', ⟨g', mk, t, L, E, ce, e1, e2, hq, hce, hcv, hcl, h1, hL, h2, h3⟩, st⟩
  · dsimp only [Pt.U, Pt.locs, Pt.cells, Pt.slots] at X' e1 e2 h1 h2 h3 st
    subst h1; subst h2; subst h3
    exact Or.inl ⟨v, (T.setVm vm₁).calling g' mk (Value.ref b :: As).toArray, t, U', L, hT, X', hL, e1, e2, hq, st⟩
  · dsimp only [Pt.U, Pt.locs, Pt.cells, Pt.slots] at X' e1 e2 h1 h2 h3 st hcl
    subst h1; subst h2; subst h3
    exact Or.inr ⟨q, (T.setVm vm₁).calling g' mk (Value.ref b :: As).toArray, t, U', L, E, ce, hT, X', hL, e1, e2, hq, hce, hcv, vx_cls hW₁ hcl, st⟩
theorem vx_runSX {hh : List (Nat × Nat × Nat × Nat)} (S : CallFix p m c cc nL s args Ts own) (hM : vx_Met l y ws rm Pc Qc XC mc ms free) (cw : vx_CSW R s args own index y bytes maxL ret hh ws rm mc ms n) (hp : PreS s H Pc As)
    (hg : g.method = m) (hn : As.length = n) (hsize : g.locals.size = nL) (hstack : g.stack = As.reverse ++ rest) (hW : 2 * g.monitorRoom + (rest.map fun v => v.category).sum ≤ 8) (hdg : decode cc g.pc = .ok (.invokestatic index, 3)) (hf : cells + mc ≤ R.cells ∧ slots + ms ≤ R.slots) :
    vx_Run p l e R s m args below meth c H locs cells slots mc ms g rest (Qc As.toArray) XC free := by
  obtain ⟨⟨hrc, hrs, hfr, hlo, hws, hcw⟩, hcode, hini, hy, hlen, hl, hstt⟩ := cw
  have hK : vx_Back l R p e below s args y 3 8 (PreOf R mc ms Pc) (PostOf Qc mc ms free) (vx_Post XC mc ms free) := vx_backW (hh := hh) (bytes := bytes) (maxL := maxL) (ret := ret) hM hp.1 hrc hrs hfr hlo hws hcw (fun a' U hW => word_at hW (Or.inl (by first | rfl | simp [Cond.onTables, Cond.keeps, Cond.steady])) hini)
  obtain ⟨hx, hb, hml, ho, -⟩ := S
  intro T hT X
  rcases vx_callSX X hx (hh := hh) (bytes := bytes) (maxL := maxL) (ret := ret) ho hl hstt hini hcode hy hK hg (hsize.trans hml.symm) (argsL := As) (rest := rest) (fun sig h => hn.trans (hlen sig h)) hstack hW (by rw [hb]; exact hdg)
    (fun vm₁ hW₁ => ⟨hf.1, hf.2, hp.2 (T.setVm vm₁) hT hW₁⟩) with ⟨v, vm₁, ⟨U', l2, c2, s2⟩, hW₁, X', ⟨g', mk, t, L, e1, e2, hq, h1, hL, h2, h3⟩, st⟩ | ⟨q, vm₁, ⟨U', l2, c2, s2⟩, hW₁, X', ⟨g', mk, t, L, E, ce, e1, e2, hq, hce, hcv, hcl, h1, hL, h2, h3⟩, st⟩
  · dsimp only [Pt.U, Pt.locs, Pt.cells, Pt.slots] at X' e1 e2 h1 h2 h3 st
    subst h1; subst h2; subst h3
    exact Or.inl ⟨v, (T.setVm vm₁).calling g' mk As.toArray, t, U', L, hT, X', hL, e1, e2, hq, st⟩
  · dsimp only [Pt.U, Pt.locs, Pt.cells, Pt.slots] at X' e1 e2 h1 h2 h3 st hcl
    subst h1; subst h2; subst h3
    exact Or.inr ⟨q, (T.setVm vm₁).calling g' mk As.toArray, t, U', L, E, ce, hT, X', hL, e1, e2, hq, hce, hcv, vx_cls hW₁ hcl, st⟩
end
end VXH
theorem vx_ofWH {l : Launch} {y : MethodName} {ws ws' : List Cond} {rm : Room} {Pc : Array Value → State → Prop} {Qc : Array Value → State → Outcome → State → Prop} {XC : String → State → State → Prop} {mc ms : Nat} {free : Addr → Prop} {cc : ByteArray} {maxL : Nat} {ret : Option FieldType} {hh : List (Nat × Nat × Nat × Nat)}
    (hy : plainName y.cls = true) (hw : ws = Cond.codeWith y cc maxL ret hh :: ws')
    (body : ∀ p e s m args below meth c s₁, BodyLoose p l y (headSpec ws rm) cc maxL ret e s m args below meth c s₁ → c.maxLocals = maxL → Pc args s →
      W p l e (headSpec ws rm).room s m args below meth c s.heap [] 0 0 (vx_MQ below Qc XC args s mc ms free) (entryFrame m args maxL)) : vx_Met l y ws rm Pc Qc XC mc ms free := by
  refine MetFree.of_bodyS (code := cc) (maxLocals := maxL) (ret := ret) hy ?_ ?_
  · intro args s m h hn
    obtain ⟨m9, meth, c, hn9, h1, h2, h3, h4, -, h5, h6, -⟩ := Cond.codeWith_spec (atoms_spec (ws := ws) h _ (by rw [hw]; exact List.mem_cons_self))
    cases hn.symm.trans hn9
    exact ⟨meth, c, h1, h2, h3, h4, h5, h6⟩
  · intro p e s m args below meth c s₁ B hml hP _
    have hh0 : s₁.heap = s.heap := by rw [B.state]; rfl
    obtain ⟨t, a1, o, b1, b2, b3⟩ := body p e s m args below meth c s₁ B hml hP s₁ hh0 (Stand.of_body B)
    exact ⟨t, o, a1, b1, b2, b3⟩
/-! ===== END ===== -/
end
section
/-! ===== a body's judgement over ONE heap of cells, by their places: pm_Ev; a method's contract: pm_En ===== -/
/-- a method: name, bytes, locals, answer's type, table of handlers, frames and words that it needs below -/
abbrev pm_M : Type := MethodName × ByteArray × Nat × Option FieldType × List (Nat × Nat × Nat × Nat) × Nat × Nat
abbrev pm_H : Type := List va_E
/-- an answer, or the class of what is thrown -/
abbrev pm_O : Type := Option Value ⊕ String
/-- where things lie: the first new address, the classes, the array classes by their kinds, old cells by numbers (0: the script), the script -/
abbrev pm_G : Type := Nat × va_G × (Nat → ClassId) × (Nat → Nat) × Nat × (Nat → Int32)
def pm_A (G : pm_G) : Nat → Prop := fun q => G.1 ≤ q
def pm_rv (G : pm_G) : Value → Value
  | .ref k => .ref (G.1 + k)
  | .retAddr j => .ref (G.2.2.2.1 j)
  | v => v
def pm_re (G : pm_G) : va_E → va_E
  | .inr o => .inr (o.1, o.2.map (pm_rv G))
  | .inl (kd, n, .inr (.inr (.inr (.inr f)))) => .inl (G.2.2.1 kd, n, .inr (.inr (.inr (.inr fun j => (f j).map fun k => G.1 + k))))
  | .inl (kd, n, .inr (.inr (.inr (.inl f)))) => .inl (G.2.2.1 kd, n, .inr (.inr (.inr (.inl f))))
  | .inl (kd, n, .inr (.inr (.inl f))) => .inl (G.2.2.1 kd, n, .inr (.inr (.inl f)))
  | .inl (kd, n, .inr (.inl f)) => .inl (G.2.2.1 kd, n, .inr (.inl f))
  | .inl (kd, n, .inl f) => .inl (G.2.2.1 kd, n, .inl f)
def pm_ws (G : pm_G) (h : pm_H) : va_W := h.mapIdx fun k c => (G.1 + k, pm_re G c)
theorem pm_at {G : pm_G} {h : pm_H} {k : Nat} {c : va_E} (hk : h[k]? = some c) : (pm_ws G h)[k]? = some (G.1 + k, pm_re G c) := by
  simp [pm_ws, List.getElem?_mapIdx, hk]
theorem pm_set {G : pm_G} {h : pm_H} {k : Nat} {c : va_E} : (pm_ws G h).set k (G.1 + k, pm_re G c) = pm_ws G (h.set k c) := by
  apply List.ext_getElem?
  intro i
  simp only [pm_ws, List.getElem?_set, List.getElem?_mapIdx, List.length_mapIdx]
  by_cases hi : k = i
  · subst hi
    by_cases hl : k < h.length <;> simp [hl]
  · simp [hi]
theorem pm_push {G : pm_G} {h : pm_H} {c : va_E} : pm_ws G (h ++ [c]) = pm_ws G h ++ [(G.1 + h.length, pm_re G c)] := by
  simp [pm_ws, List.mapIdx_append]
theorem pm_D (G : pm_G) (h : pm_H) : va_D (pm_A G) (pm_ws G h) := by
  refine ⟨fun i j p q hi hj e => ?_, fun k q hk => ?_⟩
  · simp only [pm_ws, List.getElem?_mapIdx, Option.map_eq_some_iff] at hi hj
    obtain ⟨a, -, rfl⟩ := hi
    obtain ⟨b, -, rfl⟩ := hj
    have e : G.1 + i = G.1 + j := e
    omega
  · simp only [pm_ws, List.getElem?_mapIdx, Option.map_eq_some_iff] at hk
    obtain ⟨a, -, rfl⟩ := hk
    exact Nat.le_add_right _ _
theorem pm_cat (G : pm_G) (v : Value) : (pm_rv G v).category = v.category := by cases v <;> rfl
def pm_lv (G : pm_G) (lv : List (Nat × Value)) : List (Nat × Value) := lv.map fun q => (q.1, pm_rv G q.2)
def pm_lk (lv : List (Nat × Value)) (i : Nat) : Option Value := (lv.find? fun q => q.1 == i).map fun q => q.2
theorem pm_lk_at {G : pm_G} {lv : List (Nat × Value)} {i n : Nat} {v : Value} {ls : Array Slot} (h : lv_has ls n (pm_lv G lv)) (hk : pm_lk lv i = some v) : ls[i]? = some (.val (pm_rv G v)) := by
  simp only [pm_lk, Option.map_eq_some_iff] at hk
  obtain ⟨q, hq, rfl⟩ := hk
  have h1 := List.mem_of_find?_eq_some hq
  have h2 := List.find?_some hq
  simp only [beq_iff_eq] at h2
  have h3 := h.2.2 (q.1, pm_rv G q.2) (List.mem_map.mpr ⟨q, h1, rfl⟩)
  rw [← h2]
  exact h3
/-- locals behind a store of one word, and of two -/
def pm_s1 (lv : List (Nat × Value)) (i : Nat) (v : Value) : List (Nat × Value) := (i, v) :: lv.filter (fun q => !(q.1 == i) && !(q.1 + 1 == i && q.2.category == 2))
def pm_s2 (lv : List (Nat × Value)) (i : Nat) (v : Value) : List (Nat × Value) := (i, v) :: lv.filter (fun q => !(q.1 == i) && (!(q.1 == i + 1) && !(q.1 + 1 == i && q.2.category == 2)))
theorem pm_s1_eq (G : pm_G) (lv : List (Nat × Value)) (i : Nat) (v : Value) : (i, pm_rv G v) :: (pm_lv G lv).filter (fun q => !(q.1 == i) && !(q.1 + 1 == i && q.2.category == 2)) = pm_lv G (pm_s1 lv i v) := by
  simp only [pm_lv, pm_s1, List.map_cons, List.filter_map]
  congr 2
  apply List.filter_congr
  intro q _
  simp [Function.comp, pm_cat]
theorem pm_s2_eq (G : pm_G) (lv : List (Nat × Value)) (i : Nat) (v : Value) : (i, pm_rv G v) :: (pm_lv G lv).filter (fun q => !(q.1 == i) && (!(q.1 == i + 1) && !(q.1 + 1 == i && q.2.category == 2))) = pm_lv G (pm_s2 lv i v) := by
  simp only [pm_lv, pm_s2, List.map_cons, List.filter_map]
  congr 2
  apply List.filter_congr
  intro q _
  simp [Function.comp, pm_cat]
theorem pm_args (G : pm_G) (av : List Value) (i : Nat) : lv_args i (av.map (pm_rv G)) = pm_lv G (lv_args i av) := by
  induction av generalizing i with
  | nil => rfl
  | cons v t ih =>
    simp only [List.map_cons, lv_args, pm_lv, pm_cat]
    rw [ih]
    rfl
theorem pm_sl (G : pm_G) (av : List Value) : (lg_sl (av.map (pm_rv G))).length = (lg_sl av).length := by
  induction av with
  | nil => rfl
  | cons v t ih =>
    simp only [lg_sl, List.map_cons, List.flatMap_cons, List.length_append, pm_cat] at ih ⊢
    rw [ih]
    split <;> rfl
def pm_tbl : List Cond := lw_tbl.filter goodWord
theorem pm_in {w : Cond} (h : w ∈ lw_tbl) (hg : goodWord w = true) : w ∈ pm_tbl := List.mem_filter.mpr ⟨h, hg⟩
theorem pm_ta {w : Cond} (h : w ∈ tables_1) : w ∈ lw_tbl := List.mem_append_right _ h
theorem pm_se {w : Cond} (h : w ∈ k2_sels lw_privs) : w ∈ lw_tbl := List.mem_append_left _ h
end
section
def T_Nd : u_T := fun k => match k with
  | 0 => ("GraphRunner$Node", "arguments", "[I", true)
  | 1 => ("GraphRunner$Node", "argumentCount", "I", false)
  | 2 => ("GraphRunner$Node", "op", "I", false)
  | 3 => ("GraphRunner$Node", "out", "I", false)
  | 4 => ("GraphRunner$Node", "p", "I", false)
  | 5 => ("GraphRunner$Node", "q", "I", false)
  | 6 => ("GraphRunner$Node", "ordered", "Z", false)
  | 7 => ("GraphRunner$Node", "folded", "Z", false)
  | _ => ("GraphRunner$Node", "known", "Z", false)
def t_Nd : Nat → FieldType := fun k => match k with
  | 0 => (.array .int)
  | 1 => .int
  | 2 => .int
  | 3 => .int
  | 4 => .int
  | 5 => .int
  | 6 => .boolean
  | 7 => .boolean
  | _ => .boolean
theorem t_Nd_ok : ∀ k, k < 9 → parseFieldDescriptor (T_Nd k).2.2.1 = some (t_Nd k) := by decide +kernel
theorem n_Nd : ∀ a, a < 9 → ∀ b, b < 9 → a ≠ b → (T_Nd a).2.1 ≠ (T_Nd b).2.1 := by decide +kernel
theorem u_Nd : ∀ w ∈ u_ws "GraphRunner$Node" T_Nd 9, w ∈ pm_tbl := by
  intro w hw
  have e : u_ws "GraphRunner$Node" T_Nd 9 = ([107, 109, 111, 113, 115, 117, 119, 121, 123] : List Nat).filterMap (fun i => tables_1[i]?) := by decide +kernel
  have g : (u_ws "GraphRunner$Node" T_Nd 9).all goodWord = true := by decide +kernel
  refine pm_in (pm_ta ?_) (List.all_eq_true.mp g w hw)
  rw [e] at hw
  obtain ⟨i, -, hi⟩ := List.mem_filterMap.mp hw
  exact List.mem_of_getElem? hi
def T_Sl : u_T := fun k => match k with
  | 0 => ("GraphRunner$Slot", "table", "LGraphRunner$Table;", true)
  | 1 => ("GraphRunner$Slot", "kind", "I", false)
  | _ => ("GraphRunner$Slot", "maker", "I", false)
def t_Sl : Nat → FieldType := fun k => match k with
  | 0 => (.object "GraphRunner$Table")
  | 1 => .int
  | _ => .int
theorem t_Sl_ok : ∀ k, k < 3 → parseFieldDescriptor (T_Sl k).2.2.1 = some (t_Sl k) := by decide +kernel
theorem n_Sl : ∀ a, a < 3 → ∀ b, b < 3 → a ≠ b → (T_Sl a).2.1 ≠ (T_Sl b).2.1 := by decide +kernel
theorem u_Sl : ∀ w ∈ u_ws "GraphRunner$Slot" T_Sl 3, w ∈ pm_tbl := by
  intro w hw
  have e : u_ws "GraphRunner$Slot" T_Sl 3 = ([73, 75, 77] : List Nat).filterMap (fun i => tables_1[i]?) := by decide +kernel
  have g : (u_ws "GraphRunner$Slot" T_Sl 3).all goodWord = true := by decide +kernel
  refine pm_in (pm_ta ?_) (List.all_eq_true.mp g w hw)
  rw [e] at hw
  obtain ⟨i, -, hi⟩ := List.mem_filterMap.mp hw
  exact List.mem_of_getElem? hi
def T_Tb : u_T := fun k => match k with
  | 0 => ("GraphRunner$Table", "cells", "[D", true)
  | 1 => ("GraphRunner$Table", "type", "I", false)
  | 2 => ("GraphRunner$Table", "rows", "I", false)
  | _ => ("GraphRunner$Table", "columns", "I", false)
def t_Tb : Nat → FieldType := fun k => match k with
  | 0 => (.array .double)
  | 1 => .int
  | 2 => .int
  | _ => .int
theorem t_Tb_ok : ∀ k, k < 4 → parseFieldDescriptor (T_Tb k).2.2.1 = some (t_Tb k) := by decide +kernel
theorem n_Tb : ∀ a, a < 4 → ∀ b, b < 4 → a ≠ b → (T_Tb a).2.1 ≠ (T_Tb b).2.1 := by decide +kernel
theorem u_Tb : ∀ w ∈ u_ws "GraphRunner$Table" T_Tb 4, w ∈ pm_tbl := by
  intro w hw
  have e : u_ws "GraphRunner$Table" T_Tb 4 = ([49, 51, 53, 55] : List Nat).filterMap (fun i => tables_1[i]?) := by decide +kernel
  have g : (u_ws "GraphRunner$Table" T_Tb 4).all goodWord = true := by decide +kernel
  refine pm_in (pm_ta ?_) (List.all_eq_true.mp g w hw)
  rw [e] at hw
  obtain ⟨i, -, hi⟩ := List.mem_filterMap.mp hw
  exact List.mem_of_getElem? hi
def T_Gr : u_T := fun k => match k with
  | 0 => ("GraphRunner", "slots", "[LGraphRunner$Slot;", true)
  | 1 => ("GraphRunner", "nodes", "[LGraphRunner$Node;", true)
  | 2 => ("GraphRunner", "order", "[I", true)
  | 3 => ("GraphRunner", "opened", "[I", true)
  | 4 => ("GraphRunner", "noTable", "LGraphRunner$Table;", true)
  | 5 => ("GraphRunner", "nodeCount", "I", false)
  | 6 => ("GraphRunner", "prepared", "Z", false)
  | 7 => ("GraphRunner", "workedInAll", "I", false)
  | _ => ("GraphRunner", "thrownInAll", "I", false)
def t_Gr : Nat → FieldType := fun k => match k with
  | 0 => (.array (.object "GraphRunner$Slot"))
  | 1 => (.array (.object "GraphRunner$Node"))
  | 2 => (.array .int)
  | 3 => (.array .int)
  | 4 => (.object "GraphRunner$Table")
  | 5 => .int
  | 6 => .boolean
  | 7 => .int
  | _ => .int
theorem t_Gr_ok : ∀ k, k < 9 → parseFieldDescriptor (T_Gr k).2.2.1 = some (t_Gr k) := by decide +kernel
theorem n_Gr : ∀ a, a < 9 → ∀ b, b < 9 → a ≠ b → (T_Gr a).2.1 ≠ (T_Gr b).2.1 := by decide +kernel
theorem u_Gr : ∀ w ∈ u_ws "GraphRunner" T_Gr 9, w ∈ pm_tbl := by
  intro w hw
  have e : u_ws "GraphRunner" T_Gr 9 = ([135, 137, 139, 141, 143, 145, 147, 149, 151] : List Nat).filterMap (fun i => tables_1[i]?) := by decide +kernel
  have g : (u_ws "GraphRunner" T_Gr 9).all goodWord = true := by decide +kernel
  refine pm_in (pm_ta ?_) (List.all_eq_true.mp g w hw)
  rw [e] at hw
  obtain ⟨i, -, hi⟩ := List.mem_filterMap.mp hw
  exact List.mem_of_getElem? hi
def T_Mo : u_T := fun k => match k with
  | 0 => ("GraphRunnerModel", "kind", "[I", true)
  | 1 => ("GraphRunnerModel", "type", "[I", true)
  | 2 => ("GraphRunnerModel", "rows", "[I", true)
  | 3 => ("GraphRunnerModel", "columns", "[I", true)
  | 4 => ("GraphRunnerModel", "maker", "[I", true)
  | 5 => ("GraphRunnerModel", "value", "[D", true)
  | 6 => ("GraphRunnerModel", "op", "[I", true)
  | 7 => ("GraphRunnerModel", "out", "[I", true)
  | 8 => ("GraphRunnerModel", "p", "[I", true)
  | 9 => ("GraphRunnerModel", "q", "[I", true)
  | 10 => ("GraphRunnerModel", "state", "[I", true)
  | 11 => ("GraphRunnerModel", "order", "[I", true)
  | 12 => ("GraphRunnerModel", "argument", "[I", true)
  | 13 => ("GraphRunnerModel", "fresh", "[D", true)
  | 14 => ("GraphRunnerModel", "nodes", "I", false)
  | 15 => ("GraphRunnerModel", "folded", "I", false)
  | 16 => ("GraphRunnerModel", "worked", "I", false)
  | 17 => ("GraphRunnerModel", "threw", "I", false)
  | 18 => ("GraphRunnerModel", "now", "I", false)
  | 19 => ("GraphRunnerModel", "thrown", "I", false)
  | _ => ("GraphRunnerModel", "ready", "Z", false)
def t_Mo : Nat → FieldType := fun k => match k with
  | 0 => (.array .int)
  | 1 => (.array .int)
  | 2 => (.array .int)
  | 3 => (.array .int)
  | 4 => (.array .int)
  | 5 => (.array .double)
  | 6 => (.array .int)
  | 7 => (.array .int)
  | 8 => (.array .int)
  | 9 => (.array .int)
  | 10 => (.array .int)
  | 11 => (.array .int)
  | 12 => (.array .int)
  | 13 => (.array .double)
  | 14 => .int
  | 15 => .int
  | 16 => .int
  | 17 => .int
  | 18 => .int
  | 19 => .int
  | _ => .boolean
theorem t_Mo_ok : ∀ k, k < 21 → parseFieldDescriptor (T_Mo k).2.2.1 = some (t_Mo k) := by decide +kernel
theorem n_Mo : ∀ a, a < 21 → ∀ b, b < 21 → a ≠ b → (T_Mo a).2.1 ≠ (T_Mo b).2.1 := by decide +kernel
theorem u_Mo : ∀ w ∈ u_ws "GraphRunnerModel" T_Mo 21, w ∈ pm_tbl := by
  intro w hw
  have e : u_ws "GraphRunnerModel" T_Mo 21 = ([637, 639, 641, 643, 645, 647, 649, 651, 653, 655, 657, 659, 661, 663, 665, 667, 669, 671, 673, 675, 677] : List Nat).filterMap (fun i => tables_1[i]?) := by decide +kernel
  have g : (u_ws "GraphRunnerModel" T_Mo 21).all goodWord = true := by decide +kernel
  refine pm_in (pm_ta ?_) (List.all_eq_true.mp g w hw)
  rw [e] at hw
  obtain ⟨i, -, hi⟩ := List.mem_filterMap.mp hw
  exact List.mem_of_getElem? hi
abbrev pm_cl : List vw_C := [("GraphRunner$Node", T_Nd, 9), ("GraphRunner$Slot", T_Sl, 3), ("GraphRunner$Table", T_Tb, 4), ("GraphRunner", T_Gr, 9), ("GraphRunnerModel", T_Mo, 21)]
def pm_tys (G : pm_G) : List (ClassId × FieldType) := [(G.2.2.1 0, .int), (G.2.2.1 1, .double), (G.2.2.1 2, .long), (G.2.2.1 3, (.object "GraphRunner$Slot")), (G.2.2.1 4, (.object "GraphRunner$Node"))]
def pm_isN : Cond → Bool
  | .fieldLinkNest .. => true
  | .methodLinkNest .. => true
  | .castable .. => true
  | _ => false
def pm_nst : List Cond := lw_tbl.filter pm_isN
theorem pm_ni {w : Cond} (h : w ∈ lw_tbl) (hg : pm_isN w = true) : w ∈ pm_nst := List.mem_filter.mpr ⟨h, hg⟩
def pm_ac (j : Nat) : Int32 := ([2, 2, 2, 2, 2, 1, 1, 1, 2, 3, 1, 1, 1, 2, 1, 2, 2, 3, 1] : List Int32).getD j 0
def pm_ncs : List (String × String) := [("java/lang/ArithmeticException", "java/lang/IllegalArgumentException"), ("java/lang/ArithmeticException", "java/lang/IllegalStateException"), ("java/lang/IllegalStateException", "java/lang/IllegalArgumentException"), ("java/lang/IndexOutOfBoundsException", "java/lang/ArithmeticException"), ("java/lang/IndexOutOfBoundsException", "java/lang/IllegalArgumentException"), ("java/lang/IndexOutOfBoundsException", "java/lang/IllegalStateException"), ("java/lang/UnsupportedOperationException", "java/util/NoSuchElementException"), ("java/util/NoSuchElementException", "java/lang/IllegalArgumentException")]
abbrev M_Gr_init : pm_M := (⟨"GraphRunner", "<init>", "()V"⟩, prog_1_method_1_code, 2, none, [], 3, 54)
abbrev M_Tb_init : pm_M := (⟨"GraphRunner$Table", "<init>", "()V"⟩, prog_5_method_1_code, 1, none, [], 1, 14)
abbrev M_Sl_init : pm_M := (⟨"GraphRunner$Slot", "<init>", "()V"⟩, prog_4_method_1_code, 1, none, [], 2, 34)
abbrev M_Nd_init : pm_M := (⟨"GraphRunner$Node", "<init>", "()V"⟩, prog_2_method_1_code, 1, none, [], 1, 14)
abbrev M_Gr_count : pm_M := (⟨"GraphRunner", "count", "(I)I"⟩, prog_1_method_10_code, 2, (some .int), [], 1, 22)
abbrev M_Gr_foldedCount : pm_M := (⟨"GraphRunner", "foldedCount", "()I"⟩, prog_1_method_25_code, 3, (some .int), [], 0, 0)
abbrev M_Gr_knownCount : pm_M := (⟨"GraphRunner", "knownCount", "()I"⟩, prog_1_method_26_code, 3, (some .int), [], 0, 0)
abbrev M_Gr_inOrder : pm_M := (⟨"GraphRunner", "inOrder", "(I)I"⟩, prog_1_method_11_code, 2, (some .int), [], 0, 0)
abbrev M_Lw_table : pm_M := (⟨"GraphRunnerLaw", "table", "(LGraphRunner;IIIIZ)I"⟩, method_3_code, 7, (some .int), [(0, 11, 14, 13)], 7, 125)
abbrev M_Gr_table : pm_M := (⟨"GraphRunner", "table", "(IIIIZ)V"⟩, prog_1_method_2_code, 6, none, [], 6, 100)
abbrev M_Gr_isFree : pm_M := (⟨"GraphRunner", "isFree", "(I)Z"⟩, prog_1_method_18_code, 2, (some .boolean), [], 1, 20)
abbrev M_Gr_isSlot : pm_M := (⟨"GraphRunner", "isSlot", "(I)Z"⟩, prog_1_method_12_code, 1, (some .boolean), [], 0, 0)
abbrev M_Gr_isType : pm_M := (⟨"GraphRunner", "isType", "(I)Z"⟩, prog_1_method_13_code, 1, (some .boolean), [], 0, 0)
abbrev M_Gr_isSide : pm_M := (⟨"GraphRunner", "isSide", "(I)Z"⟩, prog_1_method_14_code, 1, (some .boolean), [], 0, 0)
abbrev M_Tb_shape : pm_M := (⟨"GraphRunner$Table", "shape", "(III)Z"⟩, prog_5_method_2_code, 4, (some .boolean), [], 1, 20)
abbrev M_Tb_clear : pm_M := (⟨"GraphRunner$Table", "clear", "()V"⟩, prog_5_method_3_code, 2, none, [], 0, 0)
abbrev M_Gr_unprepare : pm_M := (⟨"GraphRunner", "unprepare", "()V"⟩, prog_1_method_23_code, 2, none, [], 1, 21)
abbrev M_Gr_forgetKnown : pm_M := (⟨"GraphRunner", "forgetKnown", "()V"⟩, prog_1_method_24_code, 2, none, [], 0, 0)
abbrev M_Lw_set : pm_M := (⟨"GraphRunnerLaw", "set", "(LGraphRunner;IIID)I"⟩, method_4_code, 7, (some .int), [(0, 9, 12, 13)], 7, 125)
abbrev M_Gr_set : pm_M := (⟨"GraphRunner", "set", "(IIID)V"⟩, prog_1_method_3_code, 6, none, [], 6, 100)
abbrev M_Gr_isFed : pm_M := (⟨"GraphRunner", "isFed", "(I)Z"⟩, prog_1_method_19_code, 2, (some .boolean), [], 0, 0)
abbrev M_Tb_has : pm_M := (⟨"GraphRunner$Table", "has", "(II)Z"⟩, prog_5_method_4_code, 3, (some .boolean), [], 0, 0)
abbrev M_Gr_isSettable : pm_M := (⟨"GraphRunner", "isSettable", "(ID)Z"⟩, prog_1_method_16_code, 4, (some .boolean), [], 0, 0)
abbrev M_Tb_put : pm_M := (⟨"GraphRunner$Table", "put", "(IID)V"⟩, prog_5_method_7_code, 5, none, [], 0, 0)
abbrev M_Lw_node : pm_M := (⟨"GraphRunnerLaw", "node", "(LGraphRunner;IIIIIII[J)I"⟩, method_5_code, 10, (some .int), [(0, 20, 23, 13), (0, 20, 27, 23)], 7, 127)
abbrev M_Gr_node : pm_M := (⟨"GraphRunner", "node", "(IIIIIII)I"⟩, prog_1_method_4_code, 8, (some .int), [], 6, 100)
abbrev M_Gr_areArguments : pm_M := (⟨"GraphRunner", "areArguments", "(IIII)Z"⟩, prog_1_method_17_code, 4, (some .boolean), [], 1, 20)
abbrev M_Gr_isNumber : pm_M := (⟨"GraphRunner", "isNumber", "(I)Z"⟩, prog_1_method_15_code, 1, (some .boolean), [], 0, 0)
abbrev M_Nd_become : pm_M := (⟨"GraphRunner$Node", "become", "(IIII)V"⟩, prog_2_method_2_code, 5, none, [], 0, 0)
abbrev M_Nd_takeArguments : pm_M := (⟨"GraphRunner$Node", "takeArguments", "(III)V"⟩, prog_2_method_3_code, 4, none, [], 0, 0)
abbrev M_Lw_undo : pm_M := (⟨"GraphRunnerLaw", "undo", "(LGraphRunner;)I"⟩, method_6_code, 2, (some .int), [(0, 4, 7, 28)], 7, 120)
abbrev M_Gr_undo : pm_M := (⟨"GraphRunner", "undo", "()V"⟩, prog_1_method_5_code, 1, none, [], 6, 100)
abbrev M_Lw_prepare : pm_M := (⟨"GraphRunnerLaw", "prepare", "(LGraphRunner;[J)I"⟩, method_7_code, 3, (some .int), [(0, 8, 11, 28), (0, 8, 14, 34)], 7, 162)
abbrev M_Gr_prepare : pm_M := (⟨"GraphRunner", "prepare", "()I"⟩, prog_1_method_6_code, 1, (some .int), [], 6, 142)
abbrev M_Gr_orderNodes : pm_M := (⟨"GraphRunner", "orderNodes", "()Z"⟩, prog_1_method_27_code, 3, (some .boolean), [], 4, 85)
abbrev M_Gr_leastToOrder : pm_M := (⟨"GraphRunner", "leastToOrder", "()I"⟩, prog_1_method_28_code, 2, (some .int), [], 3, 64)
abbrev M_Gr_argumentsAreOrdered : pm_M := (⟨"GraphRunner", "argumentsAreOrdered", "(LGraphRunner$Node;)Z"⟩, prog_1_method_29_code, 3, (some .boolean), [], 2, 42)
abbrev M_Gr_isOrdered : pm_M := (⟨"GraphRunner", "isOrdered", "(I)Z"⟩, prog_1_method_20_code, 2, (some .boolean), [], 1, 21)
abbrev M_Gr_findShapes : pm_M := (⟨"GraphRunner", "findShapes", "()Z"⟩, prog_1_method_30_code, 4, (some .boolean), [], 4, 91)
abbrev M_Gr_argument : pm_M := (⟨"GraphRunner", "argument", "(LGraphRunner$Node;I)LGraphRunner$Table;"⟩, prog_1_method_33_code, 3, (some (.object "GraphRunner$Table")), [], 0, 0)
abbrev M_Sh_find : pm_M := (⟨"GraphRunner$Shapes", "find", "(LGraphRunner$Node;LGraphRunner$Table;LGraphRunner$Table;LGraphRunner$Table;LGraphRunner$Table;)Z"⟩, prog_3_method_2_code, 5, (some .boolean), [], 3, 67)
abbrev M_Sh_fit : pm_M := (⟨"GraphRunner$Shapes", "fit", "(LGraphRunner$Table;LGraphRunner$Table;ILGraphRunner$Table;)Z"⟩, prog_3_method_5_code, 4, (some .boolean), [], 2, 43)
abbrev M_Sh_sidesFit : pm_M := (⟨"GraphRunner$Shapes", "sidesFit", "(II)Z"⟩, prog_3_method_6_code, 2, (some .boolean), [], 0, 0)
abbrev M_Ma_max : pm_M := (⟨"java/lang/Math", "max", "(II)I"⟩, prog_14_method_65_code, 2, (some .int), [], 0, 0)
abbrev M_Sh_areFloats : pm_M := (⟨"GraphRunner$Shapes", "areFloats", "(LGraphRunner$Table;LGraphRunner$Table;)Z"⟩, prog_3_method_3_code, 2, (some .boolean), [], 0, 0)
abbrev M_Sh_findGathered : pm_M := (⟨"GraphRunner$Shapes", "findGathered", "(ILGraphRunner$Table;LGraphRunner$Table;)Z"⟩, prog_3_method_7_code, 3, (some .boolean), [], 2, 43)
abbrev M_Sh_findJoined : pm_M := (⟨"GraphRunner$Shapes", "findJoined", "(ILGraphRunner$Table;LGraphRunner$Table;LGraphRunner$Table;)Z"⟩, prog_3_method_8_code, 4, (some .boolean), [], 2, 43)
abbrev M_Sh_findSlid : pm_M := (⟨"GraphRunner$Shapes", "findSlid", "(LGraphRunner$Node;LGraphRunner$Table;LGraphRunner$Table;LGraphRunner$Table;)Z"⟩, prog_3_method_9_code, 5, (some .boolean), [], 2, 43)
abbrev M_Sh_areAlike : pm_M := (⟨"GraphRunner$Shapes", "areAlike", "(LGraphRunner$Table;LGraphRunner$Table;)Z"⟩, prog_3_method_4_code, 2, (some .boolean), [], 0, 0)
abbrev M_Gr_foldNodes : pm_M := (⟨"GraphRunner", "foldNodes", "()V"⟩, prog_1_method_31_code, 3, none, [], 5, 120)
abbrev M_Gr_argumentsAreFolded : pm_M := (⟨"GraphRunner", "argumentsAreFolded", "(LGraphRunner$Node;)Z"⟩, prog_1_method_32_code, 3, (some .boolean), [], 1, 21)
abbrev M_Gr_isConstantOrFolded : pm_M := (⟨"GraphRunner", "isConstantOrFolded", "(I)Z"⟩, prog_1_method_21_code, 2, (some .boolean), [], 0, 0)
abbrev M_Gr_workOut : pm_M := (⟨"GraphRunner", "workOut", "(LGraphRunner$Node;)I"⟩, prog_1_method_34_code, 4, (some .int), [], 4, 97)
abbrev M_Wk_workOut : pm_M := (⟨"GraphRunner$Work", "workOut", "(LGraphRunner$Node;LGraphRunner$Table;LGraphRunner$Table;LGraphRunner$Table;LGraphRunner$Table;)I"⟩, prog_6_method_2_code, 5, (some .int), [], 3, 73)
abbrev M_Wk_divide : pm_M := (⟨"GraphRunner$Work", "divide", "(LGraphRunner$Table;LGraphRunner$Table;LGraphRunner$Table;)I"⟩, prog_6_method_6_code, 9, (some .int), [], 1, 24)
abbrev M_Tb_atAgain : pm_M := (⟨"GraphRunner$Table", "atAgain", "(II)D"⟩, prog_5_method_6_code, 3, (some .double), [], 0, 0)
abbrev M_Wk_divideInts : pm_M := (⟨"GraphRunner$Work", "divideInts", "(II)I"⟩, prog_6_method_7_code, 2, (some .int), [], 0, 0)
abbrev M_Wk_pick : pm_M := (⟨"GraphRunner$Work", "pick", "(LGraphRunner$Table;LGraphRunner$Table;LGraphRunner$Table;)I"⟩, prog_6_method_18_code, 6, (some .int), [], 2, 48)
abbrev M_Tb_at : pm_M := (⟨"GraphRunner$Table", "at", "(II)D"⟩, prog_5_method_5_code, 3, (some .double), [], 0, 0)
abbrev M_Wk_copyRow : pm_M := (⟨"GraphRunner$Work", "copyRow", "(LGraphRunner$Table;ILGraphRunner$Table;I)V"⟩, prog_6_method_19_code, 5, none, [], 1, 24)
abbrev M_Wk_multiplyTables : pm_M := (⟨"GraphRunner$Work", "multiplyTables", "(LGraphRunner$Table;LGraphRunner$Table;LGraphRunner$Table;)V"⟩, prog_6_method_8_code, 8, none, [], 1, 24)
abbrev M_Wk_turn : pm_M := (⟨"GraphRunner$Work", "turn", "(LGraphRunner$Table;LGraphRunner$Table;)V"⟩, prog_6_method_11_code, 4, none, [], 1, 24)
abbrev M_Wk_chooseEach : pm_M := (⟨"GraphRunner$Work", "chooseEach", "(LGraphRunner$Table;LGraphRunner$Table;LGraphRunner$Table;LGraphRunner$Table;)V"⟩, prog_6_method_12_code, 6, none, [], 1, 24)
abbrev M_Wk_sum : pm_M := (⟨"GraphRunner$Work", "sum", "(ILGraphRunner$Table;LGraphRunner$Table;)V"⟩, prog_6_method_13_code, 11, none, [], 1, 24)
abbrev M_Wk_pairInts : pm_M := (⟨"GraphRunner$Work", "pairInts", "(III)I"⟩, prog_6_method_4_code, 3, (some .int), [], 0, 0)
abbrev M_Wk_greatest : pm_M := (⟨"GraphRunner$Work", "greatest", "(ILGraphRunner$Table;LGraphRunner$Table;)V"⟩, prog_6_method_14_code, 8, none, [], 1, 24)
abbrev M_Wk_firstGreatest : pm_M := (⟨"GraphRunner$Work", "firstGreatest", "(LGraphRunner$Table;LGraphRunner$Table;)V"⟩, prog_6_method_15_code, 5, none, [], 1, 24)
abbrev M_Wk_copy : pm_M := (⟨"GraphRunner$Work", "copy", "(LGraphRunner$Table;LGraphRunner$Table;II)V"⟩, prog_6_method_16_code, 6, none, [], 1, 24)
abbrev M_Wk_cut : pm_M := (⟨"GraphRunner$Work", "cut", "(ILGraphRunner$Table;LGraphRunner$Table;)V"⟩, prog_6_method_17_code, 4, none, [], 2, 48)
abbrev M_Wk_slide : pm_M := (⟨"GraphRunner$Work", "slide", "(LGraphRunner$Node;LGraphRunner$Table;LGraphRunner$Table;LGraphRunner$Table;)V"⟩, prog_6_method_20_code, 10, none, [], 1, 24)
abbrev M_Tb_isZero : pm_M := (⟨"GraphRunner$Table", "isZero", "()Z"⟩, prog_5_method_8_code, 1, (some .boolean), [], 1, 22)
abbrev M_Wk_workEach : pm_M := (⟨"GraphRunner$Work", "workEach", "(LGraphRunner$Node;LGraphRunner$Table;LGraphRunner$Table;)V"⟩, prog_6_method_9_code, 5, none, [], 1, 24)
abbrev M_Wk_ofOne : pm_M := (⟨"GraphRunner$Work", "ofOne", "(LGraphRunner$Node;D)D"⟩, prog_6_method_10_code, 3, (some .double), [], 0, 0)
abbrev M_Wk_pair : pm_M := (⟨"GraphRunner$Work", "pair", "(ILGraphRunner$Table;LGraphRunner$Table;LGraphRunner$Table;)V"⟩, prog_6_method_3_code, 10, none, [], 1, 24)
abbrev M_Wk_pairFloats : pm_M := (⟨"GraphRunner$Work", "pairFloats", "(IDD)D"⟩, prog_6_method_5_code, 5, (some .double), [], 0, 0)
abbrev M_Tb_isTooLarge : pm_M := (⟨"GraphRunner$Table", "isTooLarge", "()Z"⟩, prog_5_method_9_code, 3, (some .boolean), [], 1, 22)
abbrev M_Lw_run : pm_M := (⟨"GraphRunnerLaw", "run", "(LGraphRunner;I[J)I"⟩, method_8_code, 4, (some .int), [(0, 9, 12, 13), (0, 9, 15, 23), (0, 9, 18, 40), (0, 9, 21, 42)], 8, 191)
abbrev M_Gr_run : pm_M := (⟨"GraphRunner", "run", "(I)I"⟩, prog_1_method_7_code, 4, (some .int), [], 7, 168)
abbrev M_Gr_runFor : pm_M := (⟨"GraphRunner", "runFor", "(I)I"⟩, prog_1_method_35_code, 7, (some .int), [], 6, 142)
abbrev M_Gr_isThere : pm_M := (⟨"GraphRunner", "isThere", "(I)Z"⟩, prog_1_method_22_code, 2, (some .boolean), [], 1, 21)
abbrev M_Nd_hasOutcome : pm_M := (⟨"GraphRunner$Node", "hasOutcome", "()Z"⟩, prog_2_method_4_code, 1, (some .boolean), [], 0, 0)
abbrev M_Gr_firstNeeded : pm_M := (⟨"GraphRunner", "firstNeeded", "(LGraphRunner$Node;)I"⟩, prog_1_method_37_code, 3, (some .int), [], 3, 65)
abbrev M_Gr_firstNeededByChoice : pm_M := (⟨"GraphRunner", "firstNeededByChoice", "(LGraphRunner$Node;)I"⟩, prog_1_method_38_code, 4, (some .int), [], 2, 42)
abbrev M_Gr_learn : pm_M := (⟨"GraphRunner", "learn", "(LGraphRunner$Node;)I"⟩, prog_1_method_36_code, 3, (some .int), [], 5, 120)
abbrev M_Lw_get : pm_M := (⟨"GraphRunnerLaw", "get", "(LGraphRunner;III[D)I"⟩, method_9_code, 6, (some .int), [(0, 11, 14, 13), (0, 11, 18, 28)], 7, 123)
abbrev M_Gr_get : pm_M := (⟨"GraphRunner", "get", "(III)D"⟩, prog_1_method_8_code, 4, (some .double), [], 6, 100)
abbrev M_Lw_slot : pm_M := (⟨"GraphRunnerLaw", "slot", "(LGraphRunner;II[J)I"⟩, method_10_code, 5, (some .int), [(0, 10, 13, 13), (0, 10, 17, 28)], 7, 123)
abbrev M_Gr_slot : pm_M := (⟨"GraphRunner", "slot", "(II)I"⟩, prog_1_method_9_code, 4, (some .int), [], 6, 100)
abbrev M_Mo_init : pm_M := (⟨"GraphRunnerModel", "<init>", "()V"⟩, prog_8_method_1_code, 1, none, [], 1, 14)
abbrev M_Mo_thrown : pm_M := (⟨"GraphRunnerModel", "thrown", "()I"⟩, prog_8_method_2_code, 1, (some .int), [], 0, 0)
abbrev M_Mo_table : pm_M := (⟨"GraphRunnerModel", "table", "(IIIIZ)V"⟩, prog_8_method_6_code, 7, none, [], 1, 23)
abbrev M_Mo_noSlot : pm_M := (⟨"GraphRunnerModel", "noSlot", "(I)Z"⟩, prog_8_method_3_code, 2, (some .boolean), [], 0, 0)
abbrev M_Mo_out : pm_M := (⟨"GraphRunnerModel", "out", "(III)Z"⟩, prog_8_method_4_code, 4, (some .boolean), [], 0, 0)
abbrev M_Mo_change : pm_M := (⟨"GraphRunnerModel", "change", "()V"⟩, prog_8_method_5_code, 2, none, [], 0, 0)
abbrev M_Mo_set : pm_M := (⟨"GraphRunnerModel", "set", "(IIID)V"⟩, prog_8_method_7_code, 8, none, [], 1, 21)
abbrev M_Mo_node : pm_M := (⟨"GraphRunnerModel", "node", "(IIIIIII)I"⟩, prog_8_method_9_code, 10, (some .int), [], 1, 23)
abbrev M_Mo_arity : pm_M := (⟨"GraphRunnerModel", "arity", "(I)I"⟩, prog_8_method_8_code, 2, (some .int), [], 0, 0)
abbrev M_Mo_undo : pm_M := (⟨"GraphRunnerModel", "undo", "()V"⟩, prog_8_method_10_code, 1, none, [], 1, 21)
abbrev M_Mo_prepare : pm_M := (⟨"GraphRunnerModel", "prepare", "()I"⟩, prog_8_method_31_code, 4, (some .int), [], 4, 107)
abbrev M_Mo_ordered : pm_M := (⟨"GraphRunnerModel", "ordered", "()Z"⟩, prog_8_method_12_code, 5, (some .boolean), [], 2, 46)
abbrev M_Mo_there : pm_M := (⟨"GraphRunnerModel", "there", "(IIZ)Z"⟩, prog_8_method_11_code, 6, (some .boolean), [], 1, 21)
abbrev M_Mo_shape : pm_M := (⟨"GraphRunnerModel", "shape", "(I)Z"⟩, prog_8_method_17_code, 12, (some .boolean), [], 2, 44)
abbrev M_Mo_fitting : pm_M := (⟨"GraphRunnerModel", "fitting", "(II)Z"⟩, prog_8_method_14_code, 3, (some .boolean), [], 1, 22)
abbrev M_Mo_near : pm_M := (⟨"GraphRunnerModel", "near", "(II)Z"⟩, prog_8_method_13_code, 3, (some .boolean), [], 0, 0)
abbrev M_Mo_most : pm_M := (⟨"GraphRunnerModel", "most", "(II)I"⟩, prog_8_method_16_code, 3, (some .int), [], 0, 0)
abbrev M_Mo_give : pm_M := (⟨"GraphRunnerModel", "give", "(IIII)Z"⟩, prog_8_method_15_code, 6, (some .boolean), [], 0, 0)
abbrev M_Mo_work : pm_M := (⟨"GraphRunnerModel", "work", "(I)I"⟩, prog_8_method_30_code, 7, (some .int), [], 3, 81)
abbrev M_Mo_element : pm_M := (⟨"GraphRunnerModel", "element", "(III)D"⟩, prog_8_method_29_code, 8, (some .double), [], 2, 54)
abbrev M_Mo_at : pm_M := (⟨"GraphRunnerModel", "at", "(III)D"⟩, prog_8_method_18_code, 4, (some .double), [], 0, 0)
abbrev M_Mo_plain : pm_M := (⟨"GraphRunnerModel", "plain", "(IDDZ)D"⟩, prog_8_method_19_code, 9, (some .double), [], 1, 21)
abbrev M_Mo_trouble : pm_M := (⟨"GraphRunnerModel", "trouble", "(I)V"⟩, prog_8_method_20_code, 2, none, [], 0, 0)
abbrev M_Mo_product : pm_M := (⟨"GraphRunnerModel", "product", "(IIII)D"⟩, prog_8_method_24_code, 8, (some .double), [], 0, 0)
abbrev M_Mo_cast : pm_M := (⟨"GraphRunnerModel", "cast", "(ID)D"⟩, prog_8_method_27_code, 4, (some .double), [], 0, 0)
abbrev M_Mo_total : pm_M := (⟨"GraphRunnerModel", "total", "(IIIZ)D"⟩, prog_8_method_21_code, 11, (some .double), [], 1, 23)
abbrev M_Mo_first : pm_M := (⟨"GraphRunnerModel", "first", "(IIIZ)I"⟩, prog_8_method_22_code, 8, (some .int), [], 1, 23)
abbrev M_Mo_joined : pm_M := (⟨"GraphRunnerModel", "joined", "(IIIII)D"⟩, prog_8_method_26_code, 6, (some .double), [], 0, 0)
abbrev M_Mo_picked : pm_M := (⟨"GraphRunnerModel", "picked", "(IIII)D"⟩, prog_8_method_25_code, 6, (some .double), [], 1, 21)
abbrev M_Mo_slid : pm_M := (⟨"GraphRunnerModel", "slid", "(IIIII)D"⟩, prog_8_method_23_code, 12, (some .double), [], 1, 23)
abbrev M_Mo_bounded : pm_M := (⟨"GraphRunnerModel", "bounded", "(ID)D"⟩, prog_8_method_28_code, 4, (some .double), [], 0, 0)
abbrev M_Mo_run : pm_M := (⟨"GraphRunnerModel", "run", "(I)I"⟩, prog_8_method_35_code, 3, (some .int), [], 5, 130)
abbrev M_Mo_need : pm_M := (⟨"GraphRunnerModel", "need", "(I)I"⟩, prog_8_method_34_code, 4, (some .int), [], 4, 107)
abbrev M_Mo_known : pm_M := (⟨"GraphRunnerModel", "known", "(I)Z"⟩, prog_8_method_32_code, 2, (some .boolean), [], 0, 0)
abbrev M_Mo_missing : pm_M := (⟨"GraphRunnerModel", "missing", "(I)I"⟩, prog_8_method_33_code, 4, (some .int), [], 1, 21)
abbrev M_Mo_get : pm_M := (⟨"GraphRunnerModel", "get", "(III)D"⟩, prog_8_method_36_code, 5, (some .double), [], 1, 21)
abbrev M_Mo_slot : pm_M := (⟨"GraphRunnerModel", "slot", "(II)I"⟩, prog_8_method_37_code, 3, (some .int), [], 1, 23)
abbrev M_Mo_count : pm_M := (⟨"GraphRunnerModel", "count", "(I)I"⟩, prog_8_method_38_code, 4, (some .int), [], 0, 0)
abbrev M_Lw_law : pm_M := (⟨"GraphRunnerLaw", "law", "([I)Z"⟩, code, 9, (some .boolean), [], 11, 432)
end
section
/-! ===== what stands at a method's entry; the judgement; the contract ===== -/
def pm_old (G : pm_G) (U : State) (H : Heap) : Prop :=
  va_X (G.2.2.2.1 0) G.2.2.2.2.1 G.2.2.2.2.2 U H ∧ va_Z "GraphRunner" "ARGUMENT_COUNTS" "[I" (.ref (G.2.2.2.1 1)) (pm_A G) U H ∧ va_T .int (G.2.2.2.1 1) 19 (fun j => .int (pm_ac j)) (pm_A G) U H ∧
  vx_Zq Bundle.tN "UNASSIGNED_STACK" Bundle.steD (pm_A G) U H ∧ vx_Zq Bundle.tN "SUPPRESSED_SENTINEL" Bundle.listD (pm_A G) U H
def pm_F (G : pm_G) (U : State) : Prop :=
  va_K G.2.1 pm_cl (pm_tys G) U ∧ (∀ w ∈ pm_nst, va_Nw w U) ∧ (∀ q ∈ pm_ncs, va_Nc q.1 q.2 U) ∧ G.1 ≤ U.heap.size ∧ G.2.2.2.1 0 < G.1 ∧ pm_old G U U.heap
theorem pm_nst_warm {w : Cond} (hw : w ∈ pm_nst) {s U : State} (hW : s.WarmedH U.vm) (h : va_Nw w s) : va_Nw w U := by
  have hg : pm_isN w = true := (List.mem_filter.mp hw).2
  cases w <;> simp only [pm_isN, Bool.false_eq_true] at hg
  case fieldLinkNest => exact va_Nw.warmF hW h
  case methodLinkNest => exact va_Nw.warmM hW h
  case castable => exact va_Nw.warmC hW h
theorem pm_nst_on {w : Cond} (hw : w ∈ pm_nst) : w.onTables = true := by
  have hg : pm_isN w = true := (List.mem_filter.mp hw).2
  cases w <;> simp only [pm_isN, Bool.false_eq_true] at hg <;> rfl
/-- it holds as well further on in the walk -/
theorem pm_F.moved {G : pm_G} {s U : State} {H : Heap} {locs : List Loc} (h : pm_F G s) (hW : s.WarmedH U.vm) (hS : va_S (pm_A G) s.heap H locs) (hU : U.heap = H) : pm_F G U := by
  obtain ⟨hK, hN, hC, hz, hb, hX, hZ, hT, hu, hn⟩ := h
  have hb0 : ¬ pm_A G (G.2.2.2.1 0) := Nat.not_le.mpr hb
  subst hU
  refine ⟨va_K.moved hW.alike hK, fun w hw => pm_nst_warm hw hW (hN w hw), fun q hq => va_Nc.moved hW.alike (hC q hq), Nat.le_trans hz hS.1, hb, va_X.moved hW.alike (hX.kept ?_), va_Z.moved hW.alike (hZ.kept hS.2.1), va_T.moved hW.alike (hT.kept hS.2.1), vx_Zq.moved hW.alike (hu.kept hS.2.1), vx_Zq.moved hW.alike (hn.kept hS.2.1)⟩
  exact hS.2.1 _ (Nat.lt_of_lt_of_le hb hz) hb0
theorem pm_F.calling {G : pm_G} {U : State} (h : pm_F G U) (g : JFrame) (mk : MethodId) (a : Array Value) : pm_F G (U.calling g mk a) := by
  obtain ⟨hK, hN, hC, hz, hb, hX, hZ, hT, hu, hn⟩ := h
  have r := Vm.Alike.refl U.vm
  exact ⟨va_K.moved (u := U) (U := U.calling g mk a) r hK, fun w hw => va_Nw.same (pm_nst_on hw) (u := U) (U := U.calling g mk a) rfl (hN w hw), fun q hq => va_Nc.moved (u := U) (U := U.calling g mk a) r (hC q hq), hz, hb, va_X.moved (u := U) (U := U.calling g mk a) r hX, va_Z.moved (u := U) (U := U.calling g mk a) r hZ, va_T.moved (u := U) (U := U.calling g mk a) r hT, vx_Zq.moved (u := U) (U := U.calling g mk a) r hu, vx_Zq.moved (u := U) (U := U.calling g mk a) r hn⟩
/-- the heap holds h -/
def pm_Hp (G : pm_G) (f : Bool) (h : pm_H) (H : Heap) : Prop := va_P G.2.1 pm_cl (pm_ws G h) H ∧ G.1 + h.length ≤ H.size ∧ (f = true → H.size = G.1 + h.length)
def pm_Cx (l : Launch) (G : pm_G) (M : pm_M) (p : Program) (s : State) (m : MethodId) (args : Array Value) (meth : Method) (c : Code) : Prop :=
  p.tables.exec = Jvm.exec ∧ c.code = M.2.1 ∧ c.maxLocals = M.2.2.1 ∧ s.vm.findClass M.1.cls = some m.cls ∧ (∀ w ∈ pm_tbl, w.before args s = true) ∧ meth.sig.returnType = M.2.2.2.1 ∧ meth.locks = false ∧ c.exceptionTable.toList = tableOf M.2.2.2.2.1 ∧ meth.name = M.1.name ∧ pm_F G s ∧ l.stackTraces = false
def pm_rm (M : pm_M) (mc ms : Nat) : Room := { frames := M.2.2.2.2.2.1, cells := mc, slots := ms, locals := M.2.2.2.2.2.2 }
/-- how it ends -/
def pm_oc (G : pm_G) (o : pm_O) (oc : Outcome) (s t : State) : Prop := match o with
  | .inl v => oc = .returned (v.map (pm_rv G))
  | .inr E => ∃ (q : Addr) (ce : Cell), oc = .threw q ∧ t.heap[q]? = some ce ∧ ce.vm = .none ∧ s.vm.findClass E = some ce.cls
def pm_Qc (G : pm_G) (fo : Bool) (r : pm_O × pm_H) : Array Value → State → Outcome → State → Prop := fun _ s oc t =>
  pm_oc G r.1 oc s t ∧ pm_Hp G fo r.2 t.heap ∧ va_F (pm_A G) s t
def pm_Q (G : pm_G) (fo : Bool) (below : List Frame) (a : Array Value) (s : State) (mc ms : Nat) (r : pm_O × pm_H) : State → Prop := fun t =>
  ∃ oc, t.status = .running ∧ Ended t below oc ∧ pm_Qc G fo r a s oc t ∧ s.WarmedH t.vm ∧ ∃ L, s.sameButNew ({ t with vm := s.vm } : State) L mc ms ∧ ∀ q ∈ L, pm_A G q.base
/-- from pc, with these locals and operands and this heap, the body comes to the end r; at most kc cells of ks slots are made -/
def pm_Ev (l : Launch) (G : pm_G) (fi fo : Bool) (kc ks : Nat) (M : pm_M) (pc : Nat) (lv : List (Nat × Value)) (st : List Value) (h : pm_H) (r : pm_O × pm_H) : Prop :=
  ∀ (p : Program) (e : Env) (s : State) (m : MethodId) (args : Array Value) (below : List Frame) (meth : Method) (c : Code) (H : Heap) (locs : List Loc) (cells slots mc ms : Nat) (ls : Array Slot),
    pm_Cx l G M p s m args meth c → pm_Hp G fi h H → va_S (pm_A G) s.heap H locs → lv_has ls M.2.2.1 (pm_lv G lv) → cells + kc ≤ mc → slots + ks ≤ ms →
    W p l e (pm_rm M mc ms) s m args below meth c H locs cells slots (pm_Q G fo below args s mc ms r) (F0 m pc ls (st.map (pm_rv G)))
def pm_Pc (G : pm_G) (fi : Bool) (av : List Value) (h : pm_H) : Array Value → State → Prop := fun a U => a = (av.map (pm_rv G)).toArray ∧ pm_F G U ∧ pm_Hp G fi h U.heap
def pm_wsM (M : pm_M) : List Cond := (if M.2.2.2.2.1 = [] then Cond.code M.1 M.2.1 M.2.2.1 M.2.2.2.1 else Cond.codeWith M.1 M.2.1 M.2.2.1 M.2.2.2.1 M.2.2.2.2.1) :: pm_tbl
def pm_End (G : pm_G) (fo : Bool) (mc ms : Nat) (r : pm_O × pm_H) : Array Value → State → Outcome → State → Prop := fun a s oc t =>
  pm_Qc G fo r a s oc t ∧ s.WarmedH t.vm ∧ ∃ L, s.sameButNew ({ t with vm := s.vm } : State) L mc ms ∧ ∀ q ∈ L, pm_A G q.base
/-- the contract of M: called with av in the heap h, it ends with r -/
def pm_En (l : Launch) (G : pm_G) (fi fo : Bool) (kc ks : Nat) (M : pm_M) (av : List Value) (h : pm_H) (r : pm_O × pm_H) : Prop :=
  ∀ mc ms, kc ≤ mc → ks ≤ ms → MetFree l M.1 (headSpec (pm_wsM M) (pm_rm M mc ms)) (pm_Pc G fi av h) (fun _ _ _ _ _ => True) (pm_End G fo mc ms r)
theorem pm_blind {G : pm_G} {fi : Bool} {av : List Value} {h : pm_H} : FrameBlind (pm_Pc G fi av h) := fun a U g mk q => ⟨q.1, q.2.1.calling g mk a, q.2.2⟩
/-- a contract out of its body -/
theorem pm_En.of {l : Launch} {G : pm_G} {fi fo : Bool} {kc ks : Nat} {M : pm_M} {av : List Value} {h : pm_H} {r : pm_O × pm_H} (hl : l.stackTraces = false) (hy : plainName M.1.cls = true) (hn : (lg_sl av).length ≤ M.2.2.1)
    (k : pm_Ev l G fi fo kc ks M 0 (lv_args 0 av) [] h r) : pm_En l G fi fo kc ks M av h r := by
  intro mc ms hc hs
  have key : ∀ (args : Array Value) (s : State) (m : MethodId), (headSpec (pm_wsM M) (pm_rm M mc ms)).pre.before args s = true → s.methodNamed? M.1 = some m → ∃ meth c, s.vm.method? m = some meth ∧ meth.code = some c ∧ c.code = M.2.1 ∧ c.maxLocals = M.2.2.1 ∧ meth.sig.returnType = M.2.2.2.1 ∧ meth.locks = false ∧ c.exceptionTable.toList = tableOf M.2.2.2.2.1 := by
    intro args s m hp hn
    have h0 := atoms_spec (ws := pm_wsM M) hp _ List.mem_cons_self
    by_cases he : M.2.2.2.2.1 = []
    · rw [if_pos he] at h0
      obtain ⟨meth, c, h1, h2, h3, h4, h5, h6, h7, -⟩ := Cond.code_spec hn h0
      refine ⟨meth, c, h1, h2, h3, h4, h5, h6, ?_⟩
      rw [he, Array.isEmpty_iff.mp h7]
      rfl
    · rw [if_neg he] at h0
      obtain ⟨m9, meth, c, hn9, h1, h2, h3, h4, h7, h5, h6, -⟩ := Cond.codeWith_spec h0
      cases hn.symm.trans hn9
      refine ⟨meth, c, h1, h2, h3, h4, h5, h6, ?_⟩
      rw [← h7, table_eq]
  refine MetFree.of_bodyS (code := M.2.1) (maxLocals := M.2.2.1) (ret := M.2.2.2.1) hy ?_ ?_
  · intro args s m hp hn
    obtain ⟨meth, c, h1, h2, h3, h4, h5, h6, -⟩ := key args s m hp hn
    exact ⟨meth, c, h1, h2, h3, h4, h5, h6⟩
  · intro p e s m args below meth c s₁ B hml hP _
    obtain ⟨rfl, hF, hH⟩ := hP
    have hh0 : s₁.heap = s.heap := by rw [B.state]; rfl
    obtain ⟨meth9, c9, h1, h2, -, -, -, -, h7⟩ := key _ s m B.pre B.named
    cases Option.some.inj (h1.symm.trans B.method)
    cases Option.some.inj (h2.symm.trans (Stand.of_body B).code)
    have hl0 := lv_entry (av.map (pm_rv G)) (n := M.2.2.1) (by rw [pm_sl]; exact hn)
    have hC : pm_Cx l G M p s m (av.map (pm_rv G)).toArray meth c := ⟨B.exec, B.bytes, hml, findClass_of_methodNamed B.named, fun w hw => atoms_spec (ws := pm_wsM M) B.pre _ (List.mem_cons_of_mem _ hw), B.returns, B.notSynchronized, h7, (name_of_methodNamed B.named B.method).1, hF, hl⟩
    rw [pm_args] at hl0
    have K := k p e s m _ below meth c s.heap [] 0 0 mc ms _ hC hH va_S.rf hl0 (by omega) (by omega)
    rw [List.map_nil, ← lg_entry_eq] at K
    obtain ⟨t, a1, o, b1, b2, b3, b4⟩ := K s₁ hh0 (Stand.of_body B)
    exact ⟨t, o, a1, b1, b2, b3, b4⟩
/-- as the kit's own contract, where it returns -/
theorem pm_En.met {l : Launch} {G : pm_G} {fi fo : Bool} {kc ks : Nat} {M : pm_M} {av : List Value} {h h1 : pm_H} {v : Option Value} (k : pm_En l G fi fo kc ks M av h (.inl v, h1)) {mc ms : Nat} (hc : kc ≤ mc) (hs : ks ≤ ms) :
    Met l M.1 (pm_wsM M) (pm_rm M mc ms) (pm_Pc G fi av h) (pm_Qc G fo (.inl v, h1)) mc ms (pm_A G) := by
  intro p e ha hcs hk s m args below hf happ hP hT
  obtain ⟨n, o, q1, q2, q3, q4, q5, L, q6, q7⟩ := k mc ms hc hs p e ha hcs hk s m args below hf happ hP hT
  exact ⟨n, o, q1, q2, q3, q4, L, ⟨⟨_, q4.1⟩, q5, q6⟩, q7⟩
/-- as the kit's own contract, where it throws -/
theorem pm_En.metX {l : Launch} {G : pm_G} {fi fo : Bool} {kc ks : Nat} {M : pm_M} {av : List Value} {h h1 : pm_H} {E : String} (k : pm_En l G fi fo kc ks M av h (.inr E, h1)) {mc ms : Nat} (hc : kc ≤ mc) (hs : ks ≤ ms) :
    vx_Met l M.1 (pm_wsM M) (pm_rm M mc ms) (pm_Pc G fi av h) (fun _ _ _ _ => False) (fun E' st t => E' = E ∧ pm_Hp G fo h1 t.heap ∧ va_F (pm_A G) st t) mc ms (pm_A G) := by
  intro p e ha hcs hk s m args below hf happ hP hT
  obtain ⟨n, o, q1, q2, q3, ⟨⟨q, ce, rfl, g2, g3, g4⟩, g5, g6⟩, q5, L, q6, q7⟩ := k mc ms hc hs p e ha hcs hk s m args below hf happ hP hT
  exact ⟨n, .threw q, q1, q2, q3, Or.inr ⟨q, rfl, E, ce, L, ⟨rfl, g5, g6⟩, g2, g3, g4, q5, q6, q7⟩⟩
end
section
section PMR
variable {l : Launch} {G : pm_G} {fi fo : Bool} {kc ks : Nat} {M : pm_M} {pc : Nat} {lv : List (Nat × Value)} {st : List Value} {h : pm_H} {r : pm_O × pm_H}
/-- the frame of every plain row -/
theorem pm_row {pc' : Nat} {st' : List Value} (hr : ∀ {p : Program} {e : Env} {R : Room} {s : State} {m : MethodId} {args : Array Value} {below : List Frame} {meth : Method} {c : Code} {H : Heap} {locs : List Loc} {cells slots : Nat} {Q : State → Prop} {ls : Array Slot}, p.tables.exec = Jvm.exec → c.code = M.2.1 → lv_has ls M.2.2.1 (pm_lv G lv) → s.vm.findClass M.1.cls = some m.cls → (∀ w ∈ pm_tbl, w.before args s = true) → W p l e R s m args below meth c H locs cells slots Q (F0 m pc' ls (st'.map (pm_rv G))) → W p l e R s m args below meth c H locs cells slots Q (F0 m pc ls (st.map (pm_rv G))))
    (k : pm_Ev l G fi fo kc ks M pc' lv st' h r) : pm_Ev l G fi fo kc ks M pc lv st h r :=
  fun p e s m args below meth c H locs cells slots mc ms ls C P S L k1 k2 => hr C.1 C.2.1 L C.2.2.2.1 C.2.2.2.2.1 (k p e s m args below meth c H locs cells slots mc ms ls C P S L k1 k2)
theorem pm_rowS {pc' : Nat} {st' : List Value} {lv' : List (Nat × Value)} (hr : ∀ {p : Program} {e : Env} {R : Room} {s : State} {m : MethodId} {args : Array Value} {below : List Frame} {meth : Method} {c : Code} {H : Heap} {locs : List Loc} {cells slots : Nat} {Q : State → Prop} {ls : Array Slot}, p.tables.exec = Jvm.exec → c.code = M.2.1 → lv_has ls M.2.2.1 (pm_lv G lv) → (∀ ls', lv_has ls' M.2.2.1 (pm_lv G lv') → W p l e R s m args below meth c H locs cells slots Q (F0 m pc' ls' (st'.map (pm_rv G)))) → W p l e R s m args below meth c H locs cells slots Q (F0 m pc ls (st.map (pm_rv G))))
    (k : pm_Ev l G fi fo kc ks M pc' lv' st' h r) : pm_Ev l G fi fo kc ks M pc lv st h r :=
  fun p e s m args below meth c H locs cells slots mc ms ls C P S L k1 k2 => hr C.1 C.2.1 L (fun ls' L' => k p e s m args below meth c H locs cells slots mc ms ls' C P S L' k1 k2)
theorem pm_br {pc1 pc2 : Nat} {st1 st2 : List Value} {A : Prop} (hr : ∀ {p : Program} {e : Env} {R : Room} {s : State} {m : MethodId} {args : Array Value} {below : List Frame} {meth : Method} {c : Code} {H : Heap} {locs : List Loc} {cells slots : Nat} {Q : State → Prop} {ls : Array Slot}, p.tables.exec = Jvm.exec → c.code = M.2.1 → (A → W p l e R s m args below meth c H locs cells slots Q (F0 m pc1 ls (st1.map (pm_rv G)))) → (¬ A → W p l e R s m args below meth c H locs cells slots Q (F0 m pc2 ls (st2.map (pm_rv G)))) → W p l e R s m args below meth c H locs cells slots Q (F0 m pc ls (st.map (pm_rv G))))
    (k1 : A → pm_Ev l G fi fo kc ks M pc1 lv st1 h r) (k2 : ¬ A → pm_Ev l G fi fo kc ks M pc2 lv st2 h r) : pm_Ev l G fi fo kc ks M pc lv st h r :=
  fun p e s m args below meth c H locs cells slots mc ms ls C P S L q1 q2 => hr C.1 C.2.1 (fun a => k1 a p e s m args below meth c H locs cells slots mc ms ls C P S L q1 q2) (fun a => k2 a p e s m args below meth c H locs cells slots mc ms ls C P S L q1 q2)
theorem pm_iconst {n : Int} {v : Int32} (d : decode M.2.1 pc = .ok (.iconst n, 1)) (hv : Int32.ofInt n = v) (k : pm_Ev l G fi fo kc ks M (pc + 1) lv (.int v :: st) h r) : pm_Ev l G fi fo kc ks M pc lv (st) h r := pm_row (fun hx hb hl ho ht k => lv_iconst (v := v) hx hb d hv k) k
theorem pm_bipush {n : Int} {v : Int32} (d : decode M.2.1 pc = .ok (.bipush n, 2)) (hv : (Int8.ofInt n).toInt32 = v) (k : pm_Ev l G fi fo kc ks M (pc + 2) lv (.int v :: st) h r) : pm_Ev l G fi fo kc ks M pc lv (st) h r := pm_row (fun hx hb hl ho ht k => lv_bipush (v := v) hx hb d hv k) k
theorem pm_sipush {n : Int} {v : Int32} (d : decode M.2.1 pc = .ok (.sipush n, 3)) (hv : (Int16.ofInt n).toInt32 = v) (k : pm_Ev l G fi fo kc ks M (pc + 3) lv (.int v :: st) h r) : pm_Ev l G fi fo kc ks M pc lv (st) h r := pm_row (fun hx hb hl ho ht k => lv_sipush (v := v) hx hb d hv k) k
theorem pm_dconst0  (d : decode M.2.1 pc = .ok (.dconst 0, 1))  (k : pm_Ev l G fi fo kc ks M (pc + 1) lv (.double FP.dconst0 :: st) h r) : pm_Ev l G fi fo kc ks M pc lv (st) h r := pm_row (fun hx hb hl ho ht k => lv_dconst0 hx hb d k) k
theorem pm_dconst1  (d : decode M.2.1 pc = .ok (.dconst 1, 1))  (k : pm_Ev l G fi fo kc ks M (pc + 1) lv (.double FP.dconst1 :: st) h r) : pm_Ev l G fi fo kc ks M pc lv (st) h r := pm_row (fun hx hb hl ho ht k => lv_dconst1 hx hb d k) k
theorem pm_ldc2d {index : Nat} {v : UInt64} (d : decode M.2.1 pc = .ok (.ldc2_w index, 3)) (hw : Cond.constantDouble M.1.cls index v ∈ pm_tbl) (k : pm_Ev l G fi fo kc ks M (pc + 3) lv (.double v :: st) h r) : pm_Ev l G fi fo kc ks M pc lv (st) h r := pm_row (fun hx hb hl ho ht k => lv_ldc2d hx hb ho (ht _ hw) d k) k
theorem pm_aconst_null  (d : decode M.2.1 pc = .ok (.aconst_null, 1))  (k : pm_Ev l G fi fo kc ks M (pc + 1) lv (.null :: st) h r) : pm_Ev l G fi fo kc ks M pc lv (st) h r := pm_row (fun hx hb hl ho ht k => lv_null hx hb d k) k
theorem pm_iload_n {n : Fin 4} {x : Int32} (d : decode M.2.1 pc = .ok (.iload_n n, 1)) (hk : pm_lk lv n = some (.int x)) (k : pm_Ev l G fi fo kc ks M (pc + 1) lv (.int x :: st) h r) : pm_Ev l G fi fo kc ks M pc lv (st) h r := pm_row (fun hx hb hl ho ht k => lv_iload_n hx hb d rfl (pm_lk_at hl hk) k) k
theorem pm_iload {i : Nat} {x : Int32} (d : decode M.2.1 pc = .ok (.iload i, 2)) (hk : pm_lk lv i = some (.int x)) (k : pm_Ev l G fi fo kc ks M (pc + 2) lv (.int x :: st) h r) : pm_Ev l G fi fo kc ks M pc lv (st) h r := pm_row (fun hx hb hl ho ht k => lv_iload hx hb d (pm_lk_at hl hk) k) k
theorem pm_lload_n {n : Fin 4} {x : Int64} (d : decode M.2.1 pc = .ok (.lload_n n, 1)) (hk : pm_lk lv n = some (.long x)) (k : pm_Ev l G fi fo kc ks M (pc + 1) lv (.long x :: st) h r) : pm_Ev l G fi fo kc ks M pc lv (st) h r := pm_row (fun hx hb hl ho ht k => lv_lload_n hx hb d rfl (pm_lk_at hl hk) k) k
theorem pm_lload {i : Nat} {x : Int64} (d : decode M.2.1 pc = .ok (.lload i, 2)) (hk : pm_lk lv i = some (.long x)) (k : pm_Ev l G fi fo kc ks M (pc + 2) lv (.long x :: st) h r) : pm_Ev l G fi fo kc ks M pc lv (st) h r := pm_row (fun hx hb hl ho ht k => lv_lload hx hb d (pm_lk_at hl hk) k) k
theorem pm_dload_n {n : Fin 4} {x : UInt64} (d : decode M.2.1 pc = .ok (.dload_n n, 1)) (hk : pm_lk lv n = some (.double x)) (k : pm_Ev l G fi fo kc ks M (pc + 1) lv (.double x :: st) h r) : pm_Ev l G fi fo kc ks M pc lv (st) h r := pm_row (fun hx hb hl ho ht k => lv_dload_n hx hb d rfl (pm_lk_at hl hk) k) k
theorem pm_dload {i : Nat} {x : UInt64} (d : decode M.2.1 pc = .ok (.dload i, 2)) (hk : pm_lk lv i = some (.double x)) (k : pm_Ev l G fi fo kc ks M (pc + 2) lv (.double x :: st) h r) : pm_Ev l G fi fo kc ks M pc lv (st) h r := pm_row (fun hx hb hl ho ht k => lv_dload hx hb d (pm_lk_at hl hk) k) k
theorem pm_aload_n {n : Fin 4} {x : Nat} (d : decode M.2.1 pc = .ok (.aload_n n, 1)) (hk : pm_lk lv n = some (.ref x)) (k : pm_Ev l G fi fo kc ks M (pc + 1) lv (.ref x :: st) h r) : pm_Ev l G fi fo kc ks M pc lv (st) h r := pm_row (fun hx hb hl ho ht k => lv_aload_n hx hb d rfl (pm_lk_at hl hk) k) k
theorem pm_aload {i : Nat} {x : Nat} (d : decode M.2.1 pc = .ok (.aload i, 2)) (hk : pm_lk lv i = some (.ref x)) (k : pm_Ev l G fi fo kc ks M (pc + 2) lv (.ref x :: st) h r) : pm_Ev l G fi fo kc ks M pc lv (st) h r := pm_row (fun hx hb hl ho ht k => lv_aload hx hb d (pm_lk_at hl hk) k) k
theorem pm_aload_nO {n : Fin 4} {x : Nat} (d : decode M.2.1 pc = .ok (.aload_n n, 1)) (hk : pm_lk lv n = some (.retAddr x)) (k : pm_Ev l G fi fo kc ks M (pc + 1) lv (.retAddr x :: st) h r) : pm_Ev l G fi fo kc ks M pc lv (st) h r := pm_row (fun hx hb hl ho ht k => lv_aload_n hx hb d rfl (pm_lk_at hl hk) k) k
theorem pm_aloadO {i : Nat} {x : Nat} (d : decode M.2.1 pc = .ok (.aload i, 2)) (hk : pm_lk lv i = some (.retAddr x)) (k : pm_Ev l G fi fo kc ks M (pc + 2) lv (.retAddr x :: st) h r) : pm_Ev l G fi fo kc ks M pc lv (st) h r := pm_row (fun hx hb hl ho ht k => lv_aload hx hb d (pm_lk_at hl hk) k) k
theorem pm_istore_n {n : Fin 4} {x : Int32} {lv' : List (Nat × Value)} (d : decode M.2.1 pc = .ok (.istore_n n, 1)) (hn : (n : Nat) < M.2.2.1) (hs : pm_s1 lv (n : Nat) (.int x) = lv') (k : pm_Ev l G fi fo kc ks M (pc + 1) lv' st h r) : pm_Ev l G fi fo kc ks M pc lv (.int x :: st) h r := by
  subst hs
  exact pm_rowS (fun hx hb hl k => lv_istore_n hx hb d rfl hl hn (pm_s1_eq G lv n (.int x)) k) k
theorem pm_istore {i : Nat} {x : Int32} {lv' : List (Nat × Value)} (d : decode M.2.1 pc = .ok (.istore i, 2)) (hn : i < M.2.2.1) (hs : pm_s1 lv i (.int x) = lv') (k : pm_Ev l G fi fo kc ks M (pc + 2) lv' st h r) : pm_Ev l G fi fo kc ks M pc lv (.int x :: st) h r := by
  subst hs
  exact pm_rowS (fun hx hb hl k => lv_istore hx hb d hl hn (pm_s1_eq G lv i (.int x)) k) k
theorem pm_lstore_n {n : Fin 4} {x : Int64} {lv' : List (Nat × Value)} (d : decode M.2.1 pc = .ok (.lstore_n n, 1)) (hn : (n : Nat) + 1 < M.2.2.1) (hs : pm_s2 lv (n : Nat) (.long x) = lv') (k : pm_Ev l G fi fo kc ks M (pc + 1) lv' st h r) : pm_Ev l G fi fo kc ks M pc lv (.long x :: st) h r := by
  subst hs
  exact pm_rowS (fun hx hb hl k => lv_lstore_n hx hb d rfl hl hn (pm_s2_eq G lv n (.long x)) k) k
theorem pm_lstore {i : Nat} {x : Int64} {lv' : List (Nat × Value)} (d : decode M.2.1 pc = .ok (.lstore i, 2)) (hn : i + 1 < M.2.2.1) (hs : pm_s2 lv i (.long x) = lv') (k : pm_Ev l G fi fo kc ks M (pc + 2) lv' st h r) : pm_Ev l G fi fo kc ks M pc lv (.long x :: st) h r := by
  subst hs
  exact pm_rowS (fun hx hb hl k => lv_lstore hx hb d hl hn (pm_s2_eq G lv i (.long x)) k) k
theorem pm_dstore_n {n : Fin 4} {x : UInt64} {lv' : List (Nat × Value)} (d : decode M.2.1 pc = .ok (.dstore_n n, 1)) (hn : (n : Nat) + 1 < M.2.2.1) (hs : pm_s2 lv (n : Nat) (.double x) = lv') (k : pm_Ev l G fi fo kc ks M (pc + 1) lv' st h r) : pm_Ev l G fi fo kc ks M pc lv (.double x :: st) h r := by
  subst hs
  exact pm_rowS (fun hx hb hl k => lv_dstore_n hx hb d rfl hl hn (pm_s2_eq G lv n (.double x)) k) k
theorem pm_dstore {i : Nat} {x : UInt64} {lv' : List (Nat × Value)} (d : decode M.2.1 pc = .ok (.dstore i, 2)) (hn : i + 1 < M.2.2.1) (hs : pm_s2 lv i (.double x) = lv') (k : pm_Ev l G fi fo kc ks M (pc + 2) lv' st h r) : pm_Ev l G fi fo kc ks M pc lv (.double x :: st) h r := by
  subst hs
  exact pm_rowS (fun hx hb hl k => lv_dstore hx hb d hl hn (pm_s2_eq G lv i (.double x)) k) k
theorem pm_astore_n {n : Fin 4} {x : Nat} {lv' : List (Nat × Value)} (d : decode M.2.1 pc = .ok (.astore_n n, 1)) (hn : (n : Nat) < M.2.2.1) (hs : pm_s1 lv (n : Nat) (.ref x) = lv') (k : pm_Ev l G fi fo kc ks M (pc + 1) lv' st h r) : pm_Ev l G fi fo kc ks M pc lv (.ref x :: st) h r := by
  subst hs
  exact pm_rowS (fun hx hb hl k => lv_astore_n hx hb d rfl hl hn (pm_s1_eq G lv n (.ref x)) k) k
theorem pm_astore {i : Nat} {x : Nat} {lv' : List (Nat × Value)} (d : decode M.2.1 pc = .ok (.astore i, 2)) (hn : i < M.2.2.1) (hs : pm_s1 lv i (.ref x) = lv') (k : pm_Ev l G fi fo kc ks M (pc + 2) lv' st h r) : pm_Ev l G fi fo kc ks M pc lv (.ref x :: st) h r := by
  subst hs
  exact pm_rowS (fun hx hb hl k => lv_astore hx hb d hl hn (pm_s1_eq G lv i (.ref x)) k) k
theorem pm_lkm {lv : List (Nat × Value)} {i : Nat} {v : Value} (h : pm_lk lv i = some v) : ∃ k : Nat, lv[k]? = some (i, v) := by
  simp only [pm_lk, Option.map_eq_some_iff] at h
  obtain ⟨q, hq, rfl⟩ := h
  obtain ⟨k, hk⟩ := List.getElem?_of_mem (List.mem_of_find?_eq_some hq)
  have h2 := List.find?_some hq
  simp only [beq_iff_eq] at h2
  exact ⟨k, by rw [hk, ← h2]⟩
theorem pm_iinc {i : Nat} {n : Int} {x v : Int32} {lv' : List (Nat × Value)} (d : decode M.2.1 pc = .ok (.iinc i n, 3)) (hk : pm_lk lv i = some (.int x)) (hv : x + Int32.ofInt n = v) (hn : i < M.2.2.1) (hs : pm_s1 lv i (.int v) = lv') (k : pm_Ev l G fi fo kc ks M (pc + 3) lv' st h r) : pm_Ev l G fi fo kc ks M pc lv st h r := by
  subst hs
  obtain ⟨q, hq⟩ := pm_lkm hk
  exact pm_rowS (fun hx hb hl k => lv_iinc (k := q) hx hb d hl (by simp [pm_lv, hq, pm_rv]) hv hn (pm_s1_eq G lv i (.int v)) k) k
theorem pm_iadd {x y : Int32} (d : decode M.2.1 pc = .ok (.iadd, 1))  (k : pm_Ev l G fi fo kc ks M (pc + 1) lv (.int (x + y) :: st) h r) : pm_Ev l G fi fo kc ks M pc lv (.int y :: .int x :: st) h r := pm_row (fun hx hb hl ho ht k => lv_iadd hx hb d k) k
theorem pm_isub {x y : Int32} (d : decode M.2.1 pc = .ok (.isub, 1))  (k : pm_Ev l G fi fo kc ks M (pc + 1) lv (.int (x - y) :: st) h r) : pm_Ev l G fi fo kc ks M pc lv (.int y :: .int x :: st) h r := pm_row (fun hx hb hl ho ht k => lv_isub hx hb d k) k
theorem pm_imul {x y : Int32} (d : decode M.2.1 pc = .ok (.imul, 1))  (k : pm_Ev l G fi fo kc ks M (pc + 1) lv (.int (x * y) :: st) h r) : pm_Ev l G fi fo kc ks M pc lv (.int y :: .int x :: st) h r := pm_row (fun hx hb hl ho ht k => lv_imul hx hb d k) k
theorem pm_iand {x y : Int32} (d : decode M.2.1 pc = .ok (.iand, 1))  (k : pm_Ev l G fi fo kc ks M (pc + 1) lv (.int (x &&& y) :: st) h r) : pm_Ev l G fi fo kc ks M pc lv (.int y :: .int x :: st) h r := pm_row (fun hx hb hl ho ht k => lv_iand hx hb d k) k
theorem pm_ior {x y : Int32} (d : decode M.2.1 pc = .ok (.ior, 1))  (k : pm_Ev l G fi fo kc ks M (pc + 1) lv (.int (x ||| y) :: st) h r) : pm_Ev l G fi fo kc ks M pc lv (.int y :: .int x :: st) h r := pm_row (fun hx hb hl ho ht k => lv_ior hx hb d k) k
theorem pm_idiv {x y : Int32} (d : decode M.2.1 pc = .ok (.idiv, 1)) (hne : ¬ y = 0) (k : pm_Ev l G fi fo kc ks M (pc + 1) lv (.int (x / y) :: st) h r) : pm_Ev l G fi fo kc ks M pc lv (.int y :: .int x :: st) h r := pm_row (fun hx hb hl ho ht k => lv_idiv hx hb d hne k) k
theorem pm_ishl {x y : Int32} (d : decode M.2.1 pc = .ok (.ishl, 1))  (k : pm_Ev l G fi fo kc ks M (pc + 1) lv (.int (x <<< (y &&& 31)) :: st) h r) : pm_Ev l G fi fo kc ks M pc lv (.int y :: .int x :: st) h r := pm_row (fun hx hb hl ho ht k => lv_ishl hx hb d k) k
theorem pm_ishr {x y : Int32} (d : decode M.2.1 pc = .ok (.ishr, 1))  (k : pm_Ev l G fi fo kc ks M (pc + 1) lv (.int (x >>> (y &&& 31)) :: st) h r) : pm_Ev l G fi fo kc ks M pc lv (.int y :: .int x :: st) h r := pm_row (fun hx hb hl ho ht k => lv_ishr hx hb d k) k
theorem pm_dadd {x y : UInt64} (d : decode M.2.1 pc = .ok (.dadd, 1)) (hne : vf_n64 (FP.dadd x y)) (k : pm_Ev l G fi fo kc ks M (pc + 1) lv (.double (FP.dadd x y) :: st) h r) : pm_Ev l G fi fo kc ks M pc lv (.double y :: .double x :: st) h r := pm_row (fun hx hb hl ho ht k => lv_dadd hx hb d hne k) k
theorem pm_dsub {x y : UInt64} (d : decode M.2.1 pc = .ok (.dsub, 1)) (hne : vf_n64 (FP.dsub x y)) (k : pm_Ev l G fi fo kc ks M (pc + 1) lv (.double (FP.dsub x y) :: st) h r) : pm_Ev l G fi fo kc ks M pc lv (.double y :: .double x :: st) h r := pm_row (fun hx hb hl ho ht k => lv_dsub hx hb d hne k) k
theorem pm_dmul {x y : UInt64} (d : decode M.2.1 pc = .ok (.dmul, 1)) (hne : vf_n64 (FP.dmul x y)) (k : pm_Ev l G fi fo kc ks M (pc + 1) lv (.double (FP.dmul x y) :: st) h r) : pm_Ev l G fi fo kc ks M pc lv (.double y :: .double x :: st) h r := pm_row (fun hx hb hl ho ht k => lv_dmul hx hb d hne k) k
theorem pm_ddiv {x y : UInt64} (d : decode M.2.1 pc = .ok (.ddiv, 1)) (hne : vf_n64 (FP.ddiv x y)) (k : pm_Ev l G fi fo kc ks M (pc + 1) lv (.double (FP.ddiv x y) :: st) h r) : pm_Ev l G fi fo kc ks M pc lv (.double y :: .double x :: st) h r := pm_row (fun hx hb hl ho ht k => lv_ddiv hx hb d hne k) k
theorem pm_i2d {x : Int32} (d : decode M.2.1 pc = .ok (.i2d, 1))  (k : pm_Ev l G fi fo kc ks M (pc + 1) lv (.double (FP.i2d x) :: st) h r) : pm_Ev l G fi fo kc ks M pc lv (.int x :: st) h r := pm_row (fun hx hb hl ho ht k => lv_i2d hx hb d k) k
theorem pm_d2i {x : UInt64} (d : decode M.2.1 pc = .ok (.d2i, 1))  (k : pm_Ev l G fi fo kc ks M (pc + 1) lv (.int (FP.d2i x) :: st) h r) : pm_Ev l G fi fo kc ks M pc lv (.double x :: st) h r := pm_row (fun hx hb hl ho ht k => lv_d2i hx hb d k) k
theorem pm_i2l {x : Int32} (d : decode M.2.1 pc = .ok (.i2l, 1))  (k : pm_Ev l G fi fo kc ks M (pc + 1) lv (.long x.toInt64 :: st) h r) : pm_Ev l G fi fo kc ks M pc lv (.int x :: st) h r := pm_row (fun hx hb hl ho ht k => lv_i2l hx hb d rfl k) k
theorem pm_lcmp {x y : Int64} (d : decode M.2.1 pc = .ok (.lcmp, 1))  (k : pm_Ev l G fi fo kc ks M (pc + 1) lv (.int (lg_cmp x y) :: st) h r) : pm_Ev l G fi fo kc ks M pc lv (.long y :: .long x :: st) h r := pm_row (fun hx hb hl ho ht k => W.lcmp hx hb d k) k
theorem pm_dcmp {x y : UInt64} {op : CmpOp} (d : decode M.2.1 pc = .ok (.dcmp op, 1))  (k : pm_Ev l G fi fo kc ks M (pc + 1) lv (.int (Op.cmpValue (FP.dcmp x y) op) :: st) h r) : pm_Ev l G fi fo kc ks M pc lv (.double y :: .double x :: st) h r := pm_row (fun hx hb hl ho ht k => lv_dcmp hx hb d k) k
theorem pm_dup {v : Value} (d : decode M.2.1 pc = .ok (.dup, 1)) (hv : v.category = 1) (k : pm_Ev l G fi fo kc ks M (pc + 1) lv (v :: v :: st) h r) : pm_Ev l G fi fo kc ks M pc lv (v :: st) h r := pm_row (fun hx hb hl ho ht k => lv_dup hx hb d ((pm_cat G v).trans hv) k) k
theorem pm_pop {v : Value} (d : decode M.2.1 pc = .ok (.pop, 1)) (hv : v.category = 1) (k : pm_Ev l G fi fo kc ks M (pc + 1) lv (st) h r) : pm_Ev l G fi fo kc ks M pc lv (v :: st) h r := pm_row (fun hx hb hl ho ht k => lv_pop hx hb d ((pm_cat G v).trans hv) k) k
theorem pm_dup_x1 {v w : Value} (d : decode M.2.1 pc = .ok (.dup_x1, 1)) (hv : v.category = 1) (hw : w.category = 1) (k : pm_Ev l G fi fo kc ks M (pc + 1) lv (v :: w :: v :: st) h r) : pm_Ev l G fi fo kc ks M pc lv (v :: w :: st) h r := pm_row (fun hx hb hl ho ht k => lv_dup_x1 hx hb d ((pm_cat G v).trans hv) ((pm_cat G w).trans hw) k) k
theorem pm_if_eq {x : Int32} {off : Int} {tgt : Nat} (d : decode M.2.1 pc = .ok (.ifCond .eq off, 3)) (ht : (pc : Int) + off = (tgt : Int)) (k1 : x = 0 → pm_Ev l G fi fo kc ks M tgt lv st h r) (k2 : ¬ (x = 0) → pm_Ev l G fi fo kc ks M (pc + 3) lv st h r) : pm_Ev l G fi fo kc ks M pc lv (.int x :: st) h r := pm_br (fun hx hb a b => lv_if_eq hx hb d ht a b) k1 k2
theorem pm_icmp_eq {x y : Int32} {off : Int} {tgt : Nat} (d : decode M.2.1 pc = .ok (.if_icmp .eq off, 3)) (ht : (pc : Int) + off = (tgt : Int)) (k1 : x = y → pm_Ev l G fi fo kc ks M tgt lv st h r) (k2 : ¬ (x = y) → pm_Ev l G fi fo kc ks M (pc + 3) lv st h r) : pm_Ev l G fi fo kc ks M pc lv (.int y :: .int x :: st) h r := pm_br (fun hx hb a b => lv_icmp_eq hx hb d ht a b) k1 k2
theorem pm_if_ne {x : Int32} {off : Int} {tgt : Nat} (d : decode M.2.1 pc = .ok (.ifCond .ne off, 3)) (ht : (pc : Int) + off = (tgt : Int)) (k1 : ¬ x = 0 → pm_Ev l G fi fo kc ks M tgt lv st h r) (k2 : x = 0 → pm_Ev l G fi fo kc ks M (pc + 3) lv st h r) : pm_Ev l G fi fo kc ks M pc lv (.int x :: st) h r := pm_br (A := ¬ x = 0) (fun hx hb a b => lv_if_ne hx hb d ht a (fun q => b (fun z => z q))) k1 (fun z => k2 (Decidable.byContradiction z))
theorem pm_icmp_ne {x y : Int32} {off : Int} {tgt : Nat} (d : decode M.2.1 pc = .ok (.if_icmp .ne off, 3)) (ht : (pc : Int) + off = (tgt : Int)) (k1 : ¬ x = y → pm_Ev l G fi fo kc ks M tgt lv st h r) (k2 : x = y → pm_Ev l G fi fo kc ks M (pc + 3) lv st h r) : pm_Ev l G fi fo kc ks M pc lv (.int y :: .int x :: st) h r := pm_br (A := ¬ x = y) (fun hx hb a b => lv_icmp_ne hx hb d ht a (fun q => b (fun z => z q))) k1 (fun z => k2 (Decidable.byContradiction z))
theorem pm_if_lt {x : Int32} {off : Int} {tgt : Nat} (d : decode M.2.1 pc = .ok (.ifCond .lt off, 3)) (ht : (pc : Int) + off = (tgt : Int)) (k1 : x < 0 → pm_Ev l G fi fo kc ks M tgt lv st h r) (k2 : ¬ (x < 0) → pm_Ev l G fi fo kc ks M (pc + 3) lv st h r) : pm_Ev l G fi fo kc ks M pc lv (.int x :: st) h r := pm_br (fun hx hb a b => lv_if_lt hx hb d ht a b) k1 k2
theorem pm_icmp_lt {x y : Int32} {off : Int} {tgt : Nat} (d : decode M.2.1 pc = .ok (.if_icmp .lt off, 3)) (ht : (pc : Int) + off = (tgt : Int)) (k1 : x < y → pm_Ev l G fi fo kc ks M tgt lv st h r) (k2 : ¬ (x < y) → pm_Ev l G fi fo kc ks M (pc + 3) lv st h r) : pm_Ev l G fi fo kc ks M pc lv (.int y :: .int x :: st) h r := pm_br (fun hx hb a b => lv_icmp_lt hx hb d ht a b) k1 k2
theorem pm_if_ge {x : Int32} {off : Int} {tgt : Nat} (d : decode M.2.1 pc = .ok (.ifCond .ge off, 3)) (ht : (pc : Int) + off = (tgt : Int)) (k1 : 0 ≤ x → pm_Ev l G fi fo kc ks M tgt lv st h r) (k2 : ¬ (0 ≤ x) → pm_Ev l G fi fo kc ks M (pc + 3) lv st h r) : pm_Ev l G fi fo kc ks M pc lv (.int x :: st) h r := pm_br (fun hx hb a b => lv_if_ge hx hb d ht a b) k1 k2
theorem pm_icmp_ge {x y : Int32} {off : Int} {tgt : Nat} (d : decode M.2.1 pc = .ok (.if_icmp .ge off, 3)) (ht : (pc : Int) + off = (tgt : Int)) (k1 : y ≤ x → pm_Ev l G fi fo kc ks M tgt lv st h r) (k2 : ¬ (y ≤ x) → pm_Ev l G fi fo kc ks M (pc + 3) lv st h r) : pm_Ev l G fi fo kc ks M pc lv (.int y :: .int x :: st) h r := pm_br (fun hx hb a b => lv_icmp_ge hx hb d ht a b) k1 k2
theorem pm_if_gt {x : Int32} {off : Int} {tgt : Nat} (d : decode M.2.1 pc = .ok (.ifCond .gt off, 3)) (ht : (pc : Int) + off = (tgt : Int)) (k1 : 0 < x → pm_Ev l G fi fo kc ks M tgt lv st h r) (k2 : ¬ (0 < x) → pm_Ev l G fi fo kc ks M (pc + 3) lv st h r) : pm_Ev l G fi fo kc ks M pc lv (.int x :: st) h r := pm_br (fun hx hb a b => lv_if_gt hx hb d ht a b) k1 k2
theorem pm_icmp_gt {x y : Int32} {off : Int} {tgt : Nat} (d : decode M.2.1 pc = .ok (.if_icmp .gt off, 3)) (ht : (pc : Int) + off = (tgt : Int)) (k1 : y < x → pm_Ev l G fi fo kc ks M tgt lv st h r) (k2 : ¬ (y < x) → pm_Ev l G fi fo kc ks M (pc + 3) lv st h r) : pm_Ev l G fi fo kc ks M pc lv (.int y :: .int x :: st) h r := pm_br (fun hx hb a b => lv_icmp_gt hx hb d ht a b) k1 k2
theorem pm_if_le {x : Int32} {off : Int} {tgt : Nat} (d : decode M.2.1 pc = .ok (.ifCond .le off, 3)) (ht : (pc : Int) + off = (tgt : Int)) (k1 : x ≤ 0 → pm_Ev l G fi fo kc ks M tgt lv st h r) (k2 : ¬ (x ≤ 0) → pm_Ev l G fi fo kc ks M (pc + 3) lv st h r) : pm_Ev l G fi fo kc ks M pc lv (.int x :: st) h r := pm_br (fun hx hb a b => lv_if_le hx hb d ht a b) k1 k2
theorem pm_icmp_le {x y : Int32} {off : Int} {tgt : Nat} (d : decode M.2.1 pc = .ok (.if_icmp .le off, 3)) (ht : (pc : Int) + off = (tgt : Int)) (k1 : x ≤ y → pm_Ev l G fi fo kc ks M tgt lv st h r) (k2 : ¬ (x ≤ y) → pm_Ev l G fi fo kc ks M (pc + 3) lv st h r) : pm_Ev l G fi fo kc ks M pc lv (.int y :: .int x :: st) h r := pm_br (fun hx hb a b => lv_icmp_le hx hb d ht a b) k1 k2
theorem pm_goto {off : Int} {tgt : Nat} (d : decode M.2.1 pc = .ok (.goto off, 3)) (ht : (pc : Int) + off = (tgt : Int)) (k : pm_Ev l G fi fo kc ks M tgt lv st h r) : pm_Ev l G fi fo kc ks M pc lv st h r := pm_row (fun hx hb _ _ _ k => lv_goto hx hb d ht k) k
theorem pm_tabOut {dflt lo hi : Int} {offs : Array Int} {len : Nat} {x : Int32} {tgt : Nat} (d : decode M.2.1 pc = .ok (.tableswitch dflt lo hi offs, len)) (hx : x.toInt < lo ∨ hi < x.toInt) (ht : (pc : Int) + dflt = (tgt : Int)) (k : pm_Ev l G fi fo kc ks M tgt lv st h r) : pm_Ev l G fi fo kc ks M pc lv (.int x :: st) h r := pm_row (fun h1 hb _ _ _ k => lv_tableOut h1 hb d hx ht k) k
theorem pm_tabIn {dflt lo hi : Int} {offs : Array Int} {len : Nat} {x : Int32} {off : Int} {tgt : Nat} (d : decode M.2.1 pc = .ok (.tableswitch dflt lo hi offs, len)) (h1 : ¬ x.toInt < lo) (h2 : ¬ hi < x.toInt) (ho : offs[(x.toInt - lo).toNat]? = some off) (ht : (pc : Int) + off = (tgt : Int)) (k : pm_Ev l G fi fo kc ks M tgt lv st h r) : pm_Ev l G fi fo kc ks M pc lv (.int x :: st) h r := pm_row (fun hx hb _ _ _ k => lv_tableIn hx hb d h1 h2 ho ht k) k
theorem pm_look {dflt : Int} {ps : Array (Int × Int)} {len : Nat} {x : Int32} {off : Int} {tgt : Nat} (d : decode M.2.1 pc = .ok (.lookupswitch dflt ps, len)) (hp : (ps.toList.zip (ps.toList.drop 1)).all (fun (a, next) => a.1 < next.1) = true) (ho : Op.lookupswitch.offset ps.toList dflt x.toInt = off) (ht : (pc : Int) + off = (tgt : Int)) (k : pm_Ev l G fi fo kc ks M tgt lv st h r) : pm_Ev l G fi fo kc ks M pc lv (.int x :: st) h r := pm_row (fun hx hb _ _ _ k => lv_lookup hx hb d hp ho ht k) k
end PMR
end
section
/-! ===== returns; fields; arrays ===== -/
section PMH
variable {l : Launch} {G : pm_G} {fi fo : Bool} {kc ks : Nat} {M : pm_M} {pc : Nat} {lv : List (Nat × Value)} {st : List Value} {h : pm_H} {r : pm_O × pm_H}
theorem pm_Hp.wk {fi fi' : Bool} {H : Heap} (hP : pm_Hp G fi h H) (hf : fi' = true → fi = true) : pm_Hp G fi' h H := ⟨hP.1, hP.2.1, fun q => hP.2.2 (hf q)⟩
/-- asked less of the heap's size, or promised more -/
theorem pm_Ev.wk {fi' fo' : Bool} (hi : fi = true → fi' = true) (ho : fo' = true → fo = true) (k : pm_Ev l G fi fo kc ks M pc lv st h r) : pm_Ev l G fi' fo' kc ks M pc lv st h r := by
  intro p e s m args below meth c H locs cells slots mc ms ls C P S L k1 k2 T hT X
  obtain ⟨t, a1, oc, b1, b2, ⟨b3, b4, b5⟩, b6⟩ := k p e s m args below meth c H locs cells slots mc ms ls C (P.wk hi) S L k1 k2 T hT X
  exact ⟨t, a1, oc, b1, b2, ⟨b3, b4.wk ho, b5⟩, b6⟩
theorem pm_Ev.more {kc' ks' : Nat} (hc : kc ≤ kc') (hs : ks ≤ ks') (k : pm_Ev l G fi fo kc ks M pc lv st h r) : pm_Ev l G fi fo kc' ks' M pc lv st h r :=
  fun p e s m args below meth c H locs cells slots mc ms ls C P S L k1 k2 => k p e s m args below meth c H locs cells slots mc ms ls C P S L (by omega) (by omega)
theorem pm_Ev.to {lv' : List (Nat × Value)} (hl : ∀ q ∈ lv', q ∈ lv) (k : pm_Ev l G fi fo kc ks M pc lv' st h r) : pm_Ev l G fi fo kc ks M pc lv st h r :=
  fun p e s m args below meth c H locs cells slots mc ms ls C P S L k1 k2 => k p e s m args below meth c H locs cells slots mc ms ls C P S ⟨L.1, L.2.1, fun q hq => by
    obtain ⟨q0, h0, rfl⟩ := List.mem_map.mp hq
    exact L.2.2 _ (List.mem_map.mpr ⟨q0, hl q0 h0, rfl⟩)⟩ k1 k2
theorem pm_end {p : Program} {e : Env} {R : Room} {s : State} {m : MethodId} {args : Array Value} {below : List Frame} {meth : Method} {c : Code} {H : Heap} {locs : List Loc} {cells slots mc ms : Nat} {g : JFrame} (hc : cells ≤ mc) (hs : slots ≤ ms) (k : W p l e R s m args below meth c H locs cells slots (MQ below (pm_Qc G fo r) args s cells slots (pm_A G)) g) :
    W p l e R s m args below meth c H locs cells slots (pm_Q G fo below args s mc ms r) g := by
  intro T hT X
  obtain ⟨t, a1, o, b1, b2, b3, L, ⟨-, b5, b6⟩, b7⟩ := k T hT X
  exact ⟨t, a1, o, b1, b2, b3, b5, L, b6.mono hc hs, b7⟩
theorem pm_qr {s t : State} {H : Heap} {locs : List Loc} {v : Option Value} {a : Array Value} (P : pm_Hp G fi h H) (S : va_S (pm_A G) s.heap H locs) (ht : t.heap = H) : pm_Qc G fi (.inl v, h) a s (.returned (v.map (pm_rv G))) t := ⟨rfl, by rw [ht]; exact P, S.F ht⟩
theorem pm_iret {v : Int32} {ty : FieldType} (d : decode M.2.1 pc = .ok (.ireturn, 1)) (hr : M.2.2.2.1 = some ty) (hn : narrow ty (.int v) = .int v) : pm_Ev l G fi fi 0 0 M pc lv [.int v] h (.inl (some (.int v)), h) :=
  fun p e s m args below meth c H locs cells slots mc ms ls C P S L k1 k2 => pm_end (by omega) (by omega) (W.zret (v := v) C.1 C.2.1 (C.2.2.2.2.2.1.trans hr) hn (fun t ht _ => pm_qr (v := some (.int v)) P S ht) S.2.2 d C.2.2.2.2.2.2.1)
theorem pm_dret {v : UInt64} (d : decode M.2.1 pc = .ok (.dreturn, 1)) (hr : M.2.2.2.1 = some .double) : pm_Ev l G fi fi 0 0 M pc lv [.double v] h (.inl (some (.double v)), h) :=
  fun p e s m args below meth c H locs cells slots mc ms ls C P S L k1 k2 => pm_end (by omega) (by omega) (W.dret (v := v) C.1 C.2.1 (C.2.2.2.2.2.1.trans hr) (fun t ht _ => pm_qr (v := some (.double v)) P S ht) S.2.2 d C.2.2.2.2.2.2.1)
theorem pm_vret (d : decode M.2.1 pc = .ok (.return_, 1)) (hr : M.2.2.2.1 = none) : pm_Ev l G fi fi 0 0 M pc lv [] h (.inl none, h) :=
  fun p e s m args below meth c H locs cells slots mc ms ls C P S L k1 k2 => pm_end (by omega) (by omega) (W.vret C.1 C.2.1 (C.2.2.2.2.2.1.trans hr) (fun t ht _ => pm_qr (v := none) P S ht) S.2.2 d C.2.2.2.2.2.2.1)
theorem pm_aret {a : Nat} {C0 : String} (d : decode M.2.1 pc = .ok (.areturn, 1)) (hr : M.2.2.2.1 = some (.object C0)) : pm_Ev l G fi fi 0 0 M pc lv [.ref a] h (.inl (some (.ref a)), h) :=
  fun p e s m args below meth c H locs cells slots mc ms ls C P S L k1 k2 => pm_end (by omega) (by omega) (W.aret (v := .ref (G.1 + a)) C.1 C.2.1 (C.2.2.2.2.2.1.trans hr) (Or.inl ⟨_, rfl⟩) (Or.inr ⟨_, rfl⟩) (fun t ht _ => pm_qr (v := some (.ref a)) P S ht) S.2.2 d C.2.2.2.2.2.2.1)
/-- one cell of the heap has changed -/
theorem pm_Hp.set {fi : Bool} {H H1 : Heap} {a : Nat} {c0 c : va_E} (hP : pm_Hp G fi h H) (ha : h[a]? = some c0) (he : va_at G.2.1 pm_cl (G.1 + a, pm_re G c) H1) (hz : H1.size = H.size) (oq : ∀ q : Nat, q ≠ G.1 + a → H1[q]? = H[q]?) : pm_Hp G fi (h.set a c) H1 := by
  refine ⟨?_, by rw [List.length_set, hz]; exact hP.2.1, fun q => by rw [List.length_set, hz]; exact hP.2.2 q⟩
  rw [← pm_set]
  exact hP.1.set (pm_D G h) (pm_at ha) he oq
/-- a field's entry in a class's pool -/
def pm_FL (own : String) (idx ci k : Nat) : Prop := ∃ (C : String) (T : u_T) (N : Nat), pm_cl[ci]? = some (C, T, N) ∧ k < N ∧ (∀ w ∈ u_ws C T N, w ∈ pm_tbl) ∧ (Cond.fieldLink own idx (T k).1 (T k).2.1 (T k).2.2.1 ∈ pm_tbl ∨ ∃ host, Cond.fieldLinkNest own idx (T k).1 (T k).2.1 (T k).2.2.1 host ∈ pm_nst)
theorem pm_getf {idx ci k a : Nat} {fs : List Value} {v : Value} (fl : pm_FL M.1.cls idx ci k) (d : decode M.2.1 pc = .ok (.getfield idx, 3)) (he : h[a]? = some (.inr (ci, fs))) (hv : fs[k]? = some v) (kk : pm_Ev l G fi fo kc ks M (pc + 3) lv (v :: st) h r) : pm_Ev l G fi fo kc ks M pc lv (.ref a :: st) h r := by
  intro p e s m args below meth c H locs cells slots mc ms ls C P S L k1 k2
  obtain ⟨Cn, T, N, hc, hk, hin, hlk⟩ := fl
  obtain ⟨hx, hb, -, ho, ht, -, -, -, -, hF, -⟩ := id C
  have hv' : (fs.map (pm_rv G))[k]? = some (pm_rv G v) := by simp [hv]
  have K := kk p e s m args below meth c H locs cells slots mc ms ls C P S L k1 k2
  rcases hlk with hlk | ⟨host, hlk⟩
  · exact va_get hx hb ht hin ho hF.1 P.1 a (pm_at he) hc k hk (ht _ hlk) (fun _ q => q) hv' d K
  · exact va_getN hx hb ht hin ho hF.1 P.1 a (pm_at he) hc k hk (va_Nw.use rfl (hF.2.1 _ hlk)) (fun _ q => q) hv' d K
def pm_FP (own : String) (idx ci k : Nat) (ty : FieldType) : Prop := ∃ (C : String) (T : u_T) (N : Nat) (t0 : Nat → FieldType), pm_cl[ci]? = some (C, T, N) ∧ k < N ∧ (∀ w ∈ u_ws C T N, w ∈ pm_tbl) ∧ (∀ k, k < N → parseFieldDescriptor (T k).2.2.1 = some (t0 k)) ∧ (∀ a, a < N → ∀ b, b < N → a ≠ b → (T a).2.1 ≠ (T b).2.1) ∧ parseFieldDescriptor (T k).2.2.1 = some ty ∧ (T k).2.2.2 = false ∧ (Cond.fieldLink own idx (T k).1 (T k).2.1 (T k).2.2.1 ∈ pm_tbl ∨ ∃ host, Cond.fieldLinkNest own idx (T k).1 (T k).2.1 (T k).2.2.1 host ∈ pm_nst)
theorem pm_putf {idx ci k a : Nat} {ty : FieldType} {fs : List Value} {v : Value} (fl : pm_FP M.1.cls idx ci k ty) (d : decode M.2.1 pc = .ok (.putfield idx, 3)) (he : h[a]? = some (.inr (ci, fs))) (hl : k < fs.length) (hn : narrow ty (pm_rv G v) = pm_rv G v) (hf : fits ty (pm_rv G v) = true) (kk : pm_Ev l G fi fo kc ks M (pc + 3) lv st (h.set a (.inr (ci, fs.set k v))) r) : pm_Ev l G fi fo kc ks M pc lv (v :: .ref a :: st) h r := by
  intro p e s m args below meth c H locs cells slots mc ms ls C P S L k1 k2
  obtain ⟨Cn, T, N, t0, hc, hk, hin, hty, hnm, hd, hfin, hlk⟩ := fl
  obtain ⟨hx, hb, -, ho, hts, -, -, -, -, hF, -⟩ := id C
  have hK := hF.1
  have hap := va_apart (own := M.1.cls) hts hin t0 hty hnm hK hc
  have he' := pm_at (G := G) he
  obtain ⟨r', h1, cell, q1, q2, q3, q4⟩ := P.1 a _ he'
  have hr : r' = (Cn, T, N) := Option.some.inj (h1.symm.trans hc)
  subst hr
  obtain ⟨hS, hfc, kC, hkC, hkind⟩ := hK.1 ci _ hc
  obtain ⟨cf, kf, f0, f, hi, hsl⟩ := hS k hk
  have hlay := hts _ (hin _ (u_in_lay hk))
  unfold u_lay at hlay
  rw [if_neg (by rw [hfin]; decide)] at hlay
  have hst := (u_facts hfc hkC (u_lays hts hin hk) hi).1
  have h6 := u_store hfc hkC hkind hlay hi hd hn hf
  have hl' : k < (fs.map (pm_rv G)).length := by rw [List.length_map]; exact hl
  have fin : ∀ H' : Heap, H'[G.1 + a]? = some (cell.setSlot f.slot (pm_rv G v)) → H'.size = H.size → (∀ q, q ≠ G.1 + a → H'[q]? = H[q]?) → W p l e (pm_rm M mc ms) s m args below meth c H' (locs ++ [⟨G.1 + a, f.slot⟩]) cells slots (pm_Q G fo below args s mc ms r) (F0 m (pc + 3) ls (st.map (pm_rv G))) := by
    intro H' e1 e2 e3
    rw [hsl] at e1
    refine kk p e s m args below meth c H' _ cells slots mc ms ls C (P.set he ?_ e2 e3) (S.put e2 e3 (Nat.le_add_right _ _)) L k1 k2
    refine ⟨_, hc, ?_⟩
    have e4 : pm_re G (.inr (ci, fs.set k v)) = .inr (ci, (fs.map (pm_rv G)).set k (pm_rv G v)) := by simp [pm_re]
    exact t_OB.to (V := updV (vp_V (fs.map (pm_rv G))) k (pm_rv G v)) ⟨_, e1, q2, q3, t_set q4 hap hk _⟩ (fun j _ => by rw [vp_updV_set hl' _ j]; show _ = vp_V ((fs.set k v).map (pm_rv G)) j; rw [List.map_set])
  rcases hlk with hlk | ⟨host, hlk⟩
  · exact W.putK hx hb (f := f) ⟨ho, hts _ hlk, ⟨_, _, _, hi⟩, hst⟩ (by rw [q2]; exact h6) q1 q3 (by rw [hsl]; exact k2_hasslot (q4 k hk)) rfl rfl d fin
  · exact va_WputK hx hb (f := f) ho (va_Nw.use rfl (hF.2.1 _ hlk)) hi hst (by rw [q2]; exact h6) q1 q3 (by rw [hsl]; exact k2_hasslot (q4 k hk)) rfl rfl d fin
def pm_FF (own : String) (idx ci k : Nat) (ty : FieldType) : Prop := ∃ (C : String) (T : u_T) (N : Nat) (t0 : Nat → FieldType), pm_cl[ci]? = some (C, T, N) ∧ k < N ∧ (∀ w ∈ u_ws C T N, w ∈ pm_tbl) ∧ (∀ k, k < N → parseFieldDescriptor (T k).2.2.1 = some (t0 k)) ∧ (∀ a, a < N → ∀ b, b < N → a ≠ b → (T a).2.1 ≠ (T b).2.1) ∧ parseFieldDescriptor (T k).2.2.1 = some ty ∧ (T k).2.2.2 = true ∧ (T k).1 = own ∧ Cond.fieldLink own idx (T k).1 (T k).2.1 (T k).2.2.1 ∈ pm_tbl
theorem pm_putF {idx ci k a : Nat} {ty : FieldType} {fs : List Value} {v : Value} (fl : pm_FF M.1.cls idx ci k ty) (hM : M.1.name = "<init>") (d : decode M.2.1 pc = .ok (.putfield idx, 3)) (he : h[a]? = some (.inr (ci, fs))) (hl : k < fs.length) (hn : narrow ty (pm_rv G v) = pm_rv G v) (hf : fits ty (pm_rv G v) = true) (kk : pm_Ev l G fi fo kc ks M (pc + 3) lv st (h.set a (.inr (ci, fs.set k v))) r) : pm_Ev l G fi fo kc ks M pc lv (v :: .ref a :: st) h r := by
  intro p e s m args below meth c H locs cells slots mc ms ls C P S L k1 k2
  obtain ⟨Cn, T, N, t0, hc, hk, hin, hty, hnm, hd, hfin, hdecl, hlk⟩ := fl
  obtain ⟨hx, hb, -, ho, hts, -, -, -, hnam, hF, -⟩ := id C
  have hK := hF.1
  have hap := va_apart (own := M.1.cls) hts hin t0 hty hnm hK hc
  have he' := pm_at (G := G) he
  obtain ⟨r', h1, cell, q1, q2, q3, q4⟩ := P.1 a _ he'
  have hr : r' = (Cn, T, N) := Option.some.inj (h1.symm.trans hc)
  subst hr
  obtain ⟨hS, hfc, kC, hkC, hkind⟩ := hK.1 ci _ hc
  obtain ⟨cf, kf, f0, f, hi, hsl⟩ := hS k hk
  have hlay := hts _ (hin _ (u_in_lay hk))
  unfold u_lay at hlay
  rw [if_pos hfin] at hlay
  have hst := (u_facts hfc hkC (u_lays hts hin hk) hi).1
  have hcf : m.cls = cf := by
    obtain ⟨_, _, c', _, _, _, -, -, hf', -, -, -, hown2, -⟩ := Cond.laysFinal_spec hlay
    have e1 : c' = cf := by have := hi.symm.trans hf'; simp at this; exact this.1.symm
    rw [hdecl] at hown2
    rw [← e1]; exact Option.some.inj (ho.symm.trans hown2)
  have h6 := u_fits hfc hkC hkind (Or.inr hlay) hi hd hn hf
  have hl' : k < (fs.map (pm_rv G)).length := by rw [List.length_map]; exact hl
  refine W.putFinK hx hb ho (hts _ hlk) hi hst hcf (hnam.trans hM) (by rw [q2]; exact h6) q1 q3 (by rw [hsl]; exact k2_hasslot (q4 k hk)) rfl rfl d fun H' e1 e2 e3 => ?_
  rw [hsl] at e1
  refine kk p e s m args below meth c H' _ cells slots mc ms ls C (P.set he ?_ e2 e3) (S.put e2 e3 (Nat.le_add_right _ _)) L k1 k2
  refine ⟨_, hc, ?_⟩
  exact t_OB.to (V := updV (vp_V (fs.map (pm_rv G))) k (pm_rv G v)) ⟨_, e1, q2, q3, t_set q4 hap hk _⟩ (fun j _ => by rw [vp_updV_set hl' _ j]; show _ = vp_V ((fs.set k v).map (pm_rv G)) j; rw [List.map_set])
end PMH
end
section
/-! ===== arrays; what is made; the script and the static table ===== -/
abbrev pm_I (n : Nat) (f : Nat → Int32) : va_E := .inl (0, n, .inl f)
abbrev pm_Dd (n : Nat) (f : Nat → UInt64) : va_E := .inl (1, n, .inr (.inr (.inr (.inl f))))
abbrev pm_Lg (n : Nat) (f : Nat → Int64) : va_E := .inl (2, n, .inr (.inl f))
abbrev pm_Rf (kd n : Nat) (f : Nat → Option Nat) : va_E := .inl (kd, n, .inr (.inr (.inr (.inr f))))
abbrev pm_Ob (ci : Nat) (fs : List Value) : va_E := .inr (ci, fs)
section PMA
variable {l : Launch} {G : pm_G} {fi fo : Bool} {kc ks : Nat} {M : pm_M} {pc : Nat} {lv : List (Nat × Value)} {st : List Value} {h : pm_H} {r : pm_O × pm_H}
theorem pm_iald {i : Int32} {j n a : Nat} {f : Nat → Int32} (d : decode M.2.1 pc = .ok (.iaload, 1)) (he : h[a]? = some (pm_I n f)) (hi : i = nI j) (hj : j < n) (hn : n < 2 ^ 31) (kk : pm_Ev l G fi fo kc ks M (pc + 1) lv (.int (f j) :: st) h r) : pm_Ev l G fi fo kc ks M pc lv (.int i :: .ref a :: st) h r := by
  subst hi
  intro p e s m args below meth c H locs cells slots mc ms ls C P S L k1 k2
  refine va_iald C.1 C.2.1 C.2.2.2.2.2.2.2.2.2.1.1 P.1 a 0 (pm_at he) rfl (vp_in_nI hj hn) d ?_
  rw [nI_clamp (by omega)]
  exact kk p e s m args below meth c H locs cells slots mc ms ls C P S L k1 k2
theorem pm_dald {i : Int32} {j n a : Nat} {f : Nat → UInt64} (d : decode M.2.1 pc = .ok (.daload, 1)) (he : h[a]? = some (pm_Dd n f)) (hi : i = nI j) (hj : j < n) (hn : n < 2 ^ 31) (kk : pm_Ev l G fi fo kc ks M (pc + 1) lv (.double (f j) :: st) h r) : pm_Ev l G fi fo kc ks M pc lv (.int i :: .ref a :: st) h r := by
  subst hi
  intro p e s m args below meth c H locs cells slots mc ms ls C P S L k1 k2
  refine va_dald C.1 C.2.1 C.2.2.2.2.2.2.2.2.2.1.1 P.1 a 1 (pm_at he) rfl (vp_in_nI hj hn) d ?_
  rw [nI_clamp (by omega)]
  exact kk p e s m args below meth c H locs cells slots mc ms ls C P S L k1 k2
theorem pm_lald {i : Int32} {j n a : Nat} {f : Nat → Int64} (d : decode M.2.1 pc = .ok (.laload, 1)) (he : h[a]? = some (pm_Lg n f)) (hi : i = nI j) (hj : j < n) (hn : n < 2 ^ 31) (kk : pm_Ev l G fi fo kc ks M (pc + 1) lv (.long (f j) :: st) h r) : pm_Ev l G fi fo kc ks M pc lv (.int i :: .ref a :: st) h r := by
  subst hi
  intro p e s m args below meth c H locs cells slots mc ms ls C P S L k1 k2
  refine va_lald C.1 C.2.1 C.2.2.2.2.2.2.2.2.2.1.1 P.1 a 2 (pm_at he) rfl (vp_in_nI hj hn) d ?_
  rw [nI_clamp (by omega)]
  exact kk p e s m args below meth c H locs cells slots mc ms ls C P S L k1 k2
theorem pm_aald {i : Int32} {j n a b kd : Nat} {Cn : String} {f : Nat → Option Nat} (d : decode M.2.1 pc = .ok (.aaload, 1)) (hkd : ∀ G : pm_G, (pm_tys G)[kd]? = some (G.2.2.1 kd, .object Cn)) (he : h[a]? = some (pm_Rf kd n f)) (hi : i = nI j) (hj : j < n) (hn : n < 2 ^ 31) (hf : f j = some b) (kk : pm_Ev l G fi fo kc ks M (pc + 1) lv (.ref b :: st) h r) : pm_Ev l G fi fo kc ks M pc lv (.int i :: .ref a :: st) h r := by
  subst hi
  intro p e s m args below meth c H locs cells slots mc ms ls C P S L k1 k2
  refine va_aldq C.1 C.2.1 C.2.2.2.2.2.2.2.2.2.1.1 P.1 a kd (pm_at he) (hkd G) (vp_in_nI hj hn) d ?_
  rw [nI_clamp (by omega), hf]
  exact kk p e s m args below meth c H locs cells slots mc ms ls C P S L k1 k2
theorem pm_iast {i x : Int32} {j n a : Nat} {f : Nat → Int32} (d : decode M.2.1 pc = .ok (.iastore, 1)) (he : h[a]? = some (pm_I n f)) (hi : i = nI j) (hj : j < n) (hn : n < 2 ^ 31) (kk : pm_Ev l G fi fo kc ks M (pc + 1) lv st (h.set a (pm_I n (va_up f j x))) r) : pm_Ev l G fi fo kc ks M pc lv (.int x :: .int i :: .ref a :: st) h r := by
  subst hi
  intro p e s m args below meth c H locs cells slots mc ms ls C P S L k1 k2
  refine W.iast C.1 C.2.1 (P.1 a _ (pm_at he)) ((C.2.2.2.2.2.2.2.2.2.1.1.2 0 _ rfl).1 n (fun j => .int (f j))) (fun q => by cases q) (by show ¬ (nI j < 0 ∨ (arrV _ _ _).slots.size ≤ _); rw [arrV_size]; exact vp_in_nI hj hn) rfl rfl d fun H1 e1 z oq => ?_
  refine kk p e s m args below meth c H1 _ cells slots mc ms ls C (P.set he ?_ z oq) (S.put z oq (Nat.le_add_right _ _)) L k1 k2
  show H1[G.1 + a]? = some (vp_cell _ _)
  rw [e1, nI_clamp (by omega)]
  show some ((vp_cell (G.2.2.1 0) (n, .inl f)).setSlot j (.int x)) = some (vp_cell (G.2.2.1 0) (n, .inl (va_up f j x)))
  rw [vp_cell_i, vp_cell_i, arrV_store]
  congr 2
  funext q
  by_cases hq : q = j
  · subst hq
    simp [updV, va_up]
  · simp [updV, va_up, hq]
theorem pm_dast {i : Int32} {x : UInt64} {j n a : Nat} {f : Nat → UInt64} (d : decode M.2.1 pc = .ok (.dastore, 1)) (he : h[a]? = some (pm_Dd n f)) (hi : i = nI j) (hj : j < n) (hn : n < 2 ^ 31) (kk : pm_Ev l G fi fo kc ks M (pc + 1) lv st (h.set a (pm_Dd n (va_up f j x))) r) : pm_Ev l G fi fo kc ks M pc lv (.double x :: .int i :: .ref a :: st) h r := by
  subst hi
  intro p e s m args below meth c H locs cells slots mc ms ls C P S L k1 k2
  refine W.dast C.1 C.2.1 (P.1 a _ (pm_at he)) ((C.2.2.2.2.2.2.2.2.2.1.1.2 1 _ rfl).1 n (fun j => .double (f j))) (fun q => by cases q) (by show ¬ (nI j < 0 ∨ (arrV _ _ _).slots.size ≤ _); rw [arrV_size]; exact vp_in_nI hj hn) rfl rfl d fun H1 e1 z oq => ?_
  refine kk p e s m args below meth c H1 _ cells slots mc ms ls C (P.set he ?_ z oq) (S.put z oq (Nat.le_add_right _ _)) L k1 k2
  show H1[G.1 + a]? = some (vp_cell _ _)
  rw [e1, nI_clamp (by omega)]
  show some ((vp_cell (G.2.2.1 1) (n, .inr (.inr (.inr (.inl f))))).setSlot j (.double x)) = some (vp_cell (G.2.2.1 1) (n, .inr (.inr (.inr (.inl (va_up f j x))))))
  rw [vp_cell_d, vp_cell_d, arrV_store]
  congr 2
  funext q
  by_cases hq : q = j
  · subst hq
    simp [updV, va_up]
  · simp [updV, va_up, hq]
theorem pm_last {i : Int32} {x : Int64} {j n a : Nat} {f : Nat → Int64} (d : decode M.2.1 pc = .ok (.lastore, 1)) (he : h[a]? = some (pm_Lg n f)) (hi : i = nI j) (hj : j < n) (hn : n < 2 ^ 31) (kk : pm_Ev l G fi fo kc ks M (pc + 1) lv st (h.set a (pm_Lg n (va_up f j x))) r) : pm_Ev l G fi fo kc ks M pc lv (.long x :: .int i :: .ref a :: st) h r := by
  subst hi
  intro p e s m args below meth c H locs cells slots mc ms ls C P S L k1 k2
  refine W.last C.1 C.2.1 (P.1 a _ (pm_at he)) ((C.2.2.2.2.2.2.2.2.2.1.1.2 2 _ rfl).1 n (fun j => .long (f j))) (fun q => by cases q) (by show ¬ (nI j < 0 ∨ (arrV _ _ _).slots.size ≤ _); rw [arrV_size]; exact vp_in_nI hj hn) rfl rfl d fun H1 e1 z oq => ?_
  refine kk p e s m args below meth c H1 _ cells slots mc ms ls C (P.set he ?_ z oq) (S.put z oq (Nat.le_add_right _ _)) L k1 k2
  show H1[G.1 + a]? = some (vp_cell _ _)
  rw [e1, nI_clamp (by omega)]
  show some ((vp_cell (G.2.2.1 2) (n, .inr (.inl f))).setSlot j (.long x)) = some (vp_cell (G.2.2.1 2) (n, .inr (.inl (va_up f j x))))
  rw [vp_cell_l, vp_cell_l, arrV_store]
  congr 2
  funext q
  by_cases hq : q = j
  · subst hq
    simp [updV, va_up]
  · simp [updV, va_up, hq]
theorem pm_aast {i : Int32} {j n a b kd ci N : Nat} {Cn : String} {T : u_T} {f : Nat → Option Nat} {fs : List Value} (d : decode M.2.1 pc = .ok (.aastore, 1)) (hkd : ∀ G : pm_G, (pm_tys G)[kd]? = some (G.2.2.1 kd, .object Cn)) (he : h[a]? = some (pm_Rf kd n f)) (hb0 : h[b]? = some (pm_Ob ci fs)) (hcl : pm_cl[ci]? = some (Cn, T, N)) (hi : i = nI j) (hj : j < n) (hn : n < 2 ^ 31) (kk : pm_Ev l G fi fo kc ks M (pc + 1) lv st (h.set a (pm_Rf kd n (va_up f j (some b)))) r) : pm_Ev l G fi fo kc ks M pc lv (.ref b :: .int i :: .ref a :: st) h r := by
  subst hi
  intro p e s m args below meth c H locs cells slots mc ms ls C P S L k1 k2
  have hK := C.2.2.2.2.2.2.2.2.2.1.1
  have hin := vp_in_nI hj hn
  obtain ⟨r', hr', cellV, g1, g2, g3, -⟩ := P.1 b _ (pm_at hb0)
  have hcls := (hK.1 ci _ hcl).2
  obtain ⟨kA, comp, q1, q2, q3, -⟩ := (hK.2 kd _ (hkd G)).2
  have hcomp : comp = G.2.1.1 ci := Option.some.inj (q3.symm.trans hcls.1)
  subst hcomp
  obtain ⟨kC, hkC, -⟩ := id hcls.2
  refine W.aast C.1 C.2.1 (P.1 a _ (pm_at he)) (fun q h => by cases h) (fun h => by cases h) q1 q2 rfl hkC ⟨fun q => hin (Or.inl q), by show _ < (arrV _ _ _).slots.size; rw [arrV_size, nI_clamp (by omega)]; exact hj⟩ g1 (fun q h => by rw [g3] at h; cases h) (by rw [g2]; exact hkC) (by rw [g2]; exact va_assign hcls) rfl rfl d fun H1 e1 z oq => ?_
  refine kk p e s m args below meth c H1 _ cells slots mc ms ls C (P.set he ?_ z oq) (S.put z oq (Nat.le_add_right _ _)) L k1 k2
  show H1[G.1 + a]? = some (vp_cell _ _)
  rw [e1, nI_clamp (by omega)]
  show some ((vp_cell (G.2.2.1 kd) (n, .inr (.inr (.inr (.inr (fun j => (f j).map fun k => G.1 + k)))))).setSlot j (.ref (G.1 + b))) = some (vp_cell (G.2.2.1 kd) (n, .inr (.inr (.inr (.inr (fun q => (va_up f j (some b) q).map fun k => G.1 + k))))))
  rw [vp_cell_q, vp_cell_q, arrV_store]
  congr 2
  funext q
  by_cases hq : q = j
  · subst hq
    simp [updV, va_up, va_rf]
  · simp [updV, va_up, hq]
theorem pm_alenD {n a : Nat} {f : Nat → UInt64} (d : decode M.2.1 pc = .ok (.arraylength, 1)) (he : h[a]? = some (pm_Dd n f)) (kk : pm_Ev l G fi fo kc ks M (pc + 1) lv (.int (nI n) :: st) h r) : pm_Ev l G fi fo kc ks M pc lv (.ref a :: st) h r :=
  fun p e s m args below meth c H locs cells slots mc ms ls C P S L k1 k2 => va_alen C.1 C.2.1 C.2.2.2.2.2.2.2.2.2.1.1 P.1 a 1 (pm_at he) (ty := .double) rfl (v := nI n) rfl d (kk p e s m args below meth c H locs cells slots mc ms ls C P S L k1 k2)
/-- the script -/
theorem pm_sld {i : Int32} {j : Nat} (d : decode M.2.1 pc = .ok (.iaload, 1)) (hi : i = nI j) (hj : j < G.2.2.2.2.1) (hn : G.2.2.2.2.1 < 2 ^ 31) (kk : pm_Ev l G fi fo kc ks M (pc + 1) lv (.int (G.2.2.2.2.2 j) :: st) h r) : pm_Ev l G fi fo kc ks M pc lv (.int i :: .retAddr 0 :: st) h r := by
  subst hi
  intro p e s m args below meth c H locs cells slots mc ms ls C P S L k1 k2
  obtain ⟨hx, hb, -, -, -, -, -, -, -, ⟨-, -, -, hz, h0, hX, -⟩, -⟩ := id C
  refine va_sld hx hb hX (Nat.lt_of_lt_of_le h0 hz) (Nat.not_le.mpr h0) S (vp_in_nI hj hn) d ?_
  rw [nI_clamp (by omega)]
  exact kk p e s m args below meth c H locs cells slots mc ms ls C P S L k1 k2
theorem pm_slen (d : decode M.2.1 pc = .ok (.arraylength, 1)) (kk : pm_Ev l G fi fo kc ks M (pc + 1) lv (.int (nI G.2.2.2.2.1) :: st) h r) : pm_Ev l G fi fo kc ks M pc lv (.retAddr 0 :: st) h r := by
  intro p e s m args below meth c H locs cells slots mc ms ls C P S L k1 k2
  obtain ⟨hx, hb, -, -, -, -, -, -, -, ⟨-, -, -, hz, h0, hX, -⟩, -⟩ := id C
  exact va_slen hx hb hX (Nat.lt_of_lt_of_le h0 hz) (Nat.not_le.mpr h0) S d (kk p e s m args below meth c H locs cells slots mc ms ls C P S L k1 k2)
/-- the static table -/
theorem pm_gets {idx : Nat} (d : decode M.2.1 pc = .ok (.getstatic idx, 3)) (hw : Cond.fieldLink M.1.cls idx "GraphRunner" "ARGUMENT_COUNTS" "[I" ∈ pm_tbl) (kk : pm_Ev l G fi fo kc ks M (pc + 3) lv (.retAddr 1 :: st) h r) : pm_Ev l G fi fo kc ks M pc lv st h r := by
  intro p e s m args below meth c H locs cells slots mc ms ls C P S L k1 k2
  obtain ⟨hx, hb, -, ho, ht, -, -, -, -, ⟨-, -, -, hz, h0, hX, hZ, -⟩, -⟩ := id C
  exact va_gets hx hb hZ S ho (ht _ hw) (fun _ q => q) d (kk p e s m args below meth c H locs cells slots mc ms ls C P S L k1 k2)
theorem pm_getsN {idx : Nat} {host : String} (d : decode M.2.1 pc = .ok (.getstatic idx, 3)) (hw : Cond.fieldLinkNest M.1.cls idx "GraphRunner" "ARGUMENT_COUNTS" "[I" host ∈ pm_nst) (kk : pm_Ev l G fi fo kc ks M (pc + 3) lv (.retAddr 1 :: st) h r) : pm_Ev l G fi fo kc ks M pc lv st h r := by
  intro p e s m args below meth c H locs cells slots mc ms ls C P S L k1 k2
  obtain ⟨hx, hb, -, ho, ht, -, -, -, -, ⟨-, hN, -, hz, h0, hX, hZ, -⟩, -⟩ := id C
  exact va_getsN hx hb hZ S ho (va_Nw.use rfl (hN _ hw)) (fun _ q => q) d (kk p e s m args below meth c H locs cells slots mc ms ls C P S L k1 k2)
theorem pm_tld {i : Int32} {j : Nat} (d : decode M.2.1 pc = .ok (.iaload, 1)) (hi : i = nI j) (hj : j < 19) (kk : pm_Ev l G fi fo kc ks M (pc + 1) lv (.int (pm_ac j) :: st) h r) : pm_Ev l G fi fo kc ks M pc lv (.int i :: .retAddr 1 :: st) h r := by
  subst hi
  intro p e s m args below meth c H locs cells slots mc ms ls C P S L k1 k2
  obtain ⟨hx, hb, -, ho, ht, -, -, -, -, ⟨-, -, -, hz, h0, hX, hZ, hT, -⟩, -⟩ := id C
  exact va_ti hx hb hT S (vp_in_nI hj (by decide)) (v := .int (pm_ac j)) (by rw [nI_clamp (by omega)]) d (kk p e s m args below meth c H locs cells slots mc ms ls C P S L k1 k2)
/-- a cell more -/
theorem pm_Hp.push {H H1 : Heap} {c : va_E} (hP : pm_Hp G true h H) (he : va_at G.2.1 pm_cl (G.1 + h.length, pm_re G c) H1) (hz : H1.size = H.size + 1) (oq : ∀ q : Nat, q < H.size → H1[q]? = H[q]?) : pm_Hp G true (h ++ [c]) H1 := by
  have e0 := hP.2.2 rfl
  refine ⟨?_, by rw [List.length_append, hz, e0]; simp; omega, fun _ => by rw [List.length_append, hz, e0]; simp; omega⟩
  rw [pm_push]
  refine (hP.1.kept fun k x hx => oq x.1 ((hP.1 k x hx).lt)).app fun k x hx => ?_
  have hz : k < 1 := (List.getElem?_eq_some_iff.mp hx).1
  rw [show k = 0 by omega] at hx
  cases hx
  exact he
theorem pm_Sg {s : State} {H H1 : Heap} {locs : List Loc} (S : va_S (pm_A G) s.heap H locs) (hz : H1.size = H.size + 1) (oq : ∀ q : Nat, q < H.size → H1[q]? = H[q]?) : va_S (pm_A G) s.heap H1 locs :=
  ⟨by rw [hz]; exact Nat.le_succ_of_le S.1, fun q h1 h2 => (oq q (Nat.lt_of_lt_of_le h1 S.1)).trans (S.2.1 q h1 h2), S.2.2⟩
theorem pm_new {idx ci N : Nat} {Cn : String} {T : u_T} {t0 : Nat → FieldType} {fs : List Value} (d : decode M.2.1 pc = .ok (.new idx, 3)) (hcl : pm_cl[ci]? = some (Cn, T, N)) (hin : ∀ w ∈ u_ws Cn T N, w ∈ pm_tbl) (hty : ∀ k, k < N → parseFieldDescriptor (T k).2.2.1 = some (t0 k)) (w1 : Cond.classLink M.1.cls idx Cn ∈ pm_tbl) (w2 : Cond.instantiable Cn N ∈ pm_tbl) (w3 : Cond.initialized Cn ∈ pm_tbl)
    (hfs : ∀ j, j < N → defaultValue (t0 j) = vp_V (fs.map (pm_rv G)) j) (kk : pm_Ev l G true fo kc ks M (pc + 3) lv (.ref h.length :: st) (h ++ [pm_Ob ci fs]) r) : pm_Ev l G true fo (kc + 1) (ks + N) M pc lv st h r := by
  intro p e s m args below meth c H locs cells slots mc ms ls C P S L k1 k2
  obtain ⟨hx, hb, -, ho, ht, -, -, -, -, hF, -⟩ := id C
  have hKn := hF.1.1 ci _ hcl
  have e0 := P.2.2 rfl
  refine W.newcK hx hb ho (ht _ w1) (ht _ w2) (ht _ w3) rfl d (by show cells + 1 ≤ mc; omega) (by show slots + N ≤ ms; omega) hKn.2.1 e0 fun H1 kC hkC e1 z1 o1 => ?_
  refine kk p e s m args below meth c H1 locs (cells + 1) (slots + N) mc ms ls C (P.push ⟨_, hcl, (u_born t0 ht hin hKn hkC e1 hty).to hfs⟩ (by rw [z1, e0]) (by rw [e0]; exact o1)) (pm_Sg S (by rw [z1, e0]) (by rw [e0]; exact o1)) L (by omega) (by omega)
theorem pm_newa {kd N : Nat} {n : Int32} {at9 : ArrayType} {a0 : vp_A} (d : decode M.2.1 pc = .ok (.newarray at9, 2)) (w1 : Cond.arrayClass (newarray.typeOf at9) ∈ pm_tbl) (hkd : ∀ G : pm_G, (pm_tys G)[kd]? = some (G.2.2.1 kd, newarray.typeOf at9)) (hre : ∀ G : pm_G, pm_re G (.inl (kd, a0)) = .inl (G.2.2.1 kd, a0)) (ha : ∀ cA : ClassId, vp_cell cA a0 = arrV cA N (fun _ => defaultValue (newarray.typeOf at9))) (hN : n = nI N) (hb0 : N * componentBytes (newarray.typeOf at9) ≤ 536870912) (hN2 : N < 2 ^ 31)
    (kk : pm_Ev l G true fo kc ks M (pc + 2) lv (.ref h.length :: st) (h ++ [.inl (kd, a0)]) r) : pm_Ev l G true fo (kc + 1) (ks + N) M pc lv (.int n :: st) h r := by
  subst hN
  intro p e s m args below meth c H locs cells slots mc ms ls C P S L k1 k2
  obtain ⟨hx, hb, -, ho, ht, -, -, -, -, hF, -⟩ := id C
  have e0 := P.2.2 rfl
  refine va_newaK hx hb (ht _ w1) rfl d rfl (nI_pos hN2) (nI_clamp hN2) hb0 (by show cells + 1 ≤ mc; omega) (by show slots + N ≤ ms; omega) e0 fun H1 cA e1 z1 o1 hAr hNm => ?_
  have hcA : cA = G.2.2.1 kd := by
    have h9 := (hF.1.2 kd _ (hkd G)).2
    have h8 : s.vm.findClass ("[" ++ (newarray.typeOf at9).toString) = some (G.2.2.1 kd) := by cases at9 <;> exact h9
    exact Option.some.inj (hNm.symm.trans h8)
  subst hcA
  refine kk p e s m args below meth c H1 locs (cells + 1) (slots + N) mc ms ls C (P.push ?_ (by rw [z1, e0]) (by rw [e0]; exact o1)) (pm_Sg S (by rw [z1, e0]) (by rw [e0]; exact o1)) L (by omega) (by omega)
  rw [hre G]
  show H1[G.1 + h.length]? = some (vp_cell _ _)
  rw [ha]
  exact e1
theorem pm_anew {idx kd N : Nat} {n : Int32} {Cn : String} (d : decode M.2.1 pc = .ok (.anewarray idx, 3)) (hkd : ∀ G : pm_G, (pm_tys G)[kd]? = some (G.2.2.1 kd, .object Cn)) (w1 : Cond.classLink M.1.cls idx Cn ∈ pm_tbl) (w2 : Cond.arrayOver (.object Cn) ∈ lw_tbl) (hg : ∀ {args : Array Value} {s : State}, (∀ w ∈ pm_tbl, w.before args s = true) → pm_F G s → (Cond.arrayOver (.object Cn)).before args s = true) (hN : n = nI N) (hb0 : N * 4 ≤ 536870912) (hN2 : N < 2 ^ 31)
    (kk : pm_Ev l G true fo kc ks M (pc + 3) lv (.ref h.length :: st) (h ++ [pm_Rf kd N (fun _ => none)]) r) : pm_Ev l G true fo (kc + 1) (ks + N) M pc lv (.int n :: st) h r := by
  subst hN
  intro p e s m args below meth c H locs cells slots mc ms ls C P S L k1 k2
  obtain ⟨hx, hb, -, ho, ht, -, -, -, -, hF, -⟩ := id C
  have e0 := P.2.2 rfl
  have hcl : (nI N).toNatClampNeg = N := nI_clamp hN2
  refine W.anew hx hb ho (ht _ w1) (hg ht hF) rfl d rfl (nI_pos hN2) (by rw [hcl]; exact hb0) (by show cells + 1 ≤ mc; omega) (by rw [hcl]; show slots + N ≤ ms; omega) fun cA kA comp f1 f2 f3 f4 => ?_
  have hcA : cA = G.2.2.1 kd := by
    obtain ⟨kA', comp', -, -, -, h8⟩ := (hF.1.2 kd _ (hkd G)).2
    exact Option.some.inj (f1.symm.trans h8)
  subst hcA
  rw [hcl, e0]
  generalize hH1 : H.push ({ cls := G.2.2.1 kd, slots := Array.replicate N .null, vm := .none } : Cell) = H1
  have z1 : H1.size = H.size + 1 := by rw [← hH1, Array.size_push]
  have e1 : H1[H.size]? = some (arrV (G.2.2.1 kd) N (fun _ => .null)) := by rw [← hH1, Array.getElem?_push_size, ← arrV_new]
  have o1 : ∀ q : Nat, q < H.size → H1[q]? = H[q]? := fun q hq => by rw [← hH1, Array.getElem?_push, if_neg (Nat.ne_of_lt hq)]
  refine kk p e s m args below meth c H1 locs (cells + 1) (slots + N) mc ms ls C (P.push ?_ z1 o1) (pm_Sg S z1 o1) L (by omega) (by omega)
  show H1[G.1 + h.length]? = some (vp_cell (G.2.2.1 kd) (N, .inr (.inr (.inr (.inr (fun j => ((fun _ => none : Nat → Option Nat) j).map fun k => G.1 + k))))))
  rw [vp_cell_q, ← e0]
  exact e1
end PMA
end
section
/-! ===== calls, throws, catches ===== -/
theorem pm_tg {w : Cond} (h : w ∈ pm_tbl) : (w.onTables && w.keeps) = true ∨ ∃ ty, w = .arrayClass ty := good_of_word (List.mem_filter.mp h).2
/-- what a call of N out of M asks of the words and of the room -/
def pm_CB (M N : pm_M) (n : Nat) : Prop := N.2.2.2.2.1 = [] ∧ Cond.code N.1 N.2.1 N.2.2.1 N.2.2.2.1 ∈ pm_tbl ∧ Cond.initialized N.1.cls ∈ pm_tbl ∧ (N.1.cls ≠ "java/lang/invoke/MethodHandle" ∧ N.1.cls ≠ "java/lang/invoke/VarHandle") ∧ (parseMethodDescriptor N.1.desc).map (fun d => d.parameters.length) = some n ∧ N.2.2.2.2.2.1 + 1 ≤ M.2.2.2.2.2.1 ∧ 8 + (N.2.2.1 + 11) + N.2.2.2.2.2.2 ≤ M.2.2.2.2.2.2
section PMC
variable {l : Launch} {G : pm_G} {fi fo f1 : Bool} {kc ks kc1 ks1 : Nat} {M N : pm_M} {pc idx n : Nat} {lv : List (Nat × Value)} {st st0 av : List Value} {h h1 : pm_H} {r : pm_O × pm_H} {v : Option Value}
variable {p : Program} {e : Env} {s : State} {m : MethodId} {args : Array Value} {below : List Frame} {meth : Method} {c : Code} {H : Heap} {locs : List Loc} {cells slots mc ms : Nat} {ls : Array Slot} {Q : State → Prop}
theorem pm_wsM0 (hN : N.2.2.2.2.1 = []) : pm_wsM N = Cond.code N.1 N.2.1 N.2.2.1 N.2.2.2.1 :: pm_tbl := by unfold pm_wsM; rw [if_pos hN]
theorem pm_pay (ht : ∀ w ∈ pm_tbl, w.before args s = true) {w0 : Cond} (h0 : w0 ∈ pm_tbl) : ∀ w ∈ w0 :: pm_tbl, ∀ (a' : Array Value) (U : State), s.WarmedH U.vm → w.before a' U = true := by
  intro w hw a' U hW
  have hw' : w ∈ pm_tbl := by
    rcases List.mem_cons.mp hw with rfl | q
    · exact h0
    · exact q
  exact word_at hW (pm_tg hw') (ht w hw')
theorem pm_len {y : MethodName} (hd : (parseMethodDescriptor y.desc).map (fun d => d.parameters.length) = some n) : ∀ sig, parseMethodDescriptor y.desc = some sig → n = sig.parameters.length := by
  intro sig q
  rw [q] at hd
  exact (Option.some.inj hd).symm
theorem pm_cat8 (hw : (st.map fun v => v.category).sum ≤ 8) : 2 * (F0 m pc ls st0).monitorRoom + ((st.map (pm_rv G)).map fun v => v.category).sum ≤ 8 := by
  refine lv_room ?_
  rw [List.map_map]
  have e1 : ((fun v : Value => v.category) ∘ pm_rv G) = fun v => v.category := by funext v; exact pm_cat G v
  rw [e1]
  exact hw
theorem pm_go {R : Room} {rest st9 : List Value} {a : Array Value} (hr : va_Run p l e R s m args below meth c H locs cells slots mc ms (F0 m pc ls st9) rest (pm_Qc G f1 (.inl v, h1) a) (pm_A G)) (S : va_S (pm_A G) s.heap H locs)
    (kk : ∀ (H1 : Heap) (locs1 : List Loc), pm_Hp G f1 h1 H1 → va_S (pm_A G) s.heap H1 locs1 → W p l e R s m args below meth c H1 locs1 (cells + mc) (slots + ms) Q (F0 m (pc + 3) ls ((v.map (pm_rv G)).toList ++ rest))) : W p l e R s m args below meth c H locs cells slots Q (F0 m pc ls st9) := by
  intro T hT X
  obtain ⟨v', st₀, t, T', L, h0, X', hL, e1, e2, ⟨hv, hP, hz, hk⟩, go⟩ := hr T hT X
  have hv : Outcome.returned v' = .returned (v.map (pm_rv G)) := hv
  cases hv
  rw [h0] at hz hk
  obtain ⟨t2, a1, b1⟩ := kk T'.heap (locs ++ L) (by rw [e1]; exact hP) ⟨Nat.le_trans S.1 (by rw [e1]; exact hz), fun q g1 g2 => by rw [e1, hk q (Nat.lt_of_lt_of_le g1 S.1) g2]; exact S.2.1 q g1 g2, fun q hq => by
    rcases List.mem_append.mp hq with g | g
    · exact S.2.2 q g
    · exact hL q g⟩ T' rfl X'
  exact ⟨t2, go t2 a1, b1⟩
theorem pm_pre (C : pm_Cx l G M p s m args meth c) (P : pm_Hp G fi h H) (S : va_S (pm_A G) s.heap H locs) : PreS s H (pm_Pc G fi av h) (av.map (pm_rv G)) := ⟨pm_blind, fun U hU hW => ⟨rfl, C.2.2.2.2.2.2.2.2.2.1.moved hW S hU, by rw [hU]; exact P⟩⟩
theorem pm_stk (hst : st0 = av.reverse ++ st) : st0.map (pm_rv G) = (av.map (pm_rv G)).reverse ++ st.map (pm_rv G) := by rw [hst, List.map_append, List.map_reverse]
theorem pm_back (v : Option Value) (st : List Value) : (v.map (pm_rv G)).toList ++ st.map (pm_rv G) = (v.toList ++ st).map (pm_rv G) := by cases v <;> rfl
/-- invokestatic -/
theorem pm_callS (cb : pm_CB M N n) (hl : Cond.methodLink M.1.cls idx N.1 ∈ pm_tbl) (hi : Cond.static N.1 ∈ pm_tbl) (d : decode M.2.1 pc = .ok (.invokestatic idx, 3)) (en : pm_En l G fi f1 kc1 ks1 N av h (.inl v, h1)) (hn : av.length = n) (hst : st0 = av.reverse ++ st) (hw : (st.map fun v => v.category).sum ≤ 8)
    (kk : pm_Ev l G f1 fo kc ks M (pc + 3) lv (v.toList ++ st) h1 r) : pm_Ev l G fi fo (kc1 + kc) (ks1 + ks) M pc lv st0 h r := by
  obtain ⟨b0, b1, b2, b3, b4, b5, b6⟩ := cb
  intro p e s m args below meth c H locs cells slots mc ms ls C P S L k1 k2
  obtain ⟨hx, hb, hml, ho, ht, -⟩ := id C
  have hM := en.met (Nat.le_refl _) (Nat.le_refl _)
  rw [pm_wsM0 b0] at hM
  refine pm_go (va_runS (n := n) (As := av.map (pm_rv G)) (rest := st.map (pm_rv G)) ⟨hx, hb, hml, ho, ht⟩ hM ⟨⟨rfl, rfl, b5, b6, pm_pay ht b1, List.mem_cons_self, ht _ b1, ht _ b2, b3, pm_len b4, ht _ hl⟩, ht _ hi⟩ (pm_pre C P S) rfl (by rw [List.length_map]; exact hn) L.1 (pm_stk hst) (pm_cat8 hw) d ⟨by show cells + kc1 ≤ mc; omega, by show slots + ks1 ≤ ms; omega⟩) S fun H1 locs1 P1 S1 => ?_
  rw [pm_back]
  exact kk p e s m args below meth c H1 locs1 _ _ mc ms ls C P1 S1 L (by omega) (by omega)
theorem pm_callSN {host : String} (cb : pm_CB M N n) (hl : Cond.methodLinkNest M.1.cls idx N.1 host ∈ pm_nst) (hi : Cond.static N.1 ∈ pm_tbl) (d : decode M.2.1 pc = .ok (.invokestatic idx, 3)) (en : pm_En l G fi f1 kc1 ks1 N av h (.inl v, h1)) (hn : av.length = n) (hst : st0 = av.reverse ++ st) (hw : (st.map fun v => v.category).sum ≤ 8)
    (kk : pm_Ev l G f1 fo kc ks M (pc + 3) lv (v.toList ++ st) h1 r) : pm_Ev l G fi fo (kc1 + kc) (ks1 + ks) M pc lv st0 h r := by
  obtain ⟨b0, b1, b2, b3, b4, b5, b6⟩ := cb
  intro p e s m args below meth c H locs cells slots mc ms ls C P S L k1 k2
  obtain ⟨hx, hb, hml, ho, ht, -, -, -, -, hF, -⟩ := id C
  have hM := en.met (Nat.le_refl _) (Nat.le_refl _)
  rw [pm_wsM0 b0] at hM
  refine pm_go (va_runSN (n := n) (As := av.map (pm_rv G)) (rest := st.map (pm_rv G)) ⟨hx, hb, hml, ho, ht⟩ hM ⟨⟨⟨rfl, rfl, b5, b6, pm_pay ht b1, List.mem_cons_self⟩, ht _ b1, ht _ b2, b3, pm_len b4, va_Nw.use rfl (hF.2.1 _ hl)⟩, ht _ hi, trivial⟩ (pm_pre C P S) rfl (by rw [List.length_map]; exact hn) L.1 (pm_stk hst) (pm_cat8 hw) d ⟨by show cells + kc1 ≤ mc; omega, by show slots + ks1 ≤ ms; omega⟩) S fun H1 locs1 P1 S1 => ?_
  rw [pm_back]
  exact kk p e s m args below meth c H1 locs1 _ _ mc ms ls C P1 S1 L (by omega) (by omega)
theorem pm_preV {b ci N0 : Nat} {Cn : String} {T : u_T} {fs : List Value} (hb : h[b]? = some (pm_Ob ci fs)) (hc : pm_cl[ci]? = some (Cn, T, N0)) (C : pm_Cx l G M p s m args meth c) (P : pm_Hp G fi h H) (S : va_S (pm_A G) s.heap H locs) : PreV s H Cn (G.1 + b) (pm_Pc G fi (.ref b :: av) h) (av.map (pm_rv G)) :=
  ⟨pm_blind, va_recv C.2.2.2.2.2.2.2.2.2.1.1 P.1 hc (pm_at hb), fun U hU hW => ⟨rfl, C.2.2.2.2.2.2.2.2.2.1.moved hW S hU, by rw [hU]; exact P⟩⟩
theorem pm_stkV {b : Nat} (hst : st0 = av.reverse ++ .ref b :: st) : st0.map (pm_rv G) = (av.map (pm_rv G)).reverse ++ .ref (G.1 + b) :: st.map (pm_rv G) := by rw [hst, List.map_append, List.map_reverse]; rfl
/-- invokevirtual -/
theorem pm_callV {b ci N0 : Nat} {T : u_T} {fs : List Value} (cb : pm_CB M N n) (hl : Cond.methodLink M.1.cls idx N.1 ∈ pm_tbl) (hi : Cond.instanceMethod N.1 ∈ pm_tbl) (hs : Cond.selects N.1.cls N.1 N.1 ∈ pm_tbl) (d : decode M.2.1 pc = .ok (.invokevirtual idx, 3)) (hb0 : h[b]? = some (pm_Ob ci fs)) (hc : pm_cl[ci]? = some (N.1.cls, T, N0)) (en : pm_En l G fi f1 kc1 ks1 N (.ref b :: av) h (.inl v, h1)) (hn : av.length = n) (hst : st0 = av.reverse ++ .ref b :: st) (hw : (st.map fun v => v.category).sum ≤ 8)
    (kk : pm_Ev l G f1 fo kc ks M (pc + 3) lv (v.toList ++ st) h1 r) : pm_Ev l G fi fo (kc1 + kc) (ks1 + ks) M pc lv st0 h r := by
  obtain ⟨b0, b1, b2, b3, b4, b5, b6⟩ := cb
  intro p e s m args below meth c H locs cells slots mc ms ls C P S L k1 k2
  obtain ⟨hx, hb, hml, ho, ht, -⟩ := id C
  have hM := en.met (Nat.le_refl _) (Nat.le_refl _)
  rw [pm_wsM0 b0] at hM
  refine pm_go (va_runV (n := n) (As := av.map (pm_rv G)) (rest := st.map (pm_rv G)) ⟨hx, hb, hml, ho, ht⟩ hM ⟨⟨rfl, rfl, b5, b6, pm_pay ht b1, List.mem_cons_self, ht _ b1, ht _ b2, b3, pm_len b4, ht _ hl⟩, ht _ hi, ht _ hs⟩ (pm_preV hb0 hc C P S) rfl (by rw [List.length_map]; exact hn) L.1 (pm_stkV hst) (pm_cat8 hw) d ⟨by show cells + kc1 ≤ mc; omega, by show slots + ks1 ≤ ms; omega⟩) S fun H1 locs1 P1 S1 => ?_
  rw [pm_back]
  exact kk p e s m args below meth c H1 locs1 _ _ mc ms ls C P1 S1 L (by omega) (by omega)
theorem pm_callVN {host : String} {b ci N0 : Nat} {T : u_T} {fs : List Value} (cb : pm_CB M N n) (hl : Cond.methodLinkNest M.1.cls idx N.1 host ∈ pm_nst) (hi : Cond.instanceMethod N.1 ∈ pm_tbl) (hs : Cond.selects N.1.cls N.1 N.1 ∈ pm_tbl) (d : decode M.2.1 pc = .ok (.invokevirtual idx, 3)) (hb0 : h[b]? = some (pm_Ob ci fs)) (hc : pm_cl[ci]? = some (N.1.cls, T, N0)) (en : pm_En l G fi f1 kc1 ks1 N (.ref b :: av) h (.inl v, h1)) (hn : av.length = n) (hst : st0 = av.reverse ++ .ref b :: st) (hw : (st.map fun v => v.category).sum ≤ 8)
    (kk : pm_Ev l G f1 fo kc ks M (pc + 3) lv (v.toList ++ st) h1 r) : pm_Ev l G fi fo (kc1 + kc) (ks1 + ks) M pc lv st0 h r := by
  obtain ⟨b0, b1, b2, b3, b4, b5, b6⟩ := cb
  intro p e s m args below meth c H locs cells slots mc ms ls C P S L k1 k2
  obtain ⟨hx, hb, hml, ho, ht, -, -, -, -, hF, -⟩ := id C
  have hM := en.met (Nat.le_refl _) (Nat.le_refl _)
  rw [pm_wsM0 b0] at hM
  refine pm_go (va_runVN (n := n) (As := av.map (pm_rv G)) (rest := st.map (pm_rv G)) ⟨hx, hb, hml, ho, ht⟩ hM ⟨⟨⟨rfl, rfl, b5, b6, pm_pay ht b1, List.mem_cons_self⟩, ht _ b1, ht _ b2, b3, pm_len b4, va_Nw.use rfl (hF.2.1 _ hl)⟩, ht _ hi, ht _ hs⟩ (pm_preV hb0 hc C P S) rfl (by rw [List.length_map]; exact hn) L.1 (pm_stkV hst) (pm_cat8 hw) d ⟨by show cells + kc1 ≤ mc; omega, by show slots + ks1 ≤ ms; omega⟩) S fun H1 locs1 P1 S1 => ?_
  rw [pm_back]
  exact kk p e s m args below meth c H1 locs1 _ _ mc ms ls C P1 S1 L (by omega) (by omega)
/-- a constructor -/
theorem pm_callI {b : Nat} (cb : pm_CB M N n) (hret : N.2.2.2.1 = none) (hnm : N.1.name = "<init>") (hl : Cond.methodLink M.1.cls idx N.1 ∈ pm_tbl) (hi : Cond.instanceMethod N.1 ∈ pm_tbl) (d : decode M.2.1 pc = .ok (.invokespecial idx, 3)) (en : pm_En l G fi f1 kc1 ks1 N (.ref b :: av) h (.inl v, h1)) (hn : av.length = n) (hst : st0 = av.reverse ++ .ref b :: st) (hw : (st.map fun v => v.category).sum ≤ 8)
    (kk : pm_Ev l G f1 fo kc ks M (pc + 3) lv (v.toList ++ st) h1 r) : pm_Ev l G fi fo (kc1 + kc) (ks1 + ks) M pc lv st0 h r := by
  obtain ⟨b0, b1, b2, b3, b4, b5, b6⟩ := cb
  intro p e s m args below meth c H locs cells slots mc ms ls C P S L k1 k2
  obtain ⟨hx, hb, hml, ho, ht, -⟩ := id C
  have hM := en.met (Nat.le_refl _) (Nat.le_refl _)
  rw [pm_wsM0 b0] at hM
  rw [hret] at b1 hM
  refine pm_go (va_runI (n := n) (b := G.1 + b) (As := av.map (pm_rv G)) (rest := st.map (pm_rv G)) ⟨hx, hb, hml, ho, ht⟩ hM ⟨⟨rfl, rfl, b5, b6, pm_pay ht b1, List.mem_cons_self, ht _ b1, ht _ b2, b3, pm_len b4, ht _ hl⟩, hnm, ht _ hi⟩ (pm_pre (av := .ref b :: av) C P S) rfl (by rw [List.length_map]; exact hn) L.1 (pm_stkV hst) (pm_cat8 hw) d ⟨by show cells + kc1 ≤ mc; omega, by show slots + ks1 ≤ ms; omega⟩) S fun H1 locs1 P1 S1 => ?_
  rw [pm_back]
  exact kk p e s m args below meth c H1 locs1 _ _ mc ms ls C P1 S1 L (by omega) (by omega)
theorem pm_callIN {host : String} {b : Nat} (cb : pm_CB M N n) (hret : N.2.2.2.1 = none) (hnm : N.1.name = "<init>") (hl : Cond.methodLinkNest M.1.cls idx N.1 host ∈ pm_nst) (hi : Cond.instanceMethod N.1 ∈ pm_tbl) (d : decode M.2.1 pc = .ok (.invokespecial idx, 3)) (en : pm_En l G fi f1 kc1 ks1 N (.ref b :: av) h (.inl v, h1)) (hn : av.length = n) (hst : st0 = av.reverse ++ .ref b :: st) (hw : (st.map fun v => v.category).sum ≤ 8)
    (kk : pm_Ev l G f1 fo kc ks M (pc + 3) lv (v.toList ++ st) h1 r) : pm_Ev l G fi fo (kc1 + kc) (ks1 + ks) M pc lv st0 h r := by
  obtain ⟨b0, b1, b2, b3, b4, b5, b6⟩ := cb
  intro p e s m args below meth c H locs cells slots mc ms ls C P S L k1 k2
  obtain ⟨hx, hb, hml, ho, ht, -, -, -, -, hF, -⟩ := id C
  have hM := en.met (Nat.le_refl _) (Nat.le_refl _)
  rw [pm_wsM0 b0] at hM
  rw [hret] at b1 hM
  refine pm_go (va_runIN (n := n) (b := G.1 + b) (As := av.map (pm_rv G)) (rest := st.map (pm_rv G)) ⟨hx, hb, hml, ho, ht⟩ hM ⟨⟨⟨rfl, rfl, b5, b6, pm_pay ht b1, List.mem_cons_self⟩, ht _ b1, ht _ b2, b3, pm_len b4, va_Nw.use rfl (hF.2.1 _ hl)⟩, hnm, ht _ hi⟩ (pm_pre (av := .ref b :: av) C P S) rfl (by rw [List.length_map]; exact hn) L.1 (pm_stkV hst) (pm_cat8 hw) d ⟨by show cells + kc1 ≤ mc; omega, by show slots + ks1 ≤ ms; omega⟩) S fun H1 locs1 P1 S1 => ?_
  rw [pm_back]
  exact kk p e s m args below meth c H1 locs1 _ _ mc ms ls C P1 S1 L (by omega) (by omega)
/-- Object's own constructor -/
theorem pm_objI {a : Nat} (hl : Cond.methodLink M.1.cls idx Lib.objectInit ∈ pm_tbl) (hi : Cond.instanceMethod Lib.objectInit ∈ pm_tbl) (hcd : Cond.code Lib.objectInit ⟨#[0xb1]⟩ 1 none ∈ pm_tbl) (d : decode M.2.1 pc = .ok (.invokespecial idx, 3)) (hfr : 1 ≤ M.2.2.2.2.2.1) (hlo : (st.map fun v => v.category).sum + 12 ≤ M.2.2.2.2.2.2)
    (kk : pm_Ev l G fi fo kc ks M (pc + 3) lv st h r) : pm_Ev l G fi fo kc ks M pc lv (.ref a :: st) h r := by
  intro p e s m args below meth c H locs cells slots mc ms ls C P S L k1 k2
  obtain ⟨hx, hb, hml, ho, ht, -⟩ := id C
  refine W.objInit hx hb ho (ht _ hl) (ht _ hi) (ht _ hcd) rfl (by rw [hml]; exact L.1) rfl d hfr ?_ (kk p e s m args below meth c H locs cells slots mc ms ls C P S L k1 k2)
  have e1 : ((fun v : Value => v.category) ∘ pm_rv G) = fun v => v.category := by funext v; exact pm_cat G v
  show 2 * 0 + ((st.map (pm_rv G)).map fun v => v.category).sum + 12 ≤ M.2.2.2.2.2.2
  rw [List.map_map, e1]
  omega
end PMC
end
section
/-! ===== throws, catches, calls of a method with a table ===== -/
section PMX
variable {l : Launch} {G : pm_G} {fi fo f1 : Bool} {kc ks kc1 ks1 : Nat} {M N : pm_M} {pc idx n : Nat} {lv : List (Nat × Value)} {st st0 av : List Value} {h h1 : pm_H} {r : pm_O × pm_H} {v : Option Value}
/-- throw new E() -/
theorem pm_throw {cls : String} {names : List String} {ik ic : Nat} (hM : M.2.2.2.2.1 = []) (hcls : Bundle.fit cls = true) (hnames : ∀ n ∈ names, Bundle.fit n = true) (w1 : Cond.classLink M.1.cls ik cls ∈ pm_tbl) (w2 : Cond.initialized cls ∈ pm_tbl) (hat : ∀ w ∈ vx_at0 M.1.cls ic cls names, w ∈ pm_tbl ∨ w ∈ pm_nst) (hgood : ∀ w ∈ Cond.classLink M.1.cls ik cls :: Cond.initialized cls :: vx_at0 M.1.cls ic cls names, vx_ot w = true)
    (d0 : decode M.2.1 pc = .ok (.new ik, 3)) (d3 : decode M.2.1 (pc + 3) = .ok (.dup, 1)) (d4 : decode M.2.1 (pc + 4) = .ok (.invokespecial ic, 3)) (d7 : decode M.2.1 (pc + 7) = .ok (.athrow, 1)) (hfr : names.length + 3 < M.2.2.2.2.2.1) (hlo : (st.map fun v => v.category).sum + (13 * (names.length + 1) + 42) ≤ M.2.2.2.2.2.2) : pm_Ev l G fi false 1 6 M pc lv st h (.inr cls, h) := by
  intro p e s m args below meth c H locs cells slots mc ms ls C P S L k1 k2
  obtain ⟨hx, hb, hml, ho, ht, -, hlk, htb, -, hF, hl⟩ := id C
  have htbl : ∀ x ∈ c.exceptionTable.toList, covers x (pc + 7) = false := by
    rw [htb, hM]
    intro x hx
    cases hx
  have e1 : ((fun v : Value => v.category) ∘ pm_rv G) = fun v => v.category := by funext v; exact pm_cat G v
  have K := vx_throw0 (p := p) (l := l) (e := e) (R := pm_rm M mc ms) (s := s) (m := m) (args := args) (below := below) (meth := meth) (c := c) (H := H) (locs := locs) (cells := cells) (slots := slots) (free := pm_A G) (ls := ls) (rest := st.map (pm_rv G)) (Qc := fun _ _ _ _ => False) (XC := fun E' st t => E' = cls ∧ pm_Hp G false h t.heap ∧ va_F (pm_A G) st t) (mc := mc) (ms := ms) (A := pm_A G) hx hb hl ho hcls hnames (ht _ w1) (ht _ w2) (fun w hw => (hat w hw).elim (fun q => ht w q) (fun q => va_Nw.use (pm_nst_on q) (hF.2.1 w q))) hgood hF.2.2.2.2.2.2.2.2.1 hF.2.2.2.2.2.2.2.2.2 S (by rw [hml]; exact L.1) d0 d3 d4 d7 htbl hfr (by rw [List.map_map, e1]; exact hlo) (by show cells + 1 ≤ mc; omega) (by show slots + 6 ≤ ms; omega) hlk
    (fun t hal hz hk => ⟨rfl, ⟨P.1.kept fun k x hx => hk x.1 ((P.1 k x hx).lt), Nat.le_trans P.2.1 hz, fun q => by cases q⟩, Nat.le_trans S.1 hz, fun q g1 g2 => (hk q (Nat.lt_of_lt_of_le g1 S.1)).trans (S.2.1 q g1 g2)⟩) S.2.2 (by omega) (by omega)
  intro T hT X
  obtain ⟨t, a1, o, b1, b2, b3⟩ := K T hT X
  rcases b3 with ⟨b3, -⟩ | ⟨q, rfl, E, ce, L9, ⟨rfl, g2, g3⟩, g4, g5, g6, g7, g8, g9⟩
  · exact b3.elim
  · exact ⟨t, a1, _, b1, b2, ⟨⟨q, ce, rfl, g4, g5, g6⟩, g2, g3⟩, g7, L9, g8, g9⟩
/-- a call that throws E, caught by a row of this method's table: the handler answers v -/
theorem pm_catch {b ci N0 len : Nat} {T : u_T} {fs : List Value} {E name : String} {pre suf : List ExceptionTableEntry} {x : ExceptionTableEntry} {k0 : Int} {w : Int32} (cb : pm_CB M N n) (hl : Cond.methodLink M.1.cls idx N.1 ∈ pm_tbl) (hi : Cond.instanceMethod N.1 ∈ pm_tbl) (hs : Cond.selects N.1.cls N.1 N.1 ∈ pm_tbl) (d : decode M.2.1 pc = .ok (.invokevirtual idx, 3)) (hb0 : h[b]? = some (pm_Ob ci fs)) (hc : pm_cl[ci]? = some (N.1.cls, T, N0)) (en : pm_En l G fi f1 kc1 ks1 N (.ref b :: av) h (.inr E, h1)) (hn : av.length = n) (hst : st0 = av.reverse ++ .ref b :: st) (hw : (st.map fun v => v.category).sum ≤ 8)
    (hsp : tableOf M.2.2.2.2.1 = pre ++ x :: suf) (hpass : ∀ z ∈ pre, z.catchType ≠ 0 ∧ ∃ nm : String, Cond.classLink M.1.cls z.catchType nm ∈ pm_tbl ∧ (E, nm) ∈ pm_ncs) (hcv : covers x pc = true) (h0 : x.catchType ≠ 0) (hlink : Cond.classLink M.1.cls x.catchType name ∈ pm_tbl) (hcast : Cond.castable E name ∈ pm_nst)
    (hd : (∃ i, len = 2 ∧ i < M.2.2.1 ∧ decode M.2.1 x.handlerPc = .ok (.astore i, 2)) ∨ (∃ i : Fin 4, len = 1 ∧ (i : Nat) < M.2.2.1 ∧ decode M.2.1 x.handlerPc = .ok (.astore_n i, 1))) (d2 : decode M.2.1 (x.handlerPc + len) = .ok (.iconst k0, 1)) (hk0 : Int32.ofInt k0 = w) (d3 : decode M.2.1 (x.handlerPc + len + 1) = .ok (.ireturn, 1)) (hr : M.2.2.2.1 = some .int) : pm_Ev l G fi f1 kc1 ks1 M pc lv st0 h (.inl (some (.int w)), h1) := by
  obtain ⟨b0, b1, b2, b3, b4, b5, b6⟩ := cb
  intro p e s m args below meth c H locs cells slots mc ms ls C P S L k1 k2
  obtain ⟨hx, hb, hml, ho, ht, hret, hlk, htb, -, hF, -⟩ := id C
  have hM := en.metX (Nat.le_refl _) (Nat.le_refl _)
  rw [pm_wsM0 b0] at hM
  have hR := vx_runV (p := p) (e := e) (R := pm_rm M mc ms) (below := below) (meth := meth) (locs := locs) (cells := cells) (slots := slots) (n := n) (g := F0 m pc ls (st0.map (pm_rv G))) (As := av.map (pm_rv G)) (rest := st.map (pm_rv G)) ⟨hx, hb, hml, ho, ht⟩ hM ⟨⟨rfl, rfl, b5, b6, pm_pay ht b1, List.mem_cons_self, ht _ b1, ht _ b2, b3, pm_len b4, ht _ hl⟩, ht _ hi, ht _ hs⟩ (pm_preV hb0 hc C P S) rfl (by rw [List.length_map]; exact hn) L.1 (pm_stkV hst) (pm_cat8 hw) d ⟨by show cells + kc1 ≤ mc; omega, by show slots + ks1 ≤ ms; omega⟩
  intro T hT X
  rcases hR T hT X with ⟨v9, st₀, t, T', L9, -, -, -, -, -, q, -⟩ | ⟨q, st₀, t, T', L9, E9, ce, g0, X', gL, e1, e2, ⟨rfl, gH, gz, gk⟩, gc, gv, gn, go⟩
  · exact q.elim
  rw [g0] at gz gk
  have S1 : va_S (pm_A G) s.heap T'.heap (locs ++ L9) := ⟨Nat.le_trans S.1 (by rw [e1]; exact gz), fun q g1 g2 => by rw [e1, gk q (Nat.lt_of_lt_of_le g1 S.1) g2]; exact S.2.1 q g1 g2, fun q hq => by
    rcases List.mem_append.mp hq with g | g
    · exact S.2.2 q g
    · exact gL q g⟩
  have P1 : pm_Hp G f1 h1 T'.heap := by rw [e1]; exact gH
  have fin : ∀ ls' : Array Slot, W p l e (pm_rm M mc ms) s m args below meth c T'.heap (locs ++ L9) (cells + kc1) (slots + ks1) (pm_Q G f1 below args s mc ms (.inl (some (.int w)), h1)) (F0 m (x.handlerPc + len) ls' []) := fun ls' =>
    lv_iconst (v := w) hx hb d2 hk0 (pm_end (by omega) (by omega) (W.zret (v := w) hx hb (hret.trans hr) rfl (fun t ht _ => pm_qr (v := some (.int w)) P1 S1 ht) S1.2.2 d3 hlk))
  have K : W p l e (pm_rm M mc ms) s m args below meth c T'.heap (locs ++ L9) (cells + kc1) (slots + ks1) (pm_Q G f1 below args s mc ms (.inl (some (.int w)), h1)) (F0 m x.handlerPc ls [.ref q]) := by
    rcases hd with ⟨i, rfl, hi9, hd9⟩ | ⟨i, rfl, hi9, hd9⟩
    · exact lv_astore hx hb hd9 L hi9 rfl (fun ls' _ => fin ls')
    · exact lv_astore_n hx hb hd9 rfl L hi9 rfl (fun ls' _ => fin ls')
  obtain ⟨t2, a1, b1⟩ := vx_catch (ls := ls) (rest := st.map (pm_rv G)) (pc := pc) ho pre x suf (htb.trans hsp) (fun z hz => by
    obtain ⟨z1, nm, z2, z3⟩ := hpass z hz
    exact Or.inr ⟨z1, nm, ht _ z2, hF.2.2.1 _ z3⟩) hcv h0 (ht _ hlink) (va_Nw.use rfl (hF.2.1 _ hcast)) (by rw [e1]; exact gc) gv gn K T' rfl X'
  exact ⟨t2, go.trans a1, b1⟩
/-- invokestatic of a method with a table -/
theorem pm_callSW (b1 : Cond.codeWith N.1 N.2.1 N.2.2.1 N.2.2.2.1 N.2.2.2.2.1 ∈ pm_tbl) (hN : ¬ N.2.2.2.2.1 = []) (b2 : Cond.initialized N.1.cls ∈ pm_tbl) (b3 : N.1.cls ≠ "java/lang/invoke/MethodHandle" ∧ N.1.cls ≠ "java/lang/invoke/VarHandle") (b4 : (parseMethodDescriptor N.1.desc).map (fun d => d.parameters.length) = some n) (b5 : N.2.2.2.2.2.1 + 1 ≤ M.2.2.2.2.2.1) (b6 : 8 + (N.2.2.1 + 11) + N.2.2.2.2.2.2 ≤ M.2.2.2.2.2.2)
    (hl : Cond.methodLink M.1.cls idx N.1 ∈ pm_tbl) (hi : Cond.static N.1 ∈ pm_tbl) (d : decode M.2.1 pc = .ok (.invokestatic idx, 3)) (en : pm_En l G fi f1 kc1 ks1 N av h (.inl v, h1)) (hn : av.length = n) (hst : st0 = av.reverse ++ st) (hw : (st.map fun v => v.category).sum ≤ 8)
    (kk : pm_Ev l G f1 fo kc ks M (pc + 3) lv (v.toList ++ st) h1 r) : pm_Ev l G fi fo (kc1 + kc) (ks1 + ks) M pc lv st0 h r := by
  intro p e s m args below meth c H locs cells slots mc ms ls C P S L k1 k2
  obtain ⟨hx, hb, hml, ho, ht, -⟩ := id C
  have hM := en.met (Nat.le_refl _) (Nat.le_refl _)
  have hws : pm_wsM N = Cond.codeWith N.1 N.2.1 N.2.2.1 N.2.2.2.1 N.2.2.2.2.1 :: pm_tbl := by unfold pm_wsM; rw [if_neg hN]
  rw [hws] at hM
  refine pm_go (vx_runSW (n := n) (hh := N.2.2.2.2.1) (As := av.map (pm_rv G)) (rest := st.map (pm_rv G)) ⟨hx, hb, hml, ho, ht⟩ hM ⟨⟨rfl, rfl, b5, b6, pm_pay ht b1, List.mem_cons_self⟩, ht _ b1, ht _ b2, b3, pm_len b4, ht _ hl, ht _ hi⟩ (pm_pre C P S) rfl (by rw [List.length_map]; exact hn) L.1 (pm_stk hst) (pm_cat8 hw) d ⟨by show cells + kc1 ≤ mc; omega, by show slots + ks1 ≤ ms; omega⟩) S fun H1 locs1 P1 S1 => ?_
  rw [pm_back]
  exact kk p e s m args below meth c H1 locs1 _ _ mc ms ls C P1 S1 L (by omega) (by omega)
end PMX
end
section
theorem d_Tb_init_0 : decode prog_5_method_1_code 0 = .ok (.aload_n 0, 1) := by decide +kernel
theorem d_Tb_init_1 : decode prog_5_method_1_code 1 = .ok (.invokespecial 3, 3) := by decide +kernel
theorem d_Tb_init_4 : decode prog_5_method_1_code 4 = .ok (.aload_n 0, 1) := by decide +kernel
theorem d_Tb_init_5 : decode prog_5_method_1_code 5 = .ok (.bipush 16, 2) := by decide +kernel
theorem d_Tb_init_7 : decode prog_5_method_1_code 7 = .ok (.newarray .double, 2) := by decide +kernel
theorem d_Tb_init_9 : decode prog_5_method_1_code 9 = .ok (.putfield 9, 3) := by decide +kernel
theorem d_Tb_init_12 : decode prog_5_method_1_code 12 = .ok (.aload_n 0, 1) := by decide +kernel
theorem d_Tb_init_13 : decode prog_5_method_1_code 13 = .ok (.iconst 0, 1) := by decide +kernel
theorem d_Tb_init_14 : decode prog_5_method_1_code 14 = .ok (.putfield 15, 3) := by decide +kernel
theorem d_Tb_init_17 : decode prog_5_method_1_code 17 = .ok (.aload_n 0, 1) := by decide +kernel
theorem d_Tb_init_18 : decode prog_5_method_1_code 18 = .ok (.iconst 1, 1) := by decide +kernel
theorem d_Tb_init_19 : decode prog_5_method_1_code 19 = .ok (.putfield 19, 3) := by decide +kernel
theorem d_Tb_init_22 : decode prog_5_method_1_code 22 = .ok (.aload_n 0, 1) := by decide +kernel
theorem d_Tb_init_23 : decode prog_5_method_1_code 23 = .ok (.iconst 1, 1) := by decide +kernel
theorem d_Tb_init_24 : decode prog_5_method_1_code 24 = .ok (.putfield 22, 3) := by decide +kernel
theorem d_Tb_init_27 : decode prog_5_method_1_code 27 = .ok (.return_, 1) := by decide +kernel
theorem d_Tb_shape_0 : decode prog_5_method_2_code 0 = .ok (.iload_n 2, 1) := by decide +kernel
theorem d_Tb_shape_1 : decode prog_5_method_2_code 1 = .ok (.invokestatic 25, 3) := by decide +kernel
theorem d_Tb_shape_4 : decode prog_5_method_2_code 4 = .ok (.ifCond .eq 10, 3) := by decide +kernel
theorem d_Tb_shape_7 : decode prog_5_method_2_code 7 = .ok (.iload_n 3, 1) := by decide +kernel
theorem d_Tb_shape_8 : decode prog_5_method_2_code 8 = .ok (.invokestatic 25, 3) := by decide +kernel
theorem d_Tb_shape_11 : decode prog_5_method_2_code 11 = .ok (.ifCond .ne 5, 3) := by decide +kernel
theorem d_Tb_shape_14 : decode prog_5_method_2_code 14 = .ok (.iconst 0, 1) := by decide +kernel
theorem d_Tb_shape_15 : decode prog_5_method_2_code 15 = .ok (.ireturn, 1) := by decide +kernel
theorem d_Tb_shape_16 : decode prog_5_method_2_code 16 = .ok (.aload_n 0, 1) := by decide +kernel
theorem d_Tb_shape_17 : decode prog_5_method_2_code 17 = .ok (.iload_n 1, 1) := by decide +kernel
theorem d_Tb_shape_18 : decode prog_5_method_2_code 18 = .ok (.putfield 15, 3) := by decide +kernel
theorem d_Tb_shape_21 : decode prog_5_method_2_code 21 = .ok (.aload_n 0, 1) := by decide +kernel
theorem d_Tb_shape_22 : decode prog_5_method_2_code 22 = .ok (.iload_n 2, 1) := by decide +kernel
theorem d_Tb_shape_23 : decode prog_5_method_2_code 23 = .ok (.putfield 19, 3) := by decide +kernel
theorem d_Tb_shape_26 : decode prog_5_method_2_code 26 = .ok (.aload_n 0, 1) := by decide +kernel
theorem d_Tb_shape_27 : decode prog_5_method_2_code 27 = .ok (.iload_n 3, 1) := by decide +kernel
theorem d_Tb_shape_28 : decode prog_5_method_2_code 28 = .ok (.putfield 22, 3) := by decide +kernel
theorem d_Tb_shape_31 : decode prog_5_method_2_code 31 = .ok (.iconst 1, 1) := by decide +kernel
theorem d_Tb_shape_32 : decode prog_5_method_2_code 32 = .ok (.ireturn, 1) := by decide +kernel
theorem d_Tb_clear_0 : decode prog_5_method_3_code 0 = .ok (.iconst 0, 1) := by decide +kernel
theorem d_Tb_clear_1 : decode prog_5_method_3_code 1 = .ok (.istore_n 1, 1) := by decide +kernel
theorem d_Tb_clear_2 : decode prog_5_method_3_code 2 = .ok (.iload_n 1, 1) := by decide +kernel
theorem d_Tb_clear_3 : decode prog_5_method_3_code 3 = .ok (.aload_n 0, 1) := by decide +kernel
theorem d_Tb_clear_4 : decode prog_5_method_3_code 4 = .ok (.getfield 9, 3) := by decide +kernel
theorem d_Tb_clear_7 : decode prog_5_method_3_code 7 = .ok (.arraylength, 1) := by decide +kernel
theorem d_Tb_clear_8 : decode prog_5_method_3_code 8 = .ok (.if_icmp .ge 16, 3) := by decide +kernel
theorem d_Tb_clear_11 : decode prog_5_method_3_code 11 = .ok (.aload_n 0, 1) := by decide +kernel
theorem d_Tb_clear_12 : decode prog_5_method_3_code 12 = .ok (.getfield 9, 3) := by decide +kernel
theorem d_Tb_clear_15 : decode prog_5_method_3_code 15 = .ok (.iload_n 1, 1) := by decide +kernel
theorem d_Tb_clear_16 : decode prog_5_method_3_code 16 = .ok (.dconst 0, 1) := by decide +kernel
theorem d_Tb_clear_17 : decode prog_5_method_3_code 17 = .ok (.dastore, 1) := by decide +kernel
theorem d_Tb_clear_18 : decode prog_5_method_3_code 18 = .ok (.iinc 1 1, 3) := by decide +kernel
theorem d_Tb_clear_21 : decode prog_5_method_3_code 21 = .ok (.goto (-19), 3) := by decide +kernel
theorem d_Tb_clear_24 : decode prog_5_method_3_code 24 = .ok (.return_, 1) := by decide +kernel
theorem d_Tb_has_0 : decode prog_5_method_4_code 0 = .ok (.iload_n 1, 1) := by decide +kernel
theorem d_Tb_has_1 : decode prog_5_method_4_code 1 = .ok (.ifCond .lt 27, 3) := by decide +kernel
theorem d_Tb_has_4 : decode prog_5_method_4_code 4 = .ok (.iload_n 1, 1) := by decide +kernel
theorem d_Tb_has_5 : decode prog_5_method_4_code 5 = .ok (.aload_n 0, 1) := by decide +kernel
theorem d_Tb_has_6 : decode prog_5_method_4_code 6 = .ok (.getfield 19, 3) := by decide +kernel
theorem d_Tb_has_9 : decode prog_5_method_4_code 9 = .ok (.if_icmp .ge 19, 3) := by decide +kernel
theorem d_Tb_has_12 : decode prog_5_method_4_code 12 = .ok (.iload_n 2, 1) := by decide +kernel
theorem d_Tb_has_13 : decode prog_5_method_4_code 13 = .ok (.ifCond .lt 15, 3) := by decide +kernel
theorem d_Tb_has_16 : decode prog_5_method_4_code 16 = .ok (.iload_n 2, 1) := by decide +kernel
theorem d_Tb_has_17 : decode prog_5_method_4_code 17 = .ok (.aload_n 0, 1) := by decide +kernel
theorem d_Tb_has_18 : decode prog_5_method_4_code 18 = .ok (.getfield 22, 3) := by decide +kernel
theorem d_Tb_has_21 : decode prog_5_method_4_code 21 = .ok (.if_icmp .ge 7, 3) := by decide +kernel
theorem d_Tb_has_24 : decode prog_5_method_4_code 24 = .ok (.iconst 1, 1) := by decide +kernel
theorem d_Tb_has_25 : decode prog_5_method_4_code 25 = .ok (.goto 4, 3) := by decide +kernel
theorem d_Tb_has_28 : decode prog_5_method_4_code 28 = .ok (.iconst 0, 1) := by decide +kernel
theorem d_Tb_has_29 : decode prog_5_method_4_code 29 = .ok (.ireturn, 1) := by decide +kernel
theorem d_Tb_put_0 : decode prog_5_method_7_code 0 = .ok (.aload_n 0, 1) := by decide +kernel
theorem d_Tb_put_1 : decode prog_5_method_7_code 1 = .ok (.getfield 9, 3) := by decide +kernel
theorem d_Tb_put_4 : decode prog_5_method_7_code 4 = .ok (.iload_n 1, 1) := by decide +kernel
theorem d_Tb_put_5 : decode prog_5_method_7_code 5 = .ok (.iconst 4, 1) := by decide +kernel
theorem d_Tb_put_6 : decode prog_5_method_7_code 6 = .ok (.imul, 1) := by decide +kernel
theorem d_Tb_put_7 : decode prog_5_method_7_code 7 = .ok (.iload_n 2, 1) := by decide +kernel
theorem d_Tb_put_8 : decode prog_5_method_7_code 8 = .ok (.iadd, 1) := by decide +kernel
theorem d_Tb_put_9 : decode prog_5_method_7_code 9 = .ok (.dload_n 3, 1) := by decide +kernel
theorem d_Tb_put_10 : decode prog_5_method_7_code 10 = .ok (.dastore, 1) := by decide +kernel
theorem d_Tb_put_11 : decode prog_5_method_7_code 11 = .ok (.return_, 1) := by decide +kernel
theorem d_Tb_atAgain_0 : decode prog_5_method_6_code 0 = .ok (.aload_n 0, 1) := by decide +kernel
theorem d_Tb_atAgain_1 : decode prog_5_method_6_code 1 = .ok (.getfield 9, 3) := by decide +kernel
theorem d_Tb_atAgain_4 : decode prog_5_method_6_code 4 = .ok (.aload_n 0, 1) := by decide +kernel
theorem d_Tb_atAgain_5 : decode prog_5_method_6_code 5 = .ok (.getfield 19, 3) := by decide +kernel
theorem d_Tb_atAgain_8 : decode prog_5_method_6_code 8 = .ok (.iconst 1, 1) := by decide +kernel
theorem d_Tb_atAgain_9 : decode prog_5_method_6_code 9 = .ok (.if_icmp .ne 7, 3) := by decide +kernel
theorem d_Tb_atAgain_12 : decode prog_5_method_6_code 12 = .ok (.iconst 0, 1) := by decide +kernel
theorem d_Tb_atAgain_13 : decode prog_5_method_6_code 13 = .ok (.goto 4, 3) := by decide +kernel
theorem d_Tb_atAgain_16 : decode prog_5_method_6_code 16 = .ok (.iload_n 1, 1) := by decide +kernel
theorem d_Tb_atAgain_17 : decode prog_5_method_6_code 17 = .ok (.iconst 4, 1) := by decide +kernel
theorem d_Tb_atAgain_18 : decode prog_5_method_6_code 18 = .ok (.imul, 1) := by decide +kernel
theorem d_Tb_atAgain_19 : decode prog_5_method_6_code 19 = .ok (.aload_n 0, 1) := by decide +kernel
theorem d_Tb_atAgain_20 : decode prog_5_method_6_code 20 = .ok (.getfield 22, 3) := by decide +kernel
theorem d_Tb_atAgain_23 : decode prog_5_method_6_code 23 = .ok (.iconst 1, 1) := by decide +kernel
theorem d_Tb_atAgain_24 : decode prog_5_method_6_code 24 = .ok (.if_icmp .ne 7, 3) := by decide +kernel
theorem d_Tb_atAgain_27 : decode prog_5_method_6_code 27 = .ok (.iconst 0, 1) := by decide +kernel
theorem d_Tb_atAgain_28 : decode prog_5_method_6_code 28 = .ok (.goto 4, 3) := by decide +kernel
theorem d_Tb_atAgain_31 : decode prog_5_method_6_code 31 = .ok (.iload_n 2, 1) := by decide +kernel
theorem d_Tb_atAgain_32 : decode prog_5_method_6_code 32 = .ok (.iadd, 1) := by decide +kernel
theorem d_Tb_atAgain_33 : decode prog_5_method_6_code 33 = .ok (.daload, 1) := by decide +kernel
theorem d_Tb_atAgain_34 : decode prog_5_method_6_code 34 = .ok (.dreturn, 1) := by decide +kernel
theorem d_Tb_at_0 : decode prog_5_method_5_code 0 = .ok (.aload_n 0, 1) := by decide +kernel
theorem d_Tb_at_1 : decode prog_5_method_5_code 1 = .ok (.getfield 9, 3) := by decide +kernel
theorem d_Tb_at_4 : decode prog_5_method_5_code 4 = .ok (.iload_n 1, 1) := by decide +kernel
theorem d_Tb_at_5 : decode prog_5_method_5_code 5 = .ok (.iconst 4, 1) := by decide +kernel
theorem d_Tb_at_6 : decode prog_5_method_5_code 6 = .ok (.imul, 1) := by decide +kernel
theorem d_Tb_at_7 : decode prog_5_method_5_code 7 = .ok (.iload_n 2, 1) := by decide +kernel
theorem d_Tb_at_8 : decode prog_5_method_5_code 8 = .ok (.iadd, 1) := by decide +kernel
theorem d_Tb_at_9 : decode prog_5_method_5_code 9 = .ok (.daload, 1) := by decide +kernel
theorem d_Tb_at_10 : decode prog_5_method_5_code 10 = .ok (.dreturn, 1) := by decide +kernel
theorem d_Tb_isZero_0 : decode prog_5_method_8_code 0 = .ok (.aload_n 0, 1) := by decide +kernel
theorem d_Tb_isZero_1 : decode prog_5_method_8_code 1 = .ok (.iconst 0, 1) := by decide +kernel
theorem d_Tb_isZero_2 : decode prog_5_method_8_code 2 = .ok (.iconst 0, 1) := by decide +kernel
theorem d_Tb_isZero_3 : decode prog_5_method_8_code 3 = .ok (.invokevirtual 29, 3) := by decide +kernel
theorem d_Tb_isZero_6 : decode prog_5_method_8_code 6 = .ok (.dconst 0, 1) := by decide +kernel
theorem d_Tb_isZero_7 : decode prog_5_method_8_code 7 = .ok (.dcmp .l, 1) := by decide +kernel
theorem d_Tb_isZero_8 : decode prog_5_method_8_code 8 = .ok (.ifCond .ne 7, 3) := by decide +kernel
theorem d_Tb_isZero_11 : decode prog_5_method_8_code 11 = .ok (.iconst 1, 1) := by decide +kernel
theorem d_Tb_isZero_12 : decode prog_5_method_8_code 12 = .ok (.goto 4, 3) := by decide +kernel
theorem d_Tb_isZero_15 : decode prog_5_method_8_code 15 = .ok (.iconst 0, 1) := by decide +kernel
theorem d_Tb_isZero_16 : decode prog_5_method_8_code 16 = .ok (.ireturn, 1) := by decide +kernel
theorem d_Tb_isTooLarge_0 : decode prog_5_method_9_code 0 = .ok (.iconst 0, 1) := by decide +kernel
theorem d_Tb_isTooLarge_1 : decode prog_5_method_9_code 1 = .ok (.istore_n 1, 1) := by decide +kernel
theorem d_Tb_isTooLarge_2 : decode prog_5_method_9_code 2 = .ok (.iload_n 1, 1) := by decide +kernel
theorem d_Tb_isTooLarge_3 : decode prog_5_method_9_code 3 = .ok (.aload_n 0, 1) := by decide +kernel
theorem d_Tb_isTooLarge_4 : decode prog_5_method_9_code 4 = .ok (.getfield 19, 3) := by decide +kernel
theorem d_Tb_isTooLarge_7 : decode prog_5_method_9_code 7 = .ok (.if_icmp .ge 60, 3) := by decide +kernel
theorem d_Tb_isTooLarge_10 : decode prog_5_method_9_code 10 = .ok (.aload_n 0, 1) := by decide +kernel
theorem d_Tb_isTooLarge_11 : decode prog_5_method_9_code 11 = .ok (.getfield 15, 3) := by decide +kernel
theorem d_Tb_isTooLarge_14 : decode prog_5_method_9_code 14 = .ok (.ifCond .ne 53, 3) := by decide +kernel
theorem d_Tb_isTooLarge_17 : decode prog_5_method_9_code 17 = .ok (.iconst 0, 1) := by decide +kernel
theorem d_Tb_isTooLarge_18 : decode prog_5_method_9_code 18 = .ok (.istore_n 2, 1) := by decide +kernel
theorem d_Tb_isTooLarge_19 : decode prog_5_method_9_code 19 = .ok (.iload_n 2, 1) := by decide +kernel
theorem d_Tb_isTooLarge_20 : decode prog_5_method_9_code 20 = .ok (.aload_n 0, 1) := by decide +kernel
theorem d_Tb_isTooLarge_21 : decode prog_5_method_9_code 21 = .ok (.getfield 22, 3) := by decide +kernel
theorem d_Tb_isTooLarge_24 : decode prog_5_method_9_code 24 = .ok (.if_icmp .ge 37, 3) := by decide +kernel
theorem d_Tb_isTooLarge_27 : decode prog_5_method_9_code 27 = .ok (.aload_n 0, 1) := by decide +kernel
theorem d_Tb_isTooLarge_28 : decode prog_5_method_9_code 28 = .ok (.iload_n 1, 1) := by decide +kernel
theorem d_Tb_isTooLarge_29 : decode prog_5_method_9_code 29 = .ok (.iload_n 2, 1) := by decide +kernel
theorem d_Tb_isTooLarge_30 : decode prog_5_method_9_code 30 = .ok (.invokevirtual 29, 3) := by decide +kernel
theorem d_Tb_isTooLarge_33 : decode prog_5_method_9_code 33 = .ok (.ldc2_w 33, 3) := by decide +kernel
theorem d_Tb_isTooLarge_36 : decode prog_5_method_9_code 36 = .ok (.dcmp .l, 1) := by decide +kernel
theorem d_Tb_isTooLarge_37 : decode prog_5_method_9_code 37 = .ok (.ifCond .gt 16, 3) := by decide +kernel
theorem d_Tb_isTooLarge_40 : decode prog_5_method_9_code 40 = .ok (.aload_n 0, 1) := by decide +kernel
theorem d_Tb_isTooLarge_41 : decode prog_5_method_9_code 41 = .ok (.iload_n 1, 1) := by decide +kernel
theorem d_Tb_isTooLarge_42 : decode prog_5_method_9_code 42 = .ok (.iload_n 2, 1) := by decide +kernel
theorem d_Tb_isTooLarge_43 : decode prog_5_method_9_code 43 = .ok (.invokevirtual 29, 3) := by decide +kernel
theorem d_Tb_isTooLarge_46 : decode prog_5_method_9_code 46 = .ok (.ldc2_w 35, 3) := by decide +kernel
theorem d_Tb_isTooLarge_49 : decode prog_5_method_9_code 49 = .ok (.dcmp .g, 1) := by decide +kernel
theorem d_Tb_isTooLarge_50 : decode prog_5_method_9_code 50 = .ok (.ifCond .ge 5, 3) := by decide +kernel
theorem d_Tb_isTooLarge_53 : decode prog_5_method_9_code 53 = .ok (.iconst 1, 1) := by decide +kernel
theorem d_Tb_isTooLarge_54 : decode prog_5_method_9_code 54 = .ok (.ireturn, 1) := by decide +kernel
theorem d_Tb_isTooLarge_55 : decode prog_5_method_9_code 55 = .ok (.iinc 2 1, 3) := by decide +kernel
theorem d_Tb_isTooLarge_58 : decode prog_5_method_9_code 58 = .ok (.goto (-39), 3) := by decide +kernel
theorem d_Tb_isTooLarge_61 : decode prog_5_method_9_code 61 = .ok (.iinc 1 1, 3) := by decide +kernel
theorem d_Tb_isTooLarge_64 : decode prog_5_method_9_code 64 = .ok (.goto (-62), 3) := by decide +kernel
theorem d_Tb_isTooLarge_67 : decode prog_5_method_9_code 67 = .ok (.iconst 0, 1) := by decide +kernel
theorem d_Tb_isTooLarge_68 : decode prog_5_method_9_code 68 = .ok (.ireturn, 1) := by decide +kernel
theorem d_Sl_init_0 : decode prog_4_method_1_code 0 = .ok (.aload_n 0, 1) := by decide +kernel
theorem d_Sl_init_1 : decode prog_4_method_1_code 1 = .ok (.invokespecial 3, 3) := by decide +kernel
theorem d_Sl_init_4 : decode prog_4_method_1_code 4 = .ok (.aload_n 0, 1) := by decide +kernel
theorem d_Sl_init_5 : decode prog_4_method_1_code 5 = .ok (.new 9, 3) := by decide +kernel
theorem d_Sl_init_8 : decode prog_4_method_1_code 8 = .ok (.dup, 1) := by decide +kernel
theorem d_Sl_init_9 : decode prog_4_method_1_code 9 = .ok (.invokespecial 11, 3) := by decide +kernel
theorem d_Sl_init_12 : decode prog_4_method_1_code 12 = .ok (.putfield 12, 3) := by decide +kernel
theorem d_Sl_init_15 : decode prog_4_method_1_code 15 = .ok (.aload_n 0, 1) := by decide +kernel
theorem d_Sl_init_16 : decode prog_4_method_1_code 16 = .ok (.iconst 0, 1) := by decide +kernel
theorem d_Sl_init_17 : decode prog_4_method_1_code 17 = .ok (.putfield 18, 3) := by decide +kernel
theorem d_Sl_init_20 : decode prog_4_method_1_code 20 = .ok (.aload_n 0, 1) := by decide +kernel
theorem d_Sl_init_21 : decode prog_4_method_1_code 21 = .ok (.iconst 0, 1) := by decide +kernel
theorem d_Sl_init_22 : decode prog_4_method_1_code 22 = .ok (.putfield 22, 3) := by decide +kernel
theorem d_Sl_init_25 : decode prog_4_method_1_code 25 = .ok (.return_, 1) := by decide +kernel
theorem d_Nd_init_0 : decode prog_2_method_1_code 0 = .ok (.aload_n 0, 1) := by decide +kernel
theorem d_Nd_init_1 : decode prog_2_method_1_code 1 = .ok (.invokespecial 3, 3) := by decide +kernel
theorem d_Nd_init_4 : decode prog_2_method_1_code 4 = .ok (.aload_n 0, 1) := by decide +kernel
theorem d_Nd_init_5 : decode prog_2_method_1_code 5 = .ok (.iconst 3, 1) := by decide +kernel
theorem d_Nd_init_6 : decode prog_2_method_1_code 6 = .ok (.newarray .int, 2) := by decide +kernel
theorem d_Nd_init_8 : decode prog_2_method_1_code 8 = .ok (.putfield 9, 3) := by decide +kernel
theorem d_Nd_init_11 : decode prog_2_method_1_code 11 = .ok (.aload_n 0, 1) := by decide +kernel
theorem d_Nd_init_12 : decode prog_2_method_1_code 12 = .ok (.iconst 0, 1) := by decide +kernel
theorem d_Nd_init_13 : decode prog_2_method_1_code 13 = .ok (.putfield 15, 3) := by decide +kernel
theorem d_Nd_init_16 : decode prog_2_method_1_code 16 = .ok (.aload_n 0, 1) := by decide +kernel
theorem d_Nd_init_17 : decode prog_2_method_1_code 17 = .ok (.iconst 0, 1) := by decide +kernel
theorem d_Nd_init_18 : decode prog_2_method_1_code 18 = .ok (.putfield 19, 3) := by decide +kernel
theorem d_Nd_init_21 : decode prog_2_method_1_code 21 = .ok (.aload_n 0, 1) := by decide +kernel
theorem d_Nd_init_22 : decode prog_2_method_1_code 22 = .ok (.iconst 0, 1) := by decide +kernel
theorem d_Nd_init_23 : decode prog_2_method_1_code 23 = .ok (.putfield 22, 3) := by decide +kernel
theorem d_Nd_init_26 : decode prog_2_method_1_code 26 = .ok (.aload_n 0, 1) := by decide +kernel
theorem d_Nd_init_27 : decode prog_2_method_1_code 27 = .ok (.iconst 0, 1) := by decide +kernel
theorem d_Nd_init_28 : decode prog_2_method_1_code 28 = .ok (.putfield 25, 3) := by decide +kernel
theorem d_Nd_init_31 : decode prog_2_method_1_code 31 = .ok (.aload_n 0, 1) := by decide +kernel
theorem d_Nd_init_32 : decode prog_2_method_1_code 32 = .ok (.iconst 0, 1) := by decide +kernel
theorem d_Nd_init_33 : decode prog_2_method_1_code 33 = .ok (.putfield 28, 3) := by decide +kernel
theorem d_Nd_init_36 : decode prog_2_method_1_code 36 = .ok (.aload_n 0, 1) := by decide +kernel
theorem d_Nd_init_37 : decode prog_2_method_1_code 37 = .ok (.iconst 0, 1) := by decide +kernel
theorem d_Nd_init_38 : decode prog_2_method_1_code 38 = .ok (.putfield 31, 3) := by decide +kernel
theorem d_Nd_init_41 : decode prog_2_method_1_code 41 = .ok (.aload_n 0, 1) := by decide +kernel
theorem d_Nd_init_42 : decode prog_2_method_1_code 42 = .ok (.iconst 0, 1) := by decide +kernel
theorem d_Nd_init_43 : decode prog_2_method_1_code 43 = .ok (.putfield 35, 3) := by decide +kernel
theorem d_Nd_init_46 : decode prog_2_method_1_code 46 = .ok (.aload_n 0, 1) := by decide +kernel
theorem d_Nd_init_47 : decode prog_2_method_1_code 47 = .ok (.iconst 0, 1) := by decide +kernel
theorem d_Nd_init_48 : decode prog_2_method_1_code 48 = .ok (.putfield 38, 3) := by decide +kernel
theorem d_Nd_init_51 : decode prog_2_method_1_code 51 = .ok (.return_, 1) := by decide +kernel
theorem d_Nd_become_0 : decode prog_2_method_2_code 0 = .ok (.aload_n 0, 1) := by decide +kernel
theorem d_Nd_become_1 : decode prog_2_method_2_code 1 = .ok (.iload_n 1, 1) := by decide +kernel
theorem d_Nd_become_2 : decode prog_2_method_2_code 2 = .ok (.putfield 19, 3) := by decide +kernel
theorem d_Nd_become_5 : decode prog_2_method_2_code 5 = .ok (.aload_n 0, 1) := by decide +kernel
theorem d_Nd_become_6 : decode prog_2_method_2_code 6 = .ok (.iload_n 2, 1) := by decide +kernel
theorem d_Nd_become_7 : decode prog_2_method_2_code 7 = .ok (.putfield 22, 3) := by decide +kernel
theorem d_Nd_become_10 : decode prog_2_method_2_code 10 = .ok (.aload_n 0, 1) := by decide +kernel
theorem d_Nd_become_11 : decode prog_2_method_2_code 11 = .ok (.iload_n 3, 1) := by decide +kernel
theorem d_Nd_become_12 : decode prog_2_method_2_code 12 = .ok (.putfield 25, 3) := by decide +kernel
theorem d_Nd_become_15 : decode prog_2_method_2_code 15 = .ok (.aload_n 0, 1) := by decide +kernel
theorem d_Nd_become_16 : decode prog_2_method_2_code 16 = .ok (.iload 4, 2) := by decide +kernel
theorem d_Nd_become_18 : decode prog_2_method_2_code 18 = .ok (.putfield 28, 3) := by decide +kernel
theorem d_Nd_become_21 : decode prog_2_method_2_code 21 = .ok (.aload_n 0, 1) := by decide +kernel
theorem d_Nd_become_22 : decode prog_2_method_2_code 22 = .ok (.getstatic 41, 3) := by decide +kernel
theorem d_Nd_become_25 : decode prog_2_method_2_code 25 = .ok (.iload_n 1, 1) := by decide +kernel
theorem d_Nd_become_26 : decode prog_2_method_2_code 26 = .ok (.iaload, 1) := by decide +kernel
theorem d_Nd_become_27 : decode prog_2_method_2_code 27 = .ok (.putfield 15, 3) := by decide +kernel
theorem d_Nd_become_30 : decode prog_2_method_2_code 30 = .ok (.return_, 1) := by decide +kernel
theorem d_Nd_takeArguments_0 : decode prog_2_method_3_code 0 = .ok (.aload_n 0, 1) := by decide +kernel
theorem d_Nd_takeArguments_1 : decode prog_2_method_3_code 1 = .ok (.getfield 9, 3) := by decide +kernel
theorem d_Nd_takeArguments_4 : decode prog_2_method_3_code 4 = .ok (.iconst 0, 1) := by decide +kernel
theorem d_Nd_takeArguments_5 : decode prog_2_method_3_code 5 = .ok (.iload_n 1, 1) := by decide +kernel
theorem d_Nd_takeArguments_6 : decode prog_2_method_3_code 6 = .ok (.iastore, 1) := by decide +kernel
theorem d_Nd_takeArguments_7 : decode prog_2_method_3_code 7 = .ok (.aload_n 0, 1) := by decide +kernel
theorem d_Nd_takeArguments_8 : decode prog_2_method_3_code 8 = .ok (.getfield 9, 3) := by decide +kernel
theorem d_Nd_takeArguments_11 : decode prog_2_method_3_code 11 = .ok (.iconst 1, 1) := by decide +kernel
theorem d_Nd_takeArguments_12 : decode prog_2_method_3_code 12 = .ok (.iload_n 2, 1) := by decide +kernel
theorem d_Nd_takeArguments_13 : decode prog_2_method_3_code 13 = .ok (.iastore, 1) := by decide +kernel
theorem d_Nd_takeArguments_14 : decode prog_2_method_3_code 14 = .ok (.aload_n 0, 1) := by decide +kernel
theorem d_Nd_takeArguments_15 : decode prog_2_method_3_code 15 = .ok (.getfield 9, 3) := by decide +kernel
theorem d_Nd_takeArguments_18 : decode prog_2_method_3_code 18 = .ok (.iconst 2, 1) := by decide +kernel
theorem d_Nd_takeArguments_19 : decode prog_2_method_3_code 19 = .ok (.iload_n 3, 1) := by decide +kernel
theorem d_Nd_takeArguments_20 : decode prog_2_method_3_code 20 = .ok (.iastore, 1) := by decide +kernel
theorem d_Nd_takeArguments_21 : decode prog_2_method_3_code 21 = .ok (.return_, 1) := by decide +kernel
theorem d_Nd_hasOutcome_0 : decode prog_2_method_4_code 0 = .ok (.aload_n 0, 1) := by decide +kernel
theorem d_Nd_hasOutcome_1 : decode prog_2_method_4_code 1 = .ok (.getfield 38, 3) := by decide +kernel
theorem d_Nd_hasOutcome_4 : decode prog_2_method_4_code 4 = .ok (.ifCond .ne 10, 3) := by decide +kernel
theorem d_Nd_hasOutcome_7 : decode prog_2_method_4_code 7 = .ok (.aload_n 0, 1) := by decide +kernel
theorem d_Nd_hasOutcome_8 : decode prog_2_method_4_code 8 = .ok (.getfield 35, 3) := by decide +kernel
theorem d_Nd_hasOutcome_11 : decode prog_2_method_4_code 11 = .ok (.ifCond .eq 7, 3) := by decide +kernel
theorem d_Nd_hasOutcome_14 : decode prog_2_method_4_code 14 = .ok (.iconst 1, 1) := by decide +kernel
theorem d_Nd_hasOutcome_15 : decode prog_2_method_4_code 15 = .ok (.goto 4, 3) := by decide +kernel
theorem d_Nd_hasOutcome_18 : decode prog_2_method_4_code 18 = .ok (.iconst 0, 1) := by decide +kernel
theorem d_Nd_hasOutcome_19 : decode prog_2_method_4_code 19 = .ok (.ireturn, 1) := by decide +kernel
theorem d_Gr_init_0 : decode prog_1_method_1_code 0 = .ok (.aload_n 0, 1) := by decide +kernel
theorem d_Gr_init_1 : decode prog_1_method_1_code 1 = .ok (.invokespecial 1, 3) := by decide +kernel
theorem d_Gr_init_4 : decode prog_1_method_1_code 4 = .ok (.aload_n 0, 1) := by decide +kernel
theorem d_Gr_init_5 : decode prog_1_method_1_code 5 = .ok (.bipush 20, 2) := by decide +kernel
theorem d_Gr_init_7 : decode prog_1_method_1_code 7 = .ok (.anewarray 9, 3) := by decide +kernel
theorem d_Gr_init_10 : decode prog_1_method_1_code 10 = .ok (.putfield 11, 3) := by decide +kernel
theorem d_Gr_init_13 : decode prog_1_method_1_code 13 = .ok (.aload_n 0, 1) := by decide +kernel
theorem d_Gr_init_14 : decode prog_1_method_1_code 14 = .ok (.bipush 14, 2) := by decide +kernel
theorem d_Gr_init_16 : decode prog_1_method_1_code 16 = .ok (.anewarray 15, 3) := by decide +kernel
theorem d_Gr_init_19 : decode prog_1_method_1_code 19 = .ok (.putfield 17, 3) := by decide +kernel
theorem d_Gr_init_22 : decode prog_1_method_1_code 22 = .ok (.aload_n 0, 1) := by decide +kernel
theorem d_Gr_init_23 : decode prog_1_method_1_code 23 = .ok (.bipush 14, 2) := by decide +kernel
theorem d_Gr_init_25 : decode prog_1_method_1_code 25 = .ok (.newarray .int, 2) := by decide +kernel
theorem d_Gr_init_27 : decode prog_1_method_1_code 27 = .ok (.putfield 21, 3) := by decide +kernel
theorem d_Gr_init_30 : decode prog_1_method_1_code 30 = .ok (.aload_n 0, 1) := by decide +kernel
theorem d_Gr_init_31 : decode prog_1_method_1_code 31 = .ok (.bipush 14, 2) := by decide +kernel
theorem d_Gr_init_33 : decode prog_1_method_1_code 33 = .ok (.newarray .int, 2) := by decide +kernel
theorem d_Gr_init_35 : decode prog_1_method_1_code 35 = .ok (.putfield 25, 3) := by decide +kernel
theorem d_Gr_init_38 : decode prog_1_method_1_code 38 = .ok (.aload_n 0, 1) := by decide +kernel
theorem d_Gr_init_39 : decode prog_1_method_1_code 39 = .ok (.new 28, 3) := by decide +kernel
theorem d_Gr_init_42 : decode prog_1_method_1_code 42 = .ok (.dup, 1) := by decide +kernel
theorem d_Gr_init_43 : decode prog_1_method_1_code 43 = .ok (.invokespecial 30, 3) := by decide +kernel
theorem d_Gr_init_46 : decode prog_1_method_1_code 46 = .ok (.putfield 31, 3) := by decide +kernel
theorem d_Gr_init_49 : decode prog_1_method_1_code 49 = .ok (.aload_n 0, 1) := by decide +kernel
theorem d_Gr_init_50 : decode prog_1_method_1_code 50 = .ok (.iconst 0, 1) := by decide +kernel
theorem d_Gr_init_51 : decode prog_1_method_1_code 51 = .ok (.putfield 35, 3) := by decide +kernel
theorem d_Gr_init_54 : decode prog_1_method_1_code 54 = .ok (.aload_n 0, 1) := by decide +kernel
theorem d_Gr_init_55 : decode prog_1_method_1_code 55 = .ok (.iconst 1, 1) := by decide +kernel
theorem d_Gr_init_56 : decode prog_1_method_1_code 56 = .ok (.putfield 39, 3) := by decide +kernel
theorem d_Gr_init_59 : decode prog_1_method_1_code 59 = .ok (.aload_n 0, 1) := by decide +kernel
theorem d_Gr_init_60 : decode prog_1_method_1_code 60 = .ok (.iconst 0, 1) := by decide +kernel
theorem d_Gr_init_61 : decode prog_1_method_1_code 61 = .ok (.putfield 43, 3) := by decide +kernel
theorem d_Gr_init_64 : decode prog_1_method_1_code 64 = .ok (.aload_n 0, 1) := by decide +kernel
theorem d_Gr_init_65 : decode prog_1_method_1_code 65 = .ok (.iconst 0, 1) := by decide +kernel
theorem d_Gr_init_66 : decode prog_1_method_1_code 66 = .ok (.putfield 46, 3) := by decide +kernel
theorem d_Gr_init_69 : decode prog_1_method_1_code 69 = .ok (.iconst 0, 1) := by decide +kernel
theorem d_Gr_init_70 : decode prog_1_method_1_code 70 = .ok (.istore_n 1, 1) := by decide +kernel
theorem d_Gr_init_71 : decode prog_1_method_1_code 71 = .ok (.iload_n 1, 1) := by decide +kernel
theorem d_Gr_init_72 : decode prog_1_method_1_code 72 = .ok (.bipush 20, 2) := by decide +kernel
theorem d_Gr_init_74 : decode prog_1_method_1_code 74 = .ok (.if_icmp .ge 22, 3) := by decide +kernel
theorem d_Gr_init_77 : decode prog_1_method_1_code 77 = .ok (.aload_n 0, 1) := by decide +kernel
theorem d_Gr_init_78 : decode prog_1_method_1_code 78 = .ok (.getfield 11, 3) := by decide +kernel
theorem d_Gr_init_81 : decode prog_1_method_1_code 81 = .ok (.iload_n 1, 1) := by decide +kernel
theorem d_Gr_init_82 : decode prog_1_method_1_code 82 = .ok (.new 9, 3) := by decide +kernel
theorem d_Gr_init_85 : decode prog_1_method_1_code 85 = .ok (.dup, 1) := by decide +kernel
theorem d_Gr_init_86 : decode prog_1_method_1_code 86 = .ok (.invokespecial 49, 3) := by decide +kernel
theorem d_Gr_init_89 : decode prog_1_method_1_code 89 = .ok (.aastore, 1) := by decide +kernel
theorem d_Gr_init_90 : decode prog_1_method_1_code 90 = .ok (.iinc 1 1, 3) := by decide +kernel
theorem d_Gr_init_93 : decode prog_1_method_1_code 93 = .ok (.goto (-22), 3) := by decide +kernel
theorem d_Gr_init_96 : decode prog_1_method_1_code 96 = .ok (.iconst 0, 1) := by decide +kernel
theorem d_Gr_init_97 : decode prog_1_method_1_code 97 = .ok (.istore_n 1, 1) := by decide +kernel
theorem d_Gr_init_98 : decode prog_1_method_1_code 98 = .ok (.iload_n 1, 1) := by decide +kernel
theorem d_Gr_init_99 : decode prog_1_method_1_code 99 = .ok (.bipush 14, 2) := by decide +kernel
theorem d_Gr_init_101 : decode prog_1_method_1_code 101 = .ok (.if_icmp .ge 22, 3) := by decide +kernel
theorem d_Gr_init_104 : decode prog_1_method_1_code 104 = .ok (.aload_n 0, 1) := by decide +kernel
theorem d_Gr_init_105 : decode prog_1_method_1_code 105 = .ok (.getfield 17, 3) := by decide +kernel
theorem d_Gr_init_108 : decode prog_1_method_1_code 108 = .ok (.iload_n 1, 1) := by decide +kernel
theorem d_Gr_init_109 : decode prog_1_method_1_code 109 = .ok (.new 15, 3) := by decide +kernel
theorem d_Gr_init_112 : decode prog_1_method_1_code 112 = .ok (.dup, 1) := by decide +kernel
theorem d_Gr_init_113 : decode prog_1_method_1_code 113 = .ok (.invokespecial 50, 3) := by decide +kernel
theorem d_Gr_init_116 : decode prog_1_method_1_code 116 = .ok (.aastore, 1) := by decide +kernel
theorem d_Gr_init_117 : decode prog_1_method_1_code 117 = .ok (.iinc 1 1, 3) := by decide +kernel
theorem d_Gr_init_120 : decode prog_1_method_1_code 120 = .ok (.goto (-22), 3) := by decide +kernel
theorem d_Gr_init_123 : decode prog_1_method_1_code 123 = .ok (.return_, 1) := by decide +kernel
theorem d_Gr_count_0 : decode prog_1_method_10_code 0 = .ok (.iload_n 1, 1) := by decide +kernel
theorem d_Gr_count_1 : decode prog_1_method_10_code 1 = .ok (.tableswitch 77 0 5 #[39, 44, 57, 62, 67, 72], 39) := by decide +kernel
theorem d_Gr_count_40 : decode prog_1_method_10_code 40 = .ok (.aload_n 0, 1) := by decide +kernel
theorem d_Gr_count_41 : decode prog_1_method_10_code 41 = .ok (.getfield 35, 3) := by decide +kernel
theorem d_Gr_count_44 : decode prog_1_method_10_code 44 = .ok (.ireturn, 1) := by decide +kernel
theorem d_Gr_count_45 : decode prog_1_method_10_code 45 = .ok (.aload_n 0, 1) := by decide +kernel
theorem d_Gr_count_46 : decode prog_1_method_10_code 46 = .ok (.getfield 39, 3) := by decide +kernel
theorem d_Gr_count_49 : decode prog_1_method_10_code 49 = .ok (.ifCond .eq 7, 3) := by decide +kernel
theorem d_Gr_count_52 : decode prog_1_method_10_code 52 = .ok (.iconst 1, 1) := by decide +kernel
theorem d_Gr_count_53 : decode prog_1_method_10_code 53 = .ok (.goto 4, 3) := by decide +kernel
theorem d_Gr_count_56 : decode prog_1_method_10_code 56 = .ok (.iconst 0, 1) := by decide +kernel
theorem d_Gr_count_57 : decode prog_1_method_10_code 57 = .ok (.ireturn, 1) := by decide +kernel
theorem d_Gr_count_58 : decode prog_1_method_10_code 58 = .ok (.aload_n 0, 1) := by decide +kernel
theorem d_Gr_count_59 : decode prog_1_method_10_code 59 = .ok (.invokevirtual 147, 3) := by decide +kernel
theorem d_Gr_count_62 : decode prog_1_method_10_code 62 = .ok (.ireturn, 1) := by decide +kernel
theorem d_Gr_count_63 : decode prog_1_method_10_code 63 = .ok (.aload_n 0, 1) := by decide +kernel
theorem d_Gr_count_64 : decode prog_1_method_10_code 64 = .ok (.invokevirtual 174, 3) := by decide +kernel
theorem d_Gr_count_67 : decode prog_1_method_10_code 67 = .ok (.ireturn, 1) := by decide +kernel
theorem d_Gr_count_68 : decode prog_1_method_10_code 68 = .ok (.aload_n 0, 1) := by decide +kernel
theorem d_Gr_count_69 : decode prog_1_method_10_code 69 = .ok (.getfield 43, 3) := by decide +kernel
theorem d_Gr_count_72 : decode prog_1_method_10_code 72 = .ok (.ireturn, 1) := by decide +kernel
theorem d_Gr_count_73 : decode prog_1_method_10_code 73 = .ok (.aload_n 0, 1) := by decide +kernel
theorem d_Gr_count_74 : decode prog_1_method_10_code 74 = .ok (.getfield 46, 3) := by decide +kernel
theorem d_Gr_count_77 : decode prog_1_method_10_code 77 = .ok (.ireturn, 1) := by decide +kernel
theorem d_Gr_count_78 : decode prog_1_method_10_code 78 = .ok (.aload_n 0, 1) := by decide +kernel
theorem d_Gr_count_79 : decode prog_1_method_10_code 79 = .ok (.iload_n 1, 1) := by decide +kernel
theorem d_Gr_count_80 : decode prog_1_method_10_code 80 = .ok (.invokevirtual 177, 3) := by decide +kernel
theorem d_Gr_count_83 : decode prog_1_method_10_code 83 = .ok (.ireturn, 1) := by decide +kernel
theorem d_Gr_foldedCount_0 : decode prog_1_method_25_code 0 = .ok (.iconst 0, 1) := by decide +kernel
theorem d_Gr_foldedCount_1 : decode prog_1_method_25_code 1 = .ok (.istore_n 1, 1) := by decide +kernel
theorem d_Gr_foldedCount_2 : decode prog_1_method_25_code 2 = .ok (.iconst 0, 1) := by decide +kernel
theorem d_Gr_foldedCount_3 : decode prog_1_method_25_code 3 = .ok (.istore_n 2, 1) := by decide +kernel
theorem d_Gr_foldedCount_4 : decode prog_1_method_25_code 4 = .ok (.iload_n 2, 1) := by decide +kernel
theorem d_Gr_foldedCount_5 : decode prog_1_method_25_code 5 = .ok (.aload_n 0, 1) := by decide +kernel
theorem d_Gr_foldedCount_6 : decode prog_1_method_25_code 6 = .ok (.getfield 35, 3) := by decide +kernel
theorem d_Gr_foldedCount_9 : decode prog_1_method_25_code 9 = .ok (.if_icmp .ge 29, 3) := by decide +kernel
theorem d_Gr_foldedCount_12 : decode prog_1_method_25_code 12 = .ok (.iload_n 1, 1) := by decide +kernel
theorem d_Gr_foldedCount_13 : decode prog_1_method_25_code 13 = .ok (.aload_n 0, 1) := by decide +kernel
theorem d_Gr_foldedCount_14 : decode prog_1_method_25_code 14 = .ok (.getfield 17, 3) := by decide +kernel
theorem d_Gr_foldedCount_17 : decode prog_1_method_25_code 17 = .ok (.iload_n 2, 1) := by decide +kernel
theorem d_Gr_foldedCount_18 : decode prog_1_method_25_code 18 = .ok (.aaload, 1) := by decide +kernel
theorem d_Gr_foldedCount_19 : decode prog_1_method_25_code 19 = .ok (.getfield 187, 3) := by decide +kernel
theorem d_Gr_foldedCount_22 : decode prog_1_method_25_code 22 = .ok (.ifCond .eq 7, 3) := by decide +kernel
theorem d_Gr_foldedCount_25 : decode prog_1_method_25_code 25 = .ok (.iconst 1, 1) := by decide +kernel
theorem d_Gr_foldedCount_26 : decode prog_1_method_25_code 26 = .ok (.goto 4, 3) := by decide +kernel
theorem d_Gr_foldedCount_29 : decode prog_1_method_25_code 29 = .ok (.iconst 0, 1) := by decide +kernel
theorem d_Gr_foldedCount_30 : decode prog_1_method_25_code 30 = .ok (.iadd, 1) := by decide +kernel
theorem d_Gr_foldedCount_31 : decode prog_1_method_25_code 31 = .ok (.istore_n 1, 1) := by decide +kernel
theorem d_Gr_foldedCount_32 : decode prog_1_method_25_code 32 = .ok (.iinc 2 1, 3) := by decide +kernel
theorem d_Gr_foldedCount_35 : decode prog_1_method_25_code 35 = .ok (.goto (-31), 3) := by decide +kernel
theorem d_Gr_foldedCount_38 : decode prog_1_method_25_code 38 = .ok (.iload_n 1, 1) := by decide +kernel
theorem d_Gr_foldedCount_39 : decode prog_1_method_25_code 39 = .ok (.ireturn, 1) := by decide +kernel
theorem d_Gr_knownCount_0 : decode prog_1_method_26_code 0 = .ok (.iconst 0, 1) := by decide +kernel
theorem d_Gr_knownCount_1 : decode prog_1_method_26_code 1 = .ok (.istore_n 1, 1) := by decide +kernel
theorem d_Gr_knownCount_2 : decode prog_1_method_26_code 2 = .ok (.iconst 0, 1) := by decide +kernel
theorem d_Gr_knownCount_3 : decode prog_1_method_26_code 3 = .ok (.istore_n 2, 1) := by decide +kernel
theorem d_Gr_knownCount_4 : decode prog_1_method_26_code 4 = .ok (.iload_n 2, 1) := by decide +kernel
theorem d_Gr_knownCount_5 : decode prog_1_method_26_code 5 = .ok (.aload_n 0, 1) := by decide +kernel
theorem d_Gr_knownCount_6 : decode prog_1_method_26_code 6 = .ok (.getfield 35, 3) := by decide +kernel
theorem d_Gr_knownCount_9 : decode prog_1_method_26_code 9 = .ok (.if_icmp .ge 29, 3) := by decide +kernel
theorem d_Gr_knownCount_12 : decode prog_1_method_26_code 12 = .ok (.iload_n 1, 1) := by decide +kernel
theorem d_Gr_knownCount_13 : decode prog_1_method_26_code 13 = .ok (.aload_n 0, 1) := by decide +kernel
theorem d_Gr_knownCount_14 : decode prog_1_method_26_code 14 = .ok (.getfield 17, 3) := by decide +kernel
theorem d_Gr_knownCount_17 : decode prog_1_method_26_code 17 = .ok (.iload_n 2, 1) := by decide +kernel
theorem d_Gr_knownCount_18 : decode prog_1_method_26_code 18 = .ok (.aaload, 1) := by decide +kernel
theorem d_Gr_knownCount_19 : decode prog_1_method_26_code 19 = .ok (.getfield 193, 3) := by decide +kernel
theorem d_Gr_knownCount_22 : decode prog_1_method_26_code 22 = .ok (.ifCond .eq 7, 3) := by decide +kernel
theorem d_Gr_knownCount_25 : decode prog_1_method_26_code 25 = .ok (.iconst 1, 1) := by decide +kernel
theorem d_Gr_knownCount_26 : decode prog_1_method_26_code 26 = .ok (.goto 4, 3) := by decide +kernel
theorem d_Gr_knownCount_29 : decode prog_1_method_26_code 29 = .ok (.iconst 0, 1) := by decide +kernel
theorem d_Gr_knownCount_30 : decode prog_1_method_26_code 30 = .ok (.iadd, 1) := by decide +kernel
theorem d_Gr_knownCount_31 : decode prog_1_method_26_code 31 = .ok (.istore_n 1, 1) := by decide +kernel
theorem d_Gr_knownCount_32 : decode prog_1_method_26_code 32 = .ok (.iinc 2 1, 3) := by decide +kernel
theorem d_Gr_knownCount_35 : decode prog_1_method_26_code 35 = .ok (.goto (-31), 3) := by decide +kernel
theorem d_Gr_knownCount_38 : decode prog_1_method_26_code 38 = .ok (.iload_n 1, 1) := by decide +kernel
theorem d_Gr_knownCount_39 : decode prog_1_method_26_code 39 = .ok (.ireturn, 1) := by decide +kernel
theorem d_Gr_inOrder_0 : decode prog_1_method_11_code 0 = .ok (.aload_n 0, 1) := by decide +kernel
theorem d_Gr_inOrder_1 : decode prog_1_method_11_code 1 = .ok (.getfield 39, 3) := by decide +kernel
theorem d_Gr_inOrder_4 : decode prog_1_method_11_code 4 = .ok (.ifCond .eq 20, 3) := by decide +kernel
theorem d_Gr_inOrder_7 : decode prog_1_method_11_code 7 = .ok (.iload_n 1, 1) := by decide +kernel
theorem d_Gr_inOrder_8 : decode prog_1_method_11_code 8 = .ok (.bipush 10, 2) := by decide +kernel
theorem d_Gr_inOrder_10 : decode prog_1_method_11_code 10 = .ok (.if_icmp .lt 14, 3) := by decide +kernel
theorem d_Gr_inOrder_13 : decode prog_1_method_11_code 13 = .ok (.iload_n 1, 1) := by decide +kernel
theorem d_Gr_inOrder_14 : decode prog_1_method_11_code 14 = .ok (.bipush 10, 2) := by decide +kernel
theorem d_Gr_inOrder_16 : decode prog_1_method_11_code 16 = .ok (.aload_n 0, 1) := by decide +kernel
theorem d_Gr_inOrder_17 : decode prog_1_method_11_code 17 = .ok (.getfield 35, 3) := by decide +kernel
theorem d_Gr_inOrder_20 : decode prog_1_method_11_code 20 = .ok (.iadd, 1) := by decide +kernel
theorem d_Gr_inOrder_21 : decode prog_1_method_11_code 21 = .ok (.if_icmp .lt 5, 3) := by decide +kernel
theorem d_Gr_inOrder_24 : decode prog_1_method_11_code 24 = .ok (.iconst (-1), 1) := by decide +kernel
theorem d_Gr_inOrder_25 : decode prog_1_method_11_code 25 = .ok (.ireturn, 1) := by decide +kernel
theorem d_Gr_inOrder_26 : decode prog_1_method_11_code 26 = .ok (.aload_n 0, 1) := by decide +kernel
theorem d_Gr_inOrder_27 : decode prog_1_method_11_code 27 = .ok (.getfield 21, 3) := by decide +kernel
theorem d_Gr_inOrder_30 : decode prog_1_method_11_code 30 = .ok (.iload_n 1, 1) := by decide +kernel
theorem d_Gr_inOrder_31 : decode prog_1_method_11_code 31 = .ok (.bipush 10, 2) := by decide +kernel
theorem d_Gr_inOrder_33 : decode prog_1_method_11_code 33 = .ok (.isub, 1) := by decide +kernel
theorem d_Gr_inOrder_34 : decode prog_1_method_11_code 34 = .ok (.iaload, 1) := by decide +kernel
theorem d_Gr_inOrder_35 : decode prog_1_method_11_code 35 = .ok (.ireturn, 1) := by decide +kernel
theorem d_Gr_table_0 : decode prog_1_method_2_code 0 = .ok (.aload_n 0, 1) := by decide +kernel
theorem d_Gr_table_1 : decode prog_1_method_2_code 1 = .ok (.iload_n 1, 1) := by decide +kernel
theorem d_Gr_table_2 : decode prog_1_method_2_code 2 = .ok (.invokevirtual 51, 3) := by decide +kernel
theorem d_Gr_table_5 : decode prog_1_method_2_code 5 = .ok (.ifCond .eq 25, 3) := by decide +kernel
theorem d_Gr_table_8 : decode prog_1_method_2_code 8 = .ok (.iload_n 2, 1) := by decide +kernel
theorem d_Gr_table_9 : decode prog_1_method_2_code 9 = .ok (.invokestatic 55, 3) := by decide +kernel
theorem d_Gr_table_12 : decode prog_1_method_2_code 12 = .ok (.ifCond .eq 18, 3) := by decide +kernel
theorem d_Gr_table_15 : decode prog_1_method_2_code 15 = .ok (.iload_n 3, 1) := by decide +kernel
theorem d_Gr_table_16 : decode prog_1_method_2_code 16 = .ok (.invokestatic 58, 3) := by decide +kernel
theorem d_Gr_table_19 : decode prog_1_method_2_code 19 = .ok (.ifCond .eq 11, 3) := by decide +kernel
theorem d_Gr_table_22 : decode prog_1_method_2_code 22 = .ok (.iload 4, 2) := by decide +kernel
theorem d_Gr_table_24 : decode prog_1_method_2_code 24 = .ok (.invokestatic 58, 3) := by decide +kernel
theorem d_Gr_table_27 : decode prog_1_method_2_code 27 = .ok (.ifCond .ne 11, 3) := by decide +kernel
theorem d_Gr_table_30 : decode prog_1_method_2_code 30 = .ok (.new 61, 3) := by decide +kernel
theorem d_Gr_table_33 : decode prog_1_method_2_code 33 = .ok (.dup, 1) := by decide +kernel
theorem d_Gr_table_34 : decode prog_1_method_2_code 34 = .ok (.invokespecial 63, 3) := by decide +kernel
theorem d_Gr_table_37 : decode prog_1_method_2_code 37 = .ok (.athrow, 1) := by decide +kernel
theorem d_Gr_table_38 : decode prog_1_method_2_code 38 = .ok (.aload_n 0, 1) := by decide +kernel
theorem d_Gr_table_39 : decode prog_1_method_2_code 39 = .ok (.getfield 11, 3) := by decide +kernel
theorem d_Gr_table_42 : decode prog_1_method_2_code 42 = .ok (.iload_n 1, 1) := by decide +kernel
theorem d_Gr_table_43 : decode prog_1_method_2_code 43 = .ok (.aaload, 1) := by decide +kernel
theorem d_Gr_table_44 : decode prog_1_method_2_code 44 = .ok (.iload 5, 2) := by decide +kernel
theorem d_Gr_table_46 : decode prog_1_method_2_code 46 = .ok (.ifCond .eq 7, 3) := by decide +kernel
theorem d_Gr_table_49 : decode prog_1_method_2_code 49 = .ok (.iconst 2, 1) := by decide +kernel
theorem d_Gr_table_50 : decode prog_1_method_2_code 50 = .ok (.goto 4, 3) := by decide +kernel
theorem d_Gr_table_53 : decode prog_1_method_2_code 53 = .ok (.iconst 1, 1) := by decide +kernel
theorem d_Gr_table_54 : decode prog_1_method_2_code 54 = .ok (.putfield 64, 3) := by decide +kernel
theorem d_Gr_table_57 : decode prog_1_method_2_code 57 = .ok (.aload_n 0, 1) := by decide +kernel
theorem d_Gr_table_58 : decode prog_1_method_2_code 58 = .ok (.getfield 11, 3) := by decide +kernel
theorem d_Gr_table_61 : decode prog_1_method_2_code 61 = .ok (.iload_n 1, 1) := by decide +kernel
theorem d_Gr_table_62 : decode prog_1_method_2_code 62 = .ok (.aaload, 1) := by decide +kernel
theorem d_Gr_table_63 : decode prog_1_method_2_code 63 = .ok (.getfield 67, 3) := by decide +kernel
theorem d_Gr_table_66 : decode prog_1_method_2_code 66 = .ok (.iload_n 2, 1) := by decide +kernel
theorem d_Gr_table_67 : decode prog_1_method_2_code 67 = .ok (.iload_n 3, 1) := by decide +kernel
theorem d_Gr_table_68 : decode prog_1_method_2_code 68 = .ok (.iload 4, 2) := by decide +kernel
theorem d_Gr_table_70 : decode prog_1_method_2_code 70 = .ok (.invokevirtual 70, 3) := by decide +kernel
theorem d_Gr_table_73 : decode prog_1_method_2_code 73 = .ok (.pop, 1) := by decide +kernel
theorem d_Gr_table_74 : decode prog_1_method_2_code 74 = .ok (.aload_n 0, 1) := by decide +kernel
theorem d_Gr_table_75 : decode prog_1_method_2_code 75 = .ok (.getfield 11, 3) := by decide +kernel
theorem d_Gr_table_78 : decode prog_1_method_2_code 78 = .ok (.iload_n 1, 1) := by decide +kernel
theorem d_Gr_table_79 : decode prog_1_method_2_code 79 = .ok (.aaload, 1) := by decide +kernel
theorem d_Gr_table_80 : decode prog_1_method_2_code 80 = .ok (.getfield 67, 3) := by decide +kernel
theorem d_Gr_table_83 : decode prog_1_method_2_code 83 = .ok (.invokevirtual 74, 3) := by decide +kernel
theorem d_Gr_table_86 : decode prog_1_method_2_code 86 = .ok (.aload_n 0, 1) := by decide +kernel
theorem d_Gr_table_87 : decode prog_1_method_2_code 87 = .ok (.invokevirtual 77, 3) := by decide +kernel
theorem d_Gr_table_90 : decode prog_1_method_2_code 90 = .ok (.return_, 1) := by decide +kernel
theorem d_Gr_isFree_0 : decode prog_1_method_18_code 0 = .ok (.iload_n 1, 1) := by decide +kernel
theorem d_Gr_isFree_1 : decode prog_1_method_18_code 1 = .ok (.invokestatic 80, 3) := by decide +kernel
theorem d_Gr_isFree_4 : decode prog_1_method_18_code 4 = .ok (.ifCond .eq 19, 3) := by decide +kernel
theorem d_Gr_isFree_7 : decode prog_1_method_18_code 7 = .ok (.aload_n 0, 1) := by decide +kernel
theorem d_Gr_isFree_8 : decode prog_1_method_18_code 8 = .ok (.getfield 11, 3) := by decide +kernel
theorem d_Gr_isFree_11 : decode prog_1_method_18_code 11 = .ok (.iload_n 1, 1) := by decide +kernel
theorem d_Gr_isFree_12 : decode prog_1_method_18_code 12 = .ok (.aaload, 1) := by decide +kernel
theorem d_Gr_isFree_13 : decode prog_1_method_18_code 13 = .ok (.getfield 64, 3) := by decide +kernel
theorem d_Gr_isFree_16 : decode prog_1_method_18_code 16 = .ok (.ifCond .ne 7, 3) := by decide +kernel
theorem d_Gr_isFree_19 : decode prog_1_method_18_code 19 = .ok (.iconst 1, 1) := by decide +kernel
theorem d_Gr_isFree_20 : decode prog_1_method_18_code 20 = .ok (.goto 4, 3) := by decide +kernel
theorem d_Gr_isFree_23 : decode prog_1_method_18_code 23 = .ok (.iconst 0, 1) := by decide +kernel
theorem d_Gr_isFree_24 : decode prog_1_method_18_code 24 = .ok (.ireturn, 1) := by decide +kernel
theorem d_Gr_isSlot_0 : decode prog_1_method_12_code 0 = .ok (.iload_n 0, 1) := by decide +kernel
theorem d_Gr_isSlot_1 : decode prog_1_method_12_code 1 = .ok (.ifCond .lt 13, 3) := by decide +kernel
theorem d_Gr_isSlot_4 : decode prog_1_method_12_code 4 = .ok (.iload_n 0, 1) := by decide +kernel
theorem d_Gr_isSlot_5 : decode prog_1_method_12_code 5 = .ok (.bipush 20, 2) := by decide +kernel
theorem d_Gr_isSlot_7 : decode prog_1_method_12_code 7 = .ok (.if_icmp .ge 7, 3) := by decide +kernel
theorem d_Gr_isSlot_10 : decode prog_1_method_12_code 10 = .ok (.iconst 1, 1) := by decide +kernel
theorem d_Gr_isSlot_11 : decode prog_1_method_12_code 11 = .ok (.goto 4, 3) := by decide +kernel
theorem d_Gr_isSlot_14 : decode prog_1_method_12_code 14 = .ok (.iconst 0, 1) := by decide +kernel
theorem d_Gr_isSlot_15 : decode prog_1_method_12_code 15 = .ok (.ireturn, 1) := by decide +kernel
theorem d_Gr_isType_0 : decode prog_1_method_13_code 0 = .ok (.iload_n 0, 1) := by decide +kernel
theorem d_Gr_isType_1 : decode prog_1_method_13_code 1 = .ok (.ifCond .eq 8, 3) := by decide +kernel
theorem d_Gr_isType_4 : decode prog_1_method_13_code 4 = .ok (.iload_n 0, 1) := by decide +kernel
theorem d_Gr_isType_5 : decode prog_1_method_13_code 5 = .ok (.iconst 1, 1) := by decide +kernel
theorem d_Gr_isType_6 : decode prog_1_method_13_code 6 = .ok (.if_icmp .ne 7, 3) := by decide +kernel
theorem d_Gr_isType_9 : decode prog_1_method_13_code 9 = .ok (.iconst 1, 1) := by decide +kernel
theorem d_Gr_isType_10 : decode prog_1_method_13_code 10 = .ok (.goto 4, 3) := by decide +kernel
theorem d_Gr_isType_13 : decode prog_1_method_13_code 13 = .ok (.iconst 0, 1) := by decide +kernel
theorem d_Gr_isType_14 : decode prog_1_method_13_code 14 = .ok (.ireturn, 1) := by decide +kernel
theorem d_Gr_isSide_0 : decode prog_1_method_14_code 0 = .ok (.iload_n 0, 1) := by decide +kernel
theorem d_Gr_isSide_1 : decode prog_1_method_14_code 1 = .ok (.iconst 1, 1) := by decide +kernel
theorem d_Gr_isSide_2 : decode prog_1_method_14_code 2 = .ok (.if_icmp .lt 12, 3) := by decide +kernel
theorem d_Gr_isSide_5 : decode prog_1_method_14_code 5 = .ok (.iload_n 0, 1) := by decide +kernel
theorem d_Gr_isSide_6 : decode prog_1_method_14_code 6 = .ok (.iconst 4, 1) := by decide +kernel
theorem d_Gr_isSide_7 : decode prog_1_method_14_code 7 = .ok (.if_icmp .gt 7, 3) := by decide +kernel
theorem d_Gr_isSide_10 : decode prog_1_method_14_code 10 = .ok (.iconst 1, 1) := by decide +kernel
theorem d_Gr_isSide_11 : decode prog_1_method_14_code 11 = .ok (.goto 4, 3) := by decide +kernel
theorem d_Gr_isSide_14 : decode prog_1_method_14_code 14 = .ok (.iconst 0, 1) := by decide +kernel
theorem d_Gr_isSide_15 : decode prog_1_method_14_code 15 = .ok (.ireturn, 1) := by decide +kernel
theorem d_Gr_unprepare_0 : decode prog_1_method_23_code 0 = .ok (.aload_n 0, 1) := by decide +kernel
theorem d_Gr_unprepare_1 : decode prog_1_method_23_code 1 = .ok (.iconst 0, 1) := by decide +kernel
theorem d_Gr_unprepare_2 : decode prog_1_method_23_code 2 = .ok (.putfield 39, 3) := by decide +kernel
theorem d_Gr_unprepare_5 : decode prog_1_method_23_code 5 = .ok (.aload_n 0, 1) := by decide +kernel
theorem d_Gr_unprepare_6 : decode prog_1_method_23_code 6 = .ok (.invokevirtual 101, 3) := by decide +kernel
theorem d_Gr_unprepare_9 : decode prog_1_method_23_code 9 = .ok (.iconst 0, 1) := by decide +kernel
theorem d_Gr_unprepare_10 : decode prog_1_method_23_code 10 = .ok (.istore_n 1, 1) := by decide +kernel
theorem d_Gr_unprepare_11 : decode prog_1_method_23_code 11 = .ok (.iload_n 1, 1) := by decide +kernel
theorem d_Gr_unprepare_12 : decode prog_1_method_23_code 12 = .ok (.aload_n 0, 1) := by decide +kernel
end
section
theorem d_Gr_unprepare_13 : decode prog_1_method_23_code 13 = .ok (.getfield 35, 3) := by decide +kernel
theorem d_Gr_unprepare_16 : decode prog_1_method_23_code 16 = .ok (.if_icmp .ge 19, 3) := by decide +kernel
theorem d_Gr_unprepare_19 : decode prog_1_method_23_code 19 = .ok (.aload_n 0, 1) := by decide +kernel
theorem d_Gr_unprepare_20 : decode prog_1_method_23_code 20 = .ok (.getfield 17, 3) := by decide +kernel
theorem d_Gr_unprepare_23 : decode prog_1_method_23_code 23 = .ok (.iload_n 1, 1) := by decide +kernel
theorem d_Gr_unprepare_24 : decode prog_1_method_23_code 24 = .ok (.aaload, 1) := by decide +kernel
theorem d_Gr_unprepare_25 : decode prog_1_method_23_code 25 = .ok (.iconst 0, 1) := by decide +kernel
theorem d_Gr_unprepare_26 : decode prog_1_method_23_code 26 = .ok (.putfield 187, 3) := by decide +kernel
theorem d_Gr_unprepare_29 : decode prog_1_method_23_code 29 = .ok (.iinc 1 1, 3) := by decide +kernel
theorem d_Gr_unprepare_32 : decode prog_1_method_23_code 32 = .ok (.goto (-21), 3) := by decide +kernel
theorem d_Gr_unprepare_35 : decode prog_1_method_23_code 35 = .ok (.return_, 1) := by decide +kernel
theorem d_Gr_forgetKnown_0 : decode prog_1_method_24_code 0 = .ok (.iconst 0, 1) := by decide +kernel
theorem d_Gr_forgetKnown_1 : decode prog_1_method_24_code 1 = .ok (.istore_n 1, 1) := by decide +kernel
theorem d_Gr_forgetKnown_2 : decode prog_1_method_24_code 2 = .ok (.iload_n 1, 1) := by decide +kernel
theorem d_Gr_forgetKnown_3 : decode prog_1_method_24_code 3 = .ok (.aload_n 0, 1) := by decide +kernel
theorem d_Gr_forgetKnown_4 : decode prog_1_method_24_code 4 = .ok (.getfield 35, 3) := by decide +kernel
theorem d_Gr_forgetKnown_7 : decode prog_1_method_24_code 7 = .ok (.if_icmp .ge 19, 3) := by decide +kernel
theorem d_Gr_forgetKnown_10 : decode prog_1_method_24_code 10 = .ok (.aload_n 0, 1) := by decide +kernel
theorem d_Gr_forgetKnown_11 : decode prog_1_method_24_code 11 = .ok (.getfield 17, 3) := by decide +kernel
theorem d_Gr_forgetKnown_14 : decode prog_1_method_24_code 14 = .ok (.iload_n 1, 1) := by decide +kernel
theorem d_Gr_forgetKnown_15 : decode prog_1_method_24_code 15 = .ok (.aaload, 1) := by decide +kernel
theorem d_Gr_forgetKnown_16 : decode prog_1_method_24_code 16 = .ok (.iconst 0, 1) := by decide +kernel
theorem d_Gr_forgetKnown_17 : decode prog_1_method_24_code 17 = .ok (.putfield 193, 3) := by decide +kernel
theorem d_Gr_forgetKnown_20 : decode prog_1_method_24_code 20 = .ok (.iinc 1 1, 3) := by decide +kernel
theorem d_Gr_forgetKnown_23 : decode prog_1_method_24_code 23 = .ok (.goto (-21), 3) := by decide +kernel
theorem d_Gr_forgetKnown_26 : decode prog_1_method_24_code 26 = .ok (.return_, 1) := by decide +kernel
theorem d_Gr_set_0 : decode prog_1_method_3_code 0 = .ok (.iload_n 1, 1) := by decide +kernel
theorem d_Gr_set_1 : decode prog_1_method_3_code 1 = .ok (.invokestatic 80, 3) := by decide +kernel
theorem d_Gr_set_4 : decode prog_1_method_3_code 4 = .ok (.ifCond .eq 48, 3) := by decide +kernel
theorem d_Gr_set_7 : decode prog_1_method_3_code 7 = .ok (.aload_n 0, 1) := by decide +kernel
theorem d_Gr_set_8 : decode prog_1_method_3_code 8 = .ok (.iload_n 1, 1) := by decide +kernel
theorem d_Gr_set_9 : decode prog_1_method_3_code 9 = .ok (.invokevirtual 83, 3) := by decide +kernel
theorem d_Gr_set_12 : decode prog_1_method_3_code 12 = .ok (.ifCond .eq 40, 3) := by decide +kernel
theorem d_Gr_set_15 : decode prog_1_method_3_code 15 = .ok (.aload_n 0, 1) := by decide +kernel
theorem d_Gr_set_16 : decode prog_1_method_3_code 16 = .ok (.getfield 11, 3) := by decide +kernel
theorem d_Gr_set_19 : decode prog_1_method_3_code 19 = .ok (.iload_n 1, 1) := by decide +kernel
theorem d_Gr_set_20 : decode prog_1_method_3_code 20 = .ok (.aaload, 1) := by decide +kernel
theorem d_Gr_set_21 : decode prog_1_method_3_code 21 = .ok (.getfield 67, 3) := by decide +kernel
theorem d_Gr_set_24 : decode prog_1_method_3_code 24 = .ok (.iload_n 2, 1) := by decide +kernel
theorem d_Gr_set_25 : decode prog_1_method_3_code 25 = .ok (.iload_n 3, 1) := by decide +kernel
theorem d_Gr_set_26 : decode prog_1_method_3_code 26 = .ok (.invokevirtual 86, 3) := by decide +kernel
theorem d_Gr_set_29 : decode prog_1_method_3_code 29 = .ok (.ifCond .eq 23, 3) := by decide +kernel
theorem d_Gr_set_32 : decode prog_1_method_3_code 32 = .ok (.aload_n 0, 1) := by decide +kernel
theorem d_Gr_set_33 : decode prog_1_method_3_code 33 = .ok (.getfield 11, 3) := by decide +kernel
theorem d_Gr_set_36 : decode prog_1_method_3_code 36 = .ok (.iload_n 1, 1) := by decide +kernel
theorem d_Gr_set_37 : decode prog_1_method_3_code 37 = .ok (.aaload, 1) := by decide +kernel
theorem d_Gr_set_38 : decode prog_1_method_3_code 38 = .ok (.getfield 67, 3) := by decide +kernel
theorem d_Gr_set_41 : decode prog_1_method_3_code 41 = .ok (.getfield 90, 3) := by decide +kernel
theorem d_Gr_set_44 : decode prog_1_method_3_code 44 = .ok (.dload 4, 2) := by decide +kernel
theorem d_Gr_set_46 : decode prog_1_method_3_code 46 = .ok (.invokestatic 93, 3) := by decide +kernel
theorem d_Gr_set_49 : decode prog_1_method_3_code 49 = .ok (.ifCond .ne 11, 3) := by decide +kernel
theorem d_Gr_set_52 : decode prog_1_method_3_code 52 = .ok (.new 61, 3) := by decide +kernel
theorem d_Gr_set_55 : decode prog_1_method_3_code 55 = .ok (.dup, 1) := by decide +kernel
theorem d_Gr_set_56 : decode prog_1_method_3_code 56 = .ok (.invokespecial 63, 3) := by decide +kernel
theorem d_Gr_set_59 : decode prog_1_method_3_code 59 = .ok (.athrow, 1) := by decide +kernel
theorem d_Gr_set_60 : decode prog_1_method_3_code 60 = .ok (.aload_n 0, 1) := by decide +kernel
theorem d_Gr_set_61 : decode prog_1_method_3_code 61 = .ok (.getfield 11, 3) := by decide +kernel
theorem d_Gr_set_64 : decode prog_1_method_3_code 64 = .ok (.iload_n 1, 1) := by decide +kernel
theorem d_Gr_set_65 : decode prog_1_method_3_code 65 = .ok (.aaload, 1) := by decide +kernel
theorem d_Gr_set_66 : decode prog_1_method_3_code 66 = .ok (.getfield 67, 3) := by decide +kernel
theorem d_Gr_set_69 : decode prog_1_method_3_code 69 = .ok (.iload_n 2, 1) := by decide +kernel
theorem d_Gr_set_70 : decode prog_1_method_3_code 70 = .ok (.iload_n 3, 1) := by decide +kernel
theorem d_Gr_set_71 : decode prog_1_method_3_code 71 = .ok (.aload_n 0, 1) := by decide +kernel
theorem d_Gr_set_72 : decode prog_1_method_3_code 72 = .ok (.getfield 11, 3) := by decide +kernel
theorem d_Gr_set_75 : decode prog_1_method_3_code 75 = .ok (.iload_n 1, 1) := by decide +kernel
theorem d_Gr_set_76 : decode prog_1_method_3_code 76 = .ok (.aaload, 1) := by decide +kernel
theorem d_Gr_set_77 : decode prog_1_method_3_code 77 = .ok (.getfield 67, 3) := by decide +kernel
theorem d_Gr_set_80 : decode prog_1_method_3_code 80 = .ok (.getfield 90, 3) := by decide +kernel
theorem d_Gr_set_83 : decode prog_1_method_3_code 83 = .ok (.iconst 1, 1) := by decide +kernel
theorem d_Gr_set_84 : decode prog_1_method_3_code 84 = .ok (.if_icmp .ne 10, 3) := by decide +kernel
theorem d_Gr_set_87 : decode prog_1_method_3_code 87 = .ok (.dload 4, 2) := by decide +kernel
theorem d_Gr_set_89 : decode prog_1_method_3_code 89 = .ok (.d2i, 1) := by decide +kernel
theorem d_Gr_set_90 : decode prog_1_method_3_code 90 = .ok (.i2d, 1) := by decide +kernel
theorem d_Gr_set_91 : decode prog_1_method_3_code 91 = .ok (.goto 5, 3) := by decide +kernel
theorem d_Gr_set_94 : decode prog_1_method_3_code 94 = .ok (.dload 4, 2) := by decide +kernel
theorem d_Gr_set_96 : decode prog_1_method_3_code 96 = .ok (.invokevirtual 97, 3) := by decide +kernel
theorem d_Gr_set_99 : decode prog_1_method_3_code 99 = .ok (.aload_n 0, 1) := by decide +kernel
theorem d_Gr_set_100 : decode prog_1_method_3_code 100 = .ok (.getfield 11, 3) := by decide +kernel
theorem d_Gr_set_103 : decode prog_1_method_3_code 103 = .ok (.iload_n 1, 1) := by decide +kernel
theorem d_Gr_set_104 : decode prog_1_method_3_code 104 = .ok (.aaload, 1) := by decide +kernel
theorem d_Gr_set_105 : decode prog_1_method_3_code 105 = .ok (.getfield 64, 3) := by decide +kernel
theorem d_Gr_set_108 : decode prog_1_method_3_code 108 = .ok (.iconst 2, 1) := by decide +kernel
theorem d_Gr_set_109 : decode prog_1_method_3_code 109 = .ok (.if_icmp .ne 10, 3) := by decide +kernel
theorem d_Gr_set_112 : decode prog_1_method_3_code 112 = .ok (.aload_n 0, 1) := by decide +kernel
theorem d_Gr_set_113 : decode prog_1_method_3_code 113 = .ok (.invokevirtual 77, 3) := by decide +kernel
theorem d_Gr_set_116 : decode prog_1_method_3_code 116 = .ok (.goto 7, 3) := by decide +kernel
theorem d_Gr_set_119 : decode prog_1_method_3_code 119 = .ok (.aload_n 0, 1) := by decide +kernel
theorem d_Gr_set_120 : decode prog_1_method_3_code 120 = .ok (.invokevirtual 101, 3) := by decide +kernel
theorem d_Gr_set_123 : decode prog_1_method_3_code 123 = .ok (.return_, 1) := by decide +kernel
theorem d_Gr_isFed_0 : decode prog_1_method_19_code 0 = .ok (.aload_n 0, 1) := by decide +kernel
theorem d_Gr_isFed_1 : decode prog_1_method_19_code 1 = .ok (.getfield 11, 3) := by decide +kernel
theorem d_Gr_isFed_4 : decode prog_1_method_19_code 4 = .ok (.iload_n 1, 1) := by decide +kernel
theorem d_Gr_isFed_5 : decode prog_1_method_19_code 5 = .ok (.aaload, 1) := by decide +kernel
theorem d_Gr_isFed_6 : decode prog_1_method_19_code 6 = .ok (.getfield 64, 3) := by decide +kernel
theorem d_Gr_isFed_9 : decode prog_1_method_19_code 9 = .ok (.iconst 1, 1) := by decide +kernel
theorem d_Gr_isFed_10 : decode prog_1_method_19_code 10 = .ok (.if_icmp .eq 16, 3) := by decide +kernel
theorem d_Gr_isFed_13 : decode prog_1_method_19_code 13 = .ok (.aload_n 0, 1) := by decide +kernel
theorem d_Gr_isFed_14 : decode prog_1_method_19_code 14 = .ok (.getfield 11, 3) := by decide +kernel
theorem d_Gr_isFed_17 : decode prog_1_method_19_code 17 = .ok (.iload_n 1, 1) := by decide +kernel
theorem d_Gr_isFed_18 : decode prog_1_method_19_code 18 = .ok (.aaload, 1) := by decide +kernel
theorem d_Gr_isFed_19 : decode prog_1_method_19_code 19 = .ok (.getfield 64, 3) := by decide +kernel
theorem d_Gr_isFed_22 : decode prog_1_method_19_code 22 = .ok (.iconst 2, 1) := by decide +kernel
theorem d_Gr_isFed_23 : decode prog_1_method_19_code 23 = .ok (.if_icmp .ne 7, 3) := by decide +kernel
theorem d_Gr_isFed_26 : decode prog_1_method_19_code 26 = .ok (.iconst 1, 1) := by decide +kernel
theorem d_Gr_isFed_27 : decode prog_1_method_19_code 27 = .ok (.goto 4, 3) := by decide +kernel
theorem d_Gr_isFed_30 : decode prog_1_method_19_code 30 = .ok (.iconst 0, 1) := by decide +kernel
theorem d_Gr_isFed_31 : decode prog_1_method_19_code 31 = .ok (.ireturn, 1) := by decide +kernel
theorem d_Gr_isSettable_0 : decode prog_1_method_16_code 0 = .ok (.dload_n 1, 1) := by decide +kernel
theorem d_Gr_isSettable_1 : decode prog_1_method_16_code 1 = .ok (.ldc2_w 180, 3) := by decide +kernel
theorem d_Gr_isSettable_4 : decode prog_1_method_16_code 4 = .ok (.dcmp .l, 1) := by decide +kernel
theorem d_Gr_isSettable_5 : decode prog_1_method_16_code 5 = .ok (.ifCond .lt 15, 3) := by decide +kernel
theorem d_Gr_isSettable_8 : decode prog_1_method_16_code 8 = .ok (.dload_n 1, 1) := by decide +kernel
theorem d_Gr_isSettable_9 : decode prog_1_method_16_code 9 = .ok (.ldc2_w 182, 3) := by decide +kernel
theorem d_Gr_isSettable_12 : decode prog_1_method_16_code 12 = .ok (.dcmp .g, 1) := by decide +kernel
theorem d_Gr_isSettable_13 : decode prog_1_method_16_code 13 = .ok (.ifCond .gt 7, 3) := by decide +kernel
theorem d_Gr_isSettable_16 : decode prog_1_method_16_code 16 = .ok (.iconst 1, 1) := by decide +kernel
theorem d_Gr_isSettable_17 : decode prog_1_method_16_code 17 = .ok (.goto 4, 3) := by decide +kernel
theorem d_Gr_isSettable_20 : decode prog_1_method_16_code 20 = .ok (.iconst 0, 1) := by decide +kernel
theorem d_Gr_isSettable_21 : decode prog_1_method_16_code 21 = .ok (.istore_n 3, 1) := by decide +kernel
theorem d_Gr_isSettable_22 : decode prog_1_method_16_code 22 = .ok (.iload_n 3, 1) := by decide +kernel
theorem d_Gr_isSettable_23 : decode prog_1_method_16_code 23 = .ok (.ifCond .eq 19, 3) := by decide +kernel
theorem d_Gr_isSettable_26 : decode prog_1_method_16_code 26 = .ok (.iload_n 0, 1) := by decide +kernel
theorem d_Gr_isSettable_27 : decode prog_1_method_16_code 27 = .ok (.ifCond .eq 11, 3) := by decide +kernel
theorem d_Gr_isSettable_30 : decode prog_1_method_16_code 30 = .ok (.dload_n 1, 1) := by decide +kernel
theorem d_Gr_isSettable_31 : decode prog_1_method_16_code 31 = .ok (.dload_n 1, 1) := by decide +kernel
theorem d_Gr_isSettable_32 : decode prog_1_method_16_code 32 = .ok (.d2i, 1) := by decide +kernel
theorem d_Gr_isSettable_33 : decode prog_1_method_16_code 33 = .ok (.i2d, 1) := by decide +kernel
theorem d_Gr_isSettable_34 : decode prog_1_method_16_code 34 = .ok (.dcmp .l, 1) := by decide +kernel
theorem d_Gr_isSettable_35 : decode prog_1_method_16_code 35 = .ok (.ifCond .ne 7, 3) := by decide +kernel
theorem d_Gr_isSettable_38 : decode prog_1_method_16_code 38 = .ok (.iconst 1, 1) := by decide +kernel
theorem d_Gr_isSettable_39 : decode prog_1_method_16_code 39 = .ok (.goto 4, 3) := by decide +kernel
theorem d_Gr_isSettable_42 : decode prog_1_method_16_code 42 = .ok (.iconst 0, 1) := by decide +kernel
theorem d_Gr_isSettable_43 : decode prog_1_method_16_code 43 = .ok (.ireturn, 1) := by decide +kernel
theorem d_Gr_node_0 : decode prog_1_method_4_code 0 = .ok (.iload_n 1, 1) := by decide +kernel
theorem d_Gr_node_1 : decode prog_1_method_4_code 1 = .ok (.ifCond .lt 49, 3) := by decide +kernel
theorem d_Gr_node_4 : decode prog_1_method_4_code 4 = .ok (.iload_n 1, 1) := by decide +kernel
theorem d_Gr_node_5 : decode prog_1_method_4_code 5 = .ok (.bipush 18, 2) := by decide +kernel
theorem d_Gr_node_7 : decode prog_1_method_4_code 7 = .ok (.if_icmp .gt 43, 3) := by decide +kernel
theorem d_Gr_node_10 : decode prog_1_method_4_code 10 = .ok (.getstatic 104, 3) := by decide +kernel
theorem d_Gr_node_13 : decode prog_1_method_4_code 13 = .ok (.iload_n 1, 1) := by decide +kernel
theorem d_Gr_node_14 : decode prog_1_method_4_code 14 = .ok (.iaload, 1) := by decide +kernel
theorem d_Gr_node_15 : decode prog_1_method_4_code 15 = .ok (.iload_n 2, 1) := by decide +kernel
theorem d_Gr_node_16 : decode prog_1_method_4_code 16 = .ok (.iload_n 3, 1) := by decide +kernel
theorem d_Gr_node_17 : decode prog_1_method_4_code 17 = .ok (.iload 4, 2) := by decide +kernel
theorem d_Gr_node_19 : decode prog_1_method_4_code 19 = .ok (.invokestatic 107, 3) := by decide +kernel
theorem d_Gr_node_22 : decode prog_1_method_4_code 22 = .ok (.ifCond .eq 28, 3) := by decide +kernel
theorem d_Gr_node_25 : decode prog_1_method_4_code 25 = .ok (.aload_n 0, 1) := by decide +kernel
theorem d_Gr_node_26 : decode prog_1_method_4_code 26 = .ok (.iload 5, 2) := by decide +kernel
theorem d_Gr_node_28 : decode prog_1_method_4_code 28 = .ok (.invokevirtual 51, 3) := by decide +kernel
theorem d_Gr_node_31 : decode prog_1_method_4_code 31 = .ok (.ifCond .eq 19, 3) := by decide +kernel
theorem d_Gr_node_34 : decode prog_1_method_4_code 34 = .ok (.iload 6, 2) := by decide +kernel
theorem d_Gr_node_36 : decode prog_1_method_4_code 36 = .ok (.invokestatic 111, 3) := by decide +kernel
theorem d_Gr_node_39 : decode prog_1_method_4_code 39 = .ok (.ifCond .eq 11, 3) := by decide +kernel
theorem d_Gr_node_42 : decode prog_1_method_4_code 42 = .ok (.iload 7, 2) := by decide +kernel
theorem d_Gr_node_44 : decode prog_1_method_4_code 44 = .ok (.invokestatic 111, 3) := by decide +kernel
theorem d_Gr_node_47 : decode prog_1_method_4_code 47 = .ok (.ifCond .ne 11, 3) := by decide +kernel
theorem d_Gr_node_50 : decode prog_1_method_4_code 50 = .ok (.new 61, 3) := by decide +kernel
theorem d_Gr_node_53 : decode prog_1_method_4_code 53 = .ok (.dup, 1) := by decide +kernel
theorem d_Gr_node_54 : decode prog_1_method_4_code 54 = .ok (.invokespecial 63, 3) := by decide +kernel
theorem d_Gr_node_57 : decode prog_1_method_4_code 57 = .ok (.athrow, 1) := by decide +kernel
theorem d_Gr_node_58 : decode prog_1_method_4_code 58 = .ok (.aload_n 0, 1) := by decide +kernel
theorem d_Gr_node_59 : decode prog_1_method_4_code 59 = .ok (.getfield 35, 3) := by decide +kernel
theorem d_Gr_node_62 : decode prog_1_method_4_code 62 = .ok (.bipush 14, 2) := by decide +kernel
theorem d_Gr_node_64 : decode prog_1_method_4_code 64 = .ok (.if_icmp .lt 11, 3) := by decide +kernel
theorem d_Gr_node_67 : decode prog_1_method_4_code 67 = .ok (.new 114, 3) := by decide +kernel
theorem d_Gr_node_70 : decode prog_1_method_4_code 70 = .ok (.dup, 1) := by decide +kernel
theorem d_Gr_node_71 : decode prog_1_method_4_code 71 = .ok (.invokespecial 116, 3) := by decide +kernel
theorem d_Gr_node_74 : decode prog_1_method_4_code 74 = .ok (.athrow, 1) := by decide +kernel
theorem d_Gr_node_75 : decode prog_1_method_4_code 75 = .ok (.aload_n 0, 1) := by decide +kernel
theorem d_Gr_node_76 : decode prog_1_method_4_code 76 = .ok (.getfield 17, 3) := by decide +kernel
theorem d_Gr_node_79 : decode prog_1_method_4_code 79 = .ok (.aload_n 0, 1) := by decide +kernel
theorem d_Gr_node_80 : decode prog_1_method_4_code 80 = .ok (.getfield 35, 3) := by decide +kernel
theorem d_Gr_node_83 : decode prog_1_method_4_code 83 = .ok (.aaload, 1) := by decide +kernel
theorem d_Gr_node_84 : decode prog_1_method_4_code 84 = .ok (.iload_n 1, 1) := by decide +kernel
theorem d_Gr_node_85 : decode prog_1_method_4_code 85 = .ok (.iload 5, 2) := by decide +kernel
theorem d_Gr_node_87 : decode prog_1_method_4_code 87 = .ok (.iload 6, 2) := by decide +kernel
theorem d_Gr_node_89 : decode prog_1_method_4_code 89 = .ok (.iload 7, 2) := by decide +kernel
theorem d_Gr_node_91 : decode prog_1_method_4_code 91 = .ok (.invokevirtual 117, 3) := by decide +kernel
theorem d_Gr_node_94 : decode prog_1_method_4_code 94 = .ok (.aload_n 0, 1) := by decide +kernel
theorem d_Gr_node_95 : decode prog_1_method_4_code 95 = .ok (.getfield 17, 3) := by decide +kernel
theorem d_Gr_node_98 : decode prog_1_method_4_code 98 = .ok (.aload_n 0, 1) := by decide +kernel
theorem d_Gr_node_99 : decode prog_1_method_4_code 99 = .ok (.getfield 35, 3) := by decide +kernel
theorem d_Gr_node_102 : decode prog_1_method_4_code 102 = .ok (.aaload, 1) := by decide +kernel
theorem d_Gr_node_103 : decode prog_1_method_4_code 103 = .ok (.iload_n 2, 1) := by decide +kernel
theorem d_Gr_node_104 : decode prog_1_method_4_code 104 = .ok (.iload_n 3, 1) := by decide +kernel
theorem d_Gr_node_105 : decode prog_1_method_4_code 105 = .ok (.iload 4, 2) := by decide +kernel
theorem d_Gr_node_107 : decode prog_1_method_4_code 107 = .ok (.invokevirtual 121, 3) := by decide +kernel
theorem d_Gr_node_110 : decode prog_1_method_4_code 110 = .ok (.aload_n 0, 1) := by decide +kernel
theorem d_Gr_node_111 : decode prog_1_method_4_code 111 = .ok (.getfield 11, 3) := by decide +kernel
theorem d_Gr_node_114 : decode prog_1_method_4_code 114 = .ok (.iload 5, 2) := by decide +kernel
theorem d_Gr_node_116 : decode prog_1_method_4_code 116 = .ok (.aaload, 1) := by decide +kernel
theorem d_Gr_node_117 : decode prog_1_method_4_code 117 = .ok (.iconst 3, 1) := by decide +kernel
theorem d_Gr_node_118 : decode prog_1_method_4_code 118 = .ok (.putfield 64, 3) := by decide +kernel
theorem d_Gr_node_121 : decode prog_1_method_4_code 121 = .ok (.aload_n 0, 1) := by decide +kernel
theorem d_Gr_node_122 : decode prog_1_method_4_code 122 = .ok (.getfield 11, 3) := by decide +kernel
theorem d_Gr_node_125 : decode prog_1_method_4_code 125 = .ok (.iload 5, 2) := by decide +kernel
theorem d_Gr_node_127 : decode prog_1_method_4_code 127 = .ok (.aaload, 1) := by decide +kernel
theorem d_Gr_node_128 : decode prog_1_method_4_code 128 = .ok (.aload_n 0, 1) := by decide +kernel
theorem d_Gr_node_129 : decode prog_1_method_4_code 129 = .ok (.getfield 35, 3) := by decide +kernel
theorem d_Gr_node_132 : decode prog_1_method_4_code 132 = .ok (.putfield 125, 3) := by decide +kernel
theorem d_Gr_node_135 : decode prog_1_method_4_code 135 = .ok (.aload_n 0, 1) := by decide +kernel
theorem d_Gr_node_136 : decode prog_1_method_4_code 136 = .ok (.dup, 1) := by decide +kernel
theorem d_Gr_node_137 : decode prog_1_method_4_code 137 = .ok (.getfield 35, 3) := by decide +kernel
theorem d_Gr_node_140 : decode prog_1_method_4_code 140 = .ok (.iconst 1, 1) := by decide +kernel
theorem d_Gr_node_141 : decode prog_1_method_4_code 141 = .ok (.iadd, 1) := by decide +kernel
theorem d_Gr_node_142 : decode prog_1_method_4_code 142 = .ok (.putfield 35, 3) := by decide +kernel
theorem d_Gr_node_145 : decode prog_1_method_4_code 145 = .ok (.aload_n 0, 1) := by decide +kernel
theorem d_Gr_node_146 : decode prog_1_method_4_code 146 = .ok (.invokevirtual 77, 3) := by decide +kernel
theorem d_Gr_node_149 : decode prog_1_method_4_code 149 = .ok (.aload_n 0, 1) := by decide +kernel
theorem d_Gr_node_150 : decode prog_1_method_4_code 150 = .ok (.getfield 35, 3) := by decide +kernel
theorem d_Gr_node_153 : decode prog_1_method_4_code 153 = .ok (.iconst 1, 1) := by decide +kernel
theorem d_Gr_node_154 : decode prog_1_method_4_code 154 = .ok (.isub, 1) := by decide +kernel
theorem d_Gr_node_155 : decode prog_1_method_4_code 155 = .ok (.ireturn, 1) := by decide +kernel
theorem d_Gr_areArguments_0 : decode prog_1_method_17_code 0 = .ok (.iload_n 1, 1) := by decide +kernel
theorem d_Gr_areArguments_1 : decode prog_1_method_17_code 1 = .ok (.invokestatic 80, 3) := by decide +kernel
theorem d_Gr_areArguments_4 : decode prog_1_method_17_code 4 = .ok (.ifCond .eq 47, 3) := by decide +kernel
theorem d_Gr_areArguments_7 : decode prog_1_method_17_code 7 = .ok (.iload_n 0, 1) := by decide +kernel
theorem d_Gr_areArguments_8 : decode prog_1_method_17_code 8 = .ok (.iconst 2, 1) := by decide +kernel
theorem d_Gr_areArguments_9 : decode prog_1_method_17_code 9 = .ok (.if_icmp .lt 13, 3) := by decide +kernel
theorem d_Gr_areArguments_12 : decode prog_1_method_17_code 12 = .ok (.iload_n 2, 1) := by decide +kernel
theorem d_Gr_areArguments_13 : decode prog_1_method_17_code 13 = .ok (.invokestatic 80, 3) := by decide +kernel
theorem d_Gr_areArguments_16 : decode prog_1_method_17_code 16 = .ok (.ifCond .eq 35, 3) := by decide +kernel
theorem d_Gr_areArguments_19 : decode prog_1_method_17_code 19 = .ok (.goto 8, 3) := by decide +kernel
theorem d_Gr_areArguments_22 : decode prog_1_method_17_code 22 = .ok (.iload_n 2, 1) := by decide +kernel
theorem d_Gr_areArguments_23 : decode prog_1_method_17_code 23 = .ok (.iconst (-1), 1) := by decide +kernel
theorem d_Gr_areArguments_24 : decode prog_1_method_17_code 24 = .ok (.if_icmp .ne 27, 3) := by decide +kernel
theorem d_Gr_areArguments_27 : decode prog_1_method_17_code 27 = .ok (.iload_n 0, 1) := by decide +kernel
theorem d_Gr_areArguments_28 : decode prog_1_method_17_code 28 = .ok (.iconst 3, 1) := by decide +kernel
theorem d_Gr_areArguments_29 : decode prog_1_method_17_code 29 = .ok (.if_icmp .lt 13, 3) := by decide +kernel
theorem d_Gr_areArguments_32 : decode prog_1_method_17_code 32 = .ok (.iload_n 3, 1) := by decide +kernel
theorem d_Gr_areArguments_33 : decode prog_1_method_17_code 33 = .ok (.invokestatic 80, 3) := by decide +kernel
theorem d_Gr_areArguments_36 : decode prog_1_method_17_code 36 = .ok (.ifCond .eq 15, 3) := by decide +kernel
theorem d_Gr_areArguments_39 : decode prog_1_method_17_code 39 = .ok (.goto 8, 3) := by decide +kernel
theorem d_Gr_areArguments_42 : decode prog_1_method_17_code 42 = .ok (.iload_n 3, 1) := by decide +kernel
theorem d_Gr_areArguments_43 : decode prog_1_method_17_code 43 = .ok (.iconst (-1), 1) := by decide +kernel
theorem d_Gr_areArguments_44 : decode prog_1_method_17_code 44 = .ok (.if_icmp .ne 7, 3) := by decide +kernel
theorem d_Gr_areArguments_47 : decode prog_1_method_17_code 47 = .ok (.iconst 1, 1) := by decide +kernel
theorem d_Gr_areArguments_48 : decode prog_1_method_17_code 48 = .ok (.goto 4, 3) := by decide +kernel
theorem d_Gr_areArguments_51 : decode prog_1_method_17_code 51 = .ok (.iconst 0, 1) := by decide +kernel
theorem d_Gr_areArguments_52 : decode prog_1_method_17_code 52 = .ok (.ireturn, 1) := by decide +kernel
theorem d_Gr_isNumber_0 : decode prog_1_method_15_code 0 = .ok (.iload_n 0, 1) := by decide +kernel
theorem d_Gr_isNumber_1 : decode prog_1_method_15_code 1 = .ok (.bipush (-8), 2) := by decide +kernel
theorem d_Gr_isNumber_3 : decode prog_1_method_15_code 3 = .ok (.if_icmp .lt 13, 3) := by decide +kernel
theorem d_Gr_isNumber_6 : decode prog_1_method_15_code 6 = .ok (.iload_n 0, 1) := by decide +kernel
theorem d_Gr_isNumber_7 : decode prog_1_method_15_code 7 = .ok (.bipush 8, 2) := by decide +kernel
theorem d_Gr_isNumber_9 : decode prog_1_method_15_code 9 = .ok (.if_icmp .gt 7, 3) := by decide +kernel
theorem d_Gr_isNumber_12 : decode prog_1_method_15_code 12 = .ok (.iconst 1, 1) := by decide +kernel
theorem d_Gr_isNumber_13 : decode prog_1_method_15_code 13 = .ok (.goto 4, 3) := by decide +kernel
theorem d_Gr_isNumber_16 : decode prog_1_method_15_code 16 = .ok (.iconst 0, 1) := by decide +kernel
theorem d_Gr_isNumber_17 : decode prog_1_method_15_code 17 = .ok (.ireturn, 1) := by decide +kernel
theorem d_Gr_undo_0 : decode prog_1_method_5_code 0 = .ok (.aload_n 0, 1) := by decide +kernel
theorem d_Gr_undo_1 : decode prog_1_method_5_code 1 = .ok (.getfield 35, 3) := by decide +kernel
theorem d_Gr_undo_4 : decode prog_1_method_5_code 4 = .ok (.ifCond .ne 11, 3) := by decide +kernel
theorem d_Gr_undo_7 : decode prog_1_method_5_code 7 = .ok (.new 128, 3) := by decide +kernel
theorem d_Gr_undo_10 : decode prog_1_method_5_code 10 = .ok (.dup, 1) := by decide +kernel
theorem d_Gr_undo_11 : decode prog_1_method_5_code 11 = .ok (.invokespecial 130, 3) := by decide +kernel
theorem d_Gr_undo_14 : decode prog_1_method_5_code 14 = .ok (.athrow, 1) := by decide +kernel
theorem d_Gr_undo_15 : decode prog_1_method_5_code 15 = .ok (.aload_n 0, 1) := by decide +kernel
theorem d_Gr_undo_16 : decode prog_1_method_5_code 16 = .ok (.invokevirtual 77, 3) := by decide +kernel
theorem d_Gr_undo_19 : decode prog_1_method_5_code 19 = .ok (.aload_n 0, 1) := by decide +kernel
theorem d_Gr_undo_20 : decode prog_1_method_5_code 20 = .ok (.dup, 1) := by decide +kernel
theorem d_Gr_undo_21 : decode prog_1_method_5_code 21 = .ok (.getfield 35, 3) := by decide +kernel
theorem d_Gr_undo_24 : decode prog_1_method_5_code 24 = .ok (.iconst 1, 1) := by decide +kernel
theorem d_Gr_undo_25 : decode prog_1_method_5_code 25 = .ok (.isub, 1) := by decide +kernel
theorem d_Gr_undo_26 : decode prog_1_method_5_code 26 = .ok (.putfield 35, 3) := by decide +kernel
theorem d_Gr_undo_29 : decode prog_1_method_5_code 29 = .ok (.aload_n 0, 1) := by decide +kernel
theorem d_Gr_undo_30 : decode prog_1_method_5_code 30 = .ok (.getfield 11, 3) := by decide +kernel
theorem d_Gr_undo_33 : decode prog_1_method_5_code 33 = .ok (.aload_n 0, 1) := by decide +kernel
theorem d_Gr_undo_34 : decode prog_1_method_5_code 34 = .ok (.getfield 17, 3) := by decide +kernel
theorem d_Gr_undo_37 : decode prog_1_method_5_code 37 = .ok (.aload_n 0, 1) := by decide +kernel
theorem d_Gr_undo_38 : decode prog_1_method_5_code 38 = .ok (.getfield 35, 3) := by decide +kernel
theorem d_Gr_undo_41 : decode prog_1_method_5_code 41 = .ok (.aaload, 1) := by decide +kernel
theorem d_Gr_undo_42 : decode prog_1_method_5_code 42 = .ok (.getfield 131, 3) := by decide +kernel
theorem d_Gr_undo_45 : decode prog_1_method_5_code 45 = .ok (.aaload, 1) := by decide +kernel
theorem d_Gr_undo_46 : decode prog_1_method_5_code 46 = .ok (.iconst 0, 1) := by decide +kernel
theorem d_Gr_undo_47 : decode prog_1_method_5_code 47 = .ok (.putfield 64, 3) := by decide +kernel
theorem d_Gr_undo_50 : decode prog_1_method_5_code 50 = .ok (.return_, 1) := by decide +kernel
theorem d_Gr_prepare_0 : decode prog_1_method_6_code 0 = .ok (.aload_n 0, 1) := by decide +kernel
theorem d_Gr_prepare_1 : decode prog_1_method_6_code 1 = .ok (.getfield 39, 3) := by decide +kernel
theorem d_Gr_prepare_4 : decode prog_1_method_6_code 4 = .ok (.ifCond .ne 42, 3) := by decide +kernel
theorem d_Gr_prepare_7 : decode prog_1_method_6_code 7 = .ok (.aload_n 0, 1) := by decide +kernel
theorem d_Gr_prepare_8 : decode prog_1_method_6_code 8 = .ok (.invokevirtual 134, 3) := by decide +kernel
theorem d_Gr_prepare_11 : decode prog_1_method_6_code 11 = .ok (.ifCond .ne 11, 3) := by decide +kernel
theorem d_Gr_prepare_14 : decode prog_1_method_6_code 14 = .ok (.new 128, 3) := by decide +kernel
theorem d_Gr_prepare_17 : decode prog_1_method_6_code 17 = .ok (.dup, 1) := by decide +kernel
theorem d_Gr_prepare_18 : decode prog_1_method_6_code 18 = .ok (.invokespecial 130, 3) := by decide +kernel
theorem d_Gr_prepare_21 : decode prog_1_method_6_code 21 = .ok (.athrow, 1) := by decide +kernel
theorem d_Gr_prepare_22 : decode prog_1_method_6_code 22 = .ok (.aload_n 0, 1) := by decide +kernel
theorem d_Gr_prepare_23 : decode prog_1_method_6_code 23 = .ok (.invokevirtual 138, 3) := by decide +kernel
theorem d_Gr_prepare_26 : decode prog_1_method_6_code 26 = .ok (.ifCond .ne 11, 3) := by decide +kernel
theorem d_Gr_prepare_29 : decode prog_1_method_6_code 29 = .ok (.new 141, 3) := by decide +kernel
theorem d_Gr_prepare_32 : decode prog_1_method_6_code 32 = .ok (.dup, 1) := by decide +kernel
theorem d_Gr_prepare_33 : decode prog_1_method_6_code 33 = .ok (.invokespecial 143, 3) := by decide +kernel
theorem d_Gr_prepare_36 : decode prog_1_method_6_code 36 = .ok (.athrow, 1) := by decide +kernel
theorem d_Gr_prepare_37 : decode prog_1_method_6_code 37 = .ok (.aload_n 0, 1) := by decide +kernel
theorem d_Gr_prepare_38 : decode prog_1_method_6_code 38 = .ok (.invokevirtual 144, 3) := by decide +kernel
theorem d_Gr_prepare_41 : decode prog_1_method_6_code 41 = .ok (.aload_n 0, 1) := by decide +kernel
theorem d_Gr_prepare_42 : decode prog_1_method_6_code 42 = .ok (.iconst 1, 1) := by decide +kernel
theorem d_Gr_prepare_43 : decode prog_1_method_6_code 43 = .ok (.putfield 39, 3) := by decide +kernel
theorem d_Gr_prepare_46 : decode prog_1_method_6_code 46 = .ok (.aload_n 0, 1) := by decide +kernel
theorem d_Gr_prepare_47 : decode prog_1_method_6_code 47 = .ok (.invokevirtual 147, 3) := by decide +kernel
theorem d_Gr_prepare_50 : decode prog_1_method_6_code 50 = .ok (.ireturn, 1) := by decide +kernel
theorem d_Gr_orderNodes_0 : decode prog_1_method_27_code 0 = .ok (.iconst 0, 1) := by decide +kernel
theorem d_Gr_orderNodes_1 : decode prog_1_method_27_code 1 = .ok (.istore_n 1, 1) := by decide +kernel
theorem d_Gr_orderNodes_2 : decode prog_1_method_27_code 2 = .ok (.iload_n 1, 1) := by decide +kernel
theorem d_Gr_orderNodes_3 : decode prog_1_method_27_code 3 = .ok (.aload_n 0, 1) := by decide +kernel
theorem d_Gr_orderNodes_4 : decode prog_1_method_27_code 4 = .ok (.getfield 35, 3) := by decide +kernel
theorem d_Gr_orderNodes_7 : decode prog_1_method_27_code 7 = .ok (.if_icmp .ge 19, 3) := by decide +kernel
theorem d_Gr_orderNodes_10 : decode prog_1_method_27_code 10 = .ok (.aload_n 0, 1) := by decide +kernel
theorem d_Gr_orderNodes_11 : decode prog_1_method_27_code 11 = .ok (.getfield 17, 3) := by decide +kernel
theorem d_Gr_orderNodes_14 : decode prog_1_method_27_code 14 = .ok (.iload_n 1, 1) := by decide +kernel
theorem d_Gr_orderNodes_15 : decode prog_1_method_27_code 15 = .ok (.aaload, 1) := by decide +kernel
theorem d_Gr_orderNodes_16 : decode prog_1_method_27_code 16 = .ok (.iconst 0, 1) := by decide +kernel
theorem d_Gr_orderNodes_17 : decode prog_1_method_27_code 17 = .ok (.putfield 184, 3) := by decide +kernel
theorem d_Gr_orderNodes_20 : decode prog_1_method_27_code 20 = .ok (.iinc 1 1, 3) := by decide +kernel
theorem d_Gr_orderNodes_23 : decode prog_1_method_27_code 23 = .ok (.goto (-21), 3) := by decide +kernel
theorem d_Gr_orderNodes_26 : decode prog_1_method_27_code 26 = .ok (.iconst 0, 1) := by decide +kernel
theorem d_Gr_orderNodes_27 : decode prog_1_method_27_code 27 = .ok (.istore_n 1, 1) := by decide +kernel
theorem d_Gr_orderNodes_28 : decode prog_1_method_27_code 28 = .ok (.iload_n 1, 1) := by decide +kernel
theorem d_Gr_orderNodes_29 : decode prog_1_method_27_code 29 = .ok (.aload_n 0, 1) := by decide +kernel
theorem d_Gr_orderNodes_30 : decode prog_1_method_27_code 30 = .ok (.getfield 35, 3) := by decide +kernel
theorem d_Gr_orderNodes_33 : decode prog_1_method_27_code 33 = .ok (.if_icmp .ge 38, 3) := by decide +kernel
theorem d_Gr_orderNodes_36 : decode prog_1_method_27_code 36 = .ok (.aload_n 0, 1) := by decide +kernel
theorem d_Gr_orderNodes_37 : decode prog_1_method_27_code 37 = .ok (.invokevirtual 196, 3) := by decide +kernel
theorem d_Gr_orderNodes_40 : decode prog_1_method_27_code 40 = .ok (.istore_n 2, 1) := by decide +kernel
theorem d_Gr_orderNodes_41 : decode prog_1_method_27_code 41 = .ok (.iload_n 2, 1) := by decide +kernel
theorem d_Gr_orderNodes_42 : decode prog_1_method_27_code 42 = .ok (.iconst (-1), 1) := by decide +kernel
theorem d_Gr_orderNodes_43 : decode prog_1_method_27_code 43 = .ok (.if_icmp .ne 5, 3) := by decide +kernel
theorem d_Gr_orderNodes_46 : decode prog_1_method_27_code 46 = .ok (.iconst 0, 1) := by decide +kernel
theorem d_Gr_orderNodes_47 : decode prog_1_method_27_code 47 = .ok (.ireturn, 1) := by decide +kernel
theorem d_Gr_orderNodes_48 : decode prog_1_method_27_code 48 = .ok (.aload_n 0, 1) := by decide +kernel
theorem d_Gr_orderNodes_49 : decode prog_1_method_27_code 49 = .ok (.getfield 21, 3) := by decide +kernel
theorem d_Gr_orderNodes_52 : decode prog_1_method_27_code 52 = .ok (.iload_n 1, 1) := by decide +kernel
theorem d_Gr_orderNodes_53 : decode prog_1_method_27_code 53 = .ok (.iload_n 2, 1) := by decide +kernel
theorem d_Gr_orderNodes_54 : decode prog_1_method_27_code 54 = .ok (.iastore, 1) := by decide +kernel
theorem d_Gr_orderNodes_55 : decode prog_1_method_27_code 55 = .ok (.aload_n 0, 1) := by decide +kernel
theorem d_Gr_orderNodes_56 : decode prog_1_method_27_code 56 = .ok (.getfield 17, 3) := by decide +kernel
theorem d_Gr_orderNodes_59 : decode prog_1_method_27_code 59 = .ok (.iload_n 2, 1) := by decide +kernel
theorem d_Gr_orderNodes_60 : decode prog_1_method_27_code 60 = .ok (.aaload, 1) := by decide +kernel
theorem d_Gr_orderNodes_61 : decode prog_1_method_27_code 61 = .ok (.iconst 1, 1) := by decide +kernel
theorem d_Gr_orderNodes_62 : decode prog_1_method_27_code 62 = .ok (.putfield 184, 3) := by decide +kernel
theorem d_Gr_orderNodes_65 : decode prog_1_method_27_code 65 = .ok (.iinc 1 1, 3) := by decide +kernel
theorem d_Gr_orderNodes_68 : decode prog_1_method_27_code 68 = .ok (.goto (-40), 3) := by decide +kernel
theorem d_Gr_orderNodes_71 : decode prog_1_method_27_code 71 = .ok (.iconst 1, 1) := by decide +kernel
theorem d_Gr_orderNodes_72 : decode prog_1_method_27_code 72 = .ok (.ireturn, 1) := by decide +kernel
theorem d_Gr_leastToOrder_0 : decode prog_1_method_28_code 0 = .ok (.iconst 0, 1) := by decide +kernel
theorem d_Gr_leastToOrder_1 : decode prog_1_method_28_code 1 = .ok (.istore_n 1, 1) := by decide +kernel
theorem d_Gr_leastToOrder_2 : decode prog_1_method_28_code 2 = .ok (.iload_n 1, 1) := by decide +kernel
theorem d_Gr_leastToOrder_3 : decode prog_1_method_28_code 3 = .ok (.aload_n 0, 1) := by decide +kernel
theorem d_Gr_leastToOrder_4 : decode prog_1_method_28_code 4 = .ok (.getfield 35, 3) := by decide +kernel
theorem d_Gr_leastToOrder_7 : decode prog_1_method_28_code 7 = .ok (.if_icmp .ge 36, 3) := by decide +kernel
theorem d_Gr_leastToOrder_10 : decode prog_1_method_28_code 10 = .ok (.aload_n 0, 1) := by decide +kernel
theorem d_Gr_leastToOrder_11 : decode prog_1_method_28_code 11 = .ok (.getfield 17, 3) := by decide +kernel
theorem d_Gr_leastToOrder_14 : decode prog_1_method_28_code 14 = .ok (.iload_n 1, 1) := by decide +kernel
theorem d_Gr_leastToOrder_15 : decode prog_1_method_28_code 15 = .ok (.aaload, 1) := by decide +kernel
theorem d_Gr_leastToOrder_16 : decode prog_1_method_28_code 16 = .ok (.getfield 184, 3) := by decide +kernel
theorem d_Gr_leastToOrder_19 : decode prog_1_method_28_code 19 = .ok (.ifCond .ne 18, 3) := by decide +kernel
theorem d_Gr_leastToOrder_22 : decode prog_1_method_28_code 22 = .ok (.aload_n 0, 1) := by decide +kernel
theorem d_Gr_leastToOrder_23 : decode prog_1_method_28_code 23 = .ok (.aload_n 0, 1) := by decide +kernel
theorem d_Gr_leastToOrder_24 : decode prog_1_method_28_code 24 = .ok (.getfield 17, 3) := by decide +kernel
theorem d_Gr_leastToOrder_27 : decode prog_1_method_28_code 27 = .ok (.iload_n 1, 1) := by decide +kernel
theorem d_Gr_leastToOrder_28 : decode prog_1_method_28_code 28 = .ok (.aaload, 1) := by decide +kernel
theorem d_Gr_leastToOrder_29 : decode prog_1_method_28_code 29 = .ok (.invokevirtual 199, 3) := by decide +kernel
theorem d_Gr_leastToOrder_32 : decode prog_1_method_28_code 32 = .ok (.ifCond .eq 5, 3) := by decide +kernel
theorem d_Gr_leastToOrder_35 : decode prog_1_method_28_code 35 = .ok (.iload_n 1, 1) := by decide +kernel
theorem d_Gr_leastToOrder_36 : decode prog_1_method_28_code 36 = .ok (.ireturn, 1) := by decide +kernel
theorem d_Gr_leastToOrder_37 : decode prog_1_method_28_code 37 = .ok (.iinc 1 1, 3) := by decide +kernel
theorem d_Gr_leastToOrder_40 : decode prog_1_method_28_code 40 = .ok (.goto (-38), 3) := by decide +kernel
theorem d_Gr_leastToOrder_43 : decode prog_1_method_28_code 43 = .ok (.iconst (-1), 1) := by decide +kernel
theorem d_Gr_leastToOrder_44 : decode prog_1_method_28_code 44 = .ok (.ireturn, 1) := by decide +kernel
theorem d_Gr_argumentsAreOrdered_0 : decode prog_1_method_29_code 0 = .ok (.iconst 0, 1) := by decide +kernel
theorem d_Gr_argumentsAreOrdered_1 : decode prog_1_method_29_code 1 = .ok (.istore_n 2, 1) := by decide +kernel
theorem d_Gr_argumentsAreOrdered_2 : decode prog_1_method_29_code 2 = .ok (.iload_n 2, 1) := by decide +kernel
theorem d_Gr_argumentsAreOrdered_3 : decode prog_1_method_29_code 3 = .ok (.aload_n 1, 1) := by decide +kernel
theorem d_Gr_argumentsAreOrdered_4 : decode prog_1_method_29_code 4 = .ok (.getfield 203, 3) := by decide +kernel
theorem d_Gr_argumentsAreOrdered_7 : decode prog_1_method_29_code 7 = .ok (.if_icmp .ge 24, 3) := by decide +kernel
theorem d_Gr_argumentsAreOrdered_10 : decode prog_1_method_29_code 10 = .ok (.aload_n 0, 1) := by decide +kernel
theorem d_Gr_argumentsAreOrdered_11 : decode prog_1_method_29_code 11 = .ok (.aload_n 1, 1) := by decide +kernel
theorem d_Gr_argumentsAreOrdered_12 : decode prog_1_method_29_code 12 = .ok (.getfield 206, 3) := by decide +kernel
theorem d_Gr_argumentsAreOrdered_15 : decode prog_1_method_29_code 15 = .ok (.iload_n 2, 1) := by decide +kernel
theorem d_Gr_argumentsAreOrdered_16 : decode prog_1_method_29_code 16 = .ok (.iaload, 1) := by decide +kernel
theorem d_Gr_argumentsAreOrdered_17 : decode prog_1_method_29_code 17 = .ok (.invokevirtual 209, 3) := by decide +kernel
theorem d_Gr_argumentsAreOrdered_20 : decode prog_1_method_29_code 20 = .ok (.ifCond .ne 5, 3) := by decide +kernel
theorem d_Gr_argumentsAreOrdered_23 : decode prog_1_method_29_code 23 = .ok (.iconst 0, 1) := by decide +kernel
theorem d_Gr_argumentsAreOrdered_24 : decode prog_1_method_29_code 24 = .ok (.ireturn, 1) := by decide +kernel
theorem d_Gr_argumentsAreOrdered_25 : decode prog_1_method_29_code 25 = .ok (.iinc 2 1, 3) := by decide +kernel
theorem d_Gr_argumentsAreOrdered_28 : decode prog_1_method_29_code 28 = .ok (.goto (-26), 3) := by decide +kernel
theorem d_Gr_argumentsAreOrdered_31 : decode prog_1_method_29_code 31 = .ok (.iconst 1, 1) := by decide +kernel
theorem d_Gr_argumentsAreOrdered_32 : decode prog_1_method_29_code 32 = .ok (.ireturn, 1) := by decide +kernel
theorem d_Gr_isOrdered_0 : decode prog_1_method_20_code 0 = .ok (.aload_n 0, 1) := by decide +kernel
theorem d_Gr_isOrdered_1 : decode prog_1_method_20_code 1 = .ok (.iload_n 1, 1) := by decide +kernel
theorem d_Gr_isOrdered_2 : decode prog_1_method_20_code 2 = .ok (.invokevirtual 83, 3) := by decide +kernel
theorem d_Gr_isOrdered_5 : decode prog_1_method_20_code 5 = .ok (.ifCond .ne 36, 3) := by decide +kernel
theorem d_Gr_isOrdered_8 : decode prog_1_method_20_code 8 = .ok (.aload_n 0, 1) := by decide +kernel
theorem d_Gr_isOrdered_9 : decode prog_1_method_20_code 9 = .ok (.getfield 11, 3) := by decide +kernel
theorem d_Gr_isOrdered_12 : decode prog_1_method_20_code 12 = .ok (.iload_n 1, 1) := by decide +kernel
theorem d_Gr_isOrdered_13 : decode prog_1_method_20_code 13 = .ok (.aaload, 1) := by decide +kernel
theorem d_Gr_isOrdered_14 : decode prog_1_method_20_code 14 = .ok (.getfield 64, 3) := by decide +kernel
theorem d_Gr_isOrdered_17 : decode prog_1_method_20_code 17 = .ok (.iconst 3, 1) := by decide +kernel
theorem d_Gr_isOrdered_18 : decode prog_1_method_20_code 18 = .ok (.if_icmp .ne 27, 3) := by decide +kernel
theorem d_Gr_isOrdered_21 : decode prog_1_method_20_code 21 = .ok (.aload_n 0, 1) := by decide +kernel
theorem d_Gr_isOrdered_22 : decode prog_1_method_20_code 22 = .ok (.getfield 17, 3) := by decide +kernel
theorem d_Gr_isOrdered_25 : decode prog_1_method_20_code 25 = .ok (.aload_n 0, 1) := by decide +kernel
theorem d_Gr_isOrdered_26 : decode prog_1_method_20_code 26 = .ok (.getfield 11, 3) := by decide +kernel
theorem d_Gr_isOrdered_29 : decode prog_1_method_20_code 29 = .ok (.iload_n 1, 1) := by decide +kernel
theorem d_Gr_isOrdered_30 : decode prog_1_method_20_code 30 = .ok (.aaload, 1) := by decide +kernel
theorem d_Gr_isOrdered_31 : decode prog_1_method_20_code 31 = .ok (.getfield 125, 3) := by decide +kernel
theorem d_Gr_isOrdered_34 : decode prog_1_method_20_code 34 = .ok (.aaload, 1) := by decide +kernel
theorem d_Gr_isOrdered_35 : decode prog_1_method_20_code 35 = .ok (.getfield 184, 3) := by decide +kernel
theorem d_Gr_isOrdered_38 : decode prog_1_method_20_code 38 = .ok (.ifCond .eq 7, 3) := by decide +kernel
theorem d_Gr_isOrdered_41 : decode prog_1_method_20_code 41 = .ok (.iconst 1, 1) := by decide +kernel
theorem d_Gr_isOrdered_42 : decode prog_1_method_20_code 42 = .ok (.goto 4, 3) := by decide +kernel
theorem d_Gr_isOrdered_45 : decode prog_1_method_20_code 45 = .ok (.iconst 0, 1) := by decide +kernel
theorem d_Gr_isOrdered_46 : decode prog_1_method_20_code 46 = .ok (.ireturn, 1) := by decide +kernel
theorem d_Gr_findShapes_0 : decode prog_1_method_30_code 0 = .ok (.iconst 0, 1) := by decide +kernel
theorem d_Gr_findShapes_1 : decode prog_1_method_30_code 1 = .ok (.istore_n 1, 1) := by decide +kernel
theorem d_Gr_findShapes_2 : decode prog_1_method_30_code 2 = .ok (.iload_n 1, 1) := by decide +kernel
theorem d_Gr_findShapes_3 : decode prog_1_method_30_code 3 = .ok (.aload_n 0, 1) := by decide +kernel
theorem d_Gr_findShapes_4 : decode prog_1_method_30_code 4 = .ok (.getfield 35, 3) := by decide +kernel
theorem d_Gr_findShapes_7 : decode prog_1_method_30_code 7 = .ok (.if_icmp .ge 62, 3) := by decide +kernel
theorem d_Gr_findShapes_10 : decode prog_1_method_30_code 10 = .ok (.aload_n 0, 1) := by decide +kernel
theorem d_Gr_findShapes_11 : decode prog_1_method_30_code 11 = .ok (.getfield 17, 3) := by decide +kernel
theorem d_Gr_findShapes_14 : decode prog_1_method_30_code 14 = .ok (.aload_n 0, 1) := by decide +kernel
theorem d_Gr_findShapes_15 : decode prog_1_method_30_code 15 = .ok (.getfield 21, 3) := by decide +kernel
theorem d_Gr_findShapes_18 : decode prog_1_method_30_code 18 = .ok (.iload_n 1, 1) := by decide +kernel
theorem d_Gr_findShapes_19 : decode prog_1_method_30_code 19 = .ok (.iaload, 1) := by decide +kernel
theorem d_Gr_findShapes_20 : decode prog_1_method_30_code 20 = .ok (.aaload, 1) := by decide +kernel
theorem d_Gr_findShapes_21 : decode prog_1_method_30_code 21 = .ok (.astore_n 2, 1) := by decide +kernel
theorem d_Gr_findShapes_22 : decode prog_1_method_30_code 22 = .ok (.aload_n 0, 1) := by decide +kernel
theorem d_Gr_findShapes_23 : decode prog_1_method_30_code 23 = .ok (.getfield 11, 3) := by decide +kernel
theorem d_Gr_findShapes_26 : decode prog_1_method_30_code 26 = .ok (.aload_n 2, 1) := by decide +kernel
theorem d_Gr_findShapes_27 : decode prog_1_method_30_code 27 = .ok (.getfield 131, 3) := by decide +kernel
theorem d_Gr_findShapes_30 : decode prog_1_method_30_code 30 = .ok (.aaload, 1) := by decide +kernel
theorem d_Gr_findShapes_31 : decode prog_1_method_30_code 31 = .ok (.getfield 67, 3) := by decide +kernel
theorem d_Gr_findShapes_34 : decode prog_1_method_30_code 34 = .ok (.astore_n 3, 1) := by decide +kernel
theorem d_Gr_findShapes_35 : decode prog_1_method_30_code 35 = .ok (.aload_n 2, 1) := by decide +kernel
theorem d_Gr_findShapes_36 : decode prog_1_method_30_code 36 = .ok (.aload_n 0, 1) := by decide +kernel
theorem d_Gr_findShapes_37 : decode prog_1_method_30_code 37 = .ok (.aload_n 2, 1) := by decide +kernel
theorem d_Gr_findShapes_38 : decode prog_1_method_30_code 38 = .ok (.iconst 0, 1) := by decide +kernel
theorem d_Gr_findShapes_39 : decode prog_1_method_30_code 39 = .ok (.invokevirtual 212, 3) := by decide +kernel
theorem d_Gr_findShapes_42 : decode prog_1_method_30_code 42 = .ok (.aload_n 0, 1) := by decide +kernel
theorem d_Gr_findShapes_43 : decode prog_1_method_30_code 43 = .ok (.aload_n 2, 1) := by decide +kernel
theorem d_Gr_findShapes_44 : decode prog_1_method_30_code 44 = .ok (.iconst 1, 1) := by decide +kernel
theorem d_Gr_findShapes_45 : decode prog_1_method_30_code 45 = .ok (.invokevirtual 212, 3) := by decide +kernel
theorem d_Gr_findShapes_48 : decode prog_1_method_30_code 48 = .ok (.aload_n 0, 1) := by decide +kernel
theorem d_Gr_findShapes_49 : decode prog_1_method_30_code 49 = .ok (.aload_n 2, 1) := by decide +kernel
theorem d_Gr_findShapes_50 : decode prog_1_method_30_code 50 = .ok (.iconst 2, 1) := by decide +kernel
theorem d_Gr_findShapes_51 : decode prog_1_method_30_code 51 = .ok (.invokevirtual 212, 3) := by decide +kernel
theorem d_Gr_findShapes_54 : decode prog_1_method_30_code 54 = .ok (.aload_n 3, 1) := by decide +kernel
theorem d_Gr_findShapes_55 : decode prog_1_method_30_code 55 = .ok (.invokestatic 216, 3) := by decide +kernel
theorem d_Gr_findShapes_58 : decode prog_1_method_30_code 58 = .ok (.ifCond .ne 5, 3) := by decide +kernel
theorem d_Gr_findShapes_61 : decode prog_1_method_30_code 61 = .ok (.iconst 0, 1) := by decide +kernel
theorem d_Gr_findShapes_62 : decode prog_1_method_30_code 62 = .ok (.ireturn, 1) := by decide +kernel
theorem d_Gr_findShapes_63 : decode prog_1_method_30_code 63 = .ok (.iinc 1 1, 3) := by decide +kernel
theorem d_Gr_findShapes_66 : decode prog_1_method_30_code 66 = .ok (.goto (-64), 3) := by decide +kernel
theorem d_Gr_findShapes_69 : decode prog_1_method_30_code 69 = .ok (.iconst 1, 1) := by decide +kernel
theorem d_Gr_findShapes_70 : decode prog_1_method_30_code 70 = .ok (.ireturn, 1) := by decide +kernel
theorem d_Gr_argument_0 : decode prog_1_method_33_code 0 = .ok (.iload_n 2, 1) := by decide +kernel
theorem d_Gr_argument_1 : decode prog_1_method_33_code 1 = .ok (.aload_n 1, 1) := by decide +kernel
theorem d_Gr_argument_2 : decode prog_1_method_33_code 2 = .ok (.getfield 203, 3) := by decide +kernel
theorem d_Gr_argument_5 : decode prog_1_method_33_code 5 = .ok (.if_icmp .ge 20, 3) := by decide +kernel
theorem d_Gr_argument_8 : decode prog_1_method_33_code 8 = .ok (.aload_n 0, 1) := by decide +kernel
theorem d_Gr_argument_9 : decode prog_1_method_33_code 9 = .ok (.getfield 11, 3) := by decide +kernel
theorem d_Gr_argument_12 : decode prog_1_method_33_code 12 = .ok (.aload_n 1, 1) := by decide +kernel
theorem d_Gr_argument_13 : decode prog_1_method_33_code 13 = .ok (.getfield 206, 3) := by decide +kernel
theorem d_Gr_argument_16 : decode prog_1_method_33_code 16 = .ok (.iload_n 2, 1) := by decide +kernel
theorem d_Gr_argument_17 : decode prog_1_method_33_code 17 = .ok (.iaload, 1) := by decide +kernel
theorem d_Gr_argument_18 : decode prog_1_method_33_code 18 = .ok (.aaload, 1) := by decide +kernel
theorem d_Gr_argument_19 : decode prog_1_method_33_code 19 = .ok (.getfield 67, 3) := by decide +kernel
theorem d_Gr_argument_22 : decode prog_1_method_33_code 22 = .ok (.goto 7, 3) := by decide +kernel
theorem d_Gr_argument_25 : decode prog_1_method_33_code 25 = .ok (.aload_n 0, 1) := by decide +kernel
theorem d_Gr_argument_26 : decode prog_1_method_33_code 26 = .ok (.getfield 31, 3) := by decide +kernel
theorem d_Gr_argument_29 : decode prog_1_method_33_code 29 = .ok (.areturn, 1) := by decide +kernel
theorem d_Gr_foldNodes_0 : decode prog_1_method_31_code 0 = .ok (.iconst 0, 1) := by decide +kernel
theorem d_Gr_foldNodes_1 : decode prog_1_method_31_code 1 = .ok (.istore_n 1, 1) := by decide +kernel
theorem d_Gr_foldNodes_2 : decode prog_1_method_31_code 2 = .ok (.iload_n 1, 1) := by decide +kernel
theorem d_Gr_foldNodes_3 : decode prog_1_method_31_code 3 = .ok (.aload_n 0, 1) := by decide +kernel
theorem d_Gr_foldNodes_4 : decode prog_1_method_31_code 4 = .ok (.getfield 35, 3) := by decide +kernel
theorem d_Gr_foldNodes_7 : decode prog_1_method_31_code 7 = .ok (.if_icmp .ge 46, 3) := by decide +kernel
theorem d_Gr_foldNodes_10 : decode prog_1_method_31_code 10 = .ok (.aload_n 0, 1) := by decide +kernel
theorem d_Gr_foldNodes_11 : decode prog_1_method_31_code 11 = .ok (.getfield 17, 3) := by decide +kernel
theorem d_Gr_foldNodes_14 : decode prog_1_method_31_code 14 = .ok (.aload_n 0, 1) := by decide +kernel
theorem d_Gr_foldNodes_15 : decode prog_1_method_31_code 15 = .ok (.getfield 21, 3) := by decide +kernel
theorem d_Gr_foldNodes_18 : decode prog_1_method_31_code 18 = .ok (.iload_n 1, 1) := by decide +kernel
theorem d_Gr_foldNodes_19 : decode prog_1_method_31_code 19 = .ok (.iaload, 1) := by decide +kernel
theorem d_Gr_foldNodes_20 : decode prog_1_method_31_code 20 = .ok (.aaload, 1) := by decide +kernel
theorem d_Gr_foldNodes_21 : decode prog_1_method_31_code 21 = .ok (.astore_n 2, 1) := by decide +kernel
theorem d_Gr_foldNodes_22 : decode prog_1_method_31_code 22 = .ok (.aload_n 2, 1) := by decide +kernel
theorem d_Gr_foldNodes_23 : decode prog_1_method_31_code 23 = .ok (.aload_n 0, 1) := by decide +kernel
theorem d_Gr_foldNodes_24 : decode prog_1_method_31_code 24 = .ok (.aload_n 2, 1) := by decide +kernel
theorem d_Gr_foldNodes_25 : decode prog_1_method_31_code 25 = .ok (.invokevirtual 222, 3) := by decide +kernel
theorem d_Gr_foldNodes_28 : decode prog_1_method_31_code 28 = .ok (.ifCond .eq 15, 3) := by decide +kernel
theorem d_Gr_foldNodes_31 : decode prog_1_method_31_code 31 = .ok (.aload_n 0, 1) := by decide +kernel
theorem d_Gr_foldNodes_32 : decode prog_1_method_31_code 32 = .ok (.aload_n 2, 1) := by decide +kernel
theorem d_Gr_foldNodes_33 : decode prog_1_method_31_code 33 = .ok (.invokevirtual 225, 3) := by decide +kernel
theorem d_Gr_foldNodes_36 : decode prog_1_method_31_code 36 = .ok (.ifCond .ne 7, 3) := by decide +kernel
theorem d_Gr_foldNodes_39 : decode prog_1_method_31_code 39 = .ok (.iconst 1, 1) := by decide +kernel
theorem d_Gr_foldNodes_40 : decode prog_1_method_31_code 40 = .ok (.goto 4, 3) := by decide +kernel
theorem d_Gr_foldNodes_43 : decode prog_1_method_31_code 43 = .ok (.iconst 0, 1) := by decide +kernel
theorem d_Gr_foldNodes_44 : decode prog_1_method_31_code 44 = .ok (.putfield 187, 3) := by decide +kernel
end
section
theorem d_Gr_foldNodes_47 : decode prog_1_method_31_code 47 = .ok (.iinc 1 1, 3) := by decide +kernel
theorem d_Gr_foldNodes_50 : decode prog_1_method_31_code 50 = .ok (.goto (-48), 3) := by decide +kernel
theorem d_Gr_foldNodes_53 : decode prog_1_method_31_code 53 = .ok (.return_, 1) := by decide +kernel
theorem d_Gr_argumentsAreFolded_0 : decode prog_1_method_32_code 0 = .ok (.iconst 0, 1) := by decide +kernel
theorem d_Gr_argumentsAreFolded_1 : decode prog_1_method_32_code 1 = .ok (.istore_n 2, 1) := by decide +kernel
theorem d_Gr_argumentsAreFolded_2 : decode prog_1_method_32_code 2 = .ok (.iload_n 2, 1) := by decide +kernel
theorem d_Gr_argumentsAreFolded_3 : decode prog_1_method_32_code 3 = .ok (.aload_n 1, 1) := by decide +kernel
theorem d_Gr_argumentsAreFolded_4 : decode prog_1_method_32_code 4 = .ok (.getfield 203, 3) := by decide +kernel
theorem d_Gr_argumentsAreFolded_7 : decode prog_1_method_32_code 7 = .ok (.if_icmp .ge 24, 3) := by decide +kernel
theorem d_Gr_argumentsAreFolded_10 : decode prog_1_method_32_code 10 = .ok (.aload_n 0, 1) := by decide +kernel
theorem d_Gr_argumentsAreFolded_11 : decode prog_1_method_32_code 11 = .ok (.aload_n 1, 1) := by decide +kernel
theorem d_Gr_argumentsAreFolded_12 : decode prog_1_method_32_code 12 = .ok (.getfield 206, 3) := by decide +kernel
theorem d_Gr_argumentsAreFolded_15 : decode prog_1_method_32_code 15 = .ok (.iload_n 2, 1) := by decide +kernel
theorem d_Gr_argumentsAreFolded_16 : decode prog_1_method_32_code 16 = .ok (.iaload, 1) := by decide +kernel
theorem d_Gr_argumentsAreFolded_17 : decode prog_1_method_32_code 17 = .ok (.invokevirtual 229, 3) := by decide +kernel
theorem d_Gr_argumentsAreFolded_20 : decode prog_1_method_32_code 20 = .ok (.ifCond .ne 5, 3) := by decide +kernel
theorem d_Gr_argumentsAreFolded_23 : decode prog_1_method_32_code 23 = .ok (.iconst 0, 1) := by decide +kernel
theorem d_Gr_argumentsAreFolded_24 : decode prog_1_method_32_code 24 = .ok (.ireturn, 1) := by decide +kernel
theorem d_Gr_argumentsAreFolded_25 : decode prog_1_method_32_code 25 = .ok (.iinc 2 1, 3) := by decide +kernel
theorem d_Gr_argumentsAreFolded_28 : decode prog_1_method_32_code 28 = .ok (.goto (-26), 3) := by decide +kernel
theorem d_Gr_argumentsAreFolded_31 : decode prog_1_method_32_code 31 = .ok (.iconst 1, 1) := by decide +kernel
theorem d_Gr_argumentsAreFolded_32 : decode prog_1_method_32_code 32 = .ok (.ireturn, 1) := by decide +kernel
theorem d_Gr_isConstantOrFolded_0 : decode prog_1_method_21_code 0 = .ok (.aload_n 0, 1) := by decide +kernel
theorem d_Gr_isConstantOrFolded_1 : decode prog_1_method_21_code 1 = .ok (.getfield 11, 3) := by decide +kernel
theorem d_Gr_isConstantOrFolded_4 : decode prog_1_method_21_code 4 = .ok (.iload_n 1, 1) := by decide +kernel
theorem d_Gr_isConstantOrFolded_5 : decode prog_1_method_21_code 5 = .ok (.aaload, 1) := by decide +kernel
theorem d_Gr_isConstantOrFolded_6 : decode prog_1_method_21_code 6 = .ok (.getfield 64, 3) := by decide +kernel
theorem d_Gr_isConstantOrFolded_9 : decode prog_1_method_21_code 9 = .ok (.iconst 2, 1) := by decide +kernel
theorem d_Gr_isConstantOrFolded_10 : decode prog_1_method_21_code 10 = .ok (.if_icmp .eq 36, 3) := by decide +kernel
theorem d_Gr_isConstantOrFolded_13 : decode prog_1_method_21_code 13 = .ok (.aload_n 0, 1) := by decide +kernel
theorem d_Gr_isConstantOrFolded_14 : decode prog_1_method_21_code 14 = .ok (.getfield 11, 3) := by decide +kernel
theorem d_Gr_isConstantOrFolded_17 : decode prog_1_method_21_code 17 = .ok (.iload_n 1, 1) := by decide +kernel
theorem d_Gr_isConstantOrFolded_18 : decode prog_1_method_21_code 18 = .ok (.aaload, 1) := by decide +kernel
theorem d_Gr_isConstantOrFolded_19 : decode prog_1_method_21_code 19 = .ok (.getfield 64, 3) := by decide +kernel
theorem d_Gr_isConstantOrFolded_22 : decode prog_1_method_21_code 22 = .ok (.iconst 3, 1) := by decide +kernel
theorem d_Gr_isConstantOrFolded_23 : decode prog_1_method_21_code 23 = .ok (.if_icmp .ne 27, 3) := by decide +kernel
theorem d_Gr_isConstantOrFolded_26 : decode prog_1_method_21_code 26 = .ok (.aload_n 0, 1) := by decide +kernel
theorem d_Gr_isConstantOrFolded_27 : decode prog_1_method_21_code 27 = .ok (.getfield 17, 3) := by decide +kernel
theorem d_Gr_isConstantOrFolded_30 : decode prog_1_method_21_code 30 = .ok (.aload_n 0, 1) := by decide +kernel
theorem d_Gr_isConstantOrFolded_31 : decode prog_1_method_21_code 31 = .ok (.getfield 11, 3) := by decide +kernel
theorem d_Gr_isConstantOrFolded_34 : decode prog_1_method_21_code 34 = .ok (.iload_n 1, 1) := by decide +kernel
theorem d_Gr_isConstantOrFolded_35 : decode prog_1_method_21_code 35 = .ok (.aaload, 1) := by decide +kernel
theorem d_Gr_isConstantOrFolded_36 : decode prog_1_method_21_code 36 = .ok (.getfield 125, 3) := by decide +kernel
theorem d_Gr_isConstantOrFolded_39 : decode prog_1_method_21_code 39 = .ok (.aaload, 1) := by decide +kernel
theorem d_Gr_isConstantOrFolded_40 : decode prog_1_method_21_code 40 = .ok (.getfield 187, 3) := by decide +kernel
theorem d_Gr_isConstantOrFolded_43 : decode prog_1_method_21_code 43 = .ok (.ifCond .eq 7, 3) := by decide +kernel
theorem d_Gr_isConstantOrFolded_46 : decode prog_1_method_21_code 46 = .ok (.iconst 1, 1) := by decide +kernel
theorem d_Gr_isConstantOrFolded_47 : decode prog_1_method_21_code 47 = .ok (.goto 4, 3) := by decide +kernel
theorem d_Gr_isConstantOrFolded_50 : decode prog_1_method_21_code 50 = .ok (.iconst 0, 1) := by decide +kernel
theorem d_Gr_isConstantOrFolded_51 : decode prog_1_method_21_code 51 = .ok (.ireturn, 1) := by decide +kernel
theorem d_Gr_workOut_0 : decode prog_1_method_34_code 0 = .ok (.aload_n 0, 1) := by decide +kernel
theorem d_Gr_workOut_1 : decode prog_1_method_34_code 1 = .ok (.getfield 11, 3) := by decide +kernel
theorem d_Gr_workOut_4 : decode prog_1_method_34_code 4 = .ok (.aload_n 1, 1) := by decide +kernel
theorem d_Gr_workOut_5 : decode prog_1_method_34_code 5 = .ok (.getfield 131, 3) := by decide +kernel
theorem d_Gr_workOut_8 : decode prog_1_method_34_code 8 = .ok (.aaload, 1) := by decide +kernel
theorem d_Gr_workOut_9 : decode prog_1_method_34_code 9 = .ok (.getfield 67, 3) := by decide +kernel
theorem d_Gr_workOut_12 : decode prog_1_method_34_code 12 = .ok (.astore_n 2, 1) := by decide +kernel
theorem d_Gr_workOut_13 : decode prog_1_method_34_code 13 = .ok (.aload_n 1, 1) := by decide +kernel
theorem d_Gr_workOut_14 : decode prog_1_method_34_code 14 = .ok (.aload_n 0, 1) := by decide +kernel
theorem d_Gr_workOut_15 : decode prog_1_method_34_code 15 = .ok (.aload_n 1, 1) := by decide +kernel
theorem d_Gr_workOut_16 : decode prog_1_method_34_code 16 = .ok (.iconst 0, 1) := by decide +kernel
theorem d_Gr_workOut_17 : decode prog_1_method_34_code 17 = .ok (.invokevirtual 212, 3) := by decide +kernel
theorem d_Gr_workOut_20 : decode prog_1_method_34_code 20 = .ok (.aload_n 0, 1) := by decide +kernel
theorem d_Gr_workOut_21 : decode prog_1_method_34_code 21 = .ok (.aload_n 1, 1) := by decide +kernel
theorem d_Gr_workOut_22 : decode prog_1_method_34_code 22 = .ok (.iconst 1, 1) := by decide +kernel
theorem d_Gr_workOut_23 : decode prog_1_method_34_code 23 = .ok (.invokevirtual 212, 3) := by decide +kernel
theorem d_Gr_workOut_26 : decode prog_1_method_34_code 26 = .ok (.aload_n 0, 1) := by decide +kernel
theorem d_Gr_workOut_27 : decode prog_1_method_34_code 27 = .ok (.aload_n 1, 1) := by decide +kernel
theorem d_Gr_workOut_28 : decode prog_1_method_34_code 28 = .ok (.iconst 2, 1) := by decide +kernel
theorem d_Gr_workOut_29 : decode prog_1_method_34_code 29 = .ok (.invokevirtual 212, 3) := by decide +kernel
theorem d_Gr_workOut_32 : decode prog_1_method_34_code 32 = .ok (.aload_n 2, 1) := by decide +kernel
theorem d_Gr_workOut_33 : decode prog_1_method_34_code 33 = .ok (.invokestatic 232, 3) := by decide +kernel
theorem d_Gr_workOut_36 : decode prog_1_method_34_code 36 = .ok (.istore_n 3, 1) := by decide +kernel
theorem d_Gr_workOut_37 : decode prog_1_method_34_code 37 = .ok (.iload_n 3, 1) := by decide +kernel
theorem d_Gr_workOut_38 : decode prog_1_method_34_code 38 = .ok (.ifCond .ne 14, 3) := by decide +kernel
theorem d_Gr_workOut_41 : decode prog_1_method_34_code 41 = .ok (.aload_n 2, 1) := by decide +kernel
theorem d_Gr_workOut_42 : decode prog_1_method_34_code 42 = .ok (.invokevirtual 237, 3) := by decide +kernel
theorem d_Gr_workOut_45 : decode prog_1_method_34_code 45 = .ok (.ifCond .eq 7, 3) := by decide +kernel
theorem d_Gr_workOut_48 : decode prog_1_method_34_code 48 = .ok (.iconst 1, 1) := by decide +kernel
theorem d_Gr_workOut_49 : decode prog_1_method_34_code 49 = .ok (.goto 4, 3) := by decide +kernel
theorem d_Gr_workOut_52 : decode prog_1_method_34_code 52 = .ok (.iload_n 3, 1) := by decide +kernel
theorem d_Gr_workOut_53 : decode prog_1_method_34_code 53 = .ok (.ireturn, 1) := by decide +kernel
theorem d_Gr_run_0 : decode prog_1_method_7_code 0 = .ok (.iload_n 1, 1) := by decide +kernel
theorem d_Gr_run_1 : decode prog_1_method_7_code 1 = .ok (.invokestatic 80, 3) := by decide +kernel
theorem d_Gr_run_4 : decode prog_1_method_7_code 4 = .ok (.ifCond .eq 15, 3) := by decide +kernel
theorem d_Gr_run_7 : decode prog_1_method_7_code 7 = .ok (.aload_n 0, 1) := by decide +kernel
theorem d_Gr_run_8 : decode prog_1_method_7_code 8 = .ok (.getfield 11, 3) := by decide +kernel
theorem d_Gr_run_11 : decode prog_1_method_7_code 11 = .ok (.iload_n 1, 1) := by decide +kernel
theorem d_Gr_run_12 : decode prog_1_method_7_code 12 = .ok (.aaload, 1) := by decide +kernel
theorem d_Gr_run_13 : decode prog_1_method_7_code 13 = .ok (.getfield 64, 3) := by decide +kernel
theorem d_Gr_run_16 : decode prog_1_method_7_code 16 = .ok (.ifCond .ne 11, 3) := by decide +kernel
theorem d_Gr_run_19 : decode prog_1_method_7_code 19 = .ok (.new 61, 3) := by decide +kernel
theorem d_Gr_run_22 : decode prog_1_method_7_code 22 = .ok (.dup, 1) := by decide +kernel
theorem d_Gr_run_23 : decode prog_1_method_7_code 23 = .ok (.invokespecial 63, 3) := by decide +kernel
theorem d_Gr_run_26 : decode prog_1_method_7_code 26 = .ok (.athrow, 1) := by decide +kernel
theorem d_Gr_run_27 : decode prog_1_method_7_code 27 = .ok (.aload_n 0, 1) := by decide +kernel
theorem d_Gr_run_28 : decode prog_1_method_7_code 28 = .ok (.getfield 39, 3) := by decide +kernel
theorem d_Gr_run_31 : decode prog_1_method_7_code 31 = .ok (.ifCond .ne 11, 3) := by decide +kernel
theorem d_Gr_run_34 : decode prog_1_method_7_code 34 = .ok (.new 114, 3) := by decide +kernel
theorem d_Gr_run_37 : decode prog_1_method_7_code 37 = .ok (.dup, 1) := by decide +kernel
theorem d_Gr_run_38 : decode prog_1_method_7_code 38 = .ok (.invokespecial 116, 3) := by decide +kernel
theorem d_Gr_run_41 : decode prog_1_method_7_code 41 = .ok (.athrow, 1) := by decide +kernel
theorem d_Gr_run_42 : decode prog_1_method_7_code 42 = .ok (.aload_n 0, 1) := by decide +kernel
theorem d_Gr_run_43 : decode prog_1_method_7_code 43 = .ok (.getfield 43, 3) := by decide +kernel
theorem d_Gr_run_46 : decode prog_1_method_7_code 46 = .ok (.istore_n 2, 1) := by decide +kernel
theorem d_Gr_run_47 : decode prog_1_method_7_code 47 = .ok (.aload_n 0, 1) := by decide +kernel
theorem d_Gr_run_48 : decode prog_1_method_7_code 48 = .ok (.iload_n 1, 1) := by decide +kernel
theorem d_Gr_run_49 : decode prog_1_method_7_code 49 = .ok (.invokevirtual 151, 3) := by decide +kernel
theorem d_Gr_run_52 : decode prog_1_method_7_code 52 = .ok (.istore_n 3, 1) := by decide +kernel
theorem d_Gr_run_53 : decode prog_1_method_7_code 53 = .ok (.iload_n 3, 1) := by decide +kernel
theorem d_Gr_run_54 : decode prog_1_method_7_code 54 = .ok (.iconst 1, 1) := by decide +kernel
theorem d_Gr_run_55 : decode prog_1_method_7_code 55 = .ok (.if_icmp .ne 11, 3) := by decide +kernel
theorem d_Gr_run_58 : decode prog_1_method_7_code 58 = .ok (.new 155, 3) := by decide +kernel
theorem d_Gr_run_61 : decode prog_1_method_7_code 61 = .ok (.dup, 1) := by decide +kernel
theorem d_Gr_run_62 : decode prog_1_method_7_code 62 = .ok (.invokespecial 157, 3) := by decide +kernel
theorem d_Gr_run_65 : decode prog_1_method_7_code 65 = .ok (.athrow, 1) := by decide +kernel
theorem d_Gr_run_66 : decode prog_1_method_7_code 66 = .ok (.iload_n 3, 1) := by decide +kernel
theorem d_Gr_run_67 : decode prog_1_method_7_code 67 = .ok (.iconst 2, 1) := by decide +kernel
theorem d_Gr_run_68 : decode prog_1_method_7_code 68 = .ok (.if_icmp .ne 11, 3) := by decide +kernel
theorem d_Gr_run_71 : decode prog_1_method_7_code 71 = .ok (.new 158, 3) := by decide +kernel
theorem d_Gr_run_74 : decode prog_1_method_7_code 74 = .ok (.dup, 1) := by decide +kernel
theorem d_Gr_run_75 : decode prog_1_method_7_code 75 = .ok (.invokespecial 160, 3) := by decide +kernel
theorem d_Gr_run_78 : decode prog_1_method_7_code 78 = .ok (.athrow, 1) := by decide +kernel
theorem d_Gr_run_79 : decode prog_1_method_7_code 79 = .ok (.aload_n 0, 1) := by decide +kernel
theorem d_Gr_run_80 : decode prog_1_method_7_code 80 = .ok (.getfield 43, 3) := by decide +kernel
theorem d_Gr_run_83 : decode prog_1_method_7_code 83 = .ok (.iload_n 2, 1) := by decide +kernel
theorem d_Gr_run_84 : decode prog_1_method_7_code 84 = .ok (.isub, 1) := by decide +kernel
theorem d_Gr_run_85 : decode prog_1_method_7_code 85 = .ok (.ireturn, 1) := by decide +kernel
theorem d_Gr_runFor_0 : decode prog_1_method_35_code 0 = .ok (.iconst 0, 1) := by decide +kernel
theorem d_Gr_runFor_1 : decode prog_1_method_35_code 1 = .ok (.istore_n 2, 1) := by decide +kernel
theorem d_Gr_runFor_2 : decode prog_1_method_35_code 2 = .ok (.aload_n 0, 1) := by decide +kernel
theorem d_Gr_runFor_3 : decode prog_1_method_35_code 3 = .ok (.iload_n 1, 1) := by decide +kernel
theorem d_Gr_runFor_4 : decode prog_1_method_35_code 4 = .ok (.invokevirtual 161, 3) := by decide +kernel
theorem d_Gr_runFor_7 : decode prog_1_method_35_code 7 = .ok (.ifCond .ne 21, 3) := by decide +kernel
theorem d_Gr_runFor_10 : decode prog_1_method_35_code 10 = .ok (.aload_n 0, 1) := by decide +kernel
theorem d_Gr_runFor_11 : decode prog_1_method_35_code 11 = .ok (.getfield 25, 3) := by decide +kernel
theorem d_Gr_runFor_14 : decode prog_1_method_35_code 14 = .ok (.iload_n 2, 1) := by decide +kernel
theorem d_Gr_runFor_15 : decode prog_1_method_35_code 15 = .ok (.iinc 2 1, 3) := by decide +kernel
theorem d_Gr_runFor_18 : decode prog_1_method_35_code 18 = .ok (.aload_n 0, 1) := by decide +kernel
theorem d_Gr_runFor_19 : decode prog_1_method_35_code 19 = .ok (.getfield 11, 3) := by decide +kernel
theorem d_Gr_runFor_22 : decode prog_1_method_35_code 22 = .ok (.iload_n 1, 1) := by decide +kernel
theorem d_Gr_runFor_23 : decode prog_1_method_35_code 23 = .ok (.aaload, 1) := by decide +kernel
theorem d_Gr_runFor_24 : decode prog_1_method_35_code 24 = .ok (.getfield 125, 3) := by decide +kernel
theorem d_Gr_runFor_27 : decode prog_1_method_35_code 27 = .ok (.iastore, 1) := by decide +kernel
theorem d_Gr_runFor_28 : decode prog_1_method_35_code 28 = .ok (.iconst 0, 1) := by decide +kernel
theorem d_Gr_runFor_29 : decode prog_1_method_35_code 29 = .ok (.istore_n 3, 1) := by decide +kernel
theorem d_Gr_runFor_30 : decode prog_1_method_35_code 30 = .ok (.iload_n 3, 1) := by decide +kernel
theorem d_Gr_runFor_31 : decode prog_1_method_35_code 31 = .ok (.bipush 28, 2) := by decide +kernel
theorem d_Gr_runFor_33 : decode prog_1_method_35_code 33 = .ok (.if_icmp .ge 89, 3) := by decide +kernel
theorem d_Gr_runFor_36 : decode prog_1_method_35_code 36 = .ok (.iload_n 2, 1) := by decide +kernel
theorem d_Gr_runFor_37 : decode prog_1_method_35_code 37 = .ok (.ifCond .le 85, 3) := by decide +kernel
theorem d_Gr_runFor_40 : decode prog_1_method_35_code 40 = .ok (.aload_n 0, 1) := by decide +kernel
theorem d_Gr_runFor_41 : decode prog_1_method_35_code 41 = .ok (.getfield 17, 3) := by decide +kernel
theorem d_Gr_runFor_44 : decode prog_1_method_35_code 44 = .ok (.aload_n 0, 1) := by decide +kernel
theorem d_Gr_runFor_45 : decode prog_1_method_35_code 45 = .ok (.getfield 25, 3) := by decide +kernel
theorem d_Gr_runFor_48 : decode prog_1_method_35_code 48 = .ok (.iload_n 2, 1) := by decide +kernel
theorem d_Gr_runFor_49 : decode prog_1_method_35_code 49 = .ok (.iconst 1, 1) := by decide +kernel
theorem d_Gr_runFor_50 : decode prog_1_method_35_code 50 = .ok (.isub, 1) := by decide +kernel
theorem d_Gr_runFor_51 : decode prog_1_method_35_code 51 = .ok (.iaload, 1) := by decide +kernel
theorem d_Gr_runFor_52 : decode prog_1_method_35_code 52 = .ok (.aaload, 1) := by decide +kernel
theorem d_Gr_runFor_53 : decode prog_1_method_35_code 53 = .ok (.astore 4, 2) := by decide +kernel
theorem d_Gr_runFor_55 : decode prog_1_method_35_code 55 = .ok (.aload_n 0, 1) := by decide +kernel
theorem d_Gr_runFor_56 : decode prog_1_method_35_code 56 = .ok (.aload 4, 2) := by decide +kernel
theorem d_Gr_runFor_58 : decode prog_1_method_35_code 58 = .ok (.invokevirtual 240, 3) := by decide +kernel
theorem d_Gr_runFor_61 : decode prog_1_method_35_code 61 = .ok (.istore 5, 2) := by decide +kernel
theorem d_Gr_runFor_63 : decode prog_1_method_35_code 63 = .ok (.iload 5, 2) := by decide +kernel
theorem d_Gr_runFor_65 : decode prog_1_method_35_code 65 = .ok (.iconst (-1), 1) := by decide +kernel
theorem d_Gr_runFor_66 : decode prog_1_method_35_code 66 = .ok (.if_icmp .ne 25, 3) := by decide +kernel
theorem d_Gr_runFor_69 : decode prog_1_method_35_code 69 = .ok (.aload_n 0, 1) := by decide +kernel
theorem d_Gr_runFor_70 : decode prog_1_method_35_code 70 = .ok (.aload 4, 2) := by decide +kernel
theorem d_Gr_runFor_72 : decode prog_1_method_35_code 72 = .ok (.invokevirtual 243, 3) := by decide +kernel
theorem d_Gr_runFor_75 : decode prog_1_method_35_code 75 = .ok (.istore 6, 2) := by decide +kernel
theorem d_Gr_runFor_77 : decode prog_1_method_35_code 77 = .ok (.iload 6, 2) := by decide +kernel
theorem d_Gr_runFor_79 : decode prog_1_method_35_code 79 = .ok (.ifCond .eq 6, 3) := by decide +kernel
theorem d_Gr_runFor_82 : decode prog_1_method_35_code 82 = .ok (.iload 6, 2) := by decide +kernel
theorem d_Gr_runFor_84 : decode prog_1_method_35_code 84 = .ok (.ireturn, 1) := by decide +kernel
theorem d_Gr_runFor_85 : decode prog_1_method_35_code 85 = .ok (.iinc 2 (-1), 3) := by decide +kernel
theorem d_Gr_runFor_88 : decode prog_1_method_35_code 88 = .ok (.goto 28, 3) := by decide +kernel
theorem d_Gr_runFor_91 : decode prog_1_method_35_code 91 = .ok (.iload_n 2, 1) := by decide +kernel
theorem d_Gr_runFor_92 : decode prog_1_method_35_code 92 = .ok (.bipush 14, 2) := by decide +kernel
theorem d_Gr_runFor_94 : decode prog_1_method_35_code 94 = .ok (.if_icmp .ge 22, 3) := by decide +kernel
theorem d_Gr_runFor_97 : decode prog_1_method_35_code 97 = .ok (.aload_n 0, 1) := by decide +kernel
theorem d_Gr_runFor_98 : decode prog_1_method_35_code 98 = .ok (.getfield 25, 3) := by decide +kernel
theorem d_Gr_runFor_101 : decode prog_1_method_35_code 101 = .ok (.iload_n 2, 1) := by decide +kernel
theorem d_Gr_runFor_102 : decode prog_1_method_35_code 102 = .ok (.iinc 2 1, 3) := by decide +kernel
theorem d_Gr_runFor_105 : decode prog_1_method_35_code 105 = .ok (.aload_n 0, 1) := by decide +kernel
theorem d_Gr_runFor_106 : decode prog_1_method_35_code 106 = .ok (.getfield 11, 3) := by decide +kernel
theorem d_Gr_runFor_109 : decode prog_1_method_35_code 109 = .ok (.iload 5, 2) := by decide +kernel
theorem d_Gr_runFor_111 : decode prog_1_method_35_code 111 = .ok (.aaload, 1) := by decide +kernel
theorem d_Gr_runFor_112 : decode prog_1_method_35_code 112 = .ok (.getfield 125, 3) := by decide +kernel
theorem d_Gr_runFor_115 : decode prog_1_method_35_code 115 = .ok (.iastore, 1) := by decide +kernel
theorem d_Gr_runFor_116 : decode prog_1_method_35_code 116 = .ok (.iinc 3 1, 3) := by decide +kernel
theorem d_Gr_runFor_119 : decode prog_1_method_35_code 119 = .ok (.goto (-89), 3) := by decide +kernel
theorem d_Gr_runFor_122 : decode prog_1_method_35_code 122 = .ok (.iconst 0, 1) := by decide +kernel
theorem d_Gr_runFor_123 : decode prog_1_method_35_code 123 = .ok (.ireturn, 1) := by decide +kernel
theorem d_Gr_isThere_0 : decode prog_1_method_22_code 0 = .ok (.aload_n 0, 1) := by decide +kernel
theorem d_Gr_isThere_1 : decode prog_1_method_22_code 1 = .ok (.iload_n 1, 1) := by decide +kernel
theorem d_Gr_isThere_2 : decode prog_1_method_22_code 2 = .ok (.invokevirtual 83, 3) := by decide +kernel
theorem d_Gr_isThere_5 : decode prog_1_method_22_code 5 = .ok (.ifCond .ne 36, 3) := by decide +kernel
theorem d_Gr_isThere_8 : decode prog_1_method_22_code 8 = .ok (.aload_n 0, 1) := by decide +kernel
theorem d_Gr_isThere_9 : decode prog_1_method_22_code 9 = .ok (.getfield 11, 3) := by decide +kernel
theorem d_Gr_isThere_12 : decode prog_1_method_22_code 12 = .ok (.iload_n 1, 1) := by decide +kernel
theorem d_Gr_isThere_13 : decode prog_1_method_22_code 13 = .ok (.aaload, 1) := by decide +kernel
theorem d_Gr_isThere_14 : decode prog_1_method_22_code 14 = .ok (.getfield 64, 3) := by decide +kernel
theorem d_Gr_isThere_17 : decode prog_1_method_22_code 17 = .ok (.iconst 3, 1) := by decide +kernel
theorem d_Gr_isThere_18 : decode prog_1_method_22_code 18 = .ok (.if_icmp .ne 27, 3) := by decide +kernel
theorem d_Gr_isThere_21 : decode prog_1_method_22_code 21 = .ok (.aload_n 0, 1) := by decide +kernel
theorem d_Gr_isThere_22 : decode prog_1_method_22_code 22 = .ok (.getfield 17, 3) := by decide +kernel
theorem d_Gr_isThere_25 : decode prog_1_method_22_code 25 = .ok (.aload_n 0, 1) := by decide +kernel
theorem d_Gr_isThere_26 : decode prog_1_method_22_code 26 = .ok (.getfield 11, 3) := by decide +kernel
theorem d_Gr_isThere_29 : decode prog_1_method_22_code 29 = .ok (.iload_n 1, 1) := by decide +kernel
theorem d_Gr_isThere_30 : decode prog_1_method_22_code 30 = .ok (.aaload, 1) := by decide +kernel
theorem d_Gr_isThere_31 : decode prog_1_method_22_code 31 = .ok (.getfield 125, 3) := by decide +kernel
theorem d_Gr_isThere_34 : decode prog_1_method_22_code 34 = .ok (.aaload, 1) := by decide +kernel
theorem d_Gr_isThere_35 : decode prog_1_method_22_code 35 = .ok (.invokevirtual 190, 3) := by decide +kernel
theorem d_Gr_isThere_38 : decode prog_1_method_22_code 38 = .ok (.ifCond .eq 7, 3) := by decide +kernel
theorem d_Gr_isThere_41 : decode prog_1_method_22_code 41 = .ok (.iconst 1, 1) := by decide +kernel
theorem d_Gr_isThere_42 : decode prog_1_method_22_code 42 = .ok (.goto 4, 3) := by decide +kernel
theorem d_Gr_isThere_45 : decode prog_1_method_22_code 45 = .ok (.iconst 0, 1) := by decide +kernel
theorem d_Gr_isThere_46 : decode prog_1_method_22_code 46 = .ok (.ireturn, 1) := by decide +kernel
theorem d_Gr_firstNeeded_0 : decode prog_1_method_37_code 0 = .ok (.aload_n 1, 1) := by decide +kernel
theorem d_Gr_firstNeeded_1 : decode prog_1_method_37_code 1 = .ok (.getfield 246, 3) := by decide +kernel
theorem d_Gr_firstNeeded_4 : decode prog_1_method_37_code 4 = .ok (.bipush 17, 2) := by decide +kernel
theorem d_Gr_firstNeeded_6 : decode prog_1_method_37_code 6 = .ok (.if_icmp .ne 9, 3) := by decide +kernel
theorem d_Gr_firstNeeded_9 : decode prog_1_method_37_code 9 = .ok (.aload_n 0, 1) := by decide +kernel
theorem d_Gr_firstNeeded_10 : decode prog_1_method_37_code 10 = .ok (.aload_n 1, 1) := by decide +kernel
theorem d_Gr_firstNeeded_11 : decode prog_1_method_37_code 11 = .ok (.invokevirtual 249, 3) := by decide +kernel
theorem d_Gr_firstNeeded_14 : decode prog_1_method_37_code 14 = .ok (.ireturn, 1) := by decide +kernel
theorem d_Gr_firstNeeded_15 : decode prog_1_method_37_code 15 = .ok (.iconst 0, 1) := by decide +kernel
theorem d_Gr_firstNeeded_16 : decode prog_1_method_37_code 16 = .ok (.istore_n 2, 1) := by decide +kernel
theorem d_Gr_firstNeeded_17 : decode prog_1_method_37_code 17 = .ok (.iload_n 2, 1) := by decide +kernel
theorem d_Gr_firstNeeded_18 : decode prog_1_method_37_code 18 = .ok (.aload_n 1, 1) := by decide +kernel
theorem d_Gr_firstNeeded_19 : decode prog_1_method_37_code 19 = .ok (.getfield 203, 3) := by decide +kernel
theorem d_Gr_firstNeeded_22 : decode prog_1_method_37_code 22 = .ok (.if_icmp .ge 29, 3) := by decide +kernel
theorem d_Gr_firstNeeded_25 : decode prog_1_method_37_code 25 = .ok (.aload_n 0, 1) := by decide +kernel
theorem d_Gr_firstNeeded_26 : decode prog_1_method_37_code 26 = .ok (.aload_n 1, 1) := by decide +kernel
theorem d_Gr_firstNeeded_27 : decode prog_1_method_37_code 27 = .ok (.getfield 206, 3) := by decide +kernel
theorem d_Gr_firstNeeded_30 : decode prog_1_method_37_code 30 = .ok (.iload_n 2, 1) := by decide +kernel
theorem d_Gr_firstNeeded_31 : decode prog_1_method_37_code 31 = .ok (.iaload, 1) := by decide +kernel
theorem d_Gr_firstNeeded_32 : decode prog_1_method_37_code 32 = .ok (.invokevirtual 161, 3) := by decide +kernel
theorem d_Gr_firstNeeded_35 : decode prog_1_method_37_code 35 = .ok (.ifCond .ne 10, 3) := by decide +kernel
theorem d_Gr_firstNeeded_38 : decode prog_1_method_37_code 38 = .ok (.aload_n 1, 1) := by decide +kernel
theorem d_Gr_firstNeeded_39 : decode prog_1_method_37_code 39 = .ok (.getfield 206, 3) := by decide +kernel
theorem d_Gr_firstNeeded_42 : decode prog_1_method_37_code 42 = .ok (.iload_n 2, 1) := by decide +kernel
theorem d_Gr_firstNeeded_43 : decode prog_1_method_37_code 43 = .ok (.iaload, 1) := by decide +kernel
theorem d_Gr_firstNeeded_44 : decode prog_1_method_37_code 44 = .ok (.ireturn, 1) := by decide +kernel
theorem d_Gr_firstNeeded_45 : decode prog_1_method_37_code 45 = .ok (.iinc 2 1, 3) := by decide +kernel
theorem d_Gr_firstNeeded_48 : decode prog_1_method_37_code 48 = .ok (.goto (-31), 3) := by decide +kernel
theorem d_Gr_firstNeeded_51 : decode prog_1_method_37_code 51 = .ok (.iconst (-1), 1) := by decide +kernel
theorem d_Gr_firstNeeded_52 : decode prog_1_method_37_code 52 = .ok (.ireturn, 1) := by decide +kernel
theorem d_Gr_firstNeededByChoice_0 : decode prog_1_method_38_code 0 = .ok (.aload_n 1, 1) := by decide +kernel
theorem d_Gr_firstNeededByChoice_1 : decode prog_1_method_38_code 1 = .ok (.getfield 206, 3) := by decide +kernel
theorem d_Gr_firstNeededByChoice_4 : decode prog_1_method_38_code 4 = .ok (.iconst 2, 1) := by decide +kernel
theorem d_Gr_firstNeededByChoice_5 : decode prog_1_method_38_code 5 = .ok (.iaload, 1) := by decide +kernel
theorem d_Gr_firstNeededByChoice_6 : decode prog_1_method_38_code 6 = .ok (.istore_n 2, 1) := by decide +kernel
theorem d_Gr_firstNeededByChoice_7 : decode prog_1_method_38_code 7 = .ok (.aload_n 0, 1) := by decide +kernel
theorem d_Gr_firstNeededByChoice_8 : decode prog_1_method_38_code 8 = .ok (.iload_n 2, 1) := by decide +kernel
theorem d_Gr_firstNeededByChoice_9 : decode prog_1_method_38_code 9 = .ok (.invokevirtual 161, 3) := by decide +kernel
theorem d_Gr_firstNeededByChoice_12 : decode prog_1_method_38_code 12 = .ok (.ifCond .ne 5, 3) := by decide +kernel
theorem d_Gr_firstNeededByChoice_15 : decode prog_1_method_38_code 15 = .ok (.iload_n 2, 1) := by decide +kernel
theorem d_Gr_firstNeededByChoice_16 : decode prog_1_method_38_code 16 = .ok (.ireturn, 1) := by decide +kernel
theorem d_Gr_firstNeededByChoice_17 : decode prog_1_method_38_code 17 = .ok (.aload_n 1, 1) := by decide +kernel
theorem d_Gr_firstNeededByChoice_18 : decode prog_1_method_38_code 18 = .ok (.getfield 206, 3) := by decide +kernel
theorem d_Gr_firstNeededByChoice_21 : decode prog_1_method_38_code 21 = .ok (.aload_n 0, 1) := by decide +kernel
theorem d_Gr_firstNeededByChoice_22 : decode prog_1_method_38_code 22 = .ok (.getfield 11, 3) := by decide +kernel
theorem d_Gr_firstNeededByChoice_25 : decode prog_1_method_38_code 25 = .ok (.iload_n 2, 1) := by decide +kernel
theorem d_Gr_firstNeededByChoice_26 : decode prog_1_method_38_code 26 = .ok (.aaload, 1) := by decide +kernel
theorem d_Gr_firstNeededByChoice_27 : decode prog_1_method_38_code 27 = .ok (.getfield 67, 3) := by decide +kernel
theorem d_Gr_firstNeededByChoice_30 : decode prog_1_method_38_code 30 = .ok (.invokevirtual 252, 3) := by decide +kernel
theorem d_Gr_firstNeededByChoice_33 : decode prog_1_method_38_code 33 = .ok (.ifCond .eq 7, 3) := by decide +kernel
theorem d_Gr_firstNeededByChoice_36 : decode prog_1_method_38_code 36 = .ok (.iconst 1, 1) := by decide +kernel
theorem d_Gr_firstNeededByChoice_37 : decode prog_1_method_38_code 37 = .ok (.goto 4, 3) := by decide +kernel
theorem d_Gr_firstNeededByChoice_40 : decode prog_1_method_38_code 40 = .ok (.iconst 0, 1) := by decide +kernel
theorem d_Gr_firstNeededByChoice_41 : decode prog_1_method_38_code 41 = .ok (.iaload, 1) := by decide +kernel
theorem d_Gr_firstNeededByChoice_42 : decode prog_1_method_38_code 42 = .ok (.istore_n 3, 1) := by decide +kernel
theorem d_Gr_firstNeededByChoice_43 : decode prog_1_method_38_code 43 = .ok (.aload_n 0, 1) := by decide +kernel
theorem d_Gr_firstNeededByChoice_44 : decode prog_1_method_38_code 44 = .ok (.iload_n 3, 1) := by decide +kernel
theorem d_Gr_firstNeededByChoice_45 : decode prog_1_method_38_code 45 = .ok (.invokevirtual 161, 3) := by decide +kernel
theorem d_Gr_firstNeededByChoice_48 : decode prog_1_method_38_code 48 = .ok (.ifCond .eq 7, 3) := by decide +kernel
theorem d_Gr_firstNeededByChoice_51 : decode prog_1_method_38_code 51 = .ok (.iconst (-1), 1) := by decide +kernel
theorem d_Gr_firstNeededByChoice_52 : decode prog_1_method_38_code 52 = .ok (.goto 4, 3) := by decide +kernel
theorem d_Gr_firstNeededByChoice_55 : decode prog_1_method_38_code 55 = .ok (.iload_n 3, 1) := by decide +kernel
theorem d_Gr_firstNeededByChoice_56 : decode prog_1_method_38_code 56 = .ok (.ireturn, 1) := by decide +kernel
theorem d_Gr_learn_0 : decode prog_1_method_36_code 0 = .ok (.aload_n 0, 1) := by decide +kernel
theorem d_Gr_learn_1 : decode prog_1_method_36_code 1 = .ok (.aload_n 1, 1) := by decide +kernel
theorem d_Gr_learn_2 : decode prog_1_method_36_code 2 = .ok (.invokevirtual 225, 3) := by decide +kernel
theorem d_Gr_learn_5 : decode prog_1_method_36_code 5 = .ok (.istore_n 2, 1) := by decide +kernel
theorem d_Gr_learn_6 : decode prog_1_method_36_code 6 = .ok (.iload_n 2, 1) := by decide +kernel
theorem d_Gr_learn_7 : decode prog_1_method_36_code 7 = .ok (.ifCond .ne 21, 3) := by decide +kernel
theorem d_Gr_learn_10 : decode prog_1_method_36_code 10 = .ok (.aload_n 1, 1) := by decide +kernel
theorem d_Gr_learn_11 : decode prog_1_method_36_code 11 = .ok (.iconst 1, 1) := by decide +kernel
theorem d_Gr_learn_12 : decode prog_1_method_36_code 12 = .ok (.putfield 193, 3) := by decide +kernel
theorem d_Gr_learn_15 : decode prog_1_method_36_code 15 = .ok (.aload_n 0, 1) := by decide +kernel
theorem d_Gr_learn_16 : decode prog_1_method_36_code 16 = .ok (.dup, 1) := by decide +kernel
theorem d_Gr_learn_17 : decode prog_1_method_36_code 17 = .ok (.getfield 43, 3) := by decide +kernel
theorem d_Gr_learn_20 : decode prog_1_method_36_code 20 = .ok (.iconst 1, 1) := by decide +kernel
theorem d_Gr_learn_21 : decode prog_1_method_36_code 21 = .ok (.iadd, 1) := by decide +kernel
theorem d_Gr_learn_22 : decode prog_1_method_36_code 22 = .ok (.putfield 43, 3) := by decide +kernel
theorem d_Gr_learn_25 : decode prog_1_method_36_code 25 = .ok (.goto 13, 3) := by decide +kernel
theorem d_Gr_learn_28 : decode prog_1_method_36_code 28 = .ok (.aload_n 0, 1) := by decide +kernel
theorem d_Gr_learn_29 : decode prog_1_method_36_code 29 = .ok (.dup, 1) := by decide +kernel
theorem d_Gr_learn_30 : decode prog_1_method_36_code 30 = .ok (.getfield 46, 3) := by decide +kernel
theorem d_Gr_learn_33 : decode prog_1_method_36_code 33 = .ok (.iconst 1, 1) := by decide +kernel
theorem d_Gr_learn_34 : decode prog_1_method_36_code 34 = .ok (.iadd, 1) := by decide +kernel
theorem d_Gr_learn_35 : decode prog_1_method_36_code 35 = .ok (.putfield 46, 3) := by decide +kernel
theorem d_Gr_learn_38 : decode prog_1_method_36_code 38 = .ok (.iload_n 2, 1) := by decide +kernel
theorem d_Gr_learn_39 : decode prog_1_method_36_code 39 = .ok (.ireturn, 1) := by decide +kernel
theorem d_Gr_get_0 : decode prog_1_method_8_code 0 = .ok (.iload_n 1, 1) := by decide +kernel
theorem d_Gr_get_1 : decode prog_1_method_8_code 1 = .ok (.invokestatic 80, 3) := by decide +kernel
theorem d_Gr_get_4 : decode prog_1_method_8_code 4 = .ok (.ifCond .ne 11, 3) := by decide +kernel
theorem d_Gr_get_7 : decode prog_1_method_8_code 7 = .ok (.new 61, 3) := by decide +kernel
theorem d_Gr_get_10 : decode prog_1_method_8_code 10 = .ok (.dup, 1) := by decide +kernel
theorem d_Gr_get_11 : decode prog_1_method_8_code 11 = .ok (.invokespecial 63, 3) := by decide +kernel
theorem d_Gr_get_14 : decode prog_1_method_8_code 14 = .ok (.athrow, 1) := by decide +kernel
theorem d_Gr_get_15 : decode prog_1_method_8_code 15 = .ok (.aload_n 0, 1) := by decide +kernel
theorem d_Gr_get_16 : decode prog_1_method_8_code 16 = .ok (.iload_n 1, 1) := by decide +kernel
theorem d_Gr_get_17 : decode prog_1_method_8_code 17 = .ok (.invokevirtual 161, 3) := by decide +kernel
theorem d_Gr_get_20 : decode prog_1_method_8_code 20 = .ok (.ifCond .eq 20, 3) := by decide +kernel
theorem d_Gr_get_23 : decode prog_1_method_8_code 23 = .ok (.aload_n 0, 1) := by decide +kernel
theorem d_Gr_get_24 : decode prog_1_method_8_code 24 = .ok (.getfield 11, 3) := by decide +kernel
theorem d_Gr_get_27 : decode prog_1_method_8_code 27 = .ok (.iload_n 1, 1) := by decide +kernel
theorem d_Gr_get_28 : decode prog_1_method_8_code 28 = .ok (.aaload, 1) := by decide +kernel
theorem d_Gr_get_29 : decode prog_1_method_8_code 29 = .ok (.getfield 67, 3) := by decide +kernel
theorem d_Gr_get_32 : decode prog_1_method_8_code 32 = .ok (.iload_n 2, 1) := by decide +kernel
theorem d_Gr_get_33 : decode prog_1_method_8_code 33 = .ok (.iload_n 3, 1) := by decide +kernel
theorem d_Gr_get_34 : decode prog_1_method_8_code 34 = .ok (.invokevirtual 86, 3) := by decide +kernel
theorem d_Gr_get_37 : decode prog_1_method_8_code 37 = .ok (.ifCond .ne 11, 3) := by decide +kernel
theorem d_Gr_get_40 : decode prog_1_method_8_code 40 = .ok (.new 128, 3) := by decide +kernel
theorem d_Gr_get_43 : decode prog_1_method_8_code 43 = .ok (.dup, 1) := by decide +kernel
theorem d_Gr_get_44 : decode prog_1_method_8_code 44 = .ok (.invokespecial 130, 3) := by decide +kernel
theorem d_Gr_get_47 : decode prog_1_method_8_code 47 = .ok (.athrow, 1) := by decide +kernel
theorem d_Gr_get_48 : decode prog_1_method_8_code 48 = .ok (.aload_n 0, 1) := by decide +kernel
theorem d_Gr_get_49 : decode prog_1_method_8_code 49 = .ok (.getfield 11, 3) := by decide +kernel
theorem d_Gr_get_52 : decode prog_1_method_8_code 52 = .ok (.iload_n 1, 1) := by decide +kernel
theorem d_Gr_get_53 : decode prog_1_method_8_code 53 = .ok (.aaload, 1) := by decide +kernel
theorem d_Gr_get_54 : decode prog_1_method_8_code 54 = .ok (.getfield 67, 3) := by decide +kernel
theorem d_Gr_get_57 : decode prog_1_method_8_code 57 = .ok (.iload_n 2, 1) := by decide +kernel
theorem d_Gr_get_58 : decode prog_1_method_8_code 58 = .ok (.iload_n 3, 1) := by decide +kernel
theorem d_Gr_get_59 : decode prog_1_method_8_code 59 = .ok (.invokevirtual 164, 3) := by decide +kernel
theorem d_Gr_get_62 : decode prog_1_method_8_code 62 = .ok (.dreturn, 1) := by decide +kernel
theorem d_Gr_slot_0 : decode prog_1_method_9_code 0 = .ok (.iload_n 1, 1) := by decide +kernel
theorem d_Gr_slot_1 : decode prog_1_method_9_code 1 = .ok (.invokestatic 80, 3) := by decide +kernel
theorem d_Gr_slot_4 : decode prog_1_method_9_code 4 = .ok (.ifCond .eq 12, 3) := by decide +kernel
theorem d_Gr_slot_7 : decode prog_1_method_9_code 7 = .ok (.iload_n 2, 1) := by decide +kernel
theorem d_Gr_slot_8 : decode prog_1_method_9_code 8 = .ok (.ifCond .lt 8, 3) := by decide +kernel
theorem d_Gr_slot_11 : decode prog_1_method_9_code 11 = .ok (.iload_n 2, 1) := by decide +kernel
theorem d_Gr_slot_12 : decode prog_1_method_9_code 12 = .ok (.iconst 3, 1) := by decide +kernel
theorem d_Gr_slot_13 : decode prog_1_method_9_code 13 = .ok (.if_icmp .le 11, 3) := by decide +kernel
theorem d_Gr_slot_16 : decode prog_1_method_9_code 16 = .ok (.new 61, 3) := by decide +kernel
theorem d_Gr_slot_19 : decode prog_1_method_9_code 19 = .ok (.dup, 1) := by decide +kernel
theorem d_Gr_slot_20 : decode prog_1_method_9_code 20 = .ok (.invokespecial 63, 3) := by decide +kernel
theorem d_Gr_slot_23 : decode prog_1_method_9_code 23 = .ok (.athrow, 1) := by decide +kernel
theorem d_Gr_slot_24 : decode prog_1_method_9_code 24 = .ok (.iload_n 2, 1) := by decide +kernel
theorem d_Gr_slot_25 : decode prog_1_method_9_code 25 = .ok (.ifCond .ne 13, 3) := by decide +kernel
theorem d_Gr_slot_28 : decode prog_1_method_9_code 28 = .ok (.aload_n 0, 1) := by decide +kernel
theorem d_Gr_slot_29 : decode prog_1_method_9_code 29 = .ok (.getfield 11, 3) := by decide +kernel
theorem d_Gr_slot_32 : decode prog_1_method_9_code 32 = .ok (.iload_n 1, 1) := by decide +kernel
theorem d_Gr_slot_33 : decode prog_1_method_9_code 33 = .ok (.aaload, 1) := by decide +kernel
theorem d_Gr_slot_34 : decode prog_1_method_9_code 34 = .ok (.getfield 64, 3) := by decide +kernel
theorem d_Gr_slot_37 : decode prog_1_method_9_code 37 = .ok (.ireturn, 1) := by decide +kernel
theorem d_Gr_slot_38 : decode prog_1_method_9_code 38 = .ok (.aload_n 0, 1) := by decide +kernel
theorem d_Gr_slot_39 : decode prog_1_method_9_code 39 = .ok (.iload_n 1, 1) := by decide +kernel
theorem d_Gr_slot_40 : decode prog_1_method_9_code 40 = .ok (.invokevirtual 83, 3) := by decide +kernel
theorem d_Gr_slot_43 : decode prog_1_method_9_code 43 = .ok (.ifCond .ne 31, 3) := by decide +kernel
theorem d_Gr_slot_46 : decode prog_1_method_9_code 46 = .ok (.aload_n 0, 1) := by decide +kernel
theorem d_Gr_slot_47 : decode prog_1_method_9_code 47 = .ok (.getfield 11, 3) := by decide +kernel
theorem d_Gr_slot_50 : decode prog_1_method_9_code 50 = .ok (.iload_n 1, 1) := by decide +kernel
theorem d_Gr_slot_51 : decode prog_1_method_9_code 51 = .ok (.aaload, 1) := by decide +kernel
theorem d_Gr_slot_52 : decode prog_1_method_9_code 52 = .ok (.getfield 64, 3) := by decide +kernel
theorem d_Gr_slot_55 : decode prog_1_method_9_code 55 = .ok (.iconst 3, 1) := by decide +kernel
theorem d_Gr_slot_56 : decode prog_1_method_9_code 56 = .ok (.if_icmp .ne 10, 3) := by decide +kernel
theorem d_Gr_slot_59 : decode prog_1_method_9_code 59 = .ok (.aload_n 0, 1) := by decide +kernel
theorem d_Gr_slot_60 : decode prog_1_method_9_code 60 = .ok (.getfield 39, 3) := by decide +kernel
theorem d_Gr_slot_63 : decode prog_1_method_9_code 63 = .ok (.ifCond .ne 11, 3) := by decide +kernel
theorem d_Gr_slot_66 : decode prog_1_method_9_code 66 = .ok (.new 128, 3) := by decide +kernel
theorem d_Gr_slot_69 : decode prog_1_method_9_code 69 = .ok (.dup, 1) := by decide +kernel
theorem d_Gr_slot_70 : decode prog_1_method_9_code 70 = .ok (.invokespecial 130, 3) := by decide +kernel
theorem d_Gr_slot_73 : decode prog_1_method_9_code 73 = .ok (.athrow, 1) := by decide +kernel
theorem d_Gr_slot_74 : decode prog_1_method_9_code 74 = .ok (.aload_n 0, 1) := by decide +kernel
theorem d_Gr_slot_75 : decode prog_1_method_9_code 75 = .ok (.getfield 11, 3) := by decide +kernel
theorem d_Gr_slot_78 : decode prog_1_method_9_code 78 = .ok (.iload_n 1, 1) := by decide +kernel
theorem d_Gr_slot_79 : decode prog_1_method_9_code 79 = .ok (.aaload, 1) := by decide +kernel
theorem d_Gr_slot_80 : decode prog_1_method_9_code 80 = .ok (.getfield 67, 3) := by decide +kernel
theorem d_Gr_slot_83 : decode prog_1_method_9_code 83 = .ok (.astore_n 3, 1) := by decide +kernel
theorem d_Gr_slot_84 : decode prog_1_method_9_code 84 = .ok (.iload_n 2, 1) := by decide +kernel
theorem d_Gr_slot_85 : decode prog_1_method_9_code 85 = .ok (.iconst 1, 1) := by decide +kernel
theorem d_Gr_slot_86 : decode prog_1_method_9_code 86 = .ok (.if_icmp .ne 10, 3) := by decide +kernel
theorem d_Gr_slot_89 : decode prog_1_method_9_code 89 = .ok (.aload_n 3, 1) := by decide +kernel
theorem d_Gr_slot_90 : decode prog_1_method_9_code 90 = .ok (.getfield 90, 3) := by decide +kernel
theorem d_Gr_slot_93 : decode prog_1_method_9_code 93 = .ok (.goto 19, 3) := by decide +kernel
theorem d_Gr_slot_96 : decode prog_1_method_9_code 96 = .ok (.iload_n 2, 1) := by decide +kernel
theorem d_Gr_slot_97 : decode prog_1_method_9_code 97 = .ok (.iconst 2, 1) := by decide +kernel
theorem d_Gr_slot_98 : decode prog_1_method_9_code 98 = .ok (.if_icmp .ne 10, 3) := by decide +kernel
theorem d_Gr_slot_101 : decode prog_1_method_9_code 101 = .ok (.aload_n 3, 1) := by decide +kernel
theorem d_Gr_slot_102 : decode prog_1_method_9_code 102 = .ok (.getfield 168, 3) := by decide +kernel
theorem d_Gr_slot_105 : decode prog_1_method_9_code 105 = .ok (.goto 7, 3) := by decide +kernel
theorem d_Gr_slot_108 : decode prog_1_method_9_code 108 = .ok (.aload_n 3, 1) := by decide +kernel
theorem d_Gr_slot_109 : decode prog_1_method_9_code 109 = .ok (.getfield 171, 3) := by decide +kernel
theorem d_Gr_slot_112 : decode prog_1_method_9_code 112 = .ok (.ireturn, 1) := by decide +kernel
theorem d_Sh_find_0 : decode prog_3_method_2_code 0 = .ok (.aload_n 0, 1) := by decide +kernel
theorem d_Sh_find_1 : decode prog_3_method_2_code 1 = .ok (.getfield 9, 3) := by decide +kernel
theorem d_Sh_find_4 : decode prog_3_method_2_code 4 = .ok (.tableswitch 580 0 18 #[92, 92, 92, 92, 123, 165, 195, 213, 249, 277, 331, 331, 342, 354, 385, 447, 489, 522, 165], 92) := by decide +kernel
theorem d_Sh_find_96 : decode prog_3_method_2_code 96 = .ok (.aload_n 1, 1) := by decide +kernel
theorem d_Sh_find_97 : decode prog_3_method_2_code 97 = .ok (.getfield 15, 3) := by decide +kernel
theorem d_Sh_find_100 : decode prog_3_method_2_code 100 = .ok (.aload_n 2, 1) := by decide +kernel
theorem d_Sh_find_101 : decode prog_3_method_2_code 101 = .ok (.getfield 15, 3) := by decide +kernel
theorem d_Sh_find_104 : decode prog_3_method_2_code 104 = .ok (.if_icmp .ne 21, 3) := by decide +kernel
theorem d_Sh_find_107 : decode prog_3_method_2_code 107 = .ok (.aload_n 1, 1) := by decide +kernel
theorem d_Sh_find_108 : decode prog_3_method_2_code 108 = .ok (.aload_n 2, 1) := by decide +kernel
theorem d_Sh_find_109 : decode prog_3_method_2_code 109 = .ok (.aload_n 1, 1) := by decide +kernel
theorem d_Sh_find_110 : decode prog_3_method_2_code 110 = .ok (.getfield 15, 3) := by decide +kernel
theorem d_Sh_find_113 : decode prog_3_method_2_code 113 = .ok (.aload 4, 2) := by decide +kernel
theorem d_Sh_find_115 : decode prog_3_method_2_code 115 = .ok (.invokestatic 20, 3) := by decide +kernel
theorem d_Sh_find_118 : decode prog_3_method_2_code 118 = .ok (.ifCond .eq 7, 3) := by decide +kernel
theorem d_Sh_find_121 : decode prog_3_method_2_code 121 = .ok (.iconst 1, 1) := by decide +kernel
theorem d_Sh_find_122 : decode prog_3_method_2_code 122 = .ok (.goto 4, 3) := by decide +kernel
theorem d_Sh_find_125 : decode prog_3_method_2_code 125 = .ok (.iconst 0, 1) := by decide +kernel
theorem d_Sh_find_126 : decode prog_3_method_2_code 126 = .ok (.ireturn, 1) := by decide +kernel
theorem d_Sh_find_127 : decode prog_3_method_2_code 127 = .ok (.aload_n 1, 1) := by decide +kernel
theorem d_Sh_find_128 : decode prog_3_method_2_code 128 = .ok (.aload_n 2, 1) := by decide +kernel
theorem d_Sh_find_129 : decode prog_3_method_2_code 129 = .ok (.invokestatic 26, 3) := by decide +kernel
theorem d_Sh_find_132 : decode prog_3_method_2_code 132 = .ok (.ifCond .eq 35, 3) := by decide +kernel
theorem d_Sh_find_135 : decode prog_3_method_2_code 135 = .ok (.aload_n 1, 1) := by decide +kernel
theorem d_Sh_find_136 : decode prog_3_method_2_code 136 = .ok (.getfield 30, 3) := by decide +kernel
theorem d_Sh_find_139 : decode prog_3_method_2_code 139 = .ok (.aload_n 2, 1) := by decide +kernel
theorem d_Sh_find_140 : decode prog_3_method_2_code 140 = .ok (.getfield 33, 3) := by decide +kernel
theorem d_Sh_find_143 : decode prog_3_method_2_code 143 = .ok (.if_icmp .ne 24, 3) := by decide +kernel
theorem d_Sh_find_146 : decode prog_3_method_2_code 146 = .ok (.aload 4, 2) := by decide +kernel
theorem d_Sh_find_148 : decode prog_3_method_2_code 148 = .ok (.iconst 0, 1) := by decide +kernel
theorem d_Sh_find_149 : decode prog_3_method_2_code 149 = .ok (.aload_n 1, 1) := by decide +kernel
theorem d_Sh_find_150 : decode prog_3_method_2_code 150 = .ok (.getfield 33, 3) := by decide +kernel
theorem d_Sh_find_153 : decode prog_3_method_2_code 153 = .ok (.aload_n 2, 1) := by decide +kernel
theorem d_Sh_find_154 : decode prog_3_method_2_code 154 = .ok (.getfield 30, 3) := by decide +kernel
theorem d_Sh_find_157 : decode prog_3_method_2_code 157 = .ok (.invokevirtual 36, 3) := by decide +kernel
theorem d_Sh_find_160 : decode prog_3_method_2_code 160 = .ok (.ifCond .eq 7, 3) := by decide +kernel
theorem d_Sh_find_163 : decode prog_3_method_2_code 163 = .ok (.iconst 1, 1) := by decide +kernel
theorem d_Sh_find_164 : decode prog_3_method_2_code 164 = .ok (.goto 4, 3) := by decide +kernel
theorem d_Sh_find_167 : decode prog_3_method_2_code 167 = .ok (.iconst 0, 1) := by decide +kernel
theorem d_Sh_find_168 : decode prog_3_method_2_code 168 = .ok (.ireturn, 1) := by decide +kernel
theorem d_Sh_find_169 : decode prog_3_method_2_code 169 = .ok (.aload_n 1, 1) := by decide +kernel
theorem d_Sh_find_170 : decode prog_3_method_2_code 170 = .ok (.getfield 15, 3) := by decide +kernel
theorem d_Sh_find_173 : decode prog_3_method_2_code 173 = .ok (.ifCond .ne 24, 3) := by decide +kernel
theorem d_Sh_find_176 : decode prog_3_method_2_code 176 = .ok (.aload 4, 2) := by decide +kernel
theorem d_Sh_find_178 : decode prog_3_method_2_code 178 = .ok (.iconst 0, 1) := by decide +kernel
theorem d_Sh_find_179 : decode prog_3_method_2_code 179 = .ok (.aload_n 1, 1) := by decide +kernel
theorem d_Sh_find_180 : decode prog_3_method_2_code 180 = .ok (.getfield 33, 3) := by decide +kernel
theorem d_Sh_find_183 : decode prog_3_method_2_code 183 = .ok (.aload_n 1, 1) := by decide +kernel
theorem d_Sh_find_184 : decode prog_3_method_2_code 184 = .ok (.getfield 30, 3) := by decide +kernel
theorem d_Sh_find_187 : decode prog_3_method_2_code 187 = .ok (.invokevirtual 36, 3) := by decide +kernel
theorem d_Sh_find_190 : decode prog_3_method_2_code 190 = .ok (.ifCond .eq 7, 3) := by decide +kernel
theorem d_Sh_find_193 : decode prog_3_method_2_code 193 = .ok (.iconst 1, 1) := by decide +kernel
theorem d_Sh_find_194 : decode prog_3_method_2_code 194 = .ok (.goto 4, 3) := by decide +kernel
theorem d_Sh_find_197 : decode prog_3_method_2_code 197 = .ok (.iconst 0, 1) := by decide +kernel
theorem d_Sh_find_198 : decode prog_3_method_2_code 198 = .ok (.ireturn, 1) := by decide +kernel
theorem d_Sh_find_199 : decode prog_3_method_2_code 199 = .ok (.aload 4, 2) := by decide +kernel
theorem d_Sh_find_201 : decode prog_3_method_2_code 201 = .ok (.aload_n 1, 1) := by decide +kernel
theorem d_Sh_find_202 : decode prog_3_method_2_code 202 = .ok (.getfield 15, 3) := by decide +kernel
theorem d_Sh_find_205 : decode prog_3_method_2_code 205 = .ok (.aload_n 1, 1) := by decide +kernel
theorem d_Sh_find_206 : decode prog_3_method_2_code 206 = .ok (.getfield 30, 3) := by decide +kernel
theorem d_Sh_find_209 : decode prog_3_method_2_code 209 = .ok (.aload_n 1, 1) := by decide +kernel
theorem d_Sh_find_210 : decode prog_3_method_2_code 210 = .ok (.getfield 33, 3) := by decide +kernel
theorem d_Sh_find_213 : decode prog_3_method_2_code 213 = .ok (.invokevirtual 36, 3) := by decide +kernel
theorem d_Sh_find_216 : decode prog_3_method_2_code 216 = .ok (.ireturn, 1) := by decide +kernel
theorem d_Sh_find_217 : decode prog_3_method_2_code 217 = .ok (.aload_n 0, 1) := by decide +kernel
theorem d_Sh_find_218 : decode prog_3_method_2_code 218 = .ok (.getfield 40, 3) := by decide +kernel
theorem d_Sh_find_221 : decode prog_3_method_2_code 221 = .ok (.invokestatic 43, 3) := by decide +kernel
theorem d_Sh_find_224 : decode prog_3_method_2_code 224 = .ok (.ifCond .eq 27, 3) := by decide +kernel
theorem d_Sh_find_227 : decode prog_3_method_2_code 227 = .ok (.aload 4, 2) := by decide +kernel
theorem d_Sh_find_229 : decode prog_3_method_2_code 229 = .ok (.aload_n 0, 1) := by decide +kernel
theorem d_Sh_find_230 : decode prog_3_method_2_code 230 = .ok (.getfield 40, 3) := by decide +kernel
theorem d_Sh_find_233 : decode prog_3_method_2_code 233 = .ok (.aload_n 1, 1) := by decide +kernel
theorem d_Sh_find_234 : decode prog_3_method_2_code 234 = .ok (.getfield 33, 3) := by decide +kernel
theorem d_Sh_find_237 : decode prog_3_method_2_code 237 = .ok (.aload_n 1, 1) := by decide +kernel
theorem d_Sh_find_238 : decode prog_3_method_2_code 238 = .ok (.getfield 30, 3) := by decide +kernel
theorem d_Sh_find_241 : decode prog_3_method_2_code 241 = .ok (.invokevirtual 36, 3) := by decide +kernel
theorem d_Sh_find_244 : decode prog_3_method_2_code 244 = .ok (.ifCond .eq 7, 3) := by decide +kernel
theorem d_Sh_find_247 : decode prog_3_method_2_code 247 = .ok (.iconst 1, 1) := by decide +kernel
theorem d_Sh_find_248 : decode prog_3_method_2_code 248 = .ok (.goto 4, 3) := by decide +kernel
theorem d_Sh_find_251 : decode prog_3_method_2_code 251 = .ok (.iconst 0, 1) := by decide +kernel
theorem d_Sh_find_252 : decode prog_3_method_2_code 252 = .ok (.ireturn, 1) := by decide +kernel
theorem d_Sh_find_253 : decode prog_3_method_2_code 253 = .ok (.aload_n 1, 1) := by decide +kernel
theorem d_Sh_find_254 : decode prog_3_method_2_code 254 = .ok (.getfield 15, 3) := by decide +kernel
theorem d_Sh_find_257 : decode prog_3_method_2_code 257 = .ok (.aload_n 2, 1) := by decide +kernel
theorem d_Sh_find_258 : decode prog_3_method_2_code 258 = .ok (.getfield 15, 3) := by decide +kernel
theorem d_Sh_find_261 : decode prog_3_method_2_code 261 = .ok (.if_icmp .ne 18, 3) := by decide +kernel
theorem d_Sh_find_264 : decode prog_3_method_2_code 264 = .ok (.aload_n 1, 1) := by decide +kernel
theorem d_Sh_find_265 : decode prog_3_method_2_code 265 = .ok (.aload_n 2, 1) := by decide +kernel
theorem d_Sh_find_266 : decode prog_3_method_2_code 266 = .ok (.iconst 1, 1) := by decide +kernel
theorem d_Sh_find_267 : decode prog_3_method_2_code 267 = .ok (.aload 4, 2) := by decide +kernel
theorem d_Sh_find_269 : decode prog_3_method_2_code 269 = .ok (.invokestatic 20, 3) := by decide +kernel
theorem d_Sh_find_272 : decode prog_3_method_2_code 272 = .ok (.ifCond .eq 7, 3) := by decide +kernel
theorem d_Sh_find_275 : decode prog_3_method_2_code 275 = .ok (.iconst 1, 1) := by decide +kernel
theorem d_Sh_find_276 : decode prog_3_method_2_code 276 = .ok (.goto 4, 3) := by decide +kernel
theorem d_Sh_find_279 : decode prog_3_method_2_code 279 = .ok (.iconst 0, 1) := by decide +kernel
theorem d_Sh_find_280 : decode prog_3_method_2_code 280 = .ok (.ireturn, 1) := by decide +kernel
theorem d_Sh_find_281 : decode prog_3_method_2_code 281 = .ok (.aload_n 3, 1) := by decide +kernel
theorem d_Sh_find_282 : decode prog_3_method_2_code 282 = .ok (.getfield 15, 3) := by decide +kernel
theorem d_Sh_find_285 : decode prog_3_method_2_code 285 = .ok (.iconst 1, 1) := by decide +kernel
theorem d_Sh_find_286 : decode prog_3_method_2_code 286 = .ok (.if_icmp .ne 47, 3) := by decide +kernel
theorem d_Sh_find_289 : decode prog_3_method_2_code 289 = .ok (.aload_n 1, 1) := by decide +kernel
end
section
theorem d_Sh_find_290 : decode prog_3_method_2_code 290 = .ok (.getfield 15, 3) := by decide +kernel
theorem d_Sh_find_293 : decode prog_3_method_2_code 293 = .ok (.aload_n 2, 1) := by decide +kernel
theorem d_Sh_find_294 : decode prog_3_method_2_code 294 = .ok (.getfield 15, 3) := by decide +kernel
theorem d_Sh_find_297 : decode prog_3_method_2_code 297 = .ok (.if_icmp .ne 36, 3) := by decide +kernel
theorem d_Sh_find_300 : decode prog_3_method_2_code 300 = .ok (.aload_n 1, 1) := by decide +kernel
theorem d_Sh_find_301 : decode prog_3_method_2_code 301 = .ok (.aload_n 2, 1) := by decide +kernel
theorem d_Sh_find_302 : decode prog_3_method_2_code 302 = .ok (.aload_n 1, 1) := by decide +kernel
theorem d_Sh_find_303 : decode prog_3_method_2_code 303 = .ok (.getfield 15, 3) := by decide +kernel
theorem d_Sh_find_306 : decode prog_3_method_2_code 306 = .ok (.aload 4, 2) := by decide +kernel
theorem d_Sh_find_308 : decode prog_3_method_2_code 308 = .ok (.invokestatic 20, 3) := by decide +kernel
theorem d_Sh_find_311 : decode prog_3_method_2_code 311 = .ok (.ifCond .eq 22, 3) := by decide +kernel
theorem d_Sh_find_314 : decode prog_3_method_2_code 314 = .ok (.aload 4, 2) := by decide +kernel
theorem d_Sh_find_316 : decode prog_3_method_2_code 316 = .ok (.aload_n 3, 1) := by decide +kernel
theorem d_Sh_find_317 : decode prog_3_method_2_code 317 = .ok (.aload_n 1, 1) := by decide +kernel
theorem d_Sh_find_318 : decode prog_3_method_2_code 318 = .ok (.getfield 15, 3) := by decide +kernel
theorem d_Sh_find_321 : decode prog_3_method_2_code 321 = .ok (.aload 4, 2) := by decide +kernel
theorem d_Sh_find_323 : decode prog_3_method_2_code 323 = .ok (.invokestatic 20, 3) := by decide +kernel
theorem d_Sh_find_326 : decode prog_3_method_2_code 326 = .ok (.ifCond .eq 7, 3) := by decide +kernel
theorem d_Sh_find_329 : decode prog_3_method_2_code 329 = .ok (.iconst 1, 1) := by decide +kernel
theorem d_Sh_find_330 : decode prog_3_method_2_code 330 = .ok (.goto 4, 3) := by decide +kernel
theorem d_Sh_find_333 : decode prog_3_method_2_code 333 = .ok (.iconst 0, 1) := by decide +kernel
theorem d_Sh_find_334 : decode prog_3_method_2_code 334 = .ok (.ireturn, 1) := by decide +kernel
theorem d_Sh_find_335 : decode prog_3_method_2_code 335 = .ok (.aload_n 0, 1) := by decide +kernel
theorem d_Sh_find_336 : decode prog_3_method_2_code 336 = .ok (.getfield 40, 3) := by decide +kernel
theorem d_Sh_find_339 : decode prog_3_method_2_code 339 = .ok (.aload_n 1, 1) := by decide +kernel
theorem d_Sh_find_340 : decode prog_3_method_2_code 340 = .ok (.aload 4, 2) := by decide +kernel
theorem d_Sh_find_342 : decode prog_3_method_2_code 342 = .ok (.invokestatic 47, 3) := by decide +kernel
theorem d_Sh_find_345 : decode prog_3_method_2_code 345 = .ok (.ireturn, 1) := by decide +kernel
theorem d_Sh_find_346 : decode prog_3_method_2_code 346 = .ok (.aload 4, 2) := by decide +kernel
theorem d_Sh_find_348 : decode prog_3_method_2_code 348 = .ok (.iconst 1, 1) := by decide +kernel
theorem d_Sh_find_349 : decode prog_3_method_2_code 349 = .ok (.aload_n 1, 1) := by decide +kernel
theorem d_Sh_find_350 : decode prog_3_method_2_code 350 = .ok (.getfield 33, 3) := by decide +kernel
theorem d_Sh_find_353 : decode prog_3_method_2_code 353 = .ok (.iconst 1, 1) := by decide +kernel
theorem d_Sh_find_354 : decode prog_3_method_2_code 354 = .ok (.invokevirtual 36, 3) := by decide +kernel
theorem d_Sh_find_357 : decode prog_3_method_2_code 357 = .ok (.ireturn, 1) := by decide +kernel
theorem d_Sh_find_358 : decode prog_3_method_2_code 358 = .ok (.aload_n 1, 1) := by decide +kernel
theorem d_Sh_find_359 : decode prog_3_method_2_code 359 = .ok (.getfield 15, 3) := by decide +kernel
theorem d_Sh_find_362 : decode prog_3_method_2_code 362 = .ok (.aload_n 2, 1) := by decide +kernel
theorem d_Sh_find_363 : decode prog_3_method_2_code 363 = .ok (.getfield 15, 3) := by decide +kernel
theorem d_Sh_find_366 : decode prog_3_method_2_code 366 = .ok (.if_icmp .ne 21, 3) := by decide +kernel
theorem d_Sh_find_369 : decode prog_3_method_2_code 369 = .ok (.aload_n 0, 1) := by decide +kernel
theorem d_Sh_find_370 : decode prog_3_method_2_code 370 = .ok (.getfield 40, 3) := by decide +kernel
theorem d_Sh_find_373 : decode prog_3_method_2_code 373 = .ok (.aload_n 1, 1) := by decide +kernel
theorem d_Sh_find_374 : decode prog_3_method_2_code 374 = .ok (.aload_n 2, 1) := by decide +kernel
theorem d_Sh_find_375 : decode prog_3_method_2_code 375 = .ok (.aload 4, 2) := by decide +kernel
theorem d_Sh_find_377 : decode prog_3_method_2_code 377 = .ok (.invokestatic 51, 3) := by decide +kernel
theorem d_Sh_find_380 : decode prog_3_method_2_code 380 = .ok (.ifCond .eq 7, 3) := by decide +kernel
theorem d_Sh_find_383 : decode prog_3_method_2_code 383 = .ok (.iconst 1, 1) := by decide +kernel
theorem d_Sh_find_384 : decode prog_3_method_2_code 384 = .ok (.goto 4, 3) := by decide +kernel
theorem d_Sh_find_387 : decode prog_3_method_2_code 387 = .ok (.iconst 0, 1) := by decide +kernel
theorem d_Sh_find_388 : decode prog_3_method_2_code 388 = .ok (.ireturn, 1) := by decide +kernel
theorem d_Sh_find_389 : decode prog_3_method_2_code 389 = .ok (.aload_n 0, 1) := by decide +kernel
theorem d_Sh_find_390 : decode prog_3_method_2_code 390 = .ok (.getfield 40, 3) := by decide +kernel
theorem d_Sh_find_393 : decode prog_3_method_2_code 393 = .ok (.ifCond .lt 56, 3) := by decide +kernel
theorem d_Sh_find_396 : decode prog_3_method_2_code 396 = .ok (.aload_n 0, 1) := by decide +kernel
theorem d_Sh_find_397 : decode prog_3_method_2_code 397 = .ok (.getfield 40, 3) := by decide +kernel
theorem d_Sh_find_400 : decode prog_3_method_2_code 400 = .ok (.aload_n 0, 1) := by decide +kernel
theorem d_Sh_find_401 : decode prog_3_method_2_code 401 = .ok (.getfield 55, 3) := by decide +kernel
theorem d_Sh_find_404 : decode prog_3_method_2_code 404 = .ok (.if_icmp .gt 45, 3) := by decide +kernel
theorem d_Sh_find_407 : decode prog_3_method_2_code 407 = .ok (.aload_n 0, 1) := by decide +kernel
theorem d_Sh_find_408 : decode prog_3_method_2_code 408 = .ok (.getfield 55, 3) := by decide +kernel
theorem d_Sh_find_411 : decode prog_3_method_2_code 411 = .ok (.aload_n 1, 1) := by decide +kernel
theorem d_Sh_find_412 : decode prog_3_method_2_code 412 = .ok (.getfield 33, 3) := by decide +kernel
theorem d_Sh_find_415 : decode prog_3_method_2_code 415 = .ok (.if_icmp .ge 34, 3) := by decide +kernel
theorem d_Sh_find_418 : decode prog_3_method_2_code 418 = .ok (.aload 4, 2) := by decide +kernel
theorem d_Sh_find_420 : decode prog_3_method_2_code 420 = .ok (.aload_n 1, 1) := by decide +kernel
theorem d_Sh_find_421 : decode prog_3_method_2_code 421 = .ok (.getfield 15, 3) := by decide +kernel
theorem d_Sh_find_424 : decode prog_3_method_2_code 424 = .ok (.aload_n 0, 1) := by decide +kernel
theorem d_Sh_find_425 : decode prog_3_method_2_code 425 = .ok (.getfield 55, 3) := by decide +kernel
theorem d_Sh_find_428 : decode prog_3_method_2_code 428 = .ok (.aload_n 0, 1) := by decide +kernel
theorem d_Sh_find_429 : decode prog_3_method_2_code 429 = .ok (.getfield 40, 3) := by decide +kernel
theorem d_Sh_find_432 : decode prog_3_method_2_code 432 = .ok (.isub, 1) := by decide +kernel
theorem d_Sh_find_433 : decode prog_3_method_2_code 433 = .ok (.iconst 1, 1) := by decide +kernel
theorem d_Sh_find_434 : decode prog_3_method_2_code 434 = .ok (.iadd, 1) := by decide +kernel
theorem d_Sh_find_435 : decode prog_3_method_2_code 435 = .ok (.aload_n 1, 1) := by decide +kernel
theorem d_Sh_find_436 : decode prog_3_method_2_code 436 = .ok (.getfield 30, 3) := by decide +kernel
theorem d_Sh_find_439 : decode prog_3_method_2_code 439 = .ok (.invokevirtual 36, 3) := by decide +kernel
theorem d_Sh_find_442 : decode prog_3_method_2_code 442 = .ok (.ifCond .eq 7, 3) := by decide +kernel
theorem d_Sh_find_445 : decode prog_3_method_2_code 445 = .ok (.iconst 1, 1) := by decide +kernel
theorem d_Sh_find_446 : decode prog_3_method_2_code 446 = .ok (.goto 4, 3) := by decide +kernel
theorem d_Sh_find_449 : decode prog_3_method_2_code 449 = .ok (.iconst 0, 1) := by decide +kernel
theorem d_Sh_find_450 : decode prog_3_method_2_code 450 = .ok (.ireturn, 1) := by decide +kernel
theorem d_Sh_find_451 : decode prog_3_method_2_code 451 = .ok (.aload_n 2, 1) := by decide +kernel
theorem d_Sh_find_452 : decode prog_3_method_2_code 452 = .ok (.getfield 15, 3) := by decide +kernel
theorem d_Sh_find_455 : decode prog_3_method_2_code 455 = .ok (.iconst 1, 1) := by decide +kernel
theorem d_Sh_find_456 : decode prog_3_method_2_code 456 = .ok (.if_icmp .ne 35, 3) := by decide +kernel
theorem d_Sh_find_459 : decode prog_3_method_2_code 459 = .ok (.aload_n 2, 1) := by decide +kernel
theorem d_Sh_find_460 : decode prog_3_method_2_code 460 = .ok (.getfield 33, 3) := by decide +kernel
theorem d_Sh_find_463 : decode prog_3_method_2_code 463 = .ok (.iconst 1, 1) := by decide +kernel
theorem d_Sh_find_464 : decode prog_3_method_2_code 464 = .ok (.if_icmp .ne 27, 3) := by decide +kernel
theorem d_Sh_find_467 : decode prog_3_method_2_code 467 = .ok (.aload 4, 2) := by decide +kernel
theorem d_Sh_find_469 : decode prog_3_method_2_code 469 = .ok (.aload_n 1, 1) := by decide +kernel
theorem d_Sh_find_470 : decode prog_3_method_2_code 470 = .ok (.getfield 15, 3) := by decide +kernel
theorem d_Sh_find_473 : decode prog_3_method_2_code 473 = .ok (.aload_n 2, 1) := by decide +kernel
theorem d_Sh_find_474 : decode prog_3_method_2_code 474 = .ok (.getfield 30, 3) := by decide +kernel
theorem d_Sh_find_477 : decode prog_3_method_2_code 477 = .ok (.aload_n 1, 1) := by decide +kernel
theorem d_Sh_find_478 : decode prog_3_method_2_code 478 = .ok (.getfield 30, 3) := by decide +kernel
theorem d_Sh_find_481 : decode prog_3_method_2_code 481 = .ok (.invokevirtual 36, 3) := by decide +kernel
theorem d_Sh_find_484 : decode prog_3_method_2_code 484 = .ok (.ifCond .eq 7, 3) := by decide +kernel
theorem d_Sh_find_487 : decode prog_3_method_2_code 487 = .ok (.iconst 1, 1) := by decide +kernel
theorem d_Sh_find_488 : decode prog_3_method_2_code 488 = .ok (.goto 4, 3) := by decide +kernel
theorem d_Sh_find_491 : decode prog_3_method_2_code 491 = .ok (.iconst 0, 1) := by decide +kernel
theorem d_Sh_find_492 : decode prog_3_method_2_code 492 = .ok (.ireturn, 1) := by decide +kernel
theorem d_Sh_find_493 : decode prog_3_method_2_code 493 = .ok (.aload_n 1, 1) := by decide +kernel
theorem d_Sh_find_494 : decode prog_3_method_2_code 494 = .ok (.aload_n 2, 1) := by decide +kernel
theorem d_Sh_find_495 : decode prog_3_method_2_code 495 = .ok (.invokestatic 26, 3) := by decide +kernel
theorem d_Sh_find_498 : decode prog_3_method_2_code 498 = .ok (.ifCond .eq 26, 3) := by decide +kernel
theorem d_Sh_find_501 : decode prog_3_method_2_code 501 = .ok (.aload_n 2, 1) := by decide +kernel
theorem d_Sh_find_502 : decode prog_3_method_2_code 502 = .ok (.getfield 33, 3) := by decide +kernel
theorem d_Sh_find_505 : decode prog_3_method_2_code 505 = .ok (.iconst 1, 1) := by decide +kernel
theorem d_Sh_find_506 : decode prog_3_method_2_code 506 = .ok (.if_icmp .ne 18, 3) := by decide +kernel
theorem d_Sh_find_509 : decode prog_3_method_2_code 509 = .ok (.aload_n 0, 1) := by decide +kernel
theorem d_Sh_find_510 : decode prog_3_method_2_code 510 = .ok (.aload_n 1, 1) := by decide +kernel
theorem d_Sh_find_511 : decode prog_3_method_2_code 511 = .ok (.aload_n 2, 1) := by decide +kernel
theorem d_Sh_find_512 : decode prog_3_method_2_code 512 = .ok (.aload 4, 2) := by decide +kernel
theorem d_Sh_find_514 : decode prog_3_method_2_code 514 = .ok (.invokestatic 58, 3) := by decide +kernel
theorem d_Sh_find_517 : decode prog_3_method_2_code 517 = .ok (.ifCond .eq 7, 3) := by decide +kernel
theorem d_Sh_find_520 : decode prog_3_method_2_code 520 = .ok (.iconst 1, 1) := by decide +kernel
theorem d_Sh_find_521 : decode prog_3_method_2_code 521 = .ok (.goto 4, 3) := by decide +kernel
theorem d_Sh_find_524 : decode prog_3_method_2_code 524 = .ok (.iconst 0, 1) := by decide +kernel
theorem d_Sh_find_525 : decode prog_3_method_2_code 525 = .ok (.ireturn, 1) := by decide +kernel
theorem d_Sh_find_526 : decode prog_3_method_2_code 526 = .ok (.aload_n 3, 1) := by decide +kernel
theorem d_Sh_find_527 : decode prog_3_method_2_code 527 = .ok (.getfield 15, 3) := by decide +kernel
theorem d_Sh_find_530 : decode prog_3_method_2_code 530 = .ok (.iconst 1, 1) := by decide +kernel
theorem d_Sh_find_531 : decode prog_3_method_2_code 531 = .ok (.if_icmp .ne 51, 3) := by decide +kernel
theorem d_Sh_find_534 : decode prog_3_method_2_code 534 = .ok (.aload_n 3, 1) := by decide +kernel
theorem d_Sh_find_535 : decode prog_3_method_2_code 535 = .ok (.getfield 33, 3) := by decide +kernel
theorem d_Sh_find_538 : decode prog_3_method_2_code 538 = .ok (.iconst 1, 1) := by decide +kernel
theorem d_Sh_find_539 : decode prog_3_method_2_code 539 = .ok (.if_icmp .ne 43, 3) := by decide +kernel
theorem d_Sh_find_542 : decode prog_3_method_2_code 542 = .ok (.aload_n 3, 1) := by decide +kernel
theorem d_Sh_find_543 : decode prog_3_method_2_code 543 = .ok (.getfield 30, 3) := by decide +kernel
theorem d_Sh_find_546 : decode prog_3_method_2_code 546 = .ok (.iconst 1, 1) := by decide +kernel
theorem d_Sh_find_547 : decode prog_3_method_2_code 547 = .ok (.if_icmp .ne 35, 3) := by decide +kernel
theorem d_Sh_find_550 : decode prog_3_method_2_code 550 = .ok (.aload_n 1, 1) := by decide +kernel
theorem d_Sh_find_551 : decode prog_3_method_2_code 551 = .ok (.aload_n 2, 1) := by decide +kernel
theorem d_Sh_find_552 : decode prog_3_method_2_code 552 = .ok (.invokestatic 62, 3) := by decide +kernel
theorem d_Sh_find_555 : decode prog_3_method_2_code 555 = .ok (.ifCond .eq 27, 3) := by decide +kernel
theorem d_Sh_find_558 : decode prog_3_method_2_code 558 = .ok (.aload 4, 2) := by decide +kernel
theorem d_Sh_find_560 : decode prog_3_method_2_code 560 = .ok (.aload_n 1, 1) := by decide +kernel
theorem d_Sh_find_561 : decode prog_3_method_2_code 561 = .ok (.getfield 15, 3) := by decide +kernel
theorem d_Sh_find_564 : decode prog_3_method_2_code 564 = .ok (.aload_n 1, 1) := by decide +kernel
theorem d_Sh_find_565 : decode prog_3_method_2_code 565 = .ok (.getfield 33, 3) := by decide +kernel
theorem d_Sh_find_568 : decode prog_3_method_2_code 568 = .ok (.aload_n 1, 1) := by decide +kernel
theorem d_Sh_find_569 : decode prog_3_method_2_code 569 = .ok (.getfield 30, 3) := by decide +kernel
theorem d_Sh_find_572 : decode prog_3_method_2_code 572 = .ok (.invokevirtual 36, 3) := by decide +kernel
theorem d_Sh_find_575 : decode prog_3_method_2_code 575 = .ok (.ifCond .eq 7, 3) := by decide +kernel
theorem d_Sh_find_578 : decode prog_3_method_2_code 578 = .ok (.iconst 1, 1) := by decide +kernel
theorem d_Sh_find_579 : decode prog_3_method_2_code 579 = .ok (.goto 4, 3) := by decide +kernel
theorem d_Sh_find_582 : decode prog_3_method_2_code 582 = .ok (.iconst 0, 1) := by decide +kernel
theorem d_Sh_find_583 : decode prog_3_method_2_code 583 = .ok (.ireturn, 1) := by decide +kernel
theorem d_Sh_find_584 : decode prog_3_method_2_code 584 = .ok (.iconst 0, 1) := by decide +kernel
theorem d_Sh_find_585 : decode prog_3_method_2_code 585 = .ok (.ireturn, 1) := by decide +kernel
theorem d_Sh_fit_0 : decode prog_3_method_5_code 0 = .ok (.aload_n 0, 1) := by decide +kernel
theorem d_Sh_fit_1 : decode prog_3_method_5_code 1 = .ok (.getfield 33, 3) := by decide +kernel
theorem d_Sh_fit_4 : decode prog_3_method_5_code 4 = .ok (.aload_n 1, 1) := by decide +kernel
theorem d_Sh_fit_5 : decode prog_3_method_5_code 5 = .ok (.getfield 33, 3) := by decide +kernel
theorem d_Sh_fit_8 : decode prog_3_method_5_code 8 = .ok (.invokestatic 65, 3) := by decide +kernel
theorem d_Sh_fit_11 : decode prog_3_method_5_code 11 = .ok (.ifCond .eq 51, 3) := by decide +kernel
theorem d_Sh_fit_14 : decode prog_3_method_5_code 14 = .ok (.aload_n 0, 1) := by decide +kernel
theorem d_Sh_fit_15 : decode prog_3_method_5_code 15 = .ok (.getfield 30, 3) := by decide +kernel
theorem d_Sh_fit_18 : decode prog_3_method_5_code 18 = .ok (.aload_n 1, 1) := by decide +kernel
theorem d_Sh_fit_19 : decode prog_3_method_5_code 19 = .ok (.getfield 30, 3) := by decide +kernel
theorem d_Sh_fit_22 : decode prog_3_method_5_code 22 = .ok (.invokestatic 65, 3) := by decide +kernel
theorem d_Sh_fit_25 : decode prog_3_method_5_code 25 = .ok (.ifCond .eq 37, 3) := by decide +kernel
theorem d_Sh_fit_28 : decode prog_3_method_5_code 28 = .ok (.aload_n 3, 1) := by decide +kernel
theorem d_Sh_fit_29 : decode prog_3_method_5_code 29 = .ok (.iload_n 2, 1) := by decide +kernel
theorem d_Sh_fit_30 : decode prog_3_method_5_code 30 = .ok (.aload_n 0, 1) := by decide +kernel
theorem d_Sh_fit_31 : decode prog_3_method_5_code 31 = .ok (.getfield 33, 3) := by decide +kernel
theorem d_Sh_fit_34 : decode prog_3_method_5_code 34 = .ok (.aload_n 1, 1) := by decide +kernel
theorem d_Sh_fit_35 : decode prog_3_method_5_code 35 = .ok (.getfield 33, 3) := by decide +kernel
theorem d_Sh_fit_38 : decode prog_3_method_5_code 38 = .ok (.invokestatic 69, 3) := by decide +kernel
theorem d_Sh_fit_41 : decode prog_3_method_5_code 41 = .ok (.aload_n 0, 1) := by decide +kernel
theorem d_Sh_fit_42 : decode prog_3_method_5_code 42 = .ok (.getfield 30, 3) := by decide +kernel
theorem d_Sh_fit_45 : decode prog_3_method_5_code 45 = .ok (.aload_n 1, 1) := by decide +kernel
theorem d_Sh_fit_46 : decode prog_3_method_5_code 46 = .ok (.getfield 30, 3) := by decide +kernel
theorem d_Sh_fit_49 : decode prog_3_method_5_code 49 = .ok (.invokestatic 69, 3) := by decide +kernel
theorem d_Sh_fit_52 : decode prog_3_method_5_code 52 = .ok (.invokevirtual 36, 3) := by decide +kernel
theorem d_Sh_fit_55 : decode prog_3_method_5_code 55 = .ok (.ifCond .eq 7, 3) := by decide +kernel
theorem d_Sh_fit_58 : decode prog_3_method_5_code 58 = .ok (.iconst 1, 1) := by decide +kernel
theorem d_Sh_fit_59 : decode prog_3_method_5_code 59 = .ok (.goto 4, 3) := by decide +kernel
theorem d_Sh_fit_62 : decode prog_3_method_5_code 62 = .ok (.iconst 0, 1) := by decide +kernel
theorem d_Sh_fit_63 : decode prog_3_method_5_code 63 = .ok (.ireturn, 1) := by decide +kernel
theorem d_Sh_sidesFit_0 : decode prog_3_method_6_code 0 = .ok (.iload_n 0, 1) := by decide +kernel
theorem d_Sh_sidesFit_1 : decode prog_3_method_6_code 1 = .ok (.iload_n 1, 1) := by decide +kernel
theorem d_Sh_sidesFit_2 : decode prog_3_method_6_code 2 = .ok (.if_icmp .eq 13, 3) := by decide +kernel
theorem d_Sh_sidesFit_5 : decode prog_3_method_6_code 5 = .ok (.iload_n 0, 1) := by decide +kernel
theorem d_Sh_sidesFit_6 : decode prog_3_method_6_code 6 = .ok (.iconst 1, 1) := by decide +kernel
theorem d_Sh_sidesFit_7 : decode prog_3_method_6_code 7 = .ok (.if_icmp .eq 8, 3) := by decide +kernel
theorem d_Sh_sidesFit_10 : decode prog_3_method_6_code 10 = .ok (.iload_n 1, 1) := by decide +kernel
theorem d_Sh_sidesFit_11 : decode prog_3_method_6_code 11 = .ok (.iconst 1, 1) := by decide +kernel
theorem d_Sh_sidesFit_12 : decode prog_3_method_6_code 12 = .ok (.if_icmp .ne 7, 3) := by decide +kernel
theorem d_Sh_sidesFit_15 : decode prog_3_method_6_code 15 = .ok (.iconst 1, 1) := by decide +kernel
theorem d_Sh_sidesFit_16 : decode prog_3_method_6_code 16 = .ok (.goto 4, 3) := by decide +kernel
theorem d_Sh_sidesFit_19 : decode prog_3_method_6_code 19 = .ok (.iconst 0, 1) := by decide +kernel
theorem d_Sh_sidesFit_20 : decode prog_3_method_6_code 20 = .ok (.ireturn, 1) := by decide +kernel
theorem d_Sh_areFloats_0 : decode prog_3_method_3_code 0 = .ok (.aload_n 0, 1) := by decide +kernel
theorem d_Sh_areFloats_1 : decode prog_3_method_3_code 1 = .ok (.getfield 15, 3) := by decide +kernel
theorem d_Sh_areFloats_4 : decode prog_3_method_3_code 4 = .ok (.ifCond .ne 14, 3) := by decide +kernel
theorem d_Sh_areFloats_7 : decode prog_3_method_3_code 7 = .ok (.aload_n 1, 1) := by decide +kernel
theorem d_Sh_areFloats_8 : decode prog_3_method_3_code 8 = .ok (.getfield 15, 3) := by decide +kernel
theorem d_Sh_areFloats_11 : decode prog_3_method_3_code 11 = .ok (.ifCond .ne 7, 3) := by decide +kernel
theorem d_Sh_areFloats_14 : decode prog_3_method_3_code 14 = .ok (.iconst 1, 1) := by decide +kernel
theorem d_Sh_areFloats_15 : decode prog_3_method_3_code 15 = .ok (.goto 4, 3) := by decide +kernel
theorem d_Sh_areFloats_18 : decode prog_3_method_3_code 18 = .ok (.iconst 0, 1) := by decide +kernel
theorem d_Sh_areFloats_19 : decode prog_3_method_3_code 19 = .ok (.ireturn, 1) := by decide +kernel
theorem d_Sh_findGathered_0 : decode prog_3_method_7_code 0 = .ok (.iload_n 0, 1) := by decide +kernel
theorem d_Sh_findGathered_1 : decode prog_3_method_7_code 1 = .ok (.ifCond .ne 17, 3) := by decide +kernel
theorem d_Sh_findGathered_4 : decode prog_3_method_7_code 4 = .ok (.aload_n 2, 1) := by decide +kernel
theorem d_Sh_findGathered_5 : decode prog_3_method_7_code 5 = .ok (.aload_n 1, 1) := by decide +kernel
theorem d_Sh_findGathered_6 : decode prog_3_method_7_code 6 = .ok (.getfield 15, 3) := by decide +kernel
theorem d_Sh_findGathered_9 : decode prog_3_method_7_code 9 = .ok (.iconst 1, 1) := by decide +kernel
theorem d_Sh_findGathered_10 : decode prog_3_method_7_code 10 = .ok (.aload_n 1, 1) := by decide +kernel
theorem d_Sh_findGathered_11 : decode prog_3_method_7_code 11 = .ok (.getfield 30, 3) := by decide +kernel
theorem d_Sh_findGathered_14 : decode prog_3_method_7_code 14 = .ok (.invokevirtual 36, 3) := by decide +kernel
theorem d_Sh_findGathered_17 : decode prog_3_method_7_code 17 = .ok (.ireturn, 1) := by decide +kernel
theorem d_Sh_findGathered_18 : decode prog_3_method_7_code 18 = .ok (.iload_n 0, 1) := by decide +kernel
theorem d_Sh_findGathered_19 : decode prog_3_method_7_code 19 = .ok (.iconst 1, 1) := by decide +kernel
theorem d_Sh_findGathered_20 : decode prog_3_method_7_code 20 = .ok (.if_icmp .ne 23, 3) := by decide +kernel
theorem d_Sh_findGathered_23 : decode prog_3_method_7_code 23 = .ok (.aload_n 2, 1) := by decide +kernel
theorem d_Sh_findGathered_24 : decode prog_3_method_7_code 24 = .ok (.aload_n 1, 1) := by decide +kernel
theorem d_Sh_findGathered_25 : decode prog_3_method_7_code 25 = .ok (.getfield 15, 3) := by decide +kernel
theorem d_Sh_findGathered_28 : decode prog_3_method_7_code 28 = .ok (.aload_n 1, 1) := by decide +kernel
theorem d_Sh_findGathered_29 : decode prog_3_method_7_code 29 = .ok (.getfield 33, 3) := by decide +kernel
theorem d_Sh_findGathered_32 : decode prog_3_method_7_code 32 = .ok (.iconst 1, 1) := by decide +kernel
theorem d_Sh_findGathered_33 : decode prog_3_method_7_code 33 = .ok (.invokevirtual 36, 3) := by decide +kernel
theorem d_Sh_findGathered_36 : decode prog_3_method_7_code 36 = .ok (.ifCond .eq 7, 3) := by decide +kernel
theorem d_Sh_findGathered_39 : decode prog_3_method_7_code 39 = .ok (.iconst 1, 1) := by decide +kernel
theorem d_Sh_findGathered_40 : decode prog_3_method_7_code 40 = .ok (.goto 4, 3) := by decide +kernel
theorem d_Sh_findGathered_43 : decode prog_3_method_7_code 43 = .ok (.iconst 0, 1) := by decide +kernel
theorem d_Sh_findGathered_44 : decode prog_3_method_7_code 44 = .ok (.ireturn, 1) := by decide +kernel
theorem d_Sh_findJoined_0 : decode prog_3_method_8_code 0 = .ok (.iload_n 0, 1) := by decide +kernel
theorem d_Sh_findJoined_1 : decode prog_3_method_8_code 1 = .ok (.ifCond .ne 44, 3) := by decide +kernel
theorem d_Sh_findJoined_4 : decode prog_3_method_8_code 4 = .ok (.aload_n 1, 1) := by decide +kernel
theorem d_Sh_findJoined_5 : decode prog_3_method_8_code 5 = .ok (.getfield 30, 3) := by decide +kernel
theorem d_Sh_findJoined_8 : decode prog_3_method_8_code 8 = .ok (.aload_n 2, 1) := by decide +kernel
theorem d_Sh_findJoined_9 : decode prog_3_method_8_code 9 = .ok (.getfield 30, 3) := by decide +kernel
theorem d_Sh_findJoined_12 : decode prog_3_method_8_code 12 = .ok (.if_icmp .ne 31, 3) := by decide +kernel
theorem d_Sh_findJoined_15 : decode prog_3_method_8_code 15 = .ok (.aload_n 3, 1) := by decide +kernel
theorem d_Sh_findJoined_16 : decode prog_3_method_8_code 16 = .ok (.aload_n 1, 1) := by decide +kernel
theorem d_Sh_findJoined_17 : decode prog_3_method_8_code 17 = .ok (.getfield 15, 3) := by decide +kernel
theorem d_Sh_findJoined_20 : decode prog_3_method_8_code 20 = .ok (.aload_n 1, 1) := by decide +kernel
theorem d_Sh_findJoined_21 : decode prog_3_method_8_code 21 = .ok (.getfield 33, 3) := by decide +kernel
theorem d_Sh_findJoined_24 : decode prog_3_method_8_code 24 = .ok (.aload_n 2, 1) := by decide +kernel
theorem d_Sh_findJoined_25 : decode prog_3_method_8_code 25 = .ok (.getfield 33, 3) := by decide +kernel
theorem d_Sh_findJoined_28 : decode prog_3_method_8_code 28 = .ok (.iadd, 1) := by decide +kernel
theorem d_Sh_findJoined_29 : decode prog_3_method_8_code 29 = .ok (.aload_n 1, 1) := by decide +kernel
theorem d_Sh_findJoined_30 : decode prog_3_method_8_code 30 = .ok (.getfield 30, 3) := by decide +kernel
theorem d_Sh_findJoined_33 : decode prog_3_method_8_code 33 = .ok (.invokevirtual 36, 3) := by decide +kernel
theorem d_Sh_findJoined_36 : decode prog_3_method_8_code 36 = .ok (.ifCond .eq 7, 3) := by decide +kernel
theorem d_Sh_findJoined_39 : decode prog_3_method_8_code 39 = .ok (.iconst 1, 1) := by decide +kernel
theorem d_Sh_findJoined_40 : decode prog_3_method_8_code 40 = .ok (.goto 4, 3) := by decide +kernel
theorem d_Sh_findJoined_43 : decode prog_3_method_8_code 43 = .ok (.iconst 0, 1) := by decide +kernel
theorem d_Sh_findJoined_44 : decode prog_3_method_8_code 44 = .ok (.ireturn, 1) := by decide +kernel
theorem d_Sh_findJoined_45 : decode prog_3_method_8_code 45 = .ok (.iload_n 0, 1) := by decide +kernel
theorem d_Sh_findJoined_46 : decode prog_3_method_8_code 46 = .ok (.iconst 1, 1) := by decide +kernel
theorem d_Sh_findJoined_47 : decode prog_3_method_8_code 47 = .ok (.if_icmp .ne 42, 3) := by decide +kernel
theorem d_Sh_findJoined_50 : decode prog_3_method_8_code 50 = .ok (.aload_n 1, 1) := by decide +kernel
theorem d_Sh_findJoined_51 : decode prog_3_method_8_code 51 = .ok (.getfield 33, 3) := by decide +kernel
theorem d_Sh_findJoined_54 : decode prog_3_method_8_code 54 = .ok (.aload_n 2, 1) := by decide +kernel
theorem d_Sh_findJoined_55 : decode prog_3_method_8_code 55 = .ok (.getfield 33, 3) := by decide +kernel
theorem d_Sh_findJoined_58 : decode prog_3_method_8_code 58 = .ok (.if_icmp .ne 31, 3) := by decide +kernel
theorem d_Sh_findJoined_61 : decode prog_3_method_8_code 61 = .ok (.aload_n 3, 1) := by decide +kernel
theorem d_Sh_findJoined_62 : decode prog_3_method_8_code 62 = .ok (.aload_n 1, 1) := by decide +kernel
theorem d_Sh_findJoined_63 : decode prog_3_method_8_code 63 = .ok (.getfield 15, 3) := by decide +kernel
theorem d_Sh_findJoined_66 : decode prog_3_method_8_code 66 = .ok (.aload_n 1, 1) := by decide +kernel
theorem d_Sh_findJoined_67 : decode prog_3_method_8_code 67 = .ok (.getfield 33, 3) := by decide +kernel
theorem d_Sh_findJoined_70 : decode prog_3_method_8_code 70 = .ok (.aload_n 1, 1) := by decide +kernel
theorem d_Sh_findJoined_71 : decode prog_3_method_8_code 71 = .ok (.getfield 30, 3) := by decide +kernel
theorem d_Sh_findJoined_74 : decode prog_3_method_8_code 74 = .ok (.aload_n 2, 1) := by decide +kernel
theorem d_Sh_findJoined_75 : decode prog_3_method_8_code 75 = .ok (.getfield 30, 3) := by decide +kernel
theorem d_Sh_findJoined_78 : decode prog_3_method_8_code 78 = .ok (.iadd, 1) := by decide +kernel
theorem d_Sh_findJoined_79 : decode prog_3_method_8_code 79 = .ok (.invokevirtual 36, 3) := by decide +kernel
theorem d_Sh_findJoined_82 : decode prog_3_method_8_code 82 = .ok (.ifCond .eq 7, 3) := by decide +kernel
theorem d_Sh_findJoined_85 : decode prog_3_method_8_code 85 = .ok (.iconst 1, 1) := by decide +kernel
theorem d_Sh_findJoined_86 : decode prog_3_method_8_code 86 = .ok (.goto 4, 3) := by decide +kernel
theorem d_Sh_findJoined_89 : decode prog_3_method_8_code 89 = .ok (.iconst 0, 1) := by decide +kernel
theorem d_Sh_findJoined_90 : decode prog_3_method_8_code 90 = .ok (.ireturn, 1) := by decide +kernel
theorem d_Sh_findSlid_0 : decode prog_3_method_9_code 0 = .ok (.aload_n 0, 1) := by decide +kernel
theorem d_Sh_findSlid_1 : decode prog_3_method_9_code 1 = .ok (.getfield 40, 3) := by decide +kernel
theorem d_Sh_findSlid_4 : decode prog_3_method_9_code 4 = .ok (.iconst 1, 1) := by decide +kernel
theorem d_Sh_findSlid_5 : decode prog_3_method_9_code 5 = .ok (.if_icmp .lt 26, 3) := by decide +kernel
theorem d_Sh_findSlid_8 : decode prog_3_method_9_code 8 = .ok (.aload_n 0, 1) := by decide +kernel
theorem d_Sh_findSlid_9 : decode prog_3_method_9_code 9 = .ok (.getfield 40, 3) := by decide +kernel
theorem d_Sh_findSlid_12 : decode prog_3_method_9_code 12 = .ok (.iconst 2, 1) := by decide +kernel
theorem d_Sh_findSlid_13 : decode prog_3_method_9_code 13 = .ok (.if_icmp .gt 18, 3) := by decide +kernel
theorem d_Sh_findSlid_16 : decode prog_3_method_9_code 16 = .ok (.aload_n 0, 1) := by decide +kernel
theorem d_Sh_findSlid_17 : decode prog_3_method_9_code 17 = .ok (.getfield 55, 3) := by decide +kernel
theorem d_Sh_findSlid_20 : decode prog_3_method_9_code 20 = .ok (.ifCond .lt 11, 3) := by decide +kernel
theorem d_Sh_findSlid_23 : decode prog_3_method_9_code 23 = .ok (.aload_n 0, 1) := by decide +kernel
theorem d_Sh_findSlid_24 : decode prog_3_method_9_code 24 = .ok (.getfield 55, 3) := by decide +kernel
theorem d_Sh_findSlid_27 : decode prog_3_method_9_code 27 = .ok (.iconst 2, 1) := by decide +kernel
theorem d_Sh_findSlid_28 : decode prog_3_method_9_code 28 = .ok (.if_icmp .le 5, 3) := by decide +kernel
theorem d_Sh_findSlid_31 : decode prog_3_method_9_code 31 = .ok (.iconst 0, 1) := by decide +kernel
theorem d_Sh_findSlid_32 : decode prog_3_method_9_code 32 = .ok (.ireturn, 1) := by decide +kernel
theorem d_Sh_findSlid_33 : decode prog_3_method_9_code 33 = .ok (.aload_n 1, 1) := by decide +kernel
theorem d_Sh_findSlid_34 : decode prog_3_method_9_code 34 = .ok (.getfield 30, 3) := by decide +kernel
theorem d_Sh_findSlid_37 : decode prog_3_method_9_code 37 = .ok (.iconst 2, 1) := by decide +kernel
theorem d_Sh_findSlid_38 : decode prog_3_method_9_code 38 = .ok (.aload_n 0, 1) := by decide +kernel
theorem d_Sh_findSlid_39 : decode prog_3_method_9_code 39 = .ok (.getfield 55, 3) := by decide +kernel
theorem d_Sh_findSlid_42 : decode prog_3_method_9_code 42 = .ok (.imul, 1) := by decide +kernel
theorem d_Sh_findSlid_43 : decode prog_3_method_9_code 43 = .ok (.iadd, 1) := by decide +kernel
theorem d_Sh_findSlid_44 : decode prog_3_method_9_code 44 = .ok (.aload_n 2, 1) := by decide +kernel
theorem d_Sh_findSlid_45 : decode prog_3_method_9_code 45 = .ok (.getfield 30, 3) := by decide +kernel
theorem d_Sh_findSlid_48 : decode prog_3_method_9_code 48 = .ok (.isub, 1) := by decide +kernel
theorem d_Sh_findSlid_49 : decode prog_3_method_9_code 49 = .ok (.istore 4, 2) := by decide +kernel
theorem d_Sh_findSlid_51 : decode prog_3_method_9_code 51 = .ok (.iload 4, 2) := by decide +kernel
theorem d_Sh_findSlid_53 : decode prog_3_method_9_code 53 = .ok (.ifCond .lt 28, 3) := by decide +kernel
theorem d_Sh_findSlid_56 : decode prog_3_method_9_code 56 = .ok (.aload_n 3, 1) := by decide +kernel
theorem d_Sh_findSlid_57 : decode prog_3_method_9_code 57 = .ok (.iconst 0, 1) := by decide +kernel
theorem d_Sh_findSlid_58 : decode prog_3_method_9_code 58 = .ok (.aload_n 1, 1) := by decide +kernel
theorem d_Sh_findSlid_59 : decode prog_3_method_9_code 59 = .ok (.getfield 33, 3) := by decide +kernel
theorem d_Sh_findSlid_62 : decode prog_3_method_9_code 62 = .ok (.iload 4, 2) := by decide +kernel
theorem d_Sh_findSlid_64 : decode prog_3_method_9_code 64 = .ok (.aload_n 0, 1) := by decide +kernel
theorem d_Sh_findSlid_65 : decode prog_3_method_9_code 65 = .ok (.getfield 40, 3) := by decide +kernel
theorem d_Sh_findSlid_68 : decode prog_3_method_9_code 68 = .ok (.idiv, 1) := by decide +kernel
theorem d_Sh_findSlid_69 : decode prog_3_method_9_code 69 = .ok (.iconst 1, 1) := by decide +kernel
theorem d_Sh_findSlid_70 : decode prog_3_method_9_code 70 = .ok (.iadd, 1) := by decide +kernel
theorem d_Sh_findSlid_71 : decode prog_3_method_9_code 71 = .ok (.invokevirtual 36, 3) := by decide +kernel
theorem d_Sh_findSlid_74 : decode prog_3_method_9_code 74 = .ok (.ifCond .eq 7, 3) := by decide +kernel
theorem d_Sh_findSlid_77 : decode prog_3_method_9_code 77 = .ok (.iconst 1, 1) := by decide +kernel
theorem d_Sh_findSlid_78 : decode prog_3_method_9_code 78 = .ok (.goto 4, 3) := by decide +kernel
theorem d_Sh_findSlid_81 : decode prog_3_method_9_code 81 = .ok (.iconst 0, 1) := by decide +kernel
theorem d_Sh_findSlid_82 : decode prog_3_method_9_code 82 = .ok (.ireturn, 1) := by decide +kernel
theorem d_Sh_areAlike_0 : decode prog_3_method_4_code 0 = .ok (.aload_n 0, 1) := by decide +kernel
theorem d_Sh_areAlike_1 : decode prog_3_method_4_code 1 = .ok (.getfield 15, 3) := by decide +kernel
theorem d_Sh_areAlike_4 : decode prog_3_method_4_code 4 = .ok (.aload_n 1, 1) := by decide +kernel
theorem d_Sh_areAlike_5 : decode prog_3_method_4_code 5 = .ok (.getfield 15, 3) := by decide +kernel
theorem d_Sh_areAlike_8 : decode prog_3_method_4_code 8 = .ok (.if_icmp .ne 29, 3) := by decide +kernel
theorem d_Sh_areAlike_11 : decode prog_3_method_4_code 11 = .ok (.aload_n 0, 1) := by decide +kernel
theorem d_Sh_areAlike_12 : decode prog_3_method_4_code 12 = .ok (.getfield 33, 3) := by decide +kernel
theorem d_Sh_areAlike_15 : decode prog_3_method_4_code 15 = .ok (.aload_n 1, 1) := by decide +kernel
theorem d_Sh_areAlike_16 : decode prog_3_method_4_code 16 = .ok (.getfield 33, 3) := by decide +kernel
theorem d_Sh_areAlike_19 : decode prog_3_method_4_code 19 = .ok (.if_icmp .ne 18, 3) := by decide +kernel
theorem d_Sh_areAlike_22 : decode prog_3_method_4_code 22 = .ok (.aload_n 0, 1) := by decide +kernel
theorem d_Sh_areAlike_23 : decode prog_3_method_4_code 23 = .ok (.getfield 30, 3) := by decide +kernel
theorem d_Sh_areAlike_26 : decode prog_3_method_4_code 26 = .ok (.aload_n 1, 1) := by decide +kernel
theorem d_Sh_areAlike_27 : decode prog_3_method_4_code 27 = .ok (.getfield 30, 3) := by decide +kernel
theorem d_Sh_areAlike_30 : decode prog_3_method_4_code 30 = .ok (.if_icmp .ne 7, 3) := by decide +kernel
theorem d_Sh_areAlike_33 : decode prog_3_method_4_code 33 = .ok (.iconst 1, 1) := by decide +kernel
theorem d_Sh_areAlike_34 : decode prog_3_method_4_code 34 = .ok (.goto 4, 3) := by decide +kernel
theorem d_Sh_areAlike_37 : decode prog_3_method_4_code 37 = .ok (.iconst 0, 1) := by decide +kernel
theorem d_Sh_areAlike_38 : decode prog_3_method_4_code 38 = .ok (.ireturn, 1) := by decide +kernel
theorem d_Ma_max_0 : decode prog_14_method_65_code 0 = .ok (.iload_n 0, 1) := by decide +kernel
theorem d_Ma_max_1 : decode prog_14_method_65_code 1 = .ok (.iload_n 1, 1) := by decide +kernel
theorem d_Ma_max_2 : decode prog_14_method_65_code 2 = .ok (.if_icmp .lt 7, 3) := by decide +kernel
theorem d_Ma_max_5 : decode prog_14_method_65_code 5 = .ok (.iload_n 0, 1) := by decide +kernel
theorem d_Ma_max_6 : decode prog_14_method_65_code 6 = .ok (.goto 4, 3) := by decide +kernel
theorem d_Ma_max_9 : decode prog_14_method_65_code 9 = .ok (.iload_n 1, 1) := by decide +kernel
theorem d_Ma_max_10 : decode prog_14_method_65_code 10 = .ok (.ireturn, 1) := by decide +kernel
theorem d_Wk_workOut_0 : decode prog_6_method_2_code 0 = .ok (.aload_n 0, 1) := by decide +kernel
theorem d_Wk_workOut_1 : decode prog_6_method_2_code 1 = .ok (.getfield 9, 3) := by decide +kernel
theorem d_Wk_workOut_4 : decode prog_6_method_2_code 4 = .ok (.tableswitch 264 3 18 #[80, 96, 254, 106, 254, 264, 115, 126, 139, 152, 161, 208, 88, 221, 232, 254], 80) := by decide +kernel
theorem d_Wk_workOut_84 : decode prog_6_method_2_code 84 = .ok (.aload_n 1, 1) := by decide +kernel
theorem d_Wk_workOut_85 : decode prog_6_method_2_code 85 = .ok (.aload_n 2, 1) := by decide +kernel
theorem d_Wk_workOut_86 : decode prog_6_method_2_code 86 = .ok (.aload 4, 2) := by decide +kernel
theorem d_Wk_workOut_88 : decode prog_6_method_2_code 88 = .ok (.invokestatic 15, 3) := by decide +kernel
theorem d_Wk_workOut_91 : decode prog_6_method_2_code 91 = .ok (.ireturn, 1) := by decide +kernel
theorem d_Wk_workOut_92 : decode prog_6_method_2_code 92 = .ok (.aload_n 1, 1) := by decide +kernel
theorem d_Wk_workOut_93 : decode prog_6_method_2_code 93 = .ok (.aload_n 2, 1) := by decide +kernel
theorem d_Wk_workOut_94 : decode prog_6_method_2_code 94 = .ok (.aload 4, 2) := by decide +kernel
theorem d_Wk_workOut_96 : decode prog_6_method_2_code 96 = .ok (.invokestatic 21, 3) := by decide +kernel
theorem d_Wk_workOut_99 : decode prog_6_method_2_code 99 = .ok (.ireturn, 1) := by decide +kernel
theorem d_Wk_workOut_100 : decode prog_6_method_2_code 100 = .ok (.aload_n 1, 1) := by decide +kernel
theorem d_Wk_workOut_101 : decode prog_6_method_2_code 101 = .ok (.aload_n 2, 1) := by decide +kernel
theorem d_Wk_workOut_102 : decode prog_6_method_2_code 102 = .ok (.aload 4, 2) := by decide +kernel
theorem d_Wk_workOut_104 : decode prog_6_method_2_code 104 = .ok (.invokestatic 24, 3) := by decide +kernel
theorem d_Wk_workOut_107 : decode prog_6_method_2_code 107 = .ok (.goto 172, 3) := by decide +kernel
theorem d_Wk_workOut_110 : decode prog_6_method_2_code 110 = .ok (.aload_n 1, 1) := by decide +kernel
theorem d_Wk_workOut_111 : decode prog_6_method_2_code 111 = .ok (.aload 4, 2) := by decide +kernel
theorem d_Wk_workOut_113 : decode prog_6_method_2_code 113 = .ok (.invokestatic 28, 3) := by decide +kernel
theorem d_Wk_workOut_116 : decode prog_6_method_2_code 116 = .ok (.goto 163, 3) := by decide +kernel
theorem d_Wk_workOut_119 : decode prog_6_method_2_code 119 = .ok (.aload_n 1, 1) := by decide +kernel
theorem d_Wk_workOut_120 : decode prog_6_method_2_code 120 = .ok (.aload_n 2, 1) := by decide +kernel
theorem d_Wk_workOut_121 : decode prog_6_method_2_code 121 = .ok (.aload_n 3, 1) := by decide +kernel
theorem d_Wk_workOut_122 : decode prog_6_method_2_code 122 = .ok (.aload 4, 2) := by decide +kernel
theorem d_Wk_workOut_124 : decode prog_6_method_2_code 124 = .ok (.invokestatic 32, 3) := by decide +kernel
theorem d_Wk_workOut_127 : decode prog_6_method_2_code 127 = .ok (.goto 152, 3) := by decide +kernel
theorem d_Wk_workOut_130 : decode prog_6_method_2_code 130 = .ok (.aload_n 0, 1) := by decide +kernel
theorem d_Wk_workOut_131 : decode prog_6_method_2_code 131 = .ok (.getfield 36, 3) := by decide +kernel
theorem d_Wk_workOut_134 : decode prog_6_method_2_code 134 = .ok (.aload_n 1, 1) := by decide +kernel
theorem d_Wk_workOut_135 : decode prog_6_method_2_code 135 = .ok (.aload 4, 2) := by decide +kernel
theorem d_Wk_workOut_137 : decode prog_6_method_2_code 137 = .ok (.invokestatic 39, 3) := by decide +kernel
theorem d_Wk_workOut_140 : decode prog_6_method_2_code 140 = .ok (.goto 139, 3) := by decide +kernel
theorem d_Wk_workOut_143 : decode prog_6_method_2_code 143 = .ok (.aload_n 0, 1) := by decide +kernel
theorem d_Wk_workOut_144 : decode prog_6_method_2_code 144 = .ok (.getfield 36, 3) := by decide +kernel
theorem d_Wk_workOut_147 : decode prog_6_method_2_code 147 = .ok (.aload_n 1, 1) := by decide +kernel
theorem d_Wk_workOut_148 : decode prog_6_method_2_code 148 = .ok (.aload 4, 2) := by decide +kernel
theorem d_Wk_workOut_150 : decode prog_6_method_2_code 150 = .ok (.invokestatic 43, 3) := by decide +kernel
theorem d_Wk_workOut_153 : decode prog_6_method_2_code 153 = .ok (.goto 126, 3) := by decide +kernel
theorem d_Wk_workOut_156 : decode prog_6_method_2_code 156 = .ok (.aload_n 1, 1) := by decide +kernel
theorem d_Wk_workOut_157 : decode prog_6_method_2_code 157 = .ok (.aload 4, 2) := by decide +kernel
theorem d_Wk_workOut_159 : decode prog_6_method_2_code 159 = .ok (.invokestatic 46, 3) := by decide +kernel
theorem d_Wk_workOut_162 : decode prog_6_method_2_code 162 = .ok (.goto 117, 3) := by decide +kernel
theorem d_Wk_workOut_165 : decode prog_6_method_2_code 165 = .ok (.aload_n 1, 1) := by decide +kernel
theorem d_Wk_workOut_166 : decode prog_6_method_2_code 166 = .ok (.aload 4, 2) := by decide +kernel
theorem d_Wk_workOut_168 : decode prog_6_method_2_code 168 = .ok (.iconst 0, 1) := by decide +kernel
theorem d_Wk_workOut_169 : decode prog_6_method_2_code 169 = .ok (.iconst 0, 1) := by decide +kernel
theorem d_Wk_workOut_170 : decode prog_6_method_2_code 170 = .ok (.invokestatic 49, 3) := by decide +kernel
theorem d_Wk_workOut_173 : decode prog_6_method_2_code 173 = .ok (.aload_n 2, 1) := by decide +kernel
theorem d_Wk_workOut_174 : decode prog_6_method_2_code 174 = .ok (.aload 4, 2) := by decide +kernel
theorem d_Wk_workOut_176 : decode prog_6_method_2_code 176 = .ok (.aload_n 0, 1) := by decide +kernel
theorem d_Wk_workOut_177 : decode prog_6_method_2_code 177 = .ok (.getfield 36, 3) := by decide +kernel
theorem d_Wk_workOut_180 : decode prog_6_method_2_code 180 = .ok (.ifCond .ne 10, 3) := by decide +kernel
theorem d_Wk_workOut_183 : decode prog_6_method_2_code 183 = .ok (.aload_n 1, 1) := by decide +kernel
theorem d_Wk_workOut_184 : decode prog_6_method_2_code 184 = .ok (.getfield 53, 3) := by decide +kernel
theorem d_Wk_workOut_187 : decode prog_6_method_2_code 187 = .ok (.goto 4, 3) := by decide +kernel
theorem d_Wk_workOut_190 : decode prog_6_method_2_code 190 = .ok (.iconst 0, 1) := by decide +kernel
theorem d_Wk_workOut_191 : decode prog_6_method_2_code 191 = .ok (.aload_n 0, 1) := by decide +kernel
theorem d_Wk_workOut_192 : decode prog_6_method_2_code 192 = .ok (.getfield 36, 3) := by decide +kernel
theorem d_Wk_workOut_195 : decode prog_6_method_2_code 195 = .ok (.ifCond .ne 7, 3) := by decide +kernel
theorem d_Wk_workOut_198 : decode prog_6_method_2_code 198 = .ok (.iconst 0, 1) := by decide +kernel
theorem d_Wk_workOut_199 : decode prog_6_method_2_code 199 = .ok (.goto 7, 3) := by decide +kernel
theorem d_Wk_workOut_202 : decode prog_6_method_2_code 202 = .ok (.aload_n 1, 1) := by decide +kernel
theorem d_Wk_workOut_203 : decode prog_6_method_2_code 203 = .ok (.getfield 58, 3) := by decide +kernel
theorem d_Wk_workOut_206 : decode prog_6_method_2_code 206 = .ok (.invokestatic 49, 3) := by decide +kernel
theorem d_Wk_workOut_209 : decode prog_6_method_2_code 209 = .ok (.goto 70, 3) := by decide +kernel
theorem d_Wk_workOut_212 : decode prog_6_method_2_code 212 = .ok (.aload_n 0, 1) := by decide +kernel
theorem d_Wk_workOut_213 : decode prog_6_method_2_code 213 = .ok (.getfield 36, 3) := by decide +kernel
theorem d_Wk_workOut_216 : decode prog_6_method_2_code 216 = .ok (.aload_n 1, 1) := by decide +kernel
theorem d_Wk_workOut_217 : decode prog_6_method_2_code 217 = .ok (.aload 4, 2) := by decide +kernel
theorem d_Wk_workOut_219 : decode prog_6_method_2_code 219 = .ok (.invokestatic 61, 3) := by decide +kernel
theorem d_Wk_workOut_222 : decode prog_6_method_2_code 222 = .ok (.goto 57, 3) := by decide +kernel
theorem d_Wk_workOut_225 : decode prog_6_method_2_code 225 = .ok (.aload_n 0, 1) := by decide +kernel
theorem d_Wk_workOut_226 : decode prog_6_method_2_code 226 = .ok (.aload_n 1, 1) := by decide +kernel
theorem d_Wk_workOut_227 : decode prog_6_method_2_code 227 = .ok (.aload_n 2, 1) := by decide +kernel
theorem d_Wk_workOut_228 : decode prog_6_method_2_code 228 = .ok (.aload 4, 2) := by decide +kernel
theorem d_Wk_workOut_230 : decode prog_6_method_2_code 230 = .ok (.invokestatic 64, 3) := by decide +kernel
theorem d_Wk_workOut_233 : decode prog_6_method_2_code 233 = .ok (.goto 46, 3) := by decide +kernel
theorem d_Wk_workOut_236 : decode prog_6_method_2_code 236 = .ok (.aload_n 3, 1) := by decide +kernel
theorem d_Wk_workOut_237 : decode prog_6_method_2_code 237 = .ok (.invokevirtual 68, 3) := by decide +kernel
theorem d_Wk_workOut_240 : decode prog_6_method_2_code 240 = .ok (.ifCond .eq 7, 3) := by decide +kernel
theorem d_Wk_workOut_243 : decode prog_6_method_2_code 243 = .ok (.aload_n 2, 1) := by decide +kernel
theorem d_Wk_workOut_244 : decode prog_6_method_2_code 244 = .ok (.goto 4, 3) := by decide +kernel
theorem d_Wk_workOut_247 : decode prog_6_method_2_code 247 = .ok (.aload_n 1, 1) := by decide +kernel
theorem d_Wk_workOut_248 : decode prog_6_method_2_code 248 = .ok (.aload 4, 2) := by decide +kernel
theorem d_Wk_workOut_250 : decode prog_6_method_2_code 250 = .ok (.iconst 0, 1) := by decide +kernel
theorem d_Wk_workOut_251 : decode prog_6_method_2_code 251 = .ok (.iconst 0, 1) := by decide +kernel
theorem d_Wk_workOut_252 : decode prog_6_method_2_code 252 = .ok (.invokestatic 49, 3) := by decide +kernel
theorem d_Wk_workOut_255 : decode prog_6_method_2_code 255 = .ok (.goto 24, 3) := by decide +kernel
theorem d_Wk_workOut_258 : decode prog_6_method_2_code 258 = .ok (.aload_n 0, 1) := by decide +kernel
theorem d_Wk_workOut_259 : decode prog_6_method_2_code 259 = .ok (.aload_n 1, 1) := by decide +kernel
theorem d_Wk_workOut_260 : decode prog_6_method_2_code 260 = .ok (.aload 4, 2) := by decide +kernel
theorem d_Wk_workOut_262 : decode prog_6_method_2_code 262 = .ok (.invokestatic 72, 3) := by decide +kernel
theorem d_Wk_workOut_265 : decode prog_6_method_2_code 265 = .ok (.goto 14, 3) := by decide +kernel
theorem d_Wk_workOut_268 : decode prog_6_method_2_code 268 = .ok (.aload_n 0, 1) := by decide +kernel
theorem d_Wk_workOut_269 : decode prog_6_method_2_code 269 = .ok (.getfield 9, 3) := by decide +kernel
theorem d_Wk_workOut_272 : decode prog_6_method_2_code 272 = .ok (.aload_n 1, 1) := by decide +kernel
theorem d_Wk_workOut_273 : decode prog_6_method_2_code 273 = .ok (.aload_n 2, 1) := by decide +kernel
theorem d_Wk_workOut_274 : decode prog_6_method_2_code 274 = .ok (.aload 4, 2) := by decide +kernel
theorem d_Wk_workOut_276 : decode prog_6_method_2_code 276 = .ok (.invokestatic 76, 3) := by decide +kernel
theorem d_Wk_workOut_279 : decode prog_6_method_2_code 279 = .ok (.iconst 0, 1) := by decide +kernel
theorem d_Wk_workOut_280 : decode prog_6_method_2_code 280 = .ok (.ireturn, 1) := by decide +kernel
theorem d_Wk_divide_0 : decode prog_6_method_6_code 0 = .ok (.iconst 0, 1) := by decide +kernel
theorem d_Wk_divide_1 : decode prog_6_method_6_code 1 = .ok (.istore_n 3, 1) := by decide +kernel
theorem d_Wk_divide_2 : decode prog_6_method_6_code 2 = .ok (.iload_n 3, 1) := by decide +kernel
theorem d_Wk_divide_3 : decode prog_6_method_6_code 3 = .ok (.aload_n 2, 1) := by decide +kernel
theorem d_Wk_divide_4 : decode prog_6_method_6_code 4 = .ok (.getfield 53, 3) := by decide +kernel
theorem d_Wk_divide_7 : decode prog_6_method_6_code 7 = .ok (.if_icmp .ge 87, 3) := by decide +kernel
theorem d_Wk_divide_10 : decode prog_6_method_6_code 10 = .ok (.iconst 0, 1) := by decide +kernel
theorem d_Wk_divide_11 : decode prog_6_method_6_code 11 = .ok (.istore 4, 2) := by decide +kernel
theorem d_Wk_divide_13 : decode prog_6_method_6_code 13 = .ok (.iload 4, 2) := by decide +kernel
theorem d_Wk_divide_15 : decode prog_6_method_6_code 15 = .ok (.aload_n 2, 1) := by decide +kernel
theorem d_Wk_divide_16 : decode prog_6_method_6_code 16 = .ok (.getfield 58, 3) := by decide +kernel
theorem d_Wk_divide_19 : decode prog_6_method_6_code 19 = .ok (.if_icmp .ge 69, 3) := by decide +kernel
theorem d_Wk_divide_22 : decode prog_6_method_6_code 22 = .ok (.aload_n 0, 1) := by decide +kernel
theorem d_Wk_divide_23 : decode prog_6_method_6_code 23 = .ok (.iload_n 3, 1) := by decide +kernel
theorem d_Wk_divide_24 : decode prog_6_method_6_code 24 = .ok (.iload 4, 2) := by decide +kernel
theorem d_Wk_divide_26 : decode prog_6_method_6_code 26 = .ok (.invokevirtual 80, 3) := by decide +kernel
theorem d_Wk_divide_29 : decode prog_6_method_6_code 29 = .ok (.dstore 5, 2) := by decide +kernel
theorem d_Wk_divide_31 : decode prog_6_method_6_code 31 = .ok (.aload_n 1, 1) := by decide +kernel
theorem d_Wk_divide_32 : decode prog_6_method_6_code 32 = .ok (.iload_n 3, 1) := by decide +kernel
theorem d_Wk_divide_33 : decode prog_6_method_6_code 33 = .ok (.iload 4, 2) := by decide +kernel
theorem d_Wk_divide_35 : decode prog_6_method_6_code 35 = .ok (.invokevirtual 80, 3) := by decide +kernel
theorem d_Wk_divide_38 : decode prog_6_method_6_code 38 = .ok (.dstore 7, 2) := by decide +kernel
theorem d_Wk_divide_40 : decode prog_6_method_6_code 40 = .ok (.dload 7, 2) := by decide +kernel
theorem d_Wk_divide_42 : decode prog_6_method_6_code 42 = .ok (.dconst 0, 1) := by decide +kernel
theorem d_Wk_divide_43 : decode prog_6_method_6_code 43 = .ok (.dcmp .l, 1) := by decide +kernel
theorem d_Wk_divide_44 : decode prog_6_method_6_code 44 = .ok (.ifCond .ne 5, 3) := by decide +kernel
theorem d_Wk_divide_47 : decode prog_6_method_6_code 47 = .ok (.iconst 1, 1) := by decide +kernel
theorem d_Wk_divide_48 : decode prog_6_method_6_code 48 = .ok (.ireturn, 1) := by decide +kernel
theorem d_Wk_divide_49 : decode prog_6_method_6_code 49 = .ok (.aload_n 2, 1) := by decide +kernel
theorem d_Wk_divide_50 : decode prog_6_method_6_code 50 = .ok (.iload_n 3, 1) := by decide +kernel
theorem d_Wk_divide_51 : decode prog_6_method_6_code 51 = .ok (.iload 4, 2) := by decide +kernel
theorem d_Wk_divide_53 : decode prog_6_method_6_code 53 = .ok (.aload_n 0, 1) := by decide +kernel
theorem d_Wk_divide_54 : decode prog_6_method_6_code 54 = .ok (.getfield 84, 3) := by decide +kernel
theorem d_Wk_divide_57 : decode prog_6_method_6_code 57 = .ok (.iconst 1, 1) := by decide +kernel
theorem d_Wk_divide_58 : decode prog_6_method_6_code 58 = .ok (.if_icmp .ne 16, 3) := by decide +kernel
theorem d_Wk_divide_61 : decode prog_6_method_6_code 61 = .ok (.dload 5, 2) := by decide +kernel
theorem d_Wk_divide_63 : decode prog_6_method_6_code 63 = .ok (.d2i, 1) := by decide +kernel
theorem d_Wk_divide_64 : decode prog_6_method_6_code 64 = .ok (.dload 7, 2) := by decide +kernel
theorem d_Wk_divide_66 : decode prog_6_method_6_code 66 = .ok (.d2i, 1) := by decide +kernel
theorem d_Wk_divide_67 : decode prog_6_method_6_code 67 = .ok (.invokestatic 99, 3) := by decide +kernel
theorem d_Wk_divide_70 : decode prog_6_method_6_code 70 = .ok (.i2d, 1) := by decide +kernel
theorem d_Wk_divide_71 : decode prog_6_method_6_code 71 = .ok (.goto 8, 3) := by decide +kernel
theorem d_Wk_divide_74 : decode prog_6_method_6_code 74 = .ok (.dload 5, 2) := by decide +kernel
theorem d_Wk_divide_76 : decode prog_6_method_6_code 76 = .ok (.dload 7, 2) := by decide +kernel
theorem d_Wk_divide_78 : decode prog_6_method_6_code 78 = .ok (.ddiv, 1) := by decide +kernel
theorem d_Wk_divide_79 : decode prog_6_method_6_code 79 = .ok (.invokevirtual 95, 3) := by decide +kernel
theorem d_Wk_divide_82 : decode prog_6_method_6_code 82 = .ok (.iinc 4 1, 3) := by decide +kernel
theorem d_Wk_divide_85 : decode prog_6_method_6_code 85 = .ok (.goto (-72), 3) := by decide +kernel
end
section
theorem d_Wk_divide_88 : decode prog_6_method_6_code 88 = .ok (.iinc 3 1, 3) := by decide +kernel
theorem d_Wk_divide_91 : decode prog_6_method_6_code 91 = .ok (.goto (-89), 3) := by decide +kernel
theorem d_Wk_divide_94 : decode prog_6_method_6_code 94 = .ok (.iconst 0, 1) := by decide +kernel
theorem d_Wk_divide_95 : decode prog_6_method_6_code 95 = .ok (.ireturn, 1) := by decide +kernel
theorem d_Wk_divideInts_0 : decode prog_6_method_7_code 0 = .ok (.iload_n 1, 1) := by decide +kernel
theorem d_Wk_divideInts_1 : decode prog_6_method_7_code 1 = .ok (.ifCond .ne 7, 3) := by decide +kernel
theorem d_Wk_divideInts_4 : decode prog_6_method_7_code 4 = .ok (.iconst 0, 1) := by decide +kernel
theorem d_Wk_divideInts_5 : decode prog_6_method_7_code 5 = .ok (.goto 6, 3) := by decide +kernel
theorem d_Wk_divideInts_8 : decode prog_6_method_7_code 8 = .ok (.iload_n 0, 1) := by decide +kernel
theorem d_Wk_divideInts_9 : decode prog_6_method_7_code 9 = .ok (.iload_n 1, 1) := by decide +kernel
theorem d_Wk_divideInts_10 : decode prog_6_method_7_code 10 = .ok (.idiv, 1) := by decide +kernel
theorem d_Wk_divideInts_11 : decode prog_6_method_7_code 11 = .ok (.ireturn, 1) := by decide +kernel
theorem d_Wk_pick_0 : decode prog_6_method_18_code 0 = .ok (.iconst 0, 1) := by decide +kernel
theorem d_Wk_pick_1 : decode prog_6_method_18_code 1 = .ok (.istore_n 3, 1) := by decide +kernel
theorem d_Wk_pick_2 : decode prog_6_method_18_code 2 = .ok (.iload_n 3, 1) := by decide +kernel
theorem d_Wk_pick_3 : decode prog_6_method_18_code 3 = .ok (.aload_n 2, 1) := by decide +kernel
theorem d_Wk_pick_4 : decode prog_6_method_18_code 4 = .ok (.getfield 53, 3) := by decide +kernel
theorem d_Wk_pick_7 : decode prog_6_method_18_code 7 = .ok (.if_icmp .ge 57, 3) := by decide +kernel
theorem d_Wk_pick_10 : decode prog_6_method_18_code 10 = .ok (.aload_n 1, 1) := by decide +kernel
theorem d_Wk_pick_11 : decode prog_6_method_18_code 11 = .ok (.iconst 0, 1) := by decide +kernel
theorem d_Wk_pick_12 : decode prog_6_method_18_code 12 = .ok (.iload_n 3, 1) := by decide +kernel
theorem d_Wk_pick_13 : decode prog_6_method_18_code 13 = .ok (.invokevirtual 103, 3) := by decide +kernel
theorem d_Wk_pick_16 : decode prog_6_method_18_code 16 = .ok (.d2i, 1) := by decide +kernel
theorem d_Wk_pick_17 : decode prog_6_method_18_code 17 = .ok (.istore 4, 2) := by decide +kernel
theorem d_Wk_pick_19 : decode prog_6_method_18_code 19 = .ok (.iload 4, 2) := by decide +kernel
theorem d_Wk_pick_21 : decode prog_6_method_18_code 21 = .ok (.ifCond .ge 13, 3) := by decide +kernel
theorem d_Wk_pick_24 : decode prog_6_method_18_code 24 = .ok (.aload_n 0, 1) := by decide +kernel
theorem d_Wk_pick_25 : decode prog_6_method_18_code 25 = .ok (.getfield 53, 3) := by decide +kernel
theorem d_Wk_pick_28 : decode prog_6_method_18_code 28 = .ok (.iload 4, 2) := by decide +kernel
theorem d_Wk_pick_30 : decode prog_6_method_18_code 30 = .ok (.iadd, 1) := by decide +kernel
theorem d_Wk_pick_31 : decode prog_6_method_18_code 31 = .ok (.goto 5, 3) := by decide +kernel
theorem d_Wk_pick_34 : decode prog_6_method_18_code 34 = .ok (.iload 4, 2) := by decide +kernel
theorem d_Wk_pick_36 : decode prog_6_method_18_code 36 = .ok (.istore 5, 2) := by decide +kernel
theorem d_Wk_pick_38 : decode prog_6_method_18_code 38 = .ok (.aload_n 0, 1) := by decide +kernel
theorem d_Wk_pick_39 : decode prog_6_method_18_code 39 = .ok (.iload 5, 2) := by decide +kernel
theorem d_Wk_pick_41 : decode prog_6_method_18_code 41 = .ok (.iconst 0, 1) := by decide +kernel
theorem d_Wk_pick_42 : decode prog_6_method_18_code 42 = .ok (.invokevirtual 117, 3) := by decide +kernel
theorem d_Wk_pick_45 : decode prog_6_method_18_code 45 = .ok (.ifCond .ne 5, 3) := by decide +kernel
theorem d_Wk_pick_48 : decode prog_6_method_18_code 48 = .ok (.iconst 2, 1) := by decide +kernel
theorem d_Wk_pick_49 : decode prog_6_method_18_code 49 = .ok (.ireturn, 1) := by decide +kernel
theorem d_Wk_pick_50 : decode prog_6_method_18_code 50 = .ok (.aload_n 0, 1) := by decide +kernel
theorem d_Wk_pick_51 : decode prog_6_method_18_code 51 = .ok (.iload 5, 2) := by decide +kernel
theorem d_Wk_pick_53 : decode prog_6_method_18_code 53 = .ok (.aload_n 2, 1) := by decide +kernel
theorem d_Wk_pick_54 : decode prog_6_method_18_code 54 = .ok (.iload_n 3, 1) := by decide +kernel
theorem d_Wk_pick_55 : decode prog_6_method_18_code 55 = .ok (.invokestatic 113, 3) := by decide +kernel
theorem d_Wk_pick_58 : decode prog_6_method_18_code 58 = .ok (.iinc 3 1, 3) := by decide +kernel
theorem d_Wk_pick_61 : decode prog_6_method_18_code 61 = .ok (.goto (-59), 3) := by decide +kernel
theorem d_Wk_pick_64 : decode prog_6_method_18_code 64 = .ok (.iconst 0, 1) := by decide +kernel
theorem d_Wk_pick_65 : decode prog_6_method_18_code 65 = .ok (.ireturn, 1) := by decide +kernel
theorem d_Wk_copyRow_0 : decode prog_6_method_19_code 0 = .ok (.iconst 0, 1) := by decide +kernel
theorem d_Wk_copyRow_1 : decode prog_6_method_19_code 1 = .ok (.istore 4, 2) := by decide +kernel
theorem d_Wk_copyRow_3 : decode prog_6_method_19_code 3 = .ok (.iload 4, 2) := by decide +kernel
theorem d_Wk_copyRow_5 : decode prog_6_method_19_code 5 = .ok (.aload_n 0, 1) := by decide +kernel
theorem d_Wk_copyRow_6 : decode prog_6_method_19_code 6 = .ok (.getfield 58, 3) := by decide +kernel
theorem d_Wk_copyRow_9 : decode prog_6_method_19_code 9 = .ok (.if_icmp .ge 23, 3) := by decide +kernel
theorem d_Wk_copyRow_12 : decode prog_6_method_19_code 12 = .ok (.aload_n 2, 1) := by decide +kernel
theorem d_Wk_copyRow_13 : decode prog_6_method_19_code 13 = .ok (.iload_n 3, 1) := by decide +kernel
theorem d_Wk_copyRow_14 : decode prog_6_method_19_code 14 = .ok (.iload 4, 2) := by decide +kernel
theorem d_Wk_copyRow_16 : decode prog_6_method_19_code 16 = .ok (.aload_n 0, 1) := by decide +kernel
theorem d_Wk_copyRow_17 : decode prog_6_method_19_code 17 = .ok (.iload_n 1, 1) := by decide +kernel
theorem d_Wk_copyRow_18 : decode prog_6_method_19_code 18 = .ok (.iload 4, 2) := by decide +kernel
theorem d_Wk_copyRow_20 : decode prog_6_method_19_code 20 = .ok (.invokevirtual 103, 3) := by decide +kernel
theorem d_Wk_copyRow_23 : decode prog_6_method_19_code 23 = .ok (.invokevirtual 95, 3) := by decide +kernel
theorem d_Wk_copyRow_26 : decode prog_6_method_19_code 26 = .ok (.iinc 4 1, 3) := by decide +kernel
theorem d_Wk_copyRow_29 : decode prog_6_method_19_code 29 = .ok (.goto (-26), 3) := by decide +kernel
theorem d_Wk_copyRow_32 : decode prog_6_method_19_code 32 = .ok (.return_, 1) := by decide +kernel
theorem d_Wk_multiplyTables_0 : decode prog_6_method_8_code 0 = .ok (.iconst 0, 1) := by decide +kernel
theorem d_Wk_multiplyTables_1 : decode prog_6_method_8_code 1 = .ok (.istore_n 3, 1) := by decide +kernel
theorem d_Wk_multiplyTables_2 : decode prog_6_method_8_code 2 = .ok (.iload_n 3, 1) := by decide +kernel
theorem d_Wk_multiplyTables_3 : decode prog_6_method_8_code 3 = .ok (.aload_n 2, 1) := by decide +kernel
theorem d_Wk_multiplyTables_4 : decode prog_6_method_8_code 4 = .ok (.getfield 53, 3) := by decide +kernel
theorem d_Wk_multiplyTables_7 : decode prog_6_method_8_code 7 = .ok (.if_icmp .ge 78, 3) := by decide +kernel
theorem d_Wk_multiplyTables_10 : decode prog_6_method_8_code 10 = .ok (.iconst 0, 1) := by decide +kernel
theorem d_Wk_multiplyTables_11 : decode prog_6_method_8_code 11 = .ok (.istore 4, 2) := by decide +kernel
theorem d_Wk_multiplyTables_13 : decode prog_6_method_8_code 13 = .ok (.iload 4, 2) := by decide +kernel
theorem d_Wk_multiplyTables_15 : decode prog_6_method_8_code 15 = .ok (.aload_n 2, 1) := by decide +kernel
theorem d_Wk_multiplyTables_16 : decode prog_6_method_8_code 16 = .ok (.getfield 58, 3) := by decide +kernel
theorem d_Wk_multiplyTables_19 : decode prog_6_method_8_code 19 = .ok (.if_icmp .ge 60, 3) := by decide +kernel
theorem d_Wk_multiplyTables_22 : decode prog_6_method_8_code 22 = .ok (.dconst 0, 1) := by decide +kernel
theorem d_Wk_multiplyTables_23 : decode prog_6_method_8_code 23 = .ok (.dstore 5, 2) := by decide +kernel
theorem d_Wk_multiplyTables_25 : decode prog_6_method_8_code 25 = .ok (.iconst 0, 1) := by decide +kernel
theorem d_Wk_multiplyTables_26 : decode prog_6_method_8_code 26 = .ok (.istore 7, 2) := by decide +kernel
theorem d_Wk_multiplyTables_28 : decode prog_6_method_8_code 28 = .ok (.iload 7, 2) := by decide +kernel
theorem d_Wk_multiplyTables_30 : decode prog_6_method_8_code 30 = .ok (.aload_n 0, 1) := by decide +kernel
theorem d_Wk_multiplyTables_31 : decode prog_6_method_8_code 31 = .ok (.getfield 58, 3) := by decide +kernel
theorem d_Wk_multiplyTables_34 : decode prog_6_method_8_code 34 = .ok (.if_icmp .ge 30, 3) := by decide +kernel
theorem d_Wk_multiplyTables_37 : decode prog_6_method_8_code 37 = .ok (.dload 5, 2) := by decide +kernel
theorem d_Wk_multiplyTables_39 : decode prog_6_method_8_code 39 = .ok (.aload_n 0, 1) := by decide +kernel
theorem d_Wk_multiplyTables_40 : decode prog_6_method_8_code 40 = .ok (.iload_n 3, 1) := by decide +kernel
theorem d_Wk_multiplyTables_41 : decode prog_6_method_8_code 41 = .ok (.iload 7, 2) := by decide +kernel
theorem d_Wk_multiplyTables_43 : decode prog_6_method_8_code 43 = .ok (.invokevirtual 103, 3) := by decide +kernel
theorem d_Wk_multiplyTables_46 : decode prog_6_method_8_code 46 = .ok (.aload_n 1, 1) := by decide +kernel
theorem d_Wk_multiplyTables_47 : decode prog_6_method_8_code 47 = .ok (.iload 7, 2) := by decide +kernel
theorem d_Wk_multiplyTables_49 : decode prog_6_method_8_code 49 = .ok (.iload 4, 2) := by decide +kernel
theorem d_Wk_multiplyTables_51 : decode prog_6_method_8_code 51 = .ok (.invokevirtual 103, 3) := by decide +kernel
theorem d_Wk_multiplyTables_54 : decode prog_6_method_8_code 54 = .ok (.dmul, 1) := by decide +kernel
theorem d_Wk_multiplyTables_55 : decode prog_6_method_8_code 55 = .ok (.dadd, 1) := by decide +kernel
theorem d_Wk_multiplyTables_56 : decode prog_6_method_8_code 56 = .ok (.dstore 5, 2) := by decide +kernel
theorem d_Wk_multiplyTables_58 : decode prog_6_method_8_code 58 = .ok (.iinc 7 1, 3) := by decide +kernel
theorem d_Wk_multiplyTables_61 : decode prog_6_method_8_code 61 = .ok (.goto (-33), 3) := by decide +kernel
theorem d_Wk_multiplyTables_64 : decode prog_6_method_8_code 64 = .ok (.aload_n 2, 1) := by decide +kernel
theorem d_Wk_multiplyTables_65 : decode prog_6_method_8_code 65 = .ok (.iload_n 3, 1) := by decide +kernel
theorem d_Wk_multiplyTables_66 : decode prog_6_method_8_code 66 = .ok (.iload 4, 2) := by decide +kernel
theorem d_Wk_multiplyTables_68 : decode prog_6_method_8_code 68 = .ok (.dload 5, 2) := by decide +kernel
theorem d_Wk_multiplyTables_70 : decode prog_6_method_8_code 70 = .ok (.invokevirtual 95, 3) := by decide +kernel
theorem d_Wk_multiplyTables_73 : decode prog_6_method_8_code 73 = .ok (.iinc 4 1, 3) := by decide +kernel
theorem d_Wk_multiplyTables_76 : decode prog_6_method_8_code 76 = .ok (.goto (-63), 3) := by decide +kernel
theorem d_Wk_multiplyTables_79 : decode prog_6_method_8_code 79 = .ok (.iinc 3 1, 3) := by decide +kernel
theorem d_Wk_multiplyTables_82 : decode prog_6_method_8_code 82 = .ok (.goto (-80), 3) := by decide +kernel
theorem d_Wk_multiplyTables_85 : decode prog_6_method_8_code 85 = .ok (.return_, 1) := by decide +kernel
theorem d_Wk_turn_0 : decode prog_6_method_11_code 0 = .ok (.iconst 0, 1) := by decide +kernel
theorem d_Wk_turn_1 : decode prog_6_method_11_code 1 = .ok (.istore_n 2, 1) := by decide +kernel
theorem d_Wk_turn_2 : decode prog_6_method_11_code 2 = .ok (.iload_n 2, 1) := by decide +kernel
theorem d_Wk_turn_3 : decode prog_6_method_11_code 3 = .ok (.aload_n 1, 1) := by decide +kernel
theorem d_Wk_turn_4 : decode prog_6_method_11_code 4 = .ok (.getfield 53, 3) := by decide +kernel
theorem d_Wk_turn_7 : decode prog_6_method_11_code 7 = .ok (.if_icmp .ge 37, 3) := by decide +kernel
theorem d_Wk_turn_10 : decode prog_6_method_11_code 10 = .ok (.iconst 0, 1) := by decide +kernel
theorem d_Wk_turn_11 : decode prog_6_method_11_code 11 = .ok (.istore_n 3, 1) := by decide +kernel
theorem d_Wk_turn_12 : decode prog_6_method_11_code 12 = .ok (.iload_n 3, 1) := by decide +kernel
theorem d_Wk_turn_13 : decode prog_6_method_11_code 13 = .ok (.aload_n 1, 1) := by decide +kernel
theorem d_Wk_turn_14 : decode prog_6_method_11_code 14 = .ok (.getfield 58, 3) := by decide +kernel
theorem d_Wk_turn_17 : decode prog_6_method_11_code 17 = .ok (.if_icmp .ge 21, 3) := by decide +kernel
theorem d_Wk_turn_20 : decode prog_6_method_11_code 20 = .ok (.aload_n 1, 1) := by decide +kernel
theorem d_Wk_turn_21 : decode prog_6_method_11_code 21 = .ok (.iload_n 2, 1) := by decide +kernel
theorem d_Wk_turn_22 : decode prog_6_method_11_code 22 = .ok (.iload_n 3, 1) := by decide +kernel
theorem d_Wk_turn_23 : decode prog_6_method_11_code 23 = .ok (.aload_n 0, 1) := by decide +kernel
theorem d_Wk_turn_24 : decode prog_6_method_11_code 24 = .ok (.iload_n 3, 1) := by decide +kernel
theorem d_Wk_turn_25 : decode prog_6_method_11_code 25 = .ok (.iload_n 2, 1) := by decide +kernel
theorem d_Wk_turn_26 : decode prog_6_method_11_code 26 = .ok (.invokevirtual 103, 3) := by decide +kernel
theorem d_Wk_turn_29 : decode prog_6_method_11_code 29 = .ok (.invokevirtual 95, 3) := by decide +kernel
theorem d_Wk_turn_32 : decode prog_6_method_11_code 32 = .ok (.iinc 3 1, 3) := by decide +kernel
theorem d_Wk_turn_35 : decode prog_6_method_11_code 35 = .ok (.goto (-23), 3) := by decide +kernel
theorem d_Wk_turn_38 : decode prog_6_method_11_code 38 = .ok (.iinc 2 1, 3) := by decide +kernel
theorem d_Wk_turn_41 : decode prog_6_method_11_code 41 = .ok (.goto (-39), 3) := by decide +kernel
theorem d_Wk_turn_44 : decode prog_6_method_11_code 44 = .ok (.return_, 1) := by decide +kernel
theorem d_Wk_chooseEach_0 : decode prog_6_method_12_code 0 = .ok (.iconst 0, 1) := by decide +kernel
theorem d_Wk_chooseEach_1 : decode prog_6_method_12_code 1 = .ok (.istore 4, 2) := by decide +kernel
theorem d_Wk_chooseEach_3 : decode prog_6_method_12_code 3 = .ok (.iload 4, 2) := by decide +kernel
theorem d_Wk_chooseEach_5 : decode prog_6_method_12_code 5 = .ok (.aload_n 3, 1) := by decide +kernel
theorem d_Wk_chooseEach_6 : decode prog_6_method_12_code 6 = .ok (.getfield 53, 3) := by decide +kernel
theorem d_Wk_chooseEach_9 : decode prog_6_method_12_code 9 = .ok (.if_icmp .ge 67, 3) := by decide +kernel
theorem d_Wk_chooseEach_12 : decode prog_6_method_12_code 12 = .ok (.iconst 0, 1) := by decide +kernel
theorem d_Wk_chooseEach_13 : decode prog_6_method_12_code 13 = .ok (.istore 5, 2) := by decide +kernel
theorem d_Wk_chooseEach_15 : decode prog_6_method_12_code 15 = .ok (.iload 5, 2) := by decide +kernel
theorem d_Wk_chooseEach_17 : decode prog_6_method_12_code 17 = .ok (.aload_n 3, 1) := by decide +kernel
theorem d_Wk_chooseEach_18 : decode prog_6_method_12_code 18 = .ok (.getfield 58, 3) := by decide +kernel
theorem d_Wk_chooseEach_21 : decode prog_6_method_12_code 21 = .ok (.if_icmp .ge 49, 3) := by decide +kernel
theorem d_Wk_chooseEach_24 : decode prog_6_method_12_code 24 = .ok (.aload_n 3, 1) := by decide +kernel
theorem d_Wk_chooseEach_25 : decode prog_6_method_12_code 25 = .ok (.iload 4, 2) := by decide +kernel
theorem d_Wk_chooseEach_27 : decode prog_6_method_12_code 27 = .ok (.iload 5, 2) := by decide +kernel
theorem d_Wk_chooseEach_29 : decode prog_6_method_12_code 29 = .ok (.aload_n 2, 1) := by decide +kernel
theorem d_Wk_chooseEach_30 : decode prog_6_method_12_code 30 = .ok (.iload 4, 2) := by decide +kernel
theorem d_Wk_chooseEach_32 : decode prog_6_method_12_code 32 = .ok (.iload 5, 2) := by decide +kernel
theorem d_Wk_chooseEach_34 : decode prog_6_method_12_code 34 = .ok (.invokevirtual 80, 3) := by decide +kernel
theorem d_Wk_chooseEach_37 : decode prog_6_method_12_code 37 = .ok (.dconst 0, 1) := by decide +kernel
theorem d_Wk_chooseEach_38 : decode prog_6_method_12_code 38 = .ok (.dcmp .l, 1) := by decide +kernel
theorem d_Wk_chooseEach_39 : decode prog_6_method_12_code 39 = .ok (.ifCond .eq 14, 3) := by decide +kernel
theorem d_Wk_chooseEach_42 : decode prog_6_method_12_code 42 = .ok (.aload_n 0, 1) := by decide +kernel
theorem d_Wk_chooseEach_43 : decode prog_6_method_12_code 43 = .ok (.iload 4, 2) := by decide +kernel
theorem d_Wk_chooseEach_45 : decode prog_6_method_12_code 45 = .ok (.iload 5, 2) := by decide +kernel
theorem d_Wk_chooseEach_47 : decode prog_6_method_12_code 47 = .ok (.invokevirtual 80, 3) := by decide +kernel
theorem d_Wk_chooseEach_50 : decode prog_6_method_12_code 50 = .ok (.goto 11, 3) := by decide +kernel
theorem d_Wk_chooseEach_53 : decode prog_6_method_12_code 53 = .ok (.aload_n 1, 1) := by decide +kernel
theorem d_Wk_chooseEach_54 : decode prog_6_method_12_code 54 = .ok (.iload 4, 2) := by decide +kernel
theorem d_Wk_chooseEach_56 : decode prog_6_method_12_code 56 = .ok (.iload 5, 2) := by decide +kernel
theorem d_Wk_chooseEach_58 : decode prog_6_method_12_code 58 = .ok (.invokevirtual 80, 3) := by decide +kernel
theorem d_Wk_chooseEach_61 : decode prog_6_method_12_code 61 = .ok (.invokevirtual 95, 3) := by decide +kernel
theorem d_Wk_chooseEach_64 : decode prog_6_method_12_code 64 = .ok (.iinc 5 1, 3) := by decide +kernel
theorem d_Wk_chooseEach_67 : decode prog_6_method_12_code 67 = .ok (.goto (-52), 3) := by decide +kernel
theorem d_Wk_chooseEach_70 : decode prog_6_method_12_code 70 = .ok (.iinc 4 1, 3) := by decide +kernel
theorem d_Wk_chooseEach_73 : decode prog_6_method_12_code 73 = .ok (.goto (-70), 3) := by decide +kernel
theorem d_Wk_chooseEach_76 : decode prog_6_method_12_code 76 = .ok (.return_, 1) := by decide +kernel
theorem d_Wk_sum_0 : decode prog_6_method_13_code 0 = .ok (.iconst 0, 1) := by decide +kernel
theorem d_Wk_sum_1 : decode prog_6_method_13_code 1 = .ok (.istore_n 3, 1) := by decide +kernel
theorem d_Wk_sum_2 : decode prog_6_method_13_code 2 = .ok (.iload_n 3, 1) := by decide +kernel
theorem d_Wk_sum_3 : decode prog_6_method_13_code 3 = .ok (.aload_n 2, 1) := by decide +kernel
theorem d_Wk_sum_4 : decode prog_6_method_13_code 4 = .ok (.getfield 53, 3) := by decide +kernel
theorem d_Wk_sum_7 : decode prog_6_method_13_code 7 = .ok (.if_icmp .ge 35, 3) := by decide +kernel
theorem d_Wk_sum_10 : decode prog_6_method_13_code 10 = .ok (.iconst 0, 1) := by decide +kernel
theorem d_Wk_sum_11 : decode prog_6_method_13_code 11 = .ok (.istore 4, 2) := by decide +kernel
theorem d_Wk_sum_13 : decode prog_6_method_13_code 13 = .ok (.iload 4, 2) := by decide +kernel
theorem d_Wk_sum_15 : decode prog_6_method_13_code 15 = .ok (.aload_n 2, 1) := by decide +kernel
theorem d_Wk_sum_16 : decode prog_6_method_13_code 16 = .ok (.getfield 58, 3) := by decide +kernel
theorem d_Wk_sum_19 : decode prog_6_method_13_code 19 = .ok (.if_icmp .ge 17, 3) := by decide +kernel
theorem d_Wk_sum_22 : decode prog_6_method_13_code 22 = .ok (.aload_n 2, 1) := by decide +kernel
theorem d_Wk_sum_23 : decode prog_6_method_13_code 23 = .ok (.iload_n 3, 1) := by decide +kernel
theorem d_Wk_sum_24 : decode prog_6_method_13_code 24 = .ok (.iload 4, 2) := by decide +kernel
theorem d_Wk_sum_26 : decode prog_6_method_13_code 26 = .ok (.dconst 0, 1) := by decide +kernel
theorem d_Wk_sum_27 : decode prog_6_method_13_code 27 = .ok (.invokevirtual 95, 3) := by decide +kernel
theorem d_Wk_sum_30 : decode prog_6_method_13_code 30 = .ok (.iinc 4 1, 3) := by decide +kernel
theorem d_Wk_sum_33 : decode prog_6_method_13_code 33 = .ok (.goto (-20), 3) := by decide +kernel
theorem d_Wk_sum_36 : decode prog_6_method_13_code 36 = .ok (.iinc 3 1, 3) := by decide +kernel
theorem d_Wk_sum_39 : decode prog_6_method_13_code 39 = .ok (.goto (-37), 3) := by decide +kernel
theorem d_Wk_sum_42 : decode prog_6_method_13_code 42 = .ok (.iconst 0, 1) := by decide +kernel
theorem d_Wk_sum_43 : decode prog_6_method_13_code 43 = .ok (.istore_n 3, 1) := by decide +kernel
theorem d_Wk_sum_44 : decode prog_6_method_13_code 44 = .ok (.iload_n 3, 1) := by decide +kernel
theorem d_Wk_sum_45 : decode prog_6_method_13_code 45 = .ok (.aload_n 1, 1) := by decide +kernel
theorem d_Wk_sum_46 : decode prog_6_method_13_code 46 = .ok (.getfield 53, 3) := by decide +kernel
theorem d_Wk_sum_49 : decode prog_6_method_13_code 49 = .ok (.if_icmp .ge 104, 3) := by decide +kernel
theorem d_Wk_sum_52 : decode prog_6_method_13_code 52 = .ok (.iconst 0, 1) := by decide +kernel
theorem d_Wk_sum_53 : decode prog_6_method_13_code 53 = .ok (.istore 4, 2) := by decide +kernel
theorem d_Wk_sum_55 : decode prog_6_method_13_code 55 = .ok (.iload 4, 2) := by decide +kernel
theorem d_Wk_sum_57 : decode prog_6_method_13_code 57 = .ok (.aload_n 1, 1) := by decide +kernel
theorem d_Wk_sum_58 : decode prog_6_method_13_code 58 = .ok (.getfield 58, 3) := by decide +kernel
theorem d_Wk_sum_61 : decode prog_6_method_13_code 61 = .ok (.if_icmp .ge 86, 3) := by decide +kernel
theorem d_Wk_sum_64 : decode prog_6_method_13_code 64 = .ok (.iload_n 0, 1) := by decide +kernel
theorem d_Wk_sum_65 : decode prog_6_method_13_code 65 = .ok (.ifCond .ne 7, 3) := by decide +kernel
theorem d_Wk_sum_68 : decode prog_6_method_13_code 68 = .ok (.iconst 0, 1) := by decide +kernel
theorem d_Wk_sum_69 : decode prog_6_method_13_code 69 = .ok (.goto 4, 3) := by decide +kernel
theorem d_Wk_sum_72 : decode prog_6_method_13_code 72 = .ok (.iload_n 3, 1) := by decide +kernel
theorem d_Wk_sum_73 : decode prog_6_method_13_code 73 = .ok (.istore 5, 2) := by decide +kernel
theorem d_Wk_sum_75 : decode prog_6_method_13_code 75 = .ok (.iload_n 0, 1) := by decide +kernel
theorem d_Wk_sum_76 : decode prog_6_method_13_code 76 = .ok (.ifCond .ne 8, 3) := by decide +kernel
theorem d_Wk_sum_79 : decode prog_6_method_13_code 79 = .ok (.iload 4, 2) := by decide +kernel
theorem d_Wk_sum_81 : decode prog_6_method_13_code 81 = .ok (.goto 4, 3) := by decide +kernel
theorem d_Wk_sum_84 : decode prog_6_method_13_code 84 = .ok (.iconst 0, 1) := by decide +kernel
theorem d_Wk_sum_85 : decode prog_6_method_13_code 85 = .ok (.istore 6, 2) := by decide +kernel
theorem d_Wk_sum_87 : decode prog_6_method_13_code 87 = .ok (.aload_n 2, 1) := by decide +kernel
theorem d_Wk_sum_88 : decode prog_6_method_13_code 88 = .ok (.iload 5, 2) := by decide +kernel
theorem d_Wk_sum_90 : decode prog_6_method_13_code 90 = .ok (.iload 6, 2) := by decide +kernel
theorem d_Wk_sum_92 : decode prog_6_method_13_code 92 = .ok (.invokevirtual 103, 3) := by decide +kernel
theorem d_Wk_sum_95 : decode prog_6_method_13_code 95 = .ok (.dstore 7, 2) := by decide +kernel
theorem d_Wk_sum_97 : decode prog_6_method_13_code 97 = .ok (.aload_n 1, 1) := by decide +kernel
theorem d_Wk_sum_98 : decode prog_6_method_13_code 98 = .ok (.iload_n 3, 1) := by decide +kernel
theorem d_Wk_sum_99 : decode prog_6_method_13_code 99 = .ok (.iload 4, 2) := by decide +kernel
theorem d_Wk_sum_101 : decode prog_6_method_13_code 101 = .ok (.invokevirtual 103, 3) := by decide +kernel
theorem d_Wk_sum_104 : decode prog_6_method_13_code 104 = .ok (.dstore 9, 2) := by decide +kernel
theorem d_Wk_sum_106 : decode prog_6_method_13_code 106 = .ok (.aload_n 2, 1) := by decide +kernel
theorem d_Wk_sum_107 : decode prog_6_method_13_code 107 = .ok (.iload 5, 2) := by decide +kernel
theorem d_Wk_sum_109 : decode prog_6_method_13_code 109 = .ok (.iload 6, 2) := by decide +kernel
theorem d_Wk_sum_111 : decode prog_6_method_13_code 111 = .ok (.aload_n 1, 1) := by decide +kernel
theorem d_Wk_sum_112 : decode prog_6_method_13_code 112 = .ok (.getfield 84, 3) := by decide +kernel
theorem d_Wk_sum_115 : decode prog_6_method_13_code 115 = .ok (.iconst 1, 1) := by decide +kernel
theorem d_Wk_sum_116 : decode prog_6_method_13_code 116 = .ok (.if_icmp .ne 17, 3) := by decide +kernel
theorem d_Wk_sum_119 : decode prog_6_method_13_code 119 = .ok (.iconst 0, 1) := by decide +kernel
theorem d_Wk_sum_120 : decode prog_6_method_13_code 120 = .ok (.dload 7, 2) := by decide +kernel
theorem d_Wk_sum_122 : decode prog_6_method_13_code 122 = .ok (.d2i, 1) := by decide +kernel
theorem d_Wk_sum_123 : decode prog_6_method_13_code 123 = .ok (.dload 9, 2) := by decide +kernel
theorem d_Wk_sum_125 : decode prog_6_method_13_code 125 = .ok (.d2i, 1) := by decide +kernel
theorem d_Wk_sum_126 : decode prog_6_method_13_code 126 = .ok (.invokestatic 87, 3) := by decide +kernel
theorem d_Wk_sum_129 : decode prog_6_method_13_code 129 = .ok (.i2d, 1) := by decide +kernel
theorem d_Wk_sum_130 : decode prog_6_method_13_code 130 = .ok (.goto 8, 3) := by decide +kernel
theorem d_Wk_sum_133 : decode prog_6_method_13_code 133 = .ok (.dload 7, 2) := by decide +kernel
theorem d_Wk_sum_135 : decode prog_6_method_13_code 135 = .ok (.dload 9, 2) := by decide +kernel
theorem d_Wk_sum_137 : decode prog_6_method_13_code 137 = .ok (.dadd, 1) := by decide +kernel
theorem d_Wk_sum_138 : decode prog_6_method_13_code 138 = .ok (.invokevirtual 95, 3) := by decide +kernel
theorem d_Wk_sum_141 : decode prog_6_method_13_code 141 = .ok (.iinc 4 1, 3) := by decide +kernel
theorem d_Wk_sum_144 : decode prog_6_method_13_code 144 = .ok (.goto (-89), 3) := by decide +kernel
theorem d_Wk_sum_147 : decode prog_6_method_13_code 147 = .ok (.iinc 3 1, 3) := by decide +kernel
theorem d_Wk_sum_150 : decode prog_6_method_13_code 150 = .ok (.goto (-106), 3) := by decide +kernel
theorem d_Wk_sum_153 : decode prog_6_method_13_code 153 = .ok (.return_, 1) := by decide +kernel
theorem d_Wk_pairInts_0 : decode prog_6_method_4_code 0 = .ok (.iload_n 0, 1) := by decide +kernel
theorem d_Wk_pairInts_1 : decode prog_6_method_4_code 1 = .ok (.tableswitch 39 0 2 #[27, 31, 35], 27) := by decide +kernel
theorem d_Wk_pairInts_28 : decode prog_6_method_4_code 28 = .ok (.iload_n 1, 1) := by decide +kernel
theorem d_Wk_pairInts_29 : decode prog_6_method_4_code 29 = .ok (.iload_n 2, 1) := by decide +kernel
theorem d_Wk_pairInts_30 : decode prog_6_method_4_code 30 = .ok (.iadd, 1) := by decide +kernel
theorem d_Wk_pairInts_31 : decode prog_6_method_4_code 31 = .ok (.ireturn, 1) := by decide +kernel
theorem d_Wk_pairInts_32 : decode prog_6_method_4_code 32 = .ok (.iload_n 1, 1) := by decide +kernel
theorem d_Wk_pairInts_33 : decode prog_6_method_4_code 33 = .ok (.iload_n 2, 1) := by decide +kernel
theorem d_Wk_pairInts_34 : decode prog_6_method_4_code 34 = .ok (.isub, 1) := by decide +kernel
theorem d_Wk_pairInts_35 : decode prog_6_method_4_code 35 = .ok (.ireturn, 1) := by decide +kernel
theorem d_Wk_pairInts_36 : decode prog_6_method_4_code 36 = .ok (.iload_n 1, 1) := by decide +kernel
theorem d_Wk_pairInts_37 : decode prog_6_method_4_code 37 = .ok (.iload_n 2, 1) := by decide +kernel
theorem d_Wk_pairInts_38 : decode prog_6_method_4_code 38 = .ok (.imul, 1) := by decide +kernel
theorem d_Wk_pairInts_39 : decode prog_6_method_4_code 39 = .ok (.ireturn, 1) := by decide +kernel
theorem d_Wk_pairInts_40 : decode prog_6_method_4_code 40 = .ok (.iload_n 1, 1) := by decide +kernel
theorem d_Wk_pairInts_41 : decode prog_6_method_4_code 41 = .ok (.iload_n 2, 1) := by decide +kernel
theorem d_Wk_pairInts_42 : decode prog_6_method_4_code 42 = .ok (.if_icmp .ge 7, 3) := by decide +kernel
theorem d_Wk_pairInts_45 : decode prog_6_method_4_code 45 = .ok (.iconst 1, 1) := by decide +kernel
theorem d_Wk_pairInts_46 : decode prog_6_method_4_code 46 = .ok (.goto 4, 3) := by decide +kernel
theorem d_Wk_pairInts_49 : decode prog_6_method_4_code 49 = .ok (.iconst 0, 1) := by decide +kernel
theorem d_Wk_pairInts_50 : decode prog_6_method_4_code 50 = .ok (.ireturn, 1) := by decide +kernel
theorem d_Wk_greatest_0 : decode prog_6_method_14_code 0 = .ok (.iconst 0, 1) := by decide +kernel
theorem d_Wk_greatest_1 : decode prog_6_method_14_code 1 = .ok (.istore_n 3, 1) := by decide +kernel
theorem d_Wk_greatest_2 : decode prog_6_method_14_code 2 = .ok (.iload_n 3, 1) := by decide +kernel
theorem d_Wk_greatest_3 : decode prog_6_method_14_code 3 = .ok (.aload_n 1, 1) := by decide +kernel
theorem d_Wk_greatest_4 : decode prog_6_method_14_code 4 = .ok (.getfield 53, 3) := by decide +kernel
theorem d_Wk_greatest_7 : decode prog_6_method_14_code 7 = .ok (.if_icmp .ge 117, 3) := by decide +kernel
theorem d_Wk_greatest_10 : decode prog_6_method_14_code 10 = .ok (.iconst 0, 1) := by decide +kernel
theorem d_Wk_greatest_11 : decode prog_6_method_14_code 11 = .ok (.istore 4, 2) := by decide +kernel
theorem d_Wk_greatest_13 : decode prog_6_method_14_code 13 = .ok (.iload 4, 2) := by decide +kernel
theorem d_Wk_greatest_15 : decode prog_6_method_14_code 15 = .ok (.aload_n 1, 1) := by decide +kernel
theorem d_Wk_greatest_16 : decode prog_6_method_14_code 16 = .ok (.getfield 58, 3) := by decide +kernel
theorem d_Wk_greatest_19 : decode prog_6_method_14_code 19 = .ok (.if_icmp .ge 99, 3) := by decide +kernel
theorem d_Wk_greatest_22 : decode prog_6_method_14_code 22 = .ok (.iload_n 0, 1) := by decide +kernel
theorem d_Wk_greatest_23 : decode prog_6_method_14_code 23 = .ok (.ifCond .ne 7, 3) := by decide +kernel
theorem d_Wk_greatest_26 : decode prog_6_method_14_code 26 = .ok (.iconst 0, 1) := by decide +kernel
theorem d_Wk_greatest_27 : decode prog_6_method_14_code 27 = .ok (.goto 4, 3) := by decide +kernel
theorem d_Wk_greatest_30 : decode prog_6_method_14_code 30 = .ok (.iload_n 3, 1) := by decide +kernel
theorem d_Wk_greatest_31 : decode prog_6_method_14_code 31 = .ok (.istore 5, 2) := by decide +kernel
theorem d_Wk_greatest_33 : decode prog_6_method_14_code 33 = .ok (.iload_n 0, 1) := by decide +kernel
theorem d_Wk_greatest_34 : decode prog_6_method_14_code 34 = .ok (.ifCond .ne 8, 3) := by decide +kernel
theorem d_Wk_greatest_37 : decode prog_6_method_14_code 37 = .ok (.iload 4, 2) := by decide +kernel
theorem d_Wk_greatest_39 : decode prog_6_method_14_code 39 = .ok (.goto 4, 3) := by decide +kernel
theorem d_Wk_greatest_42 : decode prog_6_method_14_code 42 = .ok (.iconst 0, 1) := by decide +kernel
theorem d_Wk_greatest_43 : decode prog_6_method_14_code 43 = .ok (.istore 6, 2) := by decide +kernel
theorem d_Wk_greatest_45 : decode prog_6_method_14_code 45 = .ok (.iload_n 0, 1) := by decide +kernel
theorem d_Wk_greatest_46 : decode prog_6_method_14_code 46 = .ok (.ifCond .ne 15, 3) := by decide +kernel
theorem d_Wk_greatest_49 : decode prog_6_method_14_code 49 = .ok (.iload_n 3, 1) := by decide +kernel
theorem d_Wk_greatest_50 : decode prog_6_method_14_code 50 = .ok (.ifCond .ne 7, 3) := by decide +kernel
theorem d_Wk_greatest_53 : decode prog_6_method_14_code 53 = .ok (.iconst 1, 1) := by decide +kernel
theorem d_Wk_greatest_54 : decode prog_6_method_14_code 54 = .ok (.goto 17, 3) := by decide +kernel
theorem d_Wk_greatest_57 : decode prog_6_method_14_code 57 = .ok (.iconst 0, 1) := by decide +kernel
theorem d_Wk_greatest_58 : decode prog_6_method_14_code 58 = .ok (.goto 13, 3) := by decide +kernel
theorem d_Wk_greatest_61 : decode prog_6_method_14_code 61 = .ok (.iload 4, 2) := by decide +kernel
theorem d_Wk_greatest_63 : decode prog_6_method_14_code 63 = .ok (.ifCond .ne 7, 3) := by decide +kernel
theorem d_Wk_greatest_66 : decode prog_6_method_14_code 66 = .ok (.iconst 1, 1) := by decide +kernel
theorem d_Wk_greatest_67 : decode prog_6_method_14_code 67 = .ok (.goto 4, 3) := by decide +kernel
theorem d_Wk_greatest_70 : decode prog_6_method_14_code 70 = .ok (.iconst 0, 1) := by decide +kernel
theorem d_Wk_greatest_71 : decode prog_6_method_14_code 71 = .ok (.istore 7, 2) := by decide +kernel
theorem d_Wk_greatest_73 : decode prog_6_method_14_code 73 = .ok (.iload 7, 2) := by decide +kernel
theorem d_Wk_greatest_75 : decode prog_6_method_14_code 75 = .ok (.ifCond .ne 22, 3) := by decide +kernel
theorem d_Wk_greatest_78 : decode prog_6_method_14_code 78 = .ok (.aload_n 1, 1) := by decide +kernel
theorem d_Wk_greatest_79 : decode prog_6_method_14_code 79 = .ok (.iload_n 3, 1) := by decide +kernel
theorem d_Wk_greatest_80 : decode prog_6_method_14_code 80 = .ok (.iload 4, 2) := by decide +kernel
theorem d_Wk_greatest_82 : decode prog_6_method_14_code 82 = .ok (.invokevirtual 103, 3) := by decide +kernel
theorem d_Wk_greatest_85 : decode prog_6_method_14_code 85 = .ok (.aload_n 2, 1) := by decide +kernel
theorem d_Wk_greatest_86 : decode prog_6_method_14_code 86 = .ok (.iload 5, 2) := by decide +kernel
theorem d_Wk_greatest_88 : decode prog_6_method_14_code 88 = .ok (.iload 6, 2) := by decide +kernel
theorem d_Wk_greatest_90 : decode prog_6_method_14_code 90 = .ok (.invokevirtual 103, 3) := by decide +kernel
theorem d_Wk_greatest_93 : decode prog_6_method_14_code 93 = .ok (.dcmp .l, 1) := by decide +kernel
theorem d_Wk_greatest_94 : decode prog_6_method_14_code 94 = .ok (.ifCond .le 18, 3) := by decide +kernel
theorem d_Wk_greatest_97 : decode prog_6_method_14_code 97 = .ok (.aload_n 2, 1) := by decide +kernel
theorem d_Wk_greatest_98 : decode prog_6_method_14_code 98 = .ok (.iload 5, 2) := by decide +kernel
theorem d_Wk_greatest_100 : decode prog_6_method_14_code 100 = .ok (.iload 6, 2) := by decide +kernel
theorem d_Wk_greatest_102 : decode prog_6_method_14_code 102 = .ok (.aload_n 1, 1) := by decide +kernel
theorem d_Wk_greatest_103 : decode prog_6_method_14_code 103 = .ok (.iload_n 3, 1) := by decide +kernel
theorem d_Wk_greatest_104 : decode prog_6_method_14_code 104 = .ok (.iload 4, 2) := by decide +kernel
theorem d_Wk_greatest_106 : decode prog_6_method_14_code 106 = .ok (.invokevirtual 103, 3) := by decide +kernel
theorem d_Wk_greatest_109 : decode prog_6_method_14_code 109 = .ok (.invokevirtual 95, 3) := by decide +kernel
theorem d_Wk_greatest_112 : decode prog_6_method_14_code 112 = .ok (.iinc 4 1, 3) := by decide +kernel
theorem d_Wk_greatest_115 : decode prog_6_method_14_code 115 = .ok (.goto (-102), 3) := by decide +kernel
theorem d_Wk_greatest_118 : decode prog_6_method_14_code 118 = .ok (.iinc 3 1, 3) := by decide +kernel
theorem d_Wk_greatest_121 : decode prog_6_method_14_code 121 = .ok (.goto (-119), 3) := by decide +kernel
theorem d_Wk_greatest_124 : decode prog_6_method_14_code 124 = .ok (.return_, 1) := by decide +kernel
theorem d_Wk_firstGreatest_0 : decode prog_6_method_15_code 0 = .ok (.iconst 0, 1) := by decide +kernel
theorem d_Wk_firstGreatest_1 : decode prog_6_method_15_code 1 = .ok (.istore_n 2, 1) := by decide +kernel
theorem d_Wk_firstGreatest_2 : decode prog_6_method_15_code 2 = .ok (.iload_n 2, 1) := by decide +kernel
theorem d_Wk_firstGreatest_3 : decode prog_6_method_15_code 3 = .ok (.aload_n 0, 1) := by decide +kernel
theorem d_Wk_firstGreatest_4 : decode prog_6_method_15_code 4 = .ok (.getfield 53, 3) := by decide +kernel
theorem d_Wk_firstGreatest_7 : decode prog_6_method_15_code 7 = .ok (.if_icmp .ge 57, 3) := by decide +kernel
theorem d_Wk_firstGreatest_10 : decode prog_6_method_15_code 10 = .ok (.iconst 0, 1) := by decide +kernel
theorem d_Wk_firstGreatest_11 : decode prog_6_method_15_code 11 = .ok (.istore_n 3, 1) := by decide +kernel
theorem d_Wk_firstGreatest_12 : decode prog_6_method_15_code 12 = .ok (.iconst 1, 1) := by decide +kernel
theorem d_Wk_firstGreatest_13 : decode prog_6_method_15_code 13 = .ok (.istore 4, 2) := by decide +kernel
theorem d_Wk_firstGreatest_15 : decode prog_6_method_15_code 15 = .ok (.iload 4, 2) := by decide +kernel
theorem d_Wk_firstGreatest_17 : decode prog_6_method_15_code 17 = .ok (.aload_n 0, 1) := by decide +kernel
theorem d_Wk_firstGreatest_18 : decode prog_6_method_15_code 18 = .ok (.getfield 58, 3) := by decide +kernel
theorem d_Wk_firstGreatest_21 : decode prog_6_method_15_code 21 = .ok (.if_icmp .ge 29, 3) := by decide +kernel
theorem d_Wk_firstGreatest_24 : decode prog_6_method_15_code 24 = .ok (.aload_n 0, 1) := by decide +kernel
theorem d_Wk_firstGreatest_25 : decode prog_6_method_15_code 25 = .ok (.iload_n 2, 1) := by decide +kernel
theorem d_Wk_firstGreatest_26 : decode prog_6_method_15_code 26 = .ok (.iload 4, 2) := by decide +kernel
theorem d_Wk_firstGreatest_28 : decode prog_6_method_15_code 28 = .ok (.invokevirtual 103, 3) := by decide +kernel
theorem d_Wk_firstGreatest_31 : decode prog_6_method_15_code 31 = .ok (.aload_n 0, 1) := by decide +kernel
theorem d_Wk_firstGreatest_32 : decode prog_6_method_15_code 32 = .ok (.iload_n 2, 1) := by decide +kernel
theorem d_Wk_firstGreatest_33 : decode prog_6_method_15_code 33 = .ok (.iload_n 3, 1) := by decide +kernel
theorem d_Wk_firstGreatest_34 : decode prog_6_method_15_code 34 = .ok (.invokevirtual 103, 3) := by decide +kernel
theorem d_Wk_firstGreatest_37 : decode prog_6_method_15_code 37 = .ok (.dcmp .l, 1) := by decide +kernel
theorem d_Wk_firstGreatest_38 : decode prog_6_method_15_code 38 = .ok (.ifCond .le 6, 3) := by decide +kernel
theorem d_Wk_firstGreatest_41 : decode prog_6_method_15_code 41 = .ok (.iload 4, 2) := by decide +kernel
theorem d_Wk_firstGreatest_43 : decode prog_6_method_15_code 43 = .ok (.istore_n 3, 1) := by decide +kernel
theorem d_Wk_firstGreatest_44 : decode prog_6_method_15_code 44 = .ok (.iinc 4 1, 3) := by decide +kernel
theorem d_Wk_firstGreatest_47 : decode prog_6_method_15_code 47 = .ok (.goto (-32), 3) := by decide +kernel
theorem d_Wk_firstGreatest_50 : decode prog_6_method_15_code 50 = .ok (.aload_n 1, 1) := by decide +kernel
theorem d_Wk_firstGreatest_51 : decode prog_6_method_15_code 51 = .ok (.iload_n 2, 1) := by decide +kernel
theorem d_Wk_firstGreatest_52 : decode prog_6_method_15_code 52 = .ok (.iconst 0, 1) := by decide +kernel
theorem d_Wk_firstGreatest_53 : decode prog_6_method_15_code 53 = .ok (.iload_n 3, 1) := by decide +kernel
theorem d_Wk_firstGreatest_54 : decode prog_6_method_15_code 54 = .ok (.i2d, 1) := by decide +kernel
theorem d_Wk_firstGreatest_55 : decode prog_6_method_15_code 55 = .ok (.invokevirtual 95, 3) := by decide +kernel
theorem d_Wk_firstGreatest_58 : decode prog_6_method_15_code 58 = .ok (.iinc 2 1, 3) := by decide +kernel
theorem d_Wk_firstGreatest_61 : decode prog_6_method_15_code 61 = .ok (.goto (-59), 3) := by decide +kernel
theorem d_Wk_firstGreatest_64 : decode prog_6_method_15_code 64 = .ok (.return_, 1) := by decide +kernel
theorem d_Wk_copy_0 : decode prog_6_method_16_code 0 = .ok (.iconst 0, 1) := by decide +kernel
theorem d_Wk_copy_1 : decode prog_6_method_16_code 1 = .ok (.istore 4, 2) := by decide +kernel
theorem d_Wk_copy_3 : decode prog_6_method_16_code 3 = .ok (.iload 4, 2) := by decide +kernel
theorem d_Wk_copy_5 : decode prog_6_method_16_code 5 = .ok (.aload_n 0, 1) := by decide +kernel
theorem d_Wk_copy_6 : decode prog_6_method_16_code 6 = .ok (.getfield 53, 3) := by decide +kernel
theorem d_Wk_copy_9 : decode prog_6_method_16_code 9 = .ok (.if_icmp .ge 47, 3) := by decide +kernel
theorem d_Wk_copy_12 : decode prog_6_method_16_code 12 = .ok (.iconst 0, 1) := by decide +kernel
theorem d_Wk_copy_13 : decode prog_6_method_16_code 13 = .ok (.istore 5, 2) := by decide +kernel
theorem d_Wk_copy_15 : decode prog_6_method_16_code 15 = .ok (.iload 5, 2) := by decide +kernel
theorem d_Wk_copy_17 : decode prog_6_method_16_code 17 = .ok (.aload_n 0, 1) := by decide +kernel
theorem d_Wk_copy_18 : decode prog_6_method_16_code 18 = .ok (.getfield 58, 3) := by decide +kernel
theorem d_Wk_copy_21 : decode prog_6_method_16_code 21 = .ok (.if_icmp .ge 29, 3) := by decide +kernel
theorem d_Wk_copy_24 : decode prog_6_method_16_code 24 = .ok (.aload_n 1, 1) := by decide +kernel
theorem d_Wk_copy_25 : decode prog_6_method_16_code 25 = .ok (.iload_n 2, 1) := by decide +kernel
theorem d_Wk_copy_26 : decode prog_6_method_16_code 26 = .ok (.iload 4, 2) := by decide +kernel
theorem d_Wk_copy_28 : decode prog_6_method_16_code 28 = .ok (.iadd, 1) := by decide +kernel
theorem d_Wk_copy_29 : decode prog_6_method_16_code 29 = .ok (.iload_n 3, 1) := by decide +kernel
theorem d_Wk_copy_30 : decode prog_6_method_16_code 30 = .ok (.iload 5, 2) := by decide +kernel
theorem d_Wk_copy_32 : decode prog_6_method_16_code 32 = .ok (.iadd, 1) := by decide +kernel
theorem d_Wk_copy_33 : decode prog_6_method_16_code 33 = .ok (.aload_n 0, 1) := by decide +kernel
theorem d_Wk_copy_34 : decode prog_6_method_16_code 34 = .ok (.iload 4, 2) := by decide +kernel
theorem d_Wk_copy_36 : decode prog_6_method_16_code 36 = .ok (.iload 5, 2) := by decide +kernel
theorem d_Wk_copy_38 : decode prog_6_method_16_code 38 = .ok (.invokevirtual 103, 3) := by decide +kernel
theorem d_Wk_copy_41 : decode prog_6_method_16_code 41 = .ok (.invokevirtual 95, 3) := by decide +kernel
theorem d_Wk_copy_44 : decode prog_6_method_16_code 44 = .ok (.iinc 5 1, 3) := by decide +kernel
theorem d_Wk_copy_47 : decode prog_6_method_16_code 47 = .ok (.goto (-32), 3) := by decide +kernel
theorem d_Wk_copy_50 : decode prog_6_method_16_code 50 = .ok (.iinc 4 1, 3) := by decide +kernel
theorem d_Wk_copy_53 : decode prog_6_method_16_code 53 = .ok (.goto (-50), 3) := by decide +kernel
theorem d_Wk_copy_56 : decode prog_6_method_16_code 56 = .ok (.return_, 1) := by decide +kernel
theorem d_Wk_cut_0 : decode prog_6_method_17_code 0 = .ok (.iconst 0, 1) := by decide +kernel
theorem d_Wk_cut_1 : decode prog_6_method_17_code 1 = .ok (.istore_n 3, 1) := by decide +kernel
theorem d_Wk_cut_2 : decode prog_6_method_17_code 2 = .ok (.iload_n 3, 1) := by decide +kernel
theorem d_Wk_cut_3 : decode prog_6_method_17_code 3 = .ok (.aload_n 2, 1) := by decide +kernel
theorem d_Wk_cut_4 : decode prog_6_method_17_code 4 = .ok (.getfield 53, 3) := by decide +kernel
theorem d_Wk_cut_7 : decode prog_6_method_17_code 7 = .ok (.if_icmp .ge 18, 3) := by decide +kernel
theorem d_Wk_cut_10 : decode prog_6_method_17_code 10 = .ok (.aload_n 1, 1) := by decide +kernel
theorem d_Wk_cut_11 : decode prog_6_method_17_code 11 = .ok (.iload_n 0, 1) := by decide +kernel
theorem d_Wk_cut_12 : decode prog_6_method_17_code 12 = .ok (.iload_n 3, 1) := by decide +kernel
theorem d_Wk_cut_13 : decode prog_6_method_17_code 13 = .ok (.iadd, 1) := by decide +kernel
theorem d_Wk_cut_14 : decode prog_6_method_17_code 14 = .ok (.aload_n 2, 1) := by decide +kernel
theorem d_Wk_cut_15 : decode prog_6_method_17_code 15 = .ok (.iload_n 3, 1) := by decide +kernel
theorem d_Wk_cut_16 : decode prog_6_method_17_code 16 = .ok (.invokestatic 113, 3) := by decide +kernel
theorem d_Wk_cut_19 : decode prog_6_method_17_code 19 = .ok (.iinc 3 1, 3) := by decide +kernel
theorem d_Wk_cut_22 : decode prog_6_method_17_code 22 = .ok (.goto (-20), 3) := by decide +kernel
theorem d_Wk_cut_25 : decode prog_6_method_17_code 25 = .ok (.return_, 1) := by decide +kernel
theorem d_Wk_slide_0 : decode prog_6_method_20_code 0 = .ok (.iconst 0, 1) := by decide +kernel
theorem d_Wk_slide_1 : decode prog_6_method_20_code 1 = .ok (.istore 4, 2) := by decide +kernel
theorem d_Wk_slide_3 : decode prog_6_method_20_code 3 = .ok (.iload 4, 2) := by decide +kernel
theorem d_Wk_slide_5 : decode prog_6_method_20_code 5 = .ok (.aload_n 3, 1) := by decide +kernel
theorem d_Wk_slide_6 : decode prog_6_method_20_code 6 = .ok (.getfield 53, 3) := by decide +kernel
theorem d_Wk_slide_9 : decode prog_6_method_20_code 9 = .ok (.if_icmp .ge 111, 3) := by decide +kernel
theorem d_Wk_slide_12 : decode prog_6_method_20_code 12 = .ok (.iconst 0, 1) := by decide +kernel
theorem d_Wk_slide_13 : decode prog_6_method_20_code 13 = .ok (.istore 5, 2) := by decide +kernel
theorem d_Wk_slide_15 : decode prog_6_method_20_code 15 = .ok (.iload 5, 2) := by decide +kernel
theorem d_Wk_slide_17 : decode prog_6_method_20_code 17 = .ok (.aload_n 3, 1) := by decide +kernel
theorem d_Wk_slide_18 : decode prog_6_method_20_code 18 = .ok (.getfield 58, 3) := by decide +kernel
theorem d_Wk_slide_21 : decode prog_6_method_20_code 21 = .ok (.if_icmp .ge 93, 3) := by decide +kernel
theorem d_Wk_slide_24 : decode prog_6_method_20_code 24 = .ok (.dconst 0, 1) := by decide +kernel
theorem d_Wk_slide_25 : decode prog_6_method_20_code 25 = .ok (.dstore 6, 2) := by decide +kernel
theorem d_Wk_slide_27 : decode prog_6_method_20_code 27 = .ok (.iconst 0, 1) := by decide +kernel
theorem d_Wk_slide_28 : decode prog_6_method_20_code 28 = .ok (.istore 8, 2) := by decide +kernel
theorem d_Wk_slide_30 : decode prog_6_method_20_code 30 = .ok (.iload 8, 2) := by decide +kernel
theorem d_Wk_slide_32 : decode prog_6_method_20_code 32 = .ok (.aload_n 2, 1) := by decide +kernel
theorem d_Wk_slide_33 : decode prog_6_method_20_code 33 = .ok (.getfield 58, 3) := by decide +kernel
theorem d_Wk_slide_36 : decode prog_6_method_20_code 36 = .ok (.if_icmp .ge 62, 3) := by decide +kernel
theorem d_Wk_slide_39 : decode prog_6_method_20_code 39 = .ok (.iload 5, 2) := by decide +kernel
theorem d_Wk_slide_41 : decode prog_6_method_20_code 41 = .ok (.aload_n 0, 1) := by decide +kernel
theorem d_Wk_slide_42 : decode prog_6_method_20_code 42 = .ok (.getfield 36, 3) := by decide +kernel
theorem d_Wk_slide_45 : decode prog_6_method_20_code 45 = .ok (.imul, 1) := by decide +kernel
theorem d_Wk_slide_46 : decode prog_6_method_20_code 46 = .ok (.iload 8, 2) := by decide +kernel
theorem d_Wk_slide_48 : decode prog_6_method_20_code 48 = .ok (.iadd, 1) := by decide +kernel
theorem d_Wk_slide_49 : decode prog_6_method_20_code 49 = .ok (.aload_n 0, 1) := by decide +kernel
theorem d_Wk_slide_50 : decode prog_6_method_20_code 50 = .ok (.getfield 110, 3) := by decide +kernel
theorem d_Wk_slide_53 : decode prog_6_method_20_code 53 = .ok (.isub, 1) := by decide +kernel
theorem d_Wk_slide_54 : decode prog_6_method_20_code 54 = .ok (.istore 9, 2) := by decide +kernel
theorem d_Wk_slide_56 : decode prog_6_method_20_code 56 = .ok (.dload 6, 2) := by decide +kernel
theorem d_Wk_slide_58 : decode prog_6_method_20_code 58 = .ok (.aload_n 1, 1) := by decide +kernel
theorem d_Wk_slide_59 : decode prog_6_method_20_code 59 = .ok (.iload 4, 2) := by decide +kernel
theorem d_Wk_slide_61 : decode prog_6_method_20_code 61 = .ok (.iload 9, 2) := by decide +kernel
theorem d_Wk_slide_63 : decode prog_6_method_20_code 63 = .ok (.invokevirtual 117, 3) := by decide +kernel
theorem d_Wk_slide_66 : decode prog_6_method_20_code 66 = .ok (.ifCond .eq 14, 3) := by decide +kernel
theorem d_Wk_slide_69 : decode prog_6_method_20_code 69 = .ok (.aload_n 1, 1) := by decide +kernel
theorem d_Wk_slide_70 : decode prog_6_method_20_code 70 = .ok (.iload 4, 2) := by decide +kernel
theorem d_Wk_slide_72 : decode prog_6_method_20_code 72 = .ok (.iload 9, 2) := by decide +kernel
theorem d_Wk_slide_74 : decode prog_6_method_20_code 74 = .ok (.invokevirtual 103, 3) := by decide +kernel
theorem d_Wk_slide_77 : decode prog_6_method_20_code 77 = .ok (.goto 4, 3) := by decide +kernel
theorem d_Wk_slide_80 : decode prog_6_method_20_code 80 = .ok (.dconst 0, 1) := by decide +kernel
theorem d_Wk_slide_81 : decode prog_6_method_20_code 81 = .ok (.aload_n 2, 1) := by decide +kernel
theorem d_Wk_slide_82 : decode prog_6_method_20_code 82 = .ok (.iconst 0, 1) := by decide +kernel
theorem d_Wk_slide_83 : decode prog_6_method_20_code 83 = .ok (.iload 8, 2) := by decide +kernel
theorem d_Wk_slide_85 : decode prog_6_method_20_code 85 = .ok (.invokevirtual 103, 3) := by decide +kernel
theorem d_Wk_slide_88 : decode prog_6_method_20_code 88 = .ok (.dmul, 1) := by decide +kernel
theorem d_Wk_slide_89 : decode prog_6_method_20_code 89 = .ok (.dadd, 1) := by decide +kernel
theorem d_Wk_slide_90 : decode prog_6_method_20_code 90 = .ok (.dstore 6, 2) := by decide +kernel
theorem d_Wk_slide_92 : decode prog_6_method_20_code 92 = .ok (.iinc 8 1, 3) := by decide +kernel
theorem d_Wk_slide_95 : decode prog_6_method_20_code 95 = .ok (.goto (-65), 3) := by decide +kernel
theorem d_Wk_slide_98 : decode prog_6_method_20_code 98 = .ok (.aload_n 3, 1) := by decide +kernel
theorem d_Wk_slide_99 : decode prog_6_method_20_code 99 = .ok (.iload 4, 2) := by decide +kernel
theorem d_Wk_slide_101 : decode prog_6_method_20_code 101 = .ok (.iload 5, 2) := by decide +kernel
theorem d_Wk_slide_103 : decode prog_6_method_20_code 103 = .ok (.dload 6, 2) := by decide +kernel
theorem d_Wk_slide_105 : decode prog_6_method_20_code 105 = .ok (.invokevirtual 95, 3) := by decide +kernel
theorem d_Wk_slide_108 : decode prog_6_method_20_code 108 = .ok (.iinc 5 1, 3) := by decide +kernel
theorem d_Wk_slide_111 : decode prog_6_method_20_code 111 = .ok (.goto (-96), 3) := by decide +kernel
theorem d_Wk_slide_114 : decode prog_6_method_20_code 114 = .ok (.iinc 4 1, 3) := by decide +kernel
theorem d_Wk_slide_117 : decode prog_6_method_20_code 117 = .ok (.goto (-114), 3) := by decide +kernel
theorem d_Wk_slide_120 : decode prog_6_method_20_code 120 = .ok (.return_, 1) := by decide +kernel
theorem d_Wk_workEach_0 : decode prog_6_method_9_code 0 = .ok (.iconst 0, 1) := by decide +kernel
theorem d_Wk_workEach_1 : decode prog_6_method_9_code 1 = .ok (.istore_n 3, 1) := by decide +kernel
theorem d_Wk_workEach_2 : decode prog_6_method_9_code 2 = .ok (.iload_n 3, 1) := by decide +kernel
theorem d_Wk_workEach_3 : decode prog_6_method_9_code 3 = .ok (.aload_n 2, 1) := by decide +kernel
theorem d_Wk_workEach_4 : decode prog_6_method_9_code 4 = .ok (.getfield 53, 3) := by decide +kernel
theorem d_Wk_workEach_7 : decode prog_6_method_9_code 7 = .ok (.if_icmp .ge 45, 3) := by decide +kernel
theorem d_Wk_workEach_10 : decode prog_6_method_9_code 10 = .ok (.iconst 0, 1) := by decide +kernel
theorem d_Wk_workEach_11 : decode prog_6_method_9_code 11 = .ok (.istore 4, 2) := by decide +kernel
theorem d_Wk_workEach_13 : decode prog_6_method_9_code 13 = .ok (.iload 4, 2) := by decide +kernel
theorem d_Wk_workEach_15 : decode prog_6_method_9_code 15 = .ok (.aload_n 2, 1) := by decide +kernel
theorem d_Wk_workEach_16 : decode prog_6_method_9_code 16 = .ok (.getfield 58, 3) := by decide +kernel
theorem d_Wk_workEach_19 : decode prog_6_method_9_code 19 = .ok (.if_icmp .ge 27, 3) := by decide +kernel
theorem d_Wk_workEach_22 : decode prog_6_method_9_code 22 = .ok (.aload_n 2, 1) := by decide +kernel
theorem d_Wk_workEach_23 : decode prog_6_method_9_code 23 = .ok (.iload_n 3, 1) := by decide +kernel
theorem d_Wk_workEach_24 : decode prog_6_method_9_code 24 = .ok (.iload 4, 2) := by decide +kernel
theorem d_Wk_workEach_26 : decode prog_6_method_9_code 26 = .ok (.aload_n 0, 1) := by decide +kernel
theorem d_Wk_workEach_27 : decode prog_6_method_9_code 27 = .ok (.aload_n 1, 1) := by decide +kernel
theorem d_Wk_workEach_28 : decode prog_6_method_9_code 28 = .ok (.iload_n 3, 1) := by decide +kernel
theorem d_Wk_workEach_29 : decode prog_6_method_9_code 29 = .ok (.iload 4, 2) := by decide +kernel
theorem d_Wk_workEach_31 : decode prog_6_method_9_code 31 = .ok (.invokevirtual 103, 3) := by decide +kernel
theorem d_Wk_workEach_34 : decode prog_6_method_9_code 34 = .ok (.invokestatic 106, 3) := by decide +kernel
theorem d_Wk_workEach_37 : decode prog_6_method_9_code 37 = .ok (.invokevirtual 95, 3) := by decide +kernel
end
section
theorem d_Wk_workEach_40 : decode prog_6_method_9_code 40 = .ok (.iinc 4 1, 3) := by decide +kernel
theorem d_Wk_workEach_43 : decode prog_6_method_9_code 43 = .ok (.goto (-30), 3) := by decide +kernel
theorem d_Wk_workEach_46 : decode prog_6_method_9_code 46 = .ok (.iinc 3 1, 3) := by decide +kernel
theorem d_Wk_workEach_49 : decode prog_6_method_9_code 49 = .ok (.goto (-47), 3) := by decide +kernel
theorem d_Wk_workEach_52 : decode prog_6_method_9_code 52 = .ok (.return_, 1) := by decide +kernel
theorem d_Wk_ofOne_0 : decode prog_6_method_10_code 0 = .ok (.aload_n 0, 1) := by decide +kernel
theorem d_Wk_ofOne_1 : decode prog_6_method_10_code 1 = .ok (.getfield 9, 3) := by decide +kernel
theorem d_Wk_ofOne_4 : decode prog_6_method_10_code 4 = .ok (.lookupswitch 56 #[(5, 28), (7, 40)], 28) := by decide +kernel
theorem d_Wk_ofOne_32 : decode prog_6_method_10_code 32 = .ok (.dload_n 1, 1) := by decide +kernel
theorem d_Wk_ofOne_33 : decode prog_6_method_10_code 33 = .ok (.dconst 0, 1) := by decide +kernel
theorem d_Wk_ofOne_34 : decode prog_6_method_10_code 34 = .ok (.dcmp .l, 1) := by decide +kernel
theorem d_Wk_ofOne_35 : decode prog_6_method_10_code 35 = .ok (.ifCond .le 7, 3) := by decide +kernel
theorem d_Wk_ofOne_38 : decode prog_6_method_10_code 38 = .ok (.dload_n 1, 1) := by decide +kernel
theorem d_Wk_ofOne_39 : decode prog_6_method_10_code 39 = .ok (.goto 4, 3) := by decide +kernel
theorem d_Wk_ofOne_42 : decode prog_6_method_10_code 42 = .ok (.dconst 0, 1) := by decide +kernel
theorem d_Wk_ofOne_43 : decode prog_6_method_10_code 43 = .ok (.dreturn, 1) := by decide +kernel
theorem d_Wk_ofOne_44 : decode prog_6_method_10_code 44 = .ok (.aload_n 0, 1) := by decide +kernel
theorem d_Wk_ofOne_45 : decode prog_6_method_10_code 45 = .ok (.getfield 36, 3) := by decide +kernel
theorem d_Wk_ofOne_48 : decode prog_6_method_10_code 48 = .ok (.iconst 1, 1) := by decide +kernel
theorem d_Wk_ofOne_49 : decode prog_6_method_10_code 49 = .ok (.if_icmp .ne 9, 3) := by decide +kernel
theorem d_Wk_ofOne_52 : decode prog_6_method_10_code 52 = .ok (.dload_n 1, 1) := by decide +kernel
theorem d_Wk_ofOne_53 : decode prog_6_method_10_code 53 = .ok (.d2i, 1) := by decide +kernel
theorem d_Wk_ofOne_54 : decode prog_6_method_10_code 54 = .ok (.i2d, 1) := by decide +kernel
theorem d_Wk_ofOne_55 : decode prog_6_method_10_code 55 = .ok (.goto 4, 3) := by decide +kernel
theorem d_Wk_ofOne_58 : decode prog_6_method_10_code 58 = .ok (.dload_n 1, 1) := by decide +kernel
theorem d_Wk_ofOne_59 : decode prog_6_method_10_code 59 = .ok (.dreturn, 1) := by decide +kernel
theorem d_Wk_ofOne_60 : decode prog_6_method_10_code 60 = .ok (.dload_n 1, 1) := by decide +kernel
theorem d_Wk_ofOne_61 : decode prog_6_method_10_code 61 = .ok (.aload_n 0, 1) := by decide +kernel
theorem d_Wk_ofOne_62 : decode prog_6_method_10_code 62 = .ok (.getfield 36, 3) := by decide +kernel
theorem d_Wk_ofOne_65 : decode prog_6_method_10_code 65 = .ok (.i2d, 1) := by decide +kernel
theorem d_Wk_ofOne_66 : decode prog_6_method_10_code 66 = .ok (.dcmp .g, 1) := by decide +kernel
theorem d_Wk_ofOne_67 : decode prog_6_method_10_code 67 = .ok (.ifCond .ge 11, 3) := by decide +kernel
theorem d_Wk_ofOne_70 : decode prog_6_method_10_code 70 = .ok (.aload_n 0, 1) := by decide +kernel
theorem d_Wk_ofOne_71 : decode prog_6_method_10_code 71 = .ok (.getfield 36, 3) := by decide +kernel
theorem d_Wk_ofOne_74 : decode prog_6_method_10_code 74 = .ok (.i2d, 1) := by decide +kernel
theorem d_Wk_ofOne_75 : decode prog_6_method_10_code 75 = .ok (.goto 22, 3) := by decide +kernel
theorem d_Wk_ofOne_78 : decode prog_6_method_10_code 78 = .ok (.dload_n 1, 1) := by decide +kernel
theorem d_Wk_ofOne_79 : decode prog_6_method_10_code 79 = .ok (.aload_n 0, 1) := by decide +kernel
theorem d_Wk_ofOne_80 : decode prog_6_method_10_code 80 = .ok (.getfield 110, 3) := by decide +kernel
theorem d_Wk_ofOne_83 : decode prog_6_method_10_code 83 = .ok (.i2d, 1) := by decide +kernel
theorem d_Wk_ofOne_84 : decode prog_6_method_10_code 84 = .ok (.dcmp .l, 1) := by decide +kernel
theorem d_Wk_ofOne_85 : decode prog_6_method_10_code 85 = .ok (.ifCond .le 11, 3) := by decide +kernel
theorem d_Wk_ofOne_88 : decode prog_6_method_10_code 88 = .ok (.aload_n 0, 1) := by decide +kernel
theorem d_Wk_ofOne_89 : decode prog_6_method_10_code 89 = .ok (.getfield 110, 3) := by decide +kernel
theorem d_Wk_ofOne_92 : decode prog_6_method_10_code 92 = .ok (.i2d, 1) := by decide +kernel
theorem d_Wk_ofOne_93 : decode prog_6_method_10_code 93 = .ok (.goto 4, 3) := by decide +kernel
theorem d_Wk_ofOne_96 : decode prog_6_method_10_code 96 = .ok (.dload_n 1, 1) := by decide +kernel
theorem d_Wk_ofOne_97 : decode prog_6_method_10_code 97 = .ok (.dreturn, 1) := by decide +kernel
theorem d_Wk_pair_0 : decode prog_6_method_3_code 0 = .ok (.iconst 0, 1) := by decide +kernel
theorem d_Wk_pair_1 : decode prog_6_method_3_code 1 = .ok (.istore 4, 2) := by decide +kernel
theorem d_Wk_pair_3 : decode prog_6_method_3_code 3 = .ok (.iload 4, 2) := by decide +kernel
theorem d_Wk_pair_5 : decode prog_6_method_3_code 5 = .ok (.aload_n 3, 1) := by decide +kernel
theorem d_Wk_pair_6 : decode prog_6_method_3_code 6 = .ok (.getfield 53, 3) := by decide +kernel
theorem d_Wk_pair_9 : decode prog_6_method_3_code 9 = .ok (.if_icmp .ge 85, 3) := by decide +kernel
theorem d_Wk_pair_12 : decode prog_6_method_3_code 12 = .ok (.iconst 0, 1) := by decide +kernel
theorem d_Wk_pair_13 : decode prog_6_method_3_code 13 = .ok (.istore 5, 2) := by decide +kernel
theorem d_Wk_pair_15 : decode prog_6_method_3_code 15 = .ok (.iload 5, 2) := by decide +kernel
theorem d_Wk_pair_17 : decode prog_6_method_3_code 17 = .ok (.aload_n 3, 1) := by decide +kernel
theorem d_Wk_pair_18 : decode prog_6_method_3_code 18 = .ok (.getfield 58, 3) := by decide +kernel
theorem d_Wk_pair_21 : decode prog_6_method_3_code 21 = .ok (.if_icmp .ge 67, 3) := by decide +kernel
theorem d_Wk_pair_24 : decode prog_6_method_3_code 24 = .ok (.aload_n 1, 1) := by decide +kernel
theorem d_Wk_pair_25 : decode prog_6_method_3_code 25 = .ok (.iload 4, 2) := by decide +kernel
theorem d_Wk_pair_27 : decode prog_6_method_3_code 27 = .ok (.iload 5, 2) := by decide +kernel
theorem d_Wk_pair_29 : decode prog_6_method_3_code 29 = .ok (.invokevirtual 80, 3) := by decide +kernel
theorem d_Wk_pair_32 : decode prog_6_method_3_code 32 = .ok (.dstore 6, 2) := by decide +kernel
theorem d_Wk_pair_34 : decode prog_6_method_3_code 34 = .ok (.aload_n 2, 1) := by decide +kernel
theorem d_Wk_pair_35 : decode prog_6_method_3_code 35 = .ok (.iload 4, 2) := by decide +kernel
theorem d_Wk_pair_37 : decode prog_6_method_3_code 37 = .ok (.iload 5, 2) := by decide +kernel
theorem d_Wk_pair_39 : decode prog_6_method_3_code 39 = .ok (.invokevirtual 80, 3) := by decide +kernel
theorem d_Wk_pair_42 : decode prog_6_method_3_code 42 = .ok (.dstore 8, 2) := by decide +kernel
theorem d_Wk_pair_44 : decode prog_6_method_3_code 44 = .ok (.aload_n 3, 1) := by decide +kernel
theorem d_Wk_pair_45 : decode prog_6_method_3_code 45 = .ok (.iload 4, 2) := by decide +kernel
theorem d_Wk_pair_47 : decode prog_6_method_3_code 47 = .ok (.iload 5, 2) := by decide +kernel
theorem d_Wk_pair_49 : decode prog_6_method_3_code 49 = .ok (.aload_n 1, 1) := by decide +kernel
theorem d_Wk_pair_50 : decode prog_6_method_3_code 50 = .ok (.getfield 84, 3) := by decide +kernel
theorem d_Wk_pair_53 : decode prog_6_method_3_code 53 = .ok (.iconst 1, 1) := by decide +kernel
theorem d_Wk_pair_54 : decode prog_6_method_3_code 54 = .ok (.if_icmp .ne 17, 3) := by decide +kernel
theorem d_Wk_pair_57 : decode prog_6_method_3_code 57 = .ok (.iload_n 0, 1) := by decide +kernel
theorem d_Wk_pair_58 : decode prog_6_method_3_code 58 = .ok (.dload 6, 2) := by decide +kernel
theorem d_Wk_pair_60 : decode prog_6_method_3_code 60 = .ok (.d2i, 1) := by decide +kernel
theorem d_Wk_pair_61 : decode prog_6_method_3_code 61 = .ok (.dload 8, 2) := by decide +kernel
theorem d_Wk_pair_63 : decode prog_6_method_3_code 63 = .ok (.d2i, 1) := by decide +kernel
theorem d_Wk_pair_64 : decode prog_6_method_3_code 64 = .ok (.invokestatic 87, 3) := by decide +kernel
theorem d_Wk_pair_67 : decode prog_6_method_3_code 67 = .ok (.i2d, 1) := by decide +kernel
theorem d_Wk_pair_68 : decode prog_6_method_3_code 68 = .ok (.goto 11, 3) := by decide +kernel
theorem d_Wk_pair_71 : decode prog_6_method_3_code 71 = .ok (.iload_n 0, 1) := by decide +kernel
theorem d_Wk_pair_72 : decode prog_6_method_3_code 72 = .ok (.dload 6, 2) := by decide +kernel
theorem d_Wk_pair_74 : decode prog_6_method_3_code 74 = .ok (.dload 8, 2) := by decide +kernel
theorem d_Wk_pair_76 : decode prog_6_method_3_code 76 = .ok (.invokestatic 91, 3) := by decide +kernel
theorem d_Wk_pair_79 : decode prog_6_method_3_code 79 = .ok (.invokevirtual 95, 3) := by decide +kernel
theorem d_Wk_pair_82 : decode prog_6_method_3_code 82 = .ok (.iinc 5 1, 3) := by decide +kernel
theorem d_Wk_pair_85 : decode prog_6_method_3_code 85 = .ok (.goto (-70), 3) := by decide +kernel
theorem d_Wk_pair_88 : decode prog_6_method_3_code 88 = .ok (.iinc 4 1, 3) := by decide +kernel
theorem d_Wk_pair_91 : decode prog_6_method_3_code 91 = .ok (.goto (-88), 3) := by decide +kernel
theorem d_Wk_pair_94 : decode prog_6_method_3_code 94 = .ok (.return_, 1) := by decide +kernel
theorem d_Wk_pairFloats_0 : decode prog_6_method_5_code 0 = .ok (.iload_n 0, 1) := by decide +kernel
theorem d_Wk_pairFloats_1 : decode prog_6_method_5_code 1 = .ok (.tableswitch 39 0 2 #[27, 31, 35], 27) := by decide +kernel
theorem d_Wk_pairFloats_28 : decode prog_6_method_5_code 28 = .ok (.dload_n 1, 1) := by decide +kernel
theorem d_Wk_pairFloats_29 : decode prog_6_method_5_code 29 = .ok (.dload_n 3, 1) := by decide +kernel
theorem d_Wk_pairFloats_30 : decode prog_6_method_5_code 30 = .ok (.dadd, 1) := by decide +kernel
theorem d_Wk_pairFloats_31 : decode prog_6_method_5_code 31 = .ok (.dreturn, 1) := by decide +kernel
theorem d_Wk_pairFloats_32 : decode prog_6_method_5_code 32 = .ok (.dload_n 1, 1) := by decide +kernel
theorem d_Wk_pairFloats_33 : decode prog_6_method_5_code 33 = .ok (.dload_n 3, 1) := by decide +kernel
theorem d_Wk_pairFloats_34 : decode prog_6_method_5_code 34 = .ok (.dsub, 1) := by decide +kernel
theorem d_Wk_pairFloats_35 : decode prog_6_method_5_code 35 = .ok (.dreturn, 1) := by decide +kernel
theorem d_Wk_pairFloats_36 : decode prog_6_method_5_code 36 = .ok (.dload_n 1, 1) := by decide +kernel
theorem d_Wk_pairFloats_37 : decode prog_6_method_5_code 37 = .ok (.dload_n 3, 1) := by decide +kernel
theorem d_Wk_pairFloats_38 : decode prog_6_method_5_code 38 = .ok (.dmul, 1) := by decide +kernel
theorem d_Wk_pairFloats_39 : decode prog_6_method_5_code 39 = .ok (.dreturn, 1) := by decide +kernel
theorem d_Wk_pairFloats_40 : decode prog_6_method_5_code 40 = .ok (.dload_n 1, 1) := by decide +kernel
theorem d_Wk_pairFloats_41 : decode prog_6_method_5_code 41 = .ok (.dload_n 3, 1) := by decide +kernel
theorem d_Wk_pairFloats_42 : decode prog_6_method_5_code 42 = .ok (.dcmp .g, 1) := by decide +kernel
theorem d_Wk_pairFloats_43 : decode prog_6_method_5_code 43 = .ok (.ifCond .ge 7, 3) := by decide +kernel
theorem d_Wk_pairFloats_46 : decode prog_6_method_5_code 46 = .ok (.dconst 1, 1) := by decide +kernel
theorem d_Wk_pairFloats_47 : decode prog_6_method_5_code 47 = .ok (.goto 4, 3) := by decide +kernel
theorem d_Wk_pairFloats_50 : decode prog_6_method_5_code 50 = .ok (.dconst 0, 1) := by decide +kernel
theorem d_Wk_pairFloats_51 : decode prog_6_method_5_code 51 = .ok (.dreturn, 1) := by decide +kernel
theorem d_Mo_init_0 : decode prog_8_method_1_code 0 = .ok (.aload_n 0, 1) := by decide +kernel
theorem d_Mo_init_1 : decode prog_8_method_1_code 1 = .ok (.invokespecial 1, 3) := by decide +kernel
theorem d_Mo_init_4 : decode prog_8_method_1_code 4 = .ok (.aload_n 0, 1) := by decide +kernel
theorem d_Mo_init_5 : decode prog_8_method_1_code 5 = .ok (.bipush 20, 2) := by decide +kernel
theorem d_Mo_init_7 : decode prog_8_method_1_code 7 = .ok (.newarray .int, 2) := by decide +kernel
theorem d_Mo_init_9 : decode prog_8_method_1_code 9 = .ok (.putfield 7, 3) := by decide +kernel
theorem d_Mo_init_12 : decode prog_8_method_1_code 12 = .ok (.aload_n 0, 1) := by decide +kernel
theorem d_Mo_init_13 : decode prog_8_method_1_code 13 = .ok (.bipush 20, 2) := by decide +kernel
theorem d_Mo_init_15 : decode prog_8_method_1_code 15 = .ok (.newarray .int, 2) := by decide +kernel
theorem d_Mo_init_17 : decode prog_8_method_1_code 17 = .ok (.putfield 13, 3) := by decide +kernel
theorem d_Mo_init_20 : decode prog_8_method_1_code 20 = .ok (.aload_n 0, 1) := by decide +kernel
theorem d_Mo_init_21 : decode prog_8_method_1_code 21 = .ok (.bipush 20, 2) := by decide +kernel
theorem d_Mo_init_23 : decode prog_8_method_1_code 23 = .ok (.newarray .int, 2) := by decide +kernel
theorem d_Mo_init_25 : decode prog_8_method_1_code 25 = .ok (.putfield 16, 3) := by decide +kernel
theorem d_Mo_init_28 : decode prog_8_method_1_code 28 = .ok (.aload_n 0, 1) := by decide +kernel
theorem d_Mo_init_29 : decode prog_8_method_1_code 29 = .ok (.bipush 20, 2) := by decide +kernel
theorem d_Mo_init_31 : decode prog_8_method_1_code 31 = .ok (.newarray .int, 2) := by decide +kernel
theorem d_Mo_init_33 : decode prog_8_method_1_code 33 = .ok (.putfield 19, 3) := by decide +kernel
theorem d_Mo_init_36 : decode prog_8_method_1_code 36 = .ok (.aload_n 0, 1) := by decide +kernel
theorem d_Mo_init_37 : decode prog_8_method_1_code 37 = .ok (.bipush 20, 2) := by decide +kernel
theorem d_Mo_init_39 : decode prog_8_method_1_code 39 = .ok (.newarray .int, 2) := by decide +kernel
theorem d_Mo_init_41 : decode prog_8_method_1_code 41 = .ok (.putfield 22, 3) := by decide +kernel
theorem d_Mo_init_44 : decode prog_8_method_1_code 44 = .ok (.aload_n 0, 1) := by decide +kernel
theorem d_Mo_init_45 : decode prog_8_method_1_code 45 = .ok (.sipush 320, 3) := by decide +kernel
theorem d_Mo_init_48 : decode prog_8_method_1_code 48 = .ok (.newarray .double, 2) := by decide +kernel
theorem d_Mo_init_50 : decode prog_8_method_1_code 50 = .ok (.putfield 25, 3) := by decide +kernel
theorem d_Mo_init_53 : decode prog_8_method_1_code 53 = .ok (.aload_n 0, 1) := by decide +kernel
theorem d_Mo_init_54 : decode prog_8_method_1_code 54 = .ok (.bipush 14, 2) := by decide +kernel
theorem d_Mo_init_56 : decode prog_8_method_1_code 56 = .ok (.newarray .int, 2) := by decide +kernel
theorem d_Mo_init_58 : decode prog_8_method_1_code 58 = .ok (.putfield 29, 3) := by decide +kernel
theorem d_Mo_init_61 : decode prog_8_method_1_code 61 = .ok (.aload_n 0, 1) := by decide +kernel
theorem d_Mo_init_62 : decode prog_8_method_1_code 62 = .ok (.bipush 14, 2) := by decide +kernel
theorem d_Mo_init_64 : decode prog_8_method_1_code 64 = .ok (.newarray .int, 2) := by decide +kernel
theorem d_Mo_init_66 : decode prog_8_method_1_code 66 = .ok (.putfield 32, 3) := by decide +kernel
theorem d_Mo_init_69 : decode prog_8_method_1_code 69 = .ok (.aload_n 0, 1) := by decide +kernel
theorem d_Mo_init_70 : decode prog_8_method_1_code 70 = .ok (.bipush 14, 2) := by decide +kernel
theorem d_Mo_init_72 : decode prog_8_method_1_code 72 = .ok (.newarray .int, 2) := by decide +kernel
theorem d_Mo_init_74 : decode prog_8_method_1_code 74 = .ok (.putfield 35, 3) := by decide +kernel
theorem d_Mo_init_77 : decode prog_8_method_1_code 77 = .ok (.aload_n 0, 1) := by decide +kernel
theorem d_Mo_init_78 : decode prog_8_method_1_code 78 = .ok (.bipush 14, 2) := by decide +kernel
theorem d_Mo_init_80 : decode prog_8_method_1_code 80 = .ok (.newarray .int, 2) := by decide +kernel
theorem d_Mo_init_82 : decode prog_8_method_1_code 82 = .ok (.putfield 38, 3) := by decide +kernel
theorem d_Mo_init_85 : decode prog_8_method_1_code 85 = .ok (.aload_n 0, 1) := by decide +kernel
theorem d_Mo_init_86 : decode prog_8_method_1_code 86 = .ok (.bipush 14, 2) := by decide +kernel
theorem d_Mo_init_88 : decode prog_8_method_1_code 88 = .ok (.newarray .int, 2) := by decide +kernel
theorem d_Mo_init_90 : decode prog_8_method_1_code 90 = .ok (.putfield 41, 3) := by decide +kernel
theorem d_Mo_init_93 : decode prog_8_method_1_code 93 = .ok (.aload_n 0, 1) := by decide +kernel
theorem d_Mo_init_94 : decode prog_8_method_1_code 94 = .ok (.bipush 14, 2) := by decide +kernel
theorem d_Mo_init_96 : decode prog_8_method_1_code 96 = .ok (.newarray .int, 2) := by decide +kernel
theorem d_Mo_init_98 : decode prog_8_method_1_code 98 = .ok (.putfield 44, 3) := by decide +kernel
theorem d_Mo_init_101 : decode prog_8_method_1_code 101 = .ok (.aload_n 0, 1) := by decide +kernel
theorem d_Mo_init_102 : decode prog_8_method_1_code 102 = .ok (.bipush 42, 2) := by decide +kernel
theorem d_Mo_init_104 : decode prog_8_method_1_code 104 = .ok (.newarray .int, 2) := by decide +kernel
theorem d_Mo_init_106 : decode prog_8_method_1_code 106 = .ok (.putfield 47, 3) := by decide +kernel
theorem d_Mo_init_109 : decode prog_8_method_1_code 109 = .ok (.aload_n 0, 1) := by decide +kernel
theorem d_Mo_init_110 : decode prog_8_method_1_code 110 = .ok (.bipush 16, 2) := by decide +kernel
theorem d_Mo_init_112 : decode prog_8_method_1_code 112 = .ok (.newarray .double, 2) := by decide +kernel
theorem d_Mo_init_114 : decode prog_8_method_1_code 114 = .ok (.putfield 50, 3) := by decide +kernel
theorem d_Mo_init_117 : decode prog_8_method_1_code 117 = .ok (.aload_n 0, 1) := by decide +kernel
theorem d_Mo_init_118 : decode prog_8_method_1_code 118 = .ok (.iconst 1, 1) := by decide +kernel
theorem d_Mo_init_119 : decode prog_8_method_1_code 119 = .ok (.putfield 53, 3) := by decide +kernel
theorem d_Mo_init_122 : decode prog_8_method_1_code 122 = .ok (.return_, 1) := by decide +kernel
theorem d_Mo_thrown_0 : decode prog_8_method_2_code 0 = .ok (.aload_n 0, 1) := by decide +kernel
theorem d_Mo_thrown_1 : decode prog_8_method_2_code 1 = .ok (.getfield 57, 3) := by decide +kernel
theorem d_Mo_thrown_4 : decode prog_8_method_2_code 4 = .ok (.ireturn, 1) := by decide +kernel
theorem d_Mo_table_0 : decode prog_8_method_6_code 0 = .ok (.aload_n 0, 1) := by decide +kernel
theorem d_Mo_table_1 : decode prog_8_method_6_code 1 = .ok (.aload_n 0, 1) := by decide +kernel
theorem d_Mo_table_2 : decode prog_8_method_6_code 2 = .ok (.iload_n 1, 1) := by decide +kernel
theorem d_Mo_table_3 : decode prog_8_method_6_code 3 = .ok (.invokevirtual 64, 3) := by decide +kernel
theorem d_Mo_table_6 : decode prog_8_method_6_code 6 = .ok (.ifCond .ne 43, 3) := by decide +kernel
theorem d_Mo_table_9 : decode prog_8_method_6_code 9 = .ok (.aload_n 0, 1) := by decide +kernel
theorem d_Mo_table_10 : decode prog_8_method_6_code 10 = .ok (.getfield 7, 3) := by decide +kernel
theorem d_Mo_table_13 : decode prog_8_method_6_code 13 = .ok (.iload_n 1, 1) := by decide +kernel
theorem d_Mo_table_14 : decode prog_8_method_6_code 14 = .ok (.iaload, 1) := by decide +kernel
theorem d_Mo_table_15 : decode prog_8_method_6_code 15 = .ok (.ifCond .ne 34, 3) := by decide +kernel
theorem d_Mo_table_18 : decode prog_8_method_6_code 18 = .ok (.aload_n 0, 1) := by decide +kernel
theorem d_Mo_table_19 : decode prog_8_method_6_code 19 = .ok (.iload_n 2, 1) := by decide +kernel
theorem d_Mo_table_20 : decode prog_8_method_6_code 20 = .ok (.iconst 0, 1) := by decide +kernel
theorem d_Mo_table_21 : decode prog_8_method_6_code 21 = .ok (.iconst 1, 1) := by decide +kernel
theorem d_Mo_table_22 : decode prog_8_method_6_code 22 = .ok (.invokevirtual 68, 3) := by decide +kernel
theorem d_Mo_table_25 : decode prog_8_method_6_code 25 = .ok (.ifCond .ne 24, 3) := by decide +kernel
theorem d_Mo_table_28 : decode prog_8_method_6_code 28 = .ok (.aload_n 0, 1) := by decide +kernel
theorem d_Mo_table_29 : decode prog_8_method_6_code 29 = .ok (.iload_n 3, 1) := by decide +kernel
theorem d_Mo_table_30 : decode prog_8_method_6_code 30 = .ok (.iconst 1, 1) := by decide +kernel
theorem d_Mo_table_31 : decode prog_8_method_6_code 31 = .ok (.iconst 4, 1) := by decide +kernel
theorem d_Mo_table_32 : decode prog_8_method_6_code 32 = .ok (.invokevirtual 68, 3) := by decide +kernel
theorem d_Mo_table_35 : decode prog_8_method_6_code 35 = .ok (.ifCond .ne 14, 3) := by decide +kernel
theorem d_Mo_table_38 : decode prog_8_method_6_code 38 = .ok (.aload_n 0, 1) := by decide +kernel
theorem d_Mo_table_39 : decode prog_8_method_6_code 39 = .ok (.iload 4, 2) := by decide +kernel
theorem d_Mo_table_41 : decode prog_8_method_6_code 41 = .ok (.iconst 1, 1) := by decide +kernel
theorem d_Mo_table_42 : decode prog_8_method_6_code 42 = .ok (.iconst 4, 1) := by decide +kernel
theorem d_Mo_table_43 : decode prog_8_method_6_code 43 = .ok (.invokevirtual 68, 3) := by decide +kernel
theorem d_Mo_table_46 : decode prog_8_method_6_code 46 = .ok (.ifCond .eq 7, 3) := by decide +kernel
theorem d_Mo_table_49 : decode prog_8_method_6_code 49 = .ok (.iconst 1, 1) := by decide +kernel
theorem d_Mo_table_50 : decode prog_8_method_6_code 50 = .ok (.goto 4, 3) := by decide +kernel
theorem d_Mo_table_53 : decode prog_8_method_6_code 53 = .ok (.iconst 0, 1) := by decide +kernel
theorem d_Mo_table_54 : decode prog_8_method_6_code 54 = .ok (.putfield 57, 3) := by decide +kernel
theorem d_Mo_table_57 : decode prog_8_method_6_code 57 = .ok (.aload_n 0, 1) := by decide +kernel
theorem d_Mo_table_58 : decode prog_8_method_6_code 58 = .ok (.getfield 57, 3) := by decide +kernel
theorem d_Mo_table_61 : decode prog_8_method_6_code 61 = .ok (.ifCond .eq 4, 3) := by decide +kernel
theorem d_Mo_table_64 : decode prog_8_method_6_code 64 = .ok (.return_, 1) := by decide +kernel
theorem d_Mo_table_65 : decode prog_8_method_6_code 65 = .ok (.aload_n 0, 1) := by decide +kernel
theorem d_Mo_table_66 : decode prog_8_method_6_code 66 = .ok (.getfield 7, 3) := by decide +kernel
theorem d_Mo_table_69 : decode prog_8_method_6_code 69 = .ok (.iload_n 1, 1) := by decide +kernel
theorem d_Mo_table_70 : decode prog_8_method_6_code 70 = .ok (.iload 5, 2) := by decide +kernel
theorem d_Mo_table_72 : decode prog_8_method_6_code 72 = .ok (.ifCond .eq 7, 3) := by decide +kernel
theorem d_Mo_table_75 : decode prog_8_method_6_code 75 = .ok (.iconst 2, 1) := by decide +kernel
theorem d_Mo_table_76 : decode prog_8_method_6_code 76 = .ok (.goto 4, 3) := by decide +kernel
theorem d_Mo_table_79 : decode prog_8_method_6_code 79 = .ok (.iconst 1, 1) := by decide +kernel
theorem d_Mo_table_80 : decode prog_8_method_6_code 80 = .ok (.iastore, 1) := by decide +kernel
theorem d_Mo_table_81 : decode prog_8_method_6_code 81 = .ok (.aload_n 0, 1) := by decide +kernel
theorem d_Mo_table_82 : decode prog_8_method_6_code 82 = .ok (.getfield 13, 3) := by decide +kernel
theorem d_Mo_table_85 : decode prog_8_method_6_code 85 = .ok (.iload_n 1, 1) := by decide +kernel
theorem d_Mo_table_86 : decode prog_8_method_6_code 86 = .ok (.iload_n 2, 1) := by decide +kernel
theorem d_Mo_table_87 : decode prog_8_method_6_code 87 = .ok (.iastore, 1) := by decide +kernel
theorem d_Mo_table_88 : decode prog_8_method_6_code 88 = .ok (.aload_n 0, 1) := by decide +kernel
theorem d_Mo_table_89 : decode prog_8_method_6_code 89 = .ok (.getfield 16, 3) := by decide +kernel
theorem d_Mo_table_92 : decode prog_8_method_6_code 92 = .ok (.iload_n 1, 1) := by decide +kernel
theorem d_Mo_table_93 : decode prog_8_method_6_code 93 = .ok (.iload_n 3, 1) := by decide +kernel
theorem d_Mo_table_94 : decode prog_8_method_6_code 94 = .ok (.iastore, 1) := by decide +kernel
theorem d_Mo_table_95 : decode prog_8_method_6_code 95 = .ok (.aload_n 0, 1) := by decide +kernel
theorem d_Mo_table_96 : decode prog_8_method_6_code 96 = .ok (.getfield 19, 3) := by decide +kernel
theorem d_Mo_table_99 : decode prog_8_method_6_code 99 = .ok (.iload_n 1, 1) := by decide +kernel
theorem d_Mo_table_100 : decode prog_8_method_6_code 100 = .ok (.iload 4, 2) := by decide +kernel
theorem d_Mo_table_102 : decode prog_8_method_6_code 102 = .ok (.iastore, 1) := by decide +kernel
theorem d_Mo_table_103 : decode prog_8_method_6_code 103 = .ok (.iconst 0, 1) := by decide +kernel
theorem d_Mo_table_104 : decode prog_8_method_6_code 104 = .ok (.istore 6, 2) := by decide +kernel
theorem d_Mo_table_106 : decode prog_8_method_6_code 106 = .ok (.iload 6, 2) := by decide +kernel
theorem d_Mo_table_108 : decode prog_8_method_6_code 108 = .ok (.bipush 16, 2) := by decide +kernel
theorem d_Mo_table_110 : decode prog_8_method_6_code 110 = .ok (.if_icmp .ge 22, 3) := by decide +kernel
theorem d_Mo_table_113 : decode prog_8_method_6_code 113 = .ok (.aload_n 0, 1) := by decide +kernel
theorem d_Mo_table_114 : decode prog_8_method_6_code 114 = .ok (.getfield 25, 3) := by decide +kernel
theorem d_Mo_table_117 : decode prog_8_method_6_code 117 = .ok (.iload_n 1, 1) := by decide +kernel
theorem d_Mo_table_118 : decode prog_8_method_6_code 118 = .ok (.bipush 16, 2) := by decide +kernel
theorem d_Mo_table_120 : decode prog_8_method_6_code 120 = .ok (.imul, 1) := by decide +kernel
theorem d_Mo_table_121 : decode prog_8_method_6_code 121 = .ok (.iload 6, 2) := by decide +kernel
theorem d_Mo_table_123 : decode prog_8_method_6_code 123 = .ok (.iadd, 1) := by decide +kernel
theorem d_Mo_table_124 : decode prog_8_method_6_code 124 = .ok (.dconst 0, 1) := by decide +kernel
theorem d_Mo_table_125 : decode prog_8_method_6_code 125 = .ok (.dastore, 1) := by decide +kernel
theorem d_Mo_table_126 : decode prog_8_method_6_code 126 = .ok (.iinc 6 1, 3) := by decide +kernel
theorem d_Mo_table_129 : decode prog_8_method_6_code 129 = .ok (.goto (-23), 3) := by decide +kernel
theorem d_Mo_table_132 : decode prog_8_method_6_code 132 = .ok (.aload_n 0, 1) := by decide +kernel
theorem d_Mo_table_133 : decode prog_8_method_6_code 133 = .ok (.invokevirtual 71, 3) := by decide +kernel
theorem d_Mo_table_136 : decode prog_8_method_6_code 136 = .ok (.return_, 1) := by decide +kernel
theorem d_Mo_noSlot_0 : decode prog_8_method_3_code 0 = .ok (.iload_n 1, 1) := by decide +kernel
theorem d_Mo_noSlot_1 : decode prog_8_method_3_code 1 = .ok (.ifCond .lt 9, 3) := by decide +kernel
theorem d_Mo_noSlot_4 : decode prog_8_method_3_code 4 = .ok (.iload_n 1, 1) := by decide +kernel
theorem d_Mo_noSlot_5 : decode prog_8_method_3_code 5 = .ok (.bipush 19, 2) := by decide +kernel
theorem d_Mo_noSlot_7 : decode prog_8_method_3_code 7 = .ok (.if_icmp .le 7, 3) := by decide +kernel
theorem d_Mo_noSlot_10 : decode prog_8_method_3_code 10 = .ok (.iconst 1, 1) := by decide +kernel
theorem d_Mo_noSlot_11 : decode prog_8_method_3_code 11 = .ok (.goto 4, 3) := by decide +kernel
theorem d_Mo_noSlot_14 : decode prog_8_method_3_code 14 = .ok (.iconst 0, 1) := by decide +kernel
theorem d_Mo_noSlot_15 : decode prog_8_method_3_code 15 = .ok (.ireturn, 1) := by decide +kernel
theorem d_Mo_out_0 : decode prog_8_method_4_code 0 = .ok (.iload_n 1, 1) := by decide +kernel
theorem d_Mo_out_1 : decode prog_8_method_4_code 1 = .ok (.iload_n 2, 1) := by decide +kernel
theorem d_Mo_out_2 : decode prog_8_method_4_code 2 = .ok (.if_icmp .lt 8, 3) := by decide +kernel
theorem d_Mo_out_5 : decode prog_8_method_4_code 5 = .ok (.iload_n 1, 1) := by decide +kernel
theorem d_Mo_out_6 : decode prog_8_method_4_code 6 = .ok (.iload_n 3, 1) := by decide +kernel
theorem d_Mo_out_7 : decode prog_8_method_4_code 7 = .ok (.if_icmp .le 7, 3) := by decide +kernel
theorem d_Mo_out_10 : decode prog_8_method_4_code 10 = .ok (.iconst 1, 1) := by decide +kernel
theorem d_Mo_out_11 : decode prog_8_method_4_code 11 = .ok (.goto 4, 3) := by decide +kernel
theorem d_Mo_out_14 : decode prog_8_method_4_code 14 = .ok (.iconst 0, 1) := by decide +kernel
theorem d_Mo_out_15 : decode prog_8_method_4_code 15 = .ok (.ireturn, 1) := by decide +kernel
theorem d_Mo_change_0 : decode prog_8_method_5_code 0 = .ok (.aload_n 0, 1) := by decide +kernel
theorem d_Mo_change_1 : decode prog_8_method_5_code 1 = .ok (.iconst 0, 1) := by decide +kernel
theorem d_Mo_change_2 : decode prog_8_method_5_code 2 = .ok (.putfield 53, 3) := by decide +kernel
theorem d_Mo_change_5 : decode prog_8_method_5_code 5 = .ok (.iconst 0, 1) := by decide +kernel
theorem d_Mo_change_6 : decode prog_8_method_5_code 6 = .ok (.istore_n 1, 1) := by decide +kernel
theorem d_Mo_change_7 : decode prog_8_method_5_code 7 = .ok (.iload_n 1, 1) := by decide +kernel
theorem d_Mo_change_8 : decode prog_8_method_5_code 8 = .ok (.bipush 14, 2) := by decide +kernel
theorem d_Mo_change_10 : decode prog_8_method_5_code 10 = .ok (.if_icmp .ge 16, 3) := by decide +kernel
theorem d_Mo_change_13 : decode prog_8_method_5_code 13 = .ok (.aload_n 0, 1) := by decide +kernel
theorem d_Mo_change_14 : decode prog_8_method_5_code 14 = .ok (.getfield 41, 3) := by decide +kernel
theorem d_Mo_change_17 : decode prog_8_method_5_code 17 = .ok (.iload_n 1, 1) := by decide +kernel
theorem d_Mo_change_18 : decode prog_8_method_5_code 18 = .ok (.iconst 0, 1) := by decide +kernel
theorem d_Mo_change_19 : decode prog_8_method_5_code 19 = .ok (.iastore, 1) := by decide +kernel
theorem d_Mo_change_20 : decode prog_8_method_5_code 20 = .ok (.iinc 1 1, 3) := by decide +kernel
theorem d_Mo_change_23 : decode prog_8_method_5_code 23 = .ok (.goto (-16), 3) := by decide +kernel
theorem d_Mo_change_26 : decode prog_8_method_5_code 26 = .ok (.aload_n 0, 1) := by decide +kernel
theorem d_Mo_change_27 : decode prog_8_method_5_code 27 = .ok (.iconst 0, 1) := by decide +kernel
theorem d_Mo_change_28 : decode prog_8_method_5_code 28 = .ok (.putfield 61, 3) := by decide +kernel
theorem d_Mo_change_31 : decode prog_8_method_5_code 31 = .ok (.return_, 1) := by decide +kernel
theorem d_Mo_set_0 : decode prog_8_method_7_code 0 = .ok (.aload_n 0, 1) := by decide +kernel
theorem d_Mo_set_1 : decode prog_8_method_7_code 1 = .ok (.iload_n 1, 1) := by decide +kernel
theorem d_Mo_set_2 : decode prog_8_method_7_code 2 = .ok (.invokevirtual 64, 3) := by decide +kernel
theorem d_Mo_set_5 : decode prog_8_method_7_code 5 = .ok (.ifCond .ne 69, 3) := by decide +kernel
theorem d_Mo_set_8 : decode prog_8_method_7_code 8 = .ok (.aload_n 0, 1) := by decide +kernel
theorem d_Mo_set_9 : decode prog_8_method_7_code 9 = .ok (.getfield 7, 3) := by decide +kernel
theorem d_Mo_set_12 : decode prog_8_method_7_code 12 = .ok (.iload_n 1, 1) := by decide +kernel
theorem d_Mo_set_13 : decode prog_8_method_7_code 13 = .ok (.iaload, 1) := by decide +kernel
theorem d_Mo_set_14 : decode prog_8_method_7_code 14 = .ok (.iconst 1, 1) := by decide +kernel
theorem d_Mo_set_15 : decode prog_8_method_7_code 15 = .ok (.if_icmp .lt 59, 3) := by decide +kernel
theorem d_Mo_set_18 : decode prog_8_method_7_code 18 = .ok (.aload_n 0, 1) := by decide +kernel
theorem d_Mo_set_19 : decode prog_8_method_7_code 19 = .ok (.getfield 7, 3) := by decide +kernel
theorem d_Mo_set_22 : decode prog_8_method_7_code 22 = .ok (.iload_n 1, 1) := by decide +kernel
theorem d_Mo_set_23 : decode prog_8_method_7_code 23 = .ok (.iaload, 1) := by decide +kernel
theorem d_Mo_set_24 : decode prog_8_method_7_code 24 = .ok (.iconst 2, 1) := by decide +kernel
theorem d_Mo_set_25 : decode prog_8_method_7_code 25 = .ok (.if_icmp .gt 49, 3) := by decide +kernel
theorem d_Mo_set_28 : decode prog_8_method_7_code 28 = .ok (.iload_n 2, 1) := by decide +kernel
theorem d_Mo_set_29 : decode prog_8_method_7_code 29 = .ok (.ifCond .lt 45, 3) := by decide +kernel
theorem d_Mo_set_32 : decode prog_8_method_7_code 32 = .ok (.iload_n 3, 1) := by decide +kernel
theorem d_Mo_set_33 : decode prog_8_method_7_code 33 = .ok (.ifCond .lt 41, 3) := by decide +kernel
theorem d_Mo_set_36 : decode prog_8_method_7_code 36 = .ok (.iload_n 2, 1) := by decide +kernel
theorem d_Mo_set_37 : decode prog_8_method_7_code 37 = .ok (.aload_n 0, 1) := by decide +kernel
theorem d_Mo_set_38 : decode prog_8_method_7_code 38 = .ok (.getfield 16, 3) := by decide +kernel
theorem d_Mo_set_41 : decode prog_8_method_7_code 41 = .ok (.iload_n 1, 1) := by decide +kernel
theorem d_Mo_set_42 : decode prog_8_method_7_code 42 = .ok (.iaload, 1) := by decide +kernel
theorem d_Mo_set_43 : decode prog_8_method_7_code 43 = .ok (.if_icmp .ge 31, 3) := by decide +kernel
theorem d_Mo_set_46 : decode prog_8_method_7_code 46 = .ok (.iload_n 3, 1) := by decide +kernel
theorem d_Mo_set_47 : decode prog_8_method_7_code 47 = .ok (.aload_n 0, 1) := by decide +kernel
theorem d_Mo_set_48 : decode prog_8_method_7_code 48 = .ok (.getfield 19, 3) := by decide +kernel
theorem d_Mo_set_51 : decode prog_8_method_7_code 51 = .ok (.iload_n 1, 1) := by decide +kernel
theorem d_Mo_set_52 : decode prog_8_method_7_code 52 = .ok (.iaload, 1) := by decide +kernel
theorem d_Mo_set_53 : decode prog_8_method_7_code 53 = .ok (.if_icmp .ge 21, 3) := by decide +kernel
theorem d_Mo_set_56 : decode prog_8_method_7_code 56 = .ok (.dload 4, 2) := by decide +kernel
theorem d_Mo_set_58 : decode prog_8_method_7_code 58 = .ok (.ldc2_w 74, 3) := by decide +kernel
theorem d_Mo_set_61 : decode prog_8_method_7_code 61 = .ok (.dcmp .l, 1) := by decide +kernel
theorem d_Mo_set_62 : decode prog_8_method_7_code 62 = .ok (.ifCond .lt 12, 3) := by decide +kernel
theorem d_Mo_set_65 : decode prog_8_method_7_code 65 = .ok (.dload 4, 2) := by decide +kernel
theorem d_Mo_set_67 : decode prog_8_method_7_code 67 = .ok (.ldc2_w 76, 3) := by decide +kernel
theorem d_Mo_set_70 : decode prog_8_method_7_code 70 = .ok (.dcmp .g, 1) := by decide +kernel
theorem d_Mo_set_71 : decode prog_8_method_7_code 71 = .ok (.ifCond .le 7, 3) := by decide +kernel
theorem d_Mo_set_74 : decode prog_8_method_7_code 74 = .ok (.iconst 1, 1) := by decide +kernel
theorem d_Mo_set_75 : decode prog_8_method_7_code 75 = .ok (.goto 4, 3) := by decide +kernel
theorem d_Mo_set_78 : decode prog_8_method_7_code 78 = .ok (.iconst 0, 1) := by decide +kernel
theorem d_Mo_set_79 : decode prog_8_method_7_code 79 = .ok (.istore 6, 2) := by decide +kernel
theorem d_Mo_set_81 : decode prog_8_method_7_code 81 = .ok (.aload_n 0, 1) := by decide +kernel
theorem d_Mo_set_82 : decode prog_8_method_7_code 82 = .ok (.iload 6, 2) := by decide +kernel
theorem d_Mo_set_84 : decode prog_8_method_7_code 84 = .ok (.ifCond .ne 23, 3) := by decide +kernel
theorem d_Mo_set_87 : decode prog_8_method_7_code 87 = .ok (.aload_n 0, 1) := by decide +kernel
theorem d_Mo_set_88 : decode prog_8_method_7_code 88 = .ok (.getfield 13, 3) := by decide +kernel
theorem d_Mo_set_91 : decode prog_8_method_7_code 91 = .ok (.iload_n 1, 1) := by decide +kernel
theorem d_Mo_set_92 : decode prog_8_method_7_code 92 = .ok (.iaload, 1) := by decide +kernel
theorem d_Mo_set_93 : decode prog_8_method_7_code 93 = .ok (.iconst 1, 1) := by decide +kernel
theorem d_Mo_set_94 : decode prog_8_method_7_code 94 = .ok (.if_icmp .ne 17, 3) := by decide +kernel
theorem d_Mo_set_97 : decode prog_8_method_7_code 97 = .ok (.dload 4, 2) := by decide +kernel
theorem d_Mo_set_99 : decode prog_8_method_7_code 99 = .ok (.dload 4, 2) := by decide +kernel
theorem d_Mo_set_101 : decode prog_8_method_7_code 101 = .ok (.d2i, 1) := by decide +kernel
theorem d_Mo_set_102 : decode prog_8_method_7_code 102 = .ok (.i2d, 1) := by decide +kernel
theorem d_Mo_set_103 : decode prog_8_method_7_code 103 = .ok (.dcmp .l, 1) := by decide +kernel
theorem d_Mo_set_104 : decode prog_8_method_7_code 104 = .ok (.ifCond .eq 7, 3) := by decide +kernel
theorem d_Mo_set_107 : decode prog_8_method_7_code 107 = .ok (.iconst 1, 1) := by decide +kernel
theorem d_Mo_set_108 : decode prog_8_method_7_code 108 = .ok (.goto 4, 3) := by decide +kernel
theorem d_Mo_set_111 : decode prog_8_method_7_code 111 = .ok (.iconst 0, 1) := by decide +kernel
theorem d_Mo_set_112 : decode prog_8_method_7_code 112 = .ok (.putfield 57, 3) := by decide +kernel
theorem d_Mo_set_115 : decode prog_8_method_7_code 115 = .ok (.aload_n 0, 1) := by decide +kernel
theorem d_Mo_set_116 : decode prog_8_method_7_code 116 = .ok (.getfield 57, 3) := by decide +kernel
theorem d_Mo_set_119 : decode prog_8_method_7_code 119 = .ok (.ifCond .eq 4, 3) := by decide +kernel
theorem d_Mo_set_122 : decode prog_8_method_7_code 122 = .ok (.return_, 1) := by decide +kernel
theorem d_Mo_set_123 : decode prog_8_method_7_code 123 = .ok (.aload_n 0, 1) := by decide +kernel
theorem d_Mo_set_124 : decode prog_8_method_7_code 124 = .ok (.getfield 25, 3) := by decide +kernel
theorem d_Mo_set_127 : decode prog_8_method_7_code 127 = .ok (.iload_n 1, 1) := by decide +kernel
theorem d_Mo_set_128 : decode prog_8_method_7_code 128 = .ok (.bipush 16, 2) := by decide +kernel
theorem d_Mo_set_130 : decode prog_8_method_7_code 130 = .ok (.imul, 1) := by decide +kernel
theorem d_Mo_set_131 : decode prog_8_method_7_code 131 = .ok (.iload_n 2, 1) := by decide +kernel
theorem d_Mo_set_132 : decode prog_8_method_7_code 132 = .ok (.iconst 4, 1) := by decide +kernel
theorem d_Mo_set_133 : decode prog_8_method_7_code 133 = .ok (.imul, 1) := by decide +kernel
theorem d_Mo_set_134 : decode prog_8_method_7_code 134 = .ok (.iadd, 1) := by decide +kernel
theorem d_Mo_set_135 : decode prog_8_method_7_code 135 = .ok (.iload_n 3, 1) := by decide +kernel
theorem d_Mo_set_136 : decode prog_8_method_7_code 136 = .ok (.iadd, 1) := by decide +kernel
theorem d_Mo_set_137 : decode prog_8_method_7_code 137 = .ok (.aload_n 0, 1) := by decide +kernel
theorem d_Mo_set_138 : decode prog_8_method_7_code 138 = .ok (.getfield 13, 3) := by decide +kernel
theorem d_Mo_set_141 : decode prog_8_method_7_code 141 = .ok (.iload_n 1, 1) := by decide +kernel
theorem d_Mo_set_142 : decode prog_8_method_7_code 142 = .ok (.iaload, 1) := by decide +kernel
theorem d_Mo_set_143 : decode prog_8_method_7_code 143 = .ok (.iconst 1, 1) := by decide +kernel
theorem d_Mo_set_144 : decode prog_8_method_7_code 144 = .ok (.if_icmp .ne 10, 3) := by decide +kernel
theorem d_Mo_set_147 : decode prog_8_method_7_code 147 = .ok (.dload 4, 2) := by decide +kernel
theorem d_Mo_set_149 : decode prog_8_method_7_code 149 = .ok (.d2i, 1) := by decide +kernel
theorem d_Mo_set_150 : decode prog_8_method_7_code 150 = .ok (.i2d, 1) := by decide +kernel
theorem d_Mo_set_151 : decode prog_8_method_7_code 151 = .ok (.goto 5, 3) := by decide +kernel
theorem d_Mo_set_154 : decode prog_8_method_7_code 154 = .ok (.dload 4, 2) := by decide +kernel
theorem d_Mo_set_156 : decode prog_8_method_7_code 156 = .ok (.dastore, 1) := by decide +kernel
theorem d_Mo_set_157 : decode prog_8_method_7_code 157 = .ok (.aload_n 0, 1) := by decide +kernel
theorem d_Mo_set_158 : decode prog_8_method_7_code 158 = .ok (.getfield 7, 3) := by decide +kernel
theorem d_Mo_set_161 : decode prog_8_method_7_code 161 = .ok (.iload_n 1, 1) := by decide +kernel
theorem d_Mo_set_162 : decode prog_8_method_7_code 162 = .ok (.iaload, 1) := by decide +kernel
theorem d_Mo_set_163 : decode prog_8_method_7_code 163 = .ok (.iconst 2, 1) := by decide +kernel
theorem d_Mo_set_164 : decode prog_8_method_7_code 164 = .ok (.if_icmp .ne 10, 3) := by decide +kernel
theorem d_Mo_set_167 : decode prog_8_method_7_code 167 = .ok (.aload_n 0, 1) := by decide +kernel
theorem d_Mo_set_168 : decode prog_8_method_7_code 168 = .ok (.invokevirtual 71, 3) := by decide +kernel
theorem d_Mo_set_171 : decode prog_8_method_7_code 171 = .ok (.goto 38, 3) := by decide +kernel
theorem d_Mo_set_174 : decode prog_8_method_7_code 174 = .ok (.iconst 0, 1) := by decide +kernel
theorem d_Mo_set_175 : decode prog_8_method_7_code 175 = .ok (.istore 7, 2) := by decide +kernel
theorem d_Mo_set_177 : decode prog_8_method_7_code 177 = .ok (.iload 7, 2) := by decide +kernel
theorem d_Mo_set_179 : decode prog_8_method_7_code 179 = .ok (.bipush 14, 2) := by decide +kernel
theorem d_Mo_set_181 : decode prog_8_method_7_code 181 = .ok (.if_icmp .ge 28, 3) := by decide +kernel
theorem d_Mo_set_184 : decode prog_8_method_7_code 184 = .ok (.aload_n 0, 1) := by decide +kernel
theorem d_Mo_set_185 : decode prog_8_method_7_code 185 = .ok (.getfield 41, 3) := by decide +kernel
theorem d_Mo_set_188 : decode prog_8_method_7_code 188 = .ok (.iload 7, 2) := by decide +kernel
theorem d_Mo_set_190 : decode prog_8_method_7_code 190 = .ok (.iaload, 1) := by decide +kernel
theorem d_Mo_set_191 : decode prog_8_method_7_code 191 = .ok (.iconst 2, 1) := by decide +kernel
theorem d_Mo_set_192 : decode prog_8_method_7_code 192 = .ok (.if_icmp .ne 11, 3) := by decide +kernel
theorem d_Mo_set_195 : decode prog_8_method_7_code 195 = .ok (.aload_n 0, 1) := by decide +kernel
theorem d_Mo_set_196 : decode prog_8_method_7_code 196 = .ok (.getfield 41, 3) := by decide +kernel
theorem d_Mo_set_199 : decode prog_8_method_7_code 199 = .ok (.iload 7, 2) := by decide +kernel
theorem d_Mo_set_201 : decode prog_8_method_7_code 201 = .ok (.iconst 0, 1) := by decide +kernel
theorem d_Mo_set_202 : decode prog_8_method_7_code 202 = .ok (.iastore, 1) := by decide +kernel
theorem d_Mo_set_203 : decode prog_8_method_7_code 203 = .ok (.iinc 7 1, 3) := by decide +kernel
theorem d_Mo_set_206 : decode prog_8_method_7_code 206 = .ok (.goto (-29), 3) := by decide +kernel
theorem d_Mo_set_209 : decode prog_8_method_7_code 209 = .ok (.return_, 1) := by decide +kernel
theorem d_Mo_node_0 : decode prog_8_method_9_code 0 = .ok (.aload_n 0, 1) := by decide +kernel
theorem d_Mo_node_1 : decode prog_8_method_9_code 1 = .ok (.iload_n 1, 1) := by decide +kernel
theorem d_Mo_node_2 : decode prog_8_method_9_code 2 = .ok (.iconst 0, 1) := by decide +kernel
theorem d_Mo_node_3 : decode prog_8_method_9_code 3 = .ok (.bipush 18, 2) := by decide +kernel
theorem d_Mo_node_5 : decode prog_8_method_9_code 5 = .ok (.invokevirtual 68, 3) := by decide +kernel
theorem d_Mo_node_8 : decode prog_8_method_9_code 8 = .ok (.ifCond .ne 46, 3) := by decide +kernel
theorem d_Mo_node_11 : decode prog_8_method_9_code 11 = .ok (.aload_n 0, 1) := by decide +kernel
theorem d_Mo_node_12 : decode prog_8_method_9_code 12 = .ok (.iload 5, 2) := by decide +kernel
theorem d_Mo_node_14 : decode prog_8_method_9_code 14 = .ok (.invokevirtual 64, 3) := by decide +kernel
theorem d_Mo_node_17 : decode prog_8_method_9_code 17 = .ok (.ifCond .ne 37, 3) := by decide +kernel
theorem d_Mo_node_20 : decode prog_8_method_9_code 20 = .ok (.aload_n 0, 1) := by decide +kernel
theorem d_Mo_node_21 : decode prog_8_method_9_code 21 = .ok (.iload 6, 2) := by decide +kernel
theorem d_Mo_node_23 : decode prog_8_method_9_code 23 = .ok (.bipush (-8), 2) := by decide +kernel
theorem d_Mo_node_25 : decode prog_8_method_9_code 25 = .ok (.bipush 8, 2) := by decide +kernel
theorem d_Mo_node_27 : decode prog_8_method_9_code 27 = .ok (.invokevirtual 68, 3) := by decide +kernel
theorem d_Mo_node_30 : decode prog_8_method_9_code 30 = .ok (.ifCond .ne 24, 3) := by decide +kernel
theorem d_Mo_node_33 : decode prog_8_method_9_code 33 = .ok (.aload_n 0, 1) := by decide +kernel
theorem d_Mo_node_34 : decode prog_8_method_9_code 34 = .ok (.iload 7, 2) := by decide +kernel
theorem d_Mo_node_36 : decode prog_8_method_9_code 36 = .ok (.bipush (-8), 2) := by decide +kernel
theorem d_Mo_node_38 : decode prog_8_method_9_code 38 = .ok (.bipush 8, 2) := by decide +kernel
theorem d_Mo_node_40 : decode prog_8_method_9_code 40 = .ok (.invokevirtual 68, 3) := by decide +kernel
theorem d_Mo_node_43 : decode prog_8_method_9_code 43 = .ok (.ifCond .ne 11, 3) := by decide +kernel
theorem d_Mo_node_46 : decode prog_8_method_9_code 46 = .ok (.aload_n 0, 1) := by decide +kernel
theorem d_Mo_node_47 : decode prog_8_method_9_code 47 = .ok (.iload_n 2, 1) := by decide +kernel
theorem d_Mo_node_48 : decode prog_8_method_9_code 48 = .ok (.invokevirtual 64, 3) := by decide +kernel
theorem d_Mo_node_51 : decode prog_8_method_9_code 51 = .ok (.ifCond .eq 7, 3) := by decide +kernel
theorem d_Mo_node_54 : decode prog_8_method_9_code 54 = .ok (.iconst 1, 1) := by decide +kernel
theorem d_Mo_node_55 : decode prog_8_method_9_code 55 = .ok (.goto 4, 3) := by decide +kernel
theorem d_Mo_node_58 : decode prog_8_method_9_code 58 = .ok (.iconst 0, 1) := by decide +kernel
theorem d_Mo_node_59 : decode prog_8_method_9_code 59 = .ok (.istore 8, 2) := by decide +kernel
theorem d_Mo_node_61 : decode prog_8_method_9_code 61 = .ok (.iload 8, 2) := by decide +kernel
theorem d_Mo_node_63 : decode prog_8_method_9_code 63 = .ok (.ifCond .ne 72, 3) := by decide +kernel
theorem d_Mo_node_66 : decode prog_8_method_9_code 66 = .ok (.aload_n 0, 1) := by decide +kernel
theorem d_Mo_node_67 : decode prog_8_method_9_code 67 = .ok (.getfield 7, 3) := by decide +kernel
theorem d_Mo_node_70 : decode prog_8_method_9_code 70 = .ok (.iload 5, 2) := by decide +kernel
theorem d_Mo_node_72 : decode prog_8_method_9_code 72 = .ok (.iaload, 1) := by decide +kernel
theorem d_Mo_node_73 : decode prog_8_method_9_code 73 = .ok (.ifCond .ne 55, 3) := by decide +kernel
theorem d_Mo_node_76 : decode prog_8_method_9_code 76 = .ok (.aload_n 0, 1) := by decide +kernel
theorem d_Mo_node_77 : decode prog_8_method_9_code 77 = .ok (.iload_n 1, 1) := by decide +kernel
theorem d_Mo_node_78 : decode prog_8_method_9_code 78 = .ok (.invokevirtual 78, 3) := by decide +kernel
theorem d_Mo_node_81 : decode prog_8_method_9_code 81 = .ok (.iconst 1, 1) := by decide +kernel
theorem d_Mo_node_82 : decode prog_8_method_9_code 82 = .ok (.if_icmp .le 14, 3) := by decide +kernel
theorem d_Mo_node_85 : decode prog_8_method_9_code 85 = .ok (.aload_n 0, 1) := by decide +kernel
theorem d_Mo_node_86 : decode prog_8_method_9_code 86 = .ok (.iload_n 3, 1) := by decide +kernel
theorem d_Mo_node_87 : decode prog_8_method_9_code 87 = .ok (.invokevirtual 64, 3) := by decide +kernel
theorem d_Mo_node_90 : decode prog_8_method_9_code 90 = .ok (.ifCond .eq 11, 3) := by decide +kernel
theorem d_Mo_node_93 : decode prog_8_method_9_code 93 = .ok (.goto 35, 3) := by decide +kernel
theorem d_Mo_node_96 : decode prog_8_method_9_code 96 = .ok (.iload_n 3, 1) := by decide +kernel
theorem d_Mo_node_97 : decode prog_8_method_9_code 97 = .ok (.iconst (-1), 1) := by decide +kernel
theorem d_Mo_node_98 : decode prog_8_method_9_code 98 = .ok (.if_icmp .ne 30, 3) := by decide +kernel
theorem d_Mo_node_101 : decode prog_8_method_9_code 101 = .ok (.aload_n 0, 1) := by decide +kernel
theorem d_Mo_node_102 : decode prog_8_method_9_code 102 = .ok (.iload_n 1, 1) := by decide +kernel
theorem d_Mo_node_103 : decode prog_8_method_9_code 103 = .ok (.invokevirtual 78, 3) := by decide +kernel
theorem d_Mo_node_106 : decode prog_8_method_9_code 106 = .ok (.iconst 2, 1) := by decide +kernel
theorem d_Mo_node_107 : decode prog_8_method_9_code 107 = .ok (.if_icmp .le 15, 3) := by decide +kernel
theorem d_Mo_node_110 : decode prog_8_method_9_code 110 = .ok (.aload_n 0, 1) := by decide +kernel
theorem d_Mo_node_111 : decode prog_8_method_9_code 111 = .ok (.iload 4, 2) := by decide +kernel
theorem d_Mo_node_113 : decode prog_8_method_9_code 113 = .ok (.invokevirtual 64, 3) := by decide +kernel
theorem d_Mo_node_116 : decode prog_8_method_9_code 116 = .ok (.ifCond .eq 16, 3) := by decide +kernel
theorem d_Mo_node_119 : decode prog_8_method_9_code 119 = .ok (.goto 9, 3) := by decide +kernel
theorem d_Mo_node_122 : decode prog_8_method_9_code 122 = .ok (.iload 4, 2) := by decide +kernel
theorem d_Mo_node_124 : decode prog_8_method_9_code 124 = .ok (.iconst (-1), 1) := by decide +kernel
theorem d_Mo_node_125 : decode prog_8_method_9_code 125 = .ok (.if_icmp .eq 7, 3) := by decide +kernel
theorem d_Mo_node_128 : decode prog_8_method_9_code 128 = .ok (.iconst 1, 1) := by decide +kernel
theorem d_Mo_node_129 : decode prog_8_method_9_code 129 = .ok (.goto 4, 3) := by decide +kernel
theorem d_Mo_node_132 : decode prog_8_method_9_code 132 = .ok (.iconst 0, 1) := by decide +kernel
theorem d_Mo_node_133 : decode prog_8_method_9_code 133 = .ok (.istore 8, 2) := by decide +kernel
theorem d_Mo_node_135 : decode prog_8_method_9_code 135 = .ok (.aload_n 0, 1) := by decide +kernel
theorem d_Mo_node_136 : decode prog_8_method_9_code 136 = .ok (.iload 8, 2) := by decide +kernel
theorem d_Mo_node_138 : decode prog_8_method_9_code 138 = .ok (.ifCond .eq 7, 3) := by decide +kernel
theorem d_Mo_node_141 : decode prog_8_method_9_code 141 = .ok (.iconst 1, 1) := by decide +kernel
theorem d_Mo_node_142 : decode prog_8_method_9_code 142 = .ok (.goto 17, 3) := by decide +kernel
theorem d_Mo_node_145 : decode prog_8_method_9_code 145 = .ok (.aload_n 0, 1) := by decide +kernel
theorem d_Mo_node_146 : decode prog_8_method_9_code 146 = .ok (.getfield 82, 3) := by decide +kernel
theorem d_Mo_node_149 : decode prog_8_method_9_code 149 = .ok (.bipush 14, 2) := by decide +kernel
theorem d_Mo_node_151 : decode prog_8_method_9_code 151 = .ok (.if_icmp .ne 7, 3) := by decide +kernel
theorem d_Mo_node_154 : decode prog_8_method_9_code 154 = .ok (.iconst 2, 1) := by decide +kernel
theorem d_Mo_node_155 : decode prog_8_method_9_code 155 = .ok (.goto 4, 3) := by decide +kernel
theorem d_Mo_node_158 : decode prog_8_method_9_code 158 = .ok (.iconst 0, 1) := by decide +kernel
theorem d_Mo_node_159 : decode prog_8_method_9_code 159 = .ok (.putfield 57, 3) := by decide +kernel
theorem d_Mo_node_162 : decode prog_8_method_9_code 162 = .ok (.aload_n 0, 1) := by decide +kernel
theorem d_Mo_node_163 : decode prog_8_method_9_code 163 = .ok (.getfield 57, 3) := by decide +kernel
theorem d_Mo_node_166 : decode prog_8_method_9_code 166 = .ok (.ifCond .eq 5, 3) := by decide +kernel
end
section
theorem d_Mo_node_169 : decode prog_8_method_9_code 169 = .ok (.iconst 0, 1) := by decide +kernel
theorem d_Mo_node_170 : decode prog_8_method_9_code 170 = .ok (.ireturn, 1) := by decide +kernel
theorem d_Mo_node_171 : decode prog_8_method_9_code 171 = .ok (.aload_n 0, 1) := by decide +kernel
theorem d_Mo_node_172 : decode prog_8_method_9_code 172 = .ok (.dup, 1) := by decide +kernel
theorem d_Mo_node_173 : decode prog_8_method_9_code 173 = .ok (.getfield 82, 3) := by decide +kernel
theorem d_Mo_node_176 : decode prog_8_method_9_code 176 = .ok (.dup_x1, 1) := by decide +kernel
theorem d_Mo_node_177 : decode prog_8_method_9_code 177 = .ok (.iconst 1, 1) := by decide +kernel
theorem d_Mo_node_178 : decode prog_8_method_9_code 178 = .ok (.iadd, 1) := by decide +kernel
theorem d_Mo_node_179 : decode prog_8_method_9_code 179 = .ok (.putfield 82, 3) := by decide +kernel
theorem d_Mo_node_182 : decode prog_8_method_9_code 182 = .ok (.istore 9, 2) := by decide +kernel
theorem d_Mo_node_184 : decode prog_8_method_9_code 184 = .ok (.aload_n 0, 1) := by decide +kernel
theorem d_Mo_node_185 : decode prog_8_method_9_code 185 = .ok (.getfield 29, 3) := by decide +kernel
theorem d_Mo_node_188 : decode prog_8_method_9_code 188 = .ok (.iload 9, 2) := by decide +kernel
theorem d_Mo_node_190 : decode prog_8_method_9_code 190 = .ok (.iload_n 1, 1) := by decide +kernel
theorem d_Mo_node_191 : decode prog_8_method_9_code 191 = .ok (.iastore, 1) := by decide +kernel
theorem d_Mo_node_192 : decode prog_8_method_9_code 192 = .ok (.aload_n 0, 1) := by decide +kernel
theorem d_Mo_node_193 : decode prog_8_method_9_code 193 = .ok (.getfield 47, 3) := by decide +kernel
theorem d_Mo_node_196 : decode prog_8_method_9_code 196 = .ok (.iload 9, 2) := by decide +kernel
theorem d_Mo_node_198 : decode prog_8_method_9_code 198 = .ok (.iconst 3, 1) := by decide +kernel
theorem d_Mo_node_199 : decode prog_8_method_9_code 199 = .ok (.imul, 1) := by decide +kernel
theorem d_Mo_node_200 : decode prog_8_method_9_code 200 = .ok (.iload_n 2, 1) := by decide +kernel
theorem d_Mo_node_201 : decode prog_8_method_9_code 201 = .ok (.iastore, 1) := by decide +kernel
theorem d_Mo_node_202 : decode prog_8_method_9_code 202 = .ok (.aload_n 0, 1) := by decide +kernel
theorem d_Mo_node_203 : decode prog_8_method_9_code 203 = .ok (.getfield 47, 3) := by decide +kernel
theorem d_Mo_node_206 : decode prog_8_method_9_code 206 = .ok (.iload 9, 2) := by decide +kernel
theorem d_Mo_node_208 : decode prog_8_method_9_code 208 = .ok (.iconst 3, 1) := by decide +kernel
theorem d_Mo_node_209 : decode prog_8_method_9_code 209 = .ok (.imul, 1) := by decide +kernel
theorem d_Mo_node_210 : decode prog_8_method_9_code 210 = .ok (.iconst 1, 1) := by decide +kernel
theorem d_Mo_node_211 : decode prog_8_method_9_code 211 = .ok (.iadd, 1) := by decide +kernel
theorem d_Mo_node_212 : decode prog_8_method_9_code 212 = .ok (.iload_n 3, 1) := by decide +kernel
theorem d_Mo_node_213 : decode prog_8_method_9_code 213 = .ok (.iastore, 1) := by decide +kernel
theorem d_Mo_node_214 : decode prog_8_method_9_code 214 = .ok (.aload_n 0, 1) := by decide +kernel
theorem d_Mo_node_215 : decode prog_8_method_9_code 215 = .ok (.getfield 47, 3) := by decide +kernel
theorem d_Mo_node_218 : decode prog_8_method_9_code 218 = .ok (.iload 9, 2) := by decide +kernel
theorem d_Mo_node_220 : decode prog_8_method_9_code 220 = .ok (.iconst 3, 1) := by decide +kernel
theorem d_Mo_node_221 : decode prog_8_method_9_code 221 = .ok (.imul, 1) := by decide +kernel
theorem d_Mo_node_222 : decode prog_8_method_9_code 222 = .ok (.iconst 2, 1) := by decide +kernel
theorem d_Mo_node_223 : decode prog_8_method_9_code 223 = .ok (.iadd, 1) := by decide +kernel
theorem d_Mo_node_224 : decode prog_8_method_9_code 224 = .ok (.iload 4, 2) := by decide +kernel
theorem d_Mo_node_226 : decode prog_8_method_9_code 226 = .ok (.iastore, 1) := by decide +kernel
theorem d_Mo_node_227 : decode prog_8_method_9_code 227 = .ok (.aload_n 0, 1) := by decide +kernel
theorem d_Mo_node_228 : decode prog_8_method_9_code 228 = .ok (.getfield 32, 3) := by decide +kernel
theorem d_Mo_node_231 : decode prog_8_method_9_code 231 = .ok (.iload 9, 2) := by decide +kernel
theorem d_Mo_node_233 : decode prog_8_method_9_code 233 = .ok (.iload 5, 2) := by decide +kernel
theorem d_Mo_node_235 : decode prog_8_method_9_code 235 = .ok (.iastore, 1) := by decide +kernel
theorem d_Mo_node_236 : decode prog_8_method_9_code 236 = .ok (.aload_n 0, 1) := by decide +kernel
theorem d_Mo_node_237 : decode prog_8_method_9_code 237 = .ok (.getfield 35, 3) := by decide +kernel
theorem d_Mo_node_240 : decode prog_8_method_9_code 240 = .ok (.iload 9, 2) := by decide +kernel
theorem d_Mo_node_242 : decode prog_8_method_9_code 242 = .ok (.iload 6, 2) := by decide +kernel
theorem d_Mo_node_244 : decode prog_8_method_9_code 244 = .ok (.iastore, 1) := by decide +kernel
theorem d_Mo_node_245 : decode prog_8_method_9_code 245 = .ok (.aload_n 0, 1) := by decide +kernel
theorem d_Mo_node_246 : decode prog_8_method_9_code 246 = .ok (.getfield 38, 3) := by decide +kernel
theorem d_Mo_node_249 : decode prog_8_method_9_code 249 = .ok (.iload 9, 2) := by decide +kernel
theorem d_Mo_node_251 : decode prog_8_method_9_code 251 = .ok (.iload 7, 2) := by decide +kernel
theorem d_Mo_node_253 : decode prog_8_method_9_code 253 = .ok (.iastore, 1) := by decide +kernel
theorem d_Mo_node_254 : decode prog_8_method_9_code 254 = .ok (.aload_n 0, 1) := by decide +kernel
theorem d_Mo_node_255 : decode prog_8_method_9_code 255 = .ok (.getfield 7, 3) := by decide +kernel
theorem d_Mo_node_258 : decode prog_8_method_9_code 258 = .ok (.iload 5, 2) := by decide +kernel
theorem d_Mo_node_260 : decode prog_8_method_9_code 260 = .ok (.iconst 3, 1) := by decide +kernel
theorem d_Mo_node_261 : decode prog_8_method_9_code 261 = .ok (.iastore, 1) := by decide +kernel
theorem d_Mo_node_262 : decode prog_8_method_9_code 262 = .ok (.aload_n 0, 1) := by decide +kernel
theorem d_Mo_node_263 : decode prog_8_method_9_code 263 = .ok (.getfield 22, 3) := by decide +kernel
theorem d_Mo_node_266 : decode prog_8_method_9_code 266 = .ok (.iload 5, 2) := by decide +kernel
theorem d_Mo_node_268 : decode prog_8_method_9_code 268 = .ok (.iload 9, 2) := by decide +kernel
theorem d_Mo_node_270 : decode prog_8_method_9_code 270 = .ok (.iastore, 1) := by decide +kernel
theorem d_Mo_node_271 : decode prog_8_method_9_code 271 = .ok (.aload_n 0, 1) := by decide +kernel
theorem d_Mo_node_272 : decode prog_8_method_9_code 272 = .ok (.invokevirtual 71, 3) := by decide +kernel
theorem d_Mo_node_275 : decode prog_8_method_9_code 275 = .ok (.iload 9, 2) := by decide +kernel
theorem d_Mo_node_277 : decode prog_8_method_9_code 277 = .ok (.ireturn, 1) := by decide +kernel
theorem d_Mo_arity_0 : decode prog_8_method_8_code 0 = .ok (.iload_n 1, 1) := by decide +kernel
theorem d_Mo_arity_1 : decode prog_8_method_8_code 1 = .ok (.bipush 9, 2) := by decide +kernel
theorem d_Mo_arity_3 : decode prog_8_method_8_code 3 = .ok (.if_icmp .eq 9, 3) := by decide +kernel
theorem d_Mo_arity_6 : decode prog_8_method_8_code 6 = .ok (.iload_n 1, 1) := by decide +kernel
theorem d_Mo_arity_7 : decode prog_8_method_8_code 7 = .ok (.bipush 17, 2) := by decide +kernel
theorem d_Mo_arity_9 : decode prog_8_method_8_code 9 = .ok (.if_icmp .ne 5, 3) := by decide +kernel
theorem d_Mo_arity_12 : decode prog_8_method_8_code 12 = .ok (.iconst 3, 1) := by decide +kernel
theorem d_Mo_arity_13 : decode prog_8_method_8_code 13 = .ok (.ireturn, 1) := by decide +kernel
theorem d_Mo_arity_14 : decode prog_8_method_8_code 14 = .ok (.iload_n 1, 1) := by decide +kernel
theorem d_Mo_arity_15 : decode prog_8_method_8_code 15 = .ok (.iconst 4, 1) := by decide +kernel
theorem d_Mo_arity_16 : decode prog_8_method_8_code 16 = .ok (.if_icmp .le 27, 3) := by decide +kernel
theorem d_Mo_arity_19 : decode prog_8_method_8_code 19 = .ok (.iload_n 1, 1) := by decide +kernel
theorem d_Mo_arity_20 : decode prog_8_method_8_code 20 = .ok (.bipush 8, 2) := by decide +kernel
theorem d_Mo_arity_22 : decode prog_8_method_8_code 22 = .ok (.if_icmp .eq 21, 3) := by decide +kernel
theorem d_Mo_arity_25 : decode prog_8_method_8_code 25 = .ok (.iload_n 1, 1) := by decide +kernel
theorem d_Mo_arity_26 : decode prog_8_method_8_code 26 = .ok (.bipush 13, 2) := by decide +kernel
theorem d_Mo_arity_28 : decode prog_8_method_8_code 28 = .ok (.if_icmp .eq 15, 3) := by decide +kernel
theorem d_Mo_arity_31 : decode prog_8_method_8_code 31 = .ok (.iload_n 1, 1) := by decide +kernel
theorem d_Mo_arity_32 : decode prog_8_method_8_code 32 = .ok (.bipush 15, 2) := by decide +kernel
theorem d_Mo_arity_34 : decode prog_8_method_8_code 34 = .ok (.if_icmp .eq 9, 3) := by decide +kernel
theorem d_Mo_arity_37 : decode prog_8_method_8_code 37 = .ok (.iload_n 1, 1) := by decide +kernel
theorem d_Mo_arity_38 : decode prog_8_method_8_code 38 = .ok (.bipush 16, 2) := by decide +kernel
theorem d_Mo_arity_40 : decode prog_8_method_8_code 40 = .ok (.if_icmp .ne 7, 3) := by decide +kernel
theorem d_Mo_arity_43 : decode prog_8_method_8_code 43 = .ok (.iconst 2, 1) := by decide +kernel
theorem d_Mo_arity_44 : decode prog_8_method_8_code 44 = .ok (.goto 4, 3) := by decide +kernel
theorem d_Mo_arity_47 : decode prog_8_method_8_code 47 = .ok (.iconst 1, 1) := by decide +kernel
theorem d_Mo_arity_48 : decode prog_8_method_8_code 48 = .ok (.ireturn, 1) := by decide +kernel
theorem d_Mo_undo_0 : decode prog_8_method_10_code 0 = .ok (.aload_n 0, 1) := by decide +kernel
theorem d_Mo_undo_1 : decode prog_8_method_10_code 1 = .ok (.aload_n 0, 1) := by decide +kernel
theorem d_Mo_undo_2 : decode prog_8_method_10_code 2 = .ok (.getfield 82, 3) := by decide +kernel
theorem d_Mo_undo_5 : decode prog_8_method_10_code 5 = .ok (.ifCond .ne 7, 3) := by decide +kernel
theorem d_Mo_undo_8 : decode prog_8_method_10_code 8 = .ok (.iconst 1, 1) := by decide +kernel
theorem d_Mo_undo_9 : decode prog_8_method_10_code 9 = .ok (.goto 4, 3) := by decide +kernel
theorem d_Mo_undo_12 : decode prog_8_method_10_code 12 = .ok (.iconst 0, 1) := by decide +kernel
theorem d_Mo_undo_13 : decode prog_8_method_10_code 13 = .ok (.putfield 57, 3) := by decide +kernel
theorem d_Mo_undo_16 : decode prog_8_method_10_code 16 = .ok (.aload_n 0, 1) := by decide +kernel
theorem d_Mo_undo_17 : decode prog_8_method_10_code 17 = .ok (.getfield 57, 3) := by decide +kernel
theorem d_Mo_undo_20 : decode prog_8_method_10_code 20 = .ok (.ifCond .eq 4, 3) := by decide +kernel
theorem d_Mo_undo_23 : decode prog_8_method_10_code 23 = .ok (.return_, 1) := by decide +kernel
theorem d_Mo_undo_24 : decode prog_8_method_10_code 24 = .ok (.aload_n 0, 1) := by decide +kernel
theorem d_Mo_undo_25 : decode prog_8_method_10_code 25 = .ok (.dup, 1) := by decide +kernel
theorem d_Mo_undo_26 : decode prog_8_method_10_code 26 = .ok (.getfield 82, 3) := by decide +kernel
theorem d_Mo_undo_29 : decode prog_8_method_10_code 29 = .ok (.iconst 1, 1) := by decide +kernel
theorem d_Mo_undo_30 : decode prog_8_method_10_code 30 = .ok (.isub, 1) := by decide +kernel
theorem d_Mo_undo_31 : decode prog_8_method_10_code 31 = .ok (.putfield 82, 3) := by decide +kernel
theorem d_Mo_undo_34 : decode prog_8_method_10_code 34 = .ok (.aload_n 0, 1) := by decide +kernel
theorem d_Mo_undo_35 : decode prog_8_method_10_code 35 = .ok (.getfield 7, 3) := by decide +kernel
theorem d_Mo_undo_38 : decode prog_8_method_10_code 38 = .ok (.aload_n 0, 1) := by decide +kernel
theorem d_Mo_undo_39 : decode prog_8_method_10_code 39 = .ok (.getfield 32, 3) := by decide +kernel
theorem d_Mo_undo_42 : decode prog_8_method_10_code 42 = .ok (.aload_n 0, 1) := by decide +kernel
theorem d_Mo_undo_43 : decode prog_8_method_10_code 43 = .ok (.getfield 82, 3) := by decide +kernel
theorem d_Mo_undo_46 : decode prog_8_method_10_code 46 = .ok (.iaload, 1) := by decide +kernel
theorem d_Mo_undo_47 : decode prog_8_method_10_code 47 = .ok (.iconst 0, 1) := by decide +kernel
theorem d_Mo_undo_48 : decode prog_8_method_10_code 48 = .ok (.iastore, 1) := by decide +kernel
theorem d_Mo_undo_49 : decode prog_8_method_10_code 49 = .ok (.aload_n 0, 1) := by decide +kernel
theorem d_Mo_undo_50 : decode prog_8_method_10_code 50 = .ok (.invokevirtual 71, 3) := by decide +kernel
theorem d_Mo_undo_53 : decode prog_8_method_10_code 53 = .ok (.return_, 1) := by decide +kernel
theorem d_Mo_prepare_0 : decode prog_8_method_31_code 0 = .ok (.aload_n 0, 1) := by decide +kernel
theorem d_Mo_prepare_1 : decode prog_8_method_31_code 1 = .ok (.iconst 0, 1) := by decide +kernel
theorem d_Mo_prepare_2 : decode prog_8_method_31_code 2 = .ok (.putfield 57, 3) := by decide +kernel
theorem d_Mo_prepare_5 : decode prog_8_method_31_code 5 = .ok (.aload_n 0, 1) := by decide +kernel
theorem d_Mo_prepare_6 : decode prog_8_method_31_code 6 = .ok (.getfield 53, 3) := by decide +kernel
theorem d_Mo_prepare_9 : decode prog_8_method_31_code 9 = .ok (.ifCond .eq 8, 3) := by decide +kernel
theorem d_Mo_prepare_12 : decode prog_8_method_31_code 12 = .ok (.aload_n 0, 1) := by decide +kernel
theorem d_Mo_prepare_13 : decode prog_8_method_31_code 13 = .ok (.getfield 61, 3) := by decide +kernel
theorem d_Mo_prepare_16 : decode prog_8_method_31_code 16 = .ok (.ireturn, 1) := by decide +kernel
theorem d_Mo_prepare_17 : decode prog_8_method_31_code 17 = .ok (.aload_n 0, 1) := by decide +kernel
theorem d_Mo_prepare_18 : decode prog_8_method_31_code 18 = .ok (.aload_n 0, 1) := by decide +kernel
theorem d_Mo_prepare_19 : decode prog_8_method_31_code 19 = .ok (.invokevirtual 155, 3) := by decide +kernel
theorem d_Mo_prepare_22 : decode prog_8_method_31_code 22 = .ok (.ifCond .eq 7, 3) := by decide +kernel
theorem d_Mo_prepare_25 : decode prog_8_method_31_code 25 = .ok (.iconst 0, 1) := by decide +kernel
theorem d_Mo_prepare_26 : decode prog_8_method_31_code 26 = .ok (.goto 4, 3) := by decide +kernel
theorem d_Mo_prepare_29 : decode prog_8_method_31_code 29 = .ok (.iconst 1, 1) := by decide +kernel
theorem d_Mo_prepare_30 : decode prog_8_method_31_code 30 = .ok (.putfield 57, 3) := by decide +kernel
theorem d_Mo_prepare_33 : decode prog_8_method_31_code 33 = .ok (.iconst 0, 1) := by decide +kernel
theorem d_Mo_prepare_34 : decode prog_8_method_31_code 34 = .ok (.istore_n 1, 1) := by decide +kernel
theorem d_Mo_prepare_35 : decode prog_8_method_31_code 35 = .ok (.iload_n 1, 1) := by decide +kernel
theorem d_Mo_prepare_36 : decode prog_8_method_31_code 36 = .ok (.aload_n 0, 1) := by decide +kernel
theorem d_Mo_prepare_37 : decode prog_8_method_31_code 37 = .ok (.getfield 82, 3) := by decide +kernel
theorem d_Mo_prepare_40 : decode prog_8_method_31_code 40 = .ok (.if_icmp .ge 34, 3) := by decide +kernel
theorem d_Mo_prepare_43 : decode prog_8_method_31_code 43 = .ok (.aload_n 0, 1) := by decide +kernel
theorem d_Mo_prepare_44 : decode prog_8_method_31_code 44 = .ok (.getfield 57, 3) := by decide +kernel
theorem d_Mo_prepare_47 : decode prog_8_method_31_code 47 = .ok (.ifCond .ne 27, 3) := by decide +kernel
theorem d_Mo_prepare_50 : decode prog_8_method_31_code 50 = .ok (.aload_n 0, 1) := by decide +kernel
theorem d_Mo_prepare_51 : decode prog_8_method_31_code 51 = .ok (.aload_n 0, 1) := by decide +kernel
theorem d_Mo_prepare_52 : decode prog_8_method_31_code 52 = .ok (.getfield 44, 3) := by decide +kernel
theorem d_Mo_prepare_55 : decode prog_8_method_31_code 55 = .ok (.iload_n 1, 1) := by decide +kernel
theorem d_Mo_prepare_56 : decode prog_8_method_31_code 56 = .ok (.iaload, 1) := by decide +kernel
theorem d_Mo_prepare_57 : decode prog_8_method_31_code 57 = .ok (.invokevirtual 159, 3) := by decide +kernel
theorem d_Mo_prepare_60 : decode prog_8_method_31_code 60 = .ok (.ifCond .ne 8, 3) := by decide +kernel
theorem d_Mo_prepare_63 : decode prog_8_method_31_code 63 = .ok (.aload_n 0, 1) := by decide +kernel
theorem d_Mo_prepare_64 : decode prog_8_method_31_code 64 = .ok (.iconst 2, 1) := by decide +kernel
theorem d_Mo_prepare_65 : decode prog_8_method_31_code 65 = .ok (.putfield 57, 3) := by decide +kernel
theorem d_Mo_prepare_68 : decode prog_8_method_31_code 68 = .ok (.iinc 1 1, 3) := by decide +kernel
theorem d_Mo_prepare_71 : decode prog_8_method_31_code 71 = .ok (.goto (-36), 3) := by decide +kernel
theorem d_Mo_prepare_74 : decode prog_8_method_31_code 74 = .ok (.aload_n 0, 1) := by decide +kernel
theorem d_Mo_prepare_75 : decode prog_8_method_31_code 75 = .ok (.getfield 57, 3) := by decide +kernel
theorem d_Mo_prepare_78 : decode prog_8_method_31_code 78 = .ok (.ifCond .eq 5, 3) := by decide +kernel
theorem d_Mo_prepare_81 : decode prog_8_method_31_code 81 = .ok (.iconst 0, 1) := by decide +kernel
theorem d_Mo_prepare_82 : decode prog_8_method_31_code 82 = .ok (.ireturn, 1) := by decide +kernel
theorem d_Mo_prepare_83 : decode prog_8_method_31_code 83 = .ok (.iconst 0, 1) := by decide +kernel
theorem d_Mo_prepare_84 : decode prog_8_method_31_code 84 = .ok (.istore_n 1, 1) := by decide +kernel
theorem d_Mo_prepare_85 : decode prog_8_method_31_code 85 = .ok (.iconst 0, 1) := by decide +kernel
theorem d_Mo_prepare_86 : decode prog_8_method_31_code 86 = .ok (.istore_n 2, 1) := by decide +kernel
theorem d_Mo_prepare_87 : decode prog_8_method_31_code 87 = .ok (.iload_n 2, 1) := by decide +kernel
theorem d_Mo_prepare_88 : decode prog_8_method_31_code 88 = .ok (.aload_n 0, 1) := by decide +kernel
theorem d_Mo_prepare_89 : decode prog_8_method_31_code 89 = .ok (.getfield 82, 3) := by decide +kernel
theorem d_Mo_prepare_92 : decode prog_8_method_31_code 92 = .ok (.if_icmp .ge 57, 3) := by decide +kernel
theorem d_Mo_prepare_95 : decode prog_8_method_31_code 95 = .ok (.aload_n 0, 1) := by decide +kernel
theorem d_Mo_prepare_96 : decode prog_8_method_31_code 96 = .ok (.getfield 44, 3) := by decide +kernel
theorem d_Mo_prepare_99 : decode prog_8_method_31_code 99 = .ok (.iload_n 2, 1) := by decide +kernel
theorem d_Mo_prepare_100 : decode prog_8_method_31_code 100 = .ok (.iaload, 1) := by decide +kernel
theorem d_Mo_prepare_101 : decode prog_8_method_31_code 101 = .ok (.istore_n 3, 1) := by decide +kernel
theorem d_Mo_prepare_102 : decode prog_8_method_31_code 102 = .ok (.aload_n 0, 1) := by decide +kernel
theorem d_Mo_prepare_103 : decode prog_8_method_31_code 103 = .ok (.iload_n 3, 1) := by decide +kernel
theorem d_Mo_prepare_104 : decode prog_8_method_31_code 104 = .ok (.iload_n 1, 1) := by decide +kernel
theorem d_Mo_prepare_105 : decode prog_8_method_31_code 105 = .ok (.iconst 1, 1) := by decide +kernel
theorem d_Mo_prepare_106 : decode prog_8_method_31_code 106 = .ok (.invokevirtual 85, 3) := by decide +kernel
theorem d_Mo_prepare_109 : decode prog_8_method_31_code 109 = .ok (.ifCond .eq 34, 3) := by decide +kernel
theorem d_Mo_prepare_112 : decode prog_8_method_31_code 112 = .ok (.aload_n 0, 1) := by decide +kernel
theorem d_Mo_prepare_113 : decode prog_8_method_31_code 113 = .ok (.iload_n 3, 1) := by decide +kernel
theorem d_Mo_prepare_114 : decode prog_8_method_31_code 114 = .ok (.invokevirtual 162, 3) := by decide +kernel
theorem d_Mo_prepare_117 : decode prog_8_method_31_code 117 = .ok (.ifCond .ne 26, 3) := by decide +kernel
theorem d_Mo_prepare_120 : decode prog_8_method_31_code 120 = .ok (.aload_n 0, 1) := by decide +kernel
theorem d_Mo_prepare_121 : decode prog_8_method_31_code 121 = .ok (.getfield 41, 3) := by decide +kernel
theorem d_Mo_prepare_124 : decode prog_8_method_31_code 124 = .ok (.iload_n 3, 1) := by decide +kernel
theorem d_Mo_prepare_125 : decode prog_8_method_31_code 125 = .ok (.iconst 1, 1) := by decide +kernel
theorem d_Mo_prepare_126 : decode prog_8_method_31_code 126 = .ok (.iastore, 1) := by decide +kernel
theorem d_Mo_prepare_127 : decode prog_8_method_31_code 127 = .ok (.iload_n 1, 1) := by decide +kernel
theorem d_Mo_prepare_128 : decode prog_8_method_31_code 128 = .ok (.iconst 1, 1) := by decide +kernel
theorem d_Mo_prepare_129 : decode prog_8_method_31_code 129 = .ok (.iload_n 3, 1) := by decide +kernel
theorem d_Mo_prepare_130 : decode prog_8_method_31_code 130 = .ok (.ishl, 1) := by decide +kernel
theorem d_Mo_prepare_131 : decode prog_8_method_31_code 131 = .ok (.ior, 1) := by decide +kernel
theorem d_Mo_prepare_132 : decode prog_8_method_31_code 132 = .ok (.istore_n 1, 1) := by decide +kernel
theorem d_Mo_prepare_133 : decode prog_8_method_31_code 133 = .ok (.aload_n 0, 1) := by decide +kernel
theorem d_Mo_prepare_134 : decode prog_8_method_31_code 134 = .ok (.dup, 1) := by decide +kernel
theorem d_Mo_prepare_135 : decode prog_8_method_31_code 135 = .ok (.getfield 61, 3) := by decide +kernel
theorem d_Mo_prepare_138 : decode prog_8_method_31_code 138 = .ok (.iconst 1, 1) := by decide +kernel
theorem d_Mo_prepare_139 : decode prog_8_method_31_code 139 = .ok (.iadd, 1) := by decide +kernel
theorem d_Mo_prepare_140 : decode prog_8_method_31_code 140 = .ok (.putfield 61, 3) := by decide +kernel
theorem d_Mo_prepare_143 : decode prog_8_method_31_code 143 = .ok (.iinc 2 1, 3) := by decide +kernel
theorem d_Mo_prepare_146 : decode prog_8_method_31_code 146 = .ok (.goto (-59), 3) := by decide +kernel
theorem d_Mo_prepare_149 : decode prog_8_method_31_code 149 = .ok (.aload_n 0, 1) := by decide +kernel
theorem d_Mo_prepare_150 : decode prog_8_method_31_code 150 = .ok (.iconst 1, 1) := by decide +kernel
theorem d_Mo_prepare_151 : decode prog_8_method_31_code 151 = .ok (.putfield 53, 3) := by decide +kernel
theorem d_Mo_prepare_154 : decode prog_8_method_31_code 154 = .ok (.aload_n 0, 1) := by decide +kernel
theorem d_Mo_prepare_155 : decode prog_8_method_31_code 155 = .ok (.getfield 61, 3) := by decide +kernel
theorem d_Mo_prepare_158 : decode prog_8_method_31_code 158 = .ok (.ireturn, 1) := by decide +kernel
theorem d_Mo_ordered_0 : decode prog_8_method_12_code 0 = .ok (.iconst 0, 1) := by decide +kernel
theorem d_Mo_ordered_1 : decode prog_8_method_12_code 1 = .ok (.istore_n 1, 1) := by decide +kernel
theorem d_Mo_ordered_2 : decode prog_8_method_12_code 2 = .ok (.iconst 0, 1) := by decide +kernel
theorem d_Mo_ordered_3 : decode prog_8_method_12_code 3 = .ok (.istore_n 2, 1) := by decide +kernel
theorem d_Mo_ordered_4 : decode prog_8_method_12_code 4 = .ok (.iload_n 2, 1) := by decide +kernel
theorem d_Mo_ordered_5 : decode prog_8_method_12_code 5 = .ok (.aload_n 0, 1) := by decide +kernel
theorem d_Mo_ordered_6 : decode prog_8_method_12_code 6 = .ok (.getfield 82, 3) := by decide +kernel
theorem d_Mo_ordered_9 : decode prog_8_method_12_code 9 = .ok (.if_icmp .ge 72, 3) := by decide +kernel
theorem d_Mo_ordered_12 : decode prog_8_method_12_code 12 = .ok (.iconst (-1), 1) := by decide +kernel
theorem d_Mo_ordered_13 : decode prog_8_method_12_code 13 = .ok (.istore_n 3, 1) := by decide +kernel
theorem d_Mo_ordered_14 : decode prog_8_method_12_code 14 = .ok (.aload_n 0, 1) := by decide +kernel
theorem d_Mo_ordered_15 : decode prog_8_method_12_code 15 = .ok (.getfield 82, 3) := by decide +kernel
theorem d_Mo_ordered_18 : decode prog_8_method_12_code 18 = .ok (.iconst 1, 1) := by decide +kernel
theorem d_Mo_ordered_19 : decode prog_8_method_12_code 19 = .ok (.isub, 1) := by decide +kernel
theorem d_Mo_ordered_20 : decode prog_8_method_12_code 20 = .ok (.istore 4, 2) := by decide +kernel
theorem d_Mo_ordered_22 : decode prog_8_method_12_code 22 = .ok (.iload 4, 2) := by decide +kernel
theorem d_Mo_ordered_24 : decode prog_8_method_12_code 24 = .ok (.ifCond .lt 32, 3) := by decide +kernel
theorem d_Mo_ordered_27 : decode prog_8_method_12_code 27 = .ok (.iload_n 1, 1) := by decide +kernel
theorem d_Mo_ordered_28 : decode prog_8_method_12_code 28 = .ok (.iload 4, 2) := by decide +kernel
theorem d_Mo_ordered_30 : decode prog_8_method_12_code 30 = .ok (.ishr, 1) := by decide +kernel
theorem d_Mo_ordered_31 : decode prog_8_method_12_code 31 = .ok (.iconst 1, 1) := by decide +kernel
theorem d_Mo_ordered_32 : decode prog_8_method_12_code 32 = .ok (.iand, 1) := by decide +kernel
theorem d_Mo_ordered_33 : decode prog_8_method_12_code 33 = .ok (.ifCond .ne 17, 3) := by decide +kernel
theorem d_Mo_ordered_36 : decode prog_8_method_12_code 36 = .ok (.aload_n 0, 1) := by decide +kernel
theorem d_Mo_ordered_37 : decode prog_8_method_12_code 37 = .ok (.iload 4, 2) := by decide +kernel
theorem d_Mo_ordered_39 : decode prog_8_method_12_code 39 = .ok (.iload_n 1, 1) := by decide +kernel
theorem d_Mo_ordered_40 : decode prog_8_method_12_code 40 = .ok (.iconst 0, 1) := by decide +kernel
theorem d_Mo_ordered_41 : decode prog_8_method_12_code 41 = .ok (.invokevirtual 85, 3) := by decide +kernel
theorem d_Mo_ordered_44 : decode prog_8_method_12_code 44 = .ok (.ifCond .eq 6, 3) := by decide +kernel
theorem d_Mo_ordered_47 : decode prog_8_method_12_code 47 = .ok (.iload 4, 2) := by decide +kernel
theorem d_Mo_ordered_49 : decode prog_8_method_12_code 49 = .ok (.istore_n 3, 1) := by decide +kernel
theorem d_Mo_ordered_50 : decode prog_8_method_12_code 50 = .ok (.iinc 4 (-1), 3) := by decide +kernel
theorem d_Mo_ordered_53 : decode prog_8_method_12_code 53 = .ok (.goto (-31), 3) := by decide +kernel
theorem d_Mo_ordered_56 : decode prog_8_method_12_code 56 = .ok (.iload_n 3, 1) := by decide +kernel
theorem d_Mo_ordered_57 : decode prog_8_method_12_code 57 = .ok (.ifCond .ge 5, 3) := by decide +kernel
theorem d_Mo_ordered_60 : decode prog_8_method_12_code 60 = .ok (.iconst 0, 1) := by decide +kernel
theorem d_Mo_ordered_61 : decode prog_8_method_12_code 61 = .ok (.ireturn, 1) := by decide +kernel
theorem d_Mo_ordered_62 : decode prog_8_method_12_code 62 = .ok (.aload_n 0, 1) := by decide +kernel
theorem d_Mo_ordered_63 : decode prog_8_method_12_code 63 = .ok (.getfield 44, 3) := by decide +kernel
theorem d_Mo_ordered_66 : decode prog_8_method_12_code 66 = .ok (.iload_n 2, 1) := by decide +kernel
theorem d_Mo_ordered_67 : decode prog_8_method_12_code 67 = .ok (.iload_n 3, 1) := by decide +kernel
theorem d_Mo_ordered_68 : decode prog_8_method_12_code 68 = .ok (.iastore, 1) := by decide +kernel
theorem d_Mo_ordered_69 : decode prog_8_method_12_code 69 = .ok (.iload_n 1, 1) := by decide +kernel
theorem d_Mo_ordered_70 : decode prog_8_method_12_code 70 = .ok (.iconst 1, 1) := by decide +kernel
theorem d_Mo_ordered_71 : decode prog_8_method_12_code 71 = .ok (.iload_n 3, 1) := by decide +kernel
theorem d_Mo_ordered_72 : decode prog_8_method_12_code 72 = .ok (.ishl, 1) := by decide +kernel
theorem d_Mo_ordered_73 : decode prog_8_method_12_code 73 = .ok (.ior, 1) := by decide +kernel
theorem d_Mo_ordered_74 : decode prog_8_method_12_code 74 = .ok (.istore_n 1, 1) := by decide +kernel
theorem d_Mo_ordered_75 : decode prog_8_method_12_code 75 = .ok (.iinc 2 1, 3) := by decide +kernel
theorem d_Mo_ordered_78 : decode prog_8_method_12_code 78 = .ok (.goto (-74), 3) := by decide +kernel
theorem d_Mo_ordered_81 : decode prog_8_method_12_code 81 = .ok (.iconst 1, 1) := by decide +kernel
theorem d_Mo_ordered_82 : decode prog_8_method_12_code 82 = .ok (.ireturn, 1) := by decide +kernel
theorem d_Mo_there_0 : decode prog_8_method_11_code 0 = .ok (.iconst 0, 1) := by decide +kernel
theorem d_Mo_there_1 : decode prog_8_method_11_code 1 = .ok (.istore 4, 2) := by decide +kernel
theorem d_Mo_there_3 : decode prog_8_method_11_code 3 = .ok (.iload 4, 2) := by decide +kernel
theorem d_Mo_there_5 : decode prog_8_method_11_code 5 = .ok (.aload_n 0, 1) := by decide +kernel
theorem d_Mo_there_6 : decode prog_8_method_11_code 6 = .ok (.aload_n 0, 1) := by decide +kernel
theorem d_Mo_there_7 : decode prog_8_method_11_code 7 = .ok (.getfield 29, 3) := by decide +kernel
theorem d_Mo_there_10 : decode prog_8_method_11_code 10 = .ok (.iload_n 1, 1) := by decide +kernel
theorem d_Mo_there_11 : decode prog_8_method_11_code 11 = .ok (.iaload, 1) := by decide +kernel
theorem d_Mo_there_12 : decode prog_8_method_11_code 12 = .ok (.invokevirtual 78, 3) := by decide +kernel
theorem d_Mo_there_15 : decode prog_8_method_11_code 15 = .ok (.if_icmp .ge 74, 3) := by decide +kernel
theorem d_Mo_there_18 : decode prog_8_method_11_code 18 = .ok (.aload_n 0, 1) := by decide +kernel
theorem d_Mo_there_19 : decode prog_8_method_11_code 19 = .ok (.getfield 47, 3) := by decide +kernel
theorem d_Mo_there_22 : decode prog_8_method_11_code 22 = .ok (.iload_n 1, 1) := by decide +kernel
theorem d_Mo_there_23 : decode prog_8_method_11_code 23 = .ok (.iconst 3, 1) := by decide +kernel
theorem d_Mo_there_24 : decode prog_8_method_11_code 24 = .ok (.imul, 1) := by decide +kernel
theorem d_Mo_there_25 : decode prog_8_method_11_code 25 = .ok (.iload 4, 2) := by decide +kernel
theorem d_Mo_there_27 : decode prog_8_method_11_code 27 = .ok (.iadd, 1) := by decide +kernel
theorem d_Mo_there_28 : decode prog_8_method_11_code 28 = .ok (.iaload, 1) := by decide +kernel
theorem d_Mo_there_29 : decode prog_8_method_11_code 29 = .ok (.istore 5, 2) := by decide +kernel
theorem d_Mo_there_31 : decode prog_8_method_11_code 31 = .ok (.aload_n 0, 1) := by decide +kernel
theorem d_Mo_there_32 : decode prog_8_method_11_code 32 = .ok (.getfield 7, 3) := by decide +kernel
theorem d_Mo_there_35 : decode prog_8_method_11_code 35 = .ok (.iload 5, 2) := by decide +kernel
theorem d_Mo_there_37 : decode prog_8_method_11_code 37 = .ok (.iaload, 1) := by decide +kernel
theorem d_Mo_there_38 : decode prog_8_method_11_code 38 = .ok (.ifCond .eq 43, 3) := by decide +kernel
theorem d_Mo_there_41 : decode prog_8_method_11_code 41 = .ok (.aload_n 0, 1) := by decide +kernel
theorem d_Mo_there_42 : decode prog_8_method_11_code 42 = .ok (.getfield 7, 3) := by decide +kernel
theorem d_Mo_there_45 : decode prog_8_method_11_code 45 = .ok (.iload 5, 2) := by decide +kernel
theorem d_Mo_there_47 : decode prog_8_method_11_code 47 = .ok (.iaload, 1) := by decide +kernel
theorem d_Mo_there_48 : decode prog_8_method_11_code 48 = .ok (.iconst 1, 1) := by decide +kernel
theorem d_Mo_there_49 : decode prog_8_method_11_code 49 = .ok (.if_icmp .ne 7, 3) := by decide +kernel
theorem d_Mo_there_52 : decode prog_8_method_11_code 52 = .ok (.iload_n 3, 1) := by decide +kernel
theorem d_Mo_there_53 : decode prog_8_method_11_code 53 = .ok (.ifCond .ne 28, 3) := by decide +kernel
theorem d_Mo_there_56 : decode prog_8_method_11_code 56 = .ok (.aload_n 0, 1) := by decide +kernel
theorem d_Mo_there_57 : decode prog_8_method_11_code 57 = .ok (.getfield 7, 3) := by decide +kernel
theorem d_Mo_there_60 : decode prog_8_method_11_code 60 = .ok (.iload 5, 2) := by decide +kernel
theorem d_Mo_there_62 : decode prog_8_method_11_code 62 = .ok (.iaload, 1) := by decide +kernel
theorem d_Mo_there_63 : decode prog_8_method_11_code 63 = .ok (.iconst 3, 1) := by decide +kernel
theorem d_Mo_there_64 : decode prog_8_method_11_code 64 = .ok (.if_icmp .ne 19, 3) := by decide +kernel
theorem d_Mo_there_67 : decode prog_8_method_11_code 67 = .ok (.iload_n 2, 1) := by decide +kernel
theorem d_Mo_there_68 : decode prog_8_method_11_code 68 = .ok (.aload_n 0, 1) := by decide +kernel
theorem d_Mo_there_69 : decode prog_8_method_11_code 69 = .ok (.getfield 22, 3) := by decide +kernel
theorem d_Mo_there_72 : decode prog_8_method_11_code 72 = .ok (.iload 5, 2) := by decide +kernel
theorem d_Mo_there_74 : decode prog_8_method_11_code 74 = .ok (.iaload, 1) := by decide +kernel
theorem d_Mo_there_75 : decode prog_8_method_11_code 75 = .ok (.ishr, 1) := by decide +kernel
theorem d_Mo_there_76 : decode prog_8_method_11_code 76 = .ok (.iconst 1, 1) := by decide +kernel
theorem d_Mo_there_77 : decode prog_8_method_11_code 77 = .ok (.iand, 1) := by decide +kernel
theorem d_Mo_there_78 : decode prog_8_method_11_code 78 = .ok (.ifCond .ne 5, 3) := by decide +kernel
theorem d_Mo_there_81 : decode prog_8_method_11_code 81 = .ok (.iconst 0, 1) := by decide +kernel
theorem d_Mo_there_82 : decode prog_8_method_11_code 82 = .ok (.ireturn, 1) := by decide +kernel
theorem d_Mo_there_83 : decode prog_8_method_11_code 83 = .ok (.iinc 4 1, 3) := by decide +kernel
theorem d_Mo_there_86 : decode prog_8_method_11_code 86 = .ok (.goto (-83), 3) := by decide +kernel
theorem d_Mo_there_89 : decode prog_8_method_11_code 89 = .ok (.iconst 1, 1) := by decide +kernel
theorem d_Mo_there_90 : decode prog_8_method_11_code 90 = .ok (.ireturn, 1) := by decide +kernel
theorem d_Mo_shape_0 : decode prog_8_method_17_code 0 = .ok (.aload_n 0, 1) := by decide +kernel
theorem d_Mo_shape_1 : decode prog_8_method_17_code 1 = .ok (.getfield 29, 3) := by decide +kernel
theorem d_Mo_shape_4 : decode prog_8_method_17_code 4 = .ok (.iload_n 1, 1) := by decide +kernel
theorem d_Mo_shape_5 : decode prog_8_method_17_code 5 = .ok (.iaload, 1) := by decide +kernel
theorem d_Mo_shape_6 : decode prog_8_method_17_code 6 = .ok (.istore_n 2, 1) := by decide +kernel
theorem d_Mo_shape_7 : decode prog_8_method_17_code 7 = .ok (.aload_n 0, 1) := by decide +kernel
theorem d_Mo_shape_8 : decode prog_8_method_17_code 8 = .ok (.getfield 47, 3) := by decide +kernel
theorem d_Mo_shape_11 : decode prog_8_method_17_code 11 = .ok (.iload_n 1, 1) := by decide +kernel
theorem d_Mo_shape_12 : decode prog_8_method_17_code 12 = .ok (.iconst 3, 1) := by decide +kernel
theorem d_Mo_shape_13 : decode prog_8_method_17_code 13 = .ok (.imul, 1) := by decide +kernel
theorem d_Mo_shape_14 : decode prog_8_method_17_code 14 = .ok (.iaload, 1) := by decide +kernel
theorem d_Mo_shape_15 : decode prog_8_method_17_code 15 = .ok (.istore_n 3, 1) := by decide +kernel
theorem d_Mo_shape_16 : decode prog_8_method_17_code 16 = .ok (.aload_n 0, 1) := by decide +kernel
theorem d_Mo_shape_17 : decode prog_8_method_17_code 17 = .ok (.iload_n 2, 1) := by decide +kernel
theorem d_Mo_shape_18 : decode prog_8_method_17_code 18 = .ok (.invokevirtual 78, 3) := by decide +kernel
theorem d_Mo_shape_21 : decode prog_8_method_17_code 21 = .ok (.iconst 1, 1) := by decide +kernel
theorem d_Mo_shape_22 : decode prog_8_method_17_code 22 = .ok (.if_icmp .le 16, 3) := by decide +kernel
theorem d_Mo_shape_25 : decode prog_8_method_17_code 25 = .ok (.aload_n 0, 1) := by decide +kernel
theorem d_Mo_shape_26 : decode prog_8_method_17_code 26 = .ok (.getfield 47, 3) := by decide +kernel
theorem d_Mo_shape_29 : decode prog_8_method_17_code 29 = .ok (.iload_n 1, 1) := by decide +kernel
theorem d_Mo_shape_30 : decode prog_8_method_17_code 30 = .ok (.iconst 3, 1) := by decide +kernel
theorem d_Mo_shape_31 : decode prog_8_method_17_code 31 = .ok (.imul, 1) := by decide +kernel
theorem d_Mo_shape_32 : decode prog_8_method_17_code 32 = .ok (.iconst 1, 1) := by decide +kernel
theorem d_Mo_shape_33 : decode prog_8_method_17_code 33 = .ok (.iadd, 1) := by decide +kernel
theorem d_Mo_shape_34 : decode prog_8_method_17_code 34 = .ok (.iaload, 1) := by decide +kernel
theorem d_Mo_shape_35 : decode prog_8_method_17_code 35 = .ok (.goto 4, 3) := by decide +kernel
theorem d_Mo_shape_38 : decode prog_8_method_17_code 38 = .ok (.iload_n 3, 1) := by decide +kernel
theorem d_Mo_shape_39 : decode prog_8_method_17_code 39 = .ok (.istore 4, 2) := by decide +kernel
theorem d_Mo_shape_41 : decode prog_8_method_17_code 41 = .ok (.aload_n 0, 1) := by decide +kernel
theorem d_Mo_shape_42 : decode prog_8_method_17_code 42 = .ok (.iload_n 2, 1) := by decide +kernel
theorem d_Mo_shape_43 : decode prog_8_method_17_code 43 = .ok (.invokevirtual 78, 3) := by decide +kernel
theorem d_Mo_shape_46 : decode prog_8_method_17_code 46 = .ok (.iconst 2, 1) := by decide +kernel
theorem d_Mo_shape_47 : decode prog_8_method_17_code 47 = .ok (.if_icmp .le 16, 3) := by decide +kernel
theorem d_Mo_shape_50 : decode prog_8_method_17_code 50 = .ok (.aload_n 0, 1) := by decide +kernel
theorem d_Mo_shape_51 : decode prog_8_method_17_code 51 = .ok (.getfield 47, 3) := by decide +kernel
theorem d_Mo_shape_54 : decode prog_8_method_17_code 54 = .ok (.iload_n 1, 1) := by decide +kernel
theorem d_Mo_shape_55 : decode prog_8_method_17_code 55 = .ok (.iconst 3, 1) := by decide +kernel
theorem d_Mo_shape_56 : decode prog_8_method_17_code 56 = .ok (.imul, 1) := by decide +kernel
theorem d_Mo_shape_57 : decode prog_8_method_17_code 57 = .ok (.iconst 2, 1) := by decide +kernel
theorem d_Mo_shape_58 : decode prog_8_method_17_code 58 = .ok (.iadd, 1) := by decide +kernel
theorem d_Mo_shape_59 : decode prog_8_method_17_code 59 = .ok (.iaload, 1) := by decide +kernel
theorem d_Mo_shape_60 : decode prog_8_method_17_code 60 = .ok (.goto 4, 3) := by decide +kernel
theorem d_Mo_shape_63 : decode prog_8_method_17_code 63 = .ok (.iload_n 3, 1) := by decide +kernel
theorem d_Mo_shape_64 : decode prog_8_method_17_code 64 = .ok (.istore 5, 2) := by decide +kernel
theorem d_Mo_shape_66 : decode prog_8_method_17_code 66 = .ok (.aload_n 0, 1) := by decide +kernel
theorem d_Mo_shape_67 : decode prog_8_method_17_code 67 = .ok (.getfield 13, 3) := by decide +kernel
theorem d_Mo_shape_70 : decode prog_8_method_17_code 70 = .ok (.iload_n 3, 1) := by decide +kernel
theorem d_Mo_shape_71 : decode prog_8_method_17_code 71 = .ok (.iaload, 1) := by decide +kernel
theorem d_Mo_shape_72 : decode prog_8_method_17_code 72 = .ok (.aload_n 0, 1) := by decide +kernel
theorem d_Mo_shape_73 : decode prog_8_method_17_code 73 = .ok (.getfield 13, 3) := by decide +kernel
theorem d_Mo_shape_76 : decode prog_8_method_17_code 76 = .ok (.iload 4, 2) := by decide +kernel
theorem d_Mo_shape_78 : decode prog_8_method_17_code 78 = .ok (.iaload, 1) := by decide +kernel
theorem d_Mo_shape_79 : decode prog_8_method_17_code 79 = .ok (.if_icmp .ne 7, 3) := by decide +kernel
theorem d_Mo_shape_82 : decode prog_8_method_17_code 82 = .ok (.iconst 1, 1) := by decide +kernel
theorem d_Mo_shape_83 : decode prog_8_method_17_code 83 = .ok (.goto 4, 3) := by decide +kernel
theorem d_Mo_shape_86 : decode prog_8_method_17_code 86 = .ok (.iconst 0, 1) := by decide +kernel
theorem d_Mo_shape_87 : decode prog_8_method_17_code 87 = .ok (.istore 6, 2) := by decide +kernel
theorem d_Mo_shape_89 : decode prog_8_method_17_code 89 = .ok (.aload_n 0, 1) := by decide +kernel
theorem d_Mo_shape_90 : decode prog_8_method_17_code 90 = .ok (.getfield 13, 3) := by decide +kernel
theorem d_Mo_shape_93 : decode prog_8_method_17_code 93 = .ok (.iload_n 3, 1) := by decide +kernel
theorem d_Mo_shape_94 : decode prog_8_method_17_code 94 = .ok (.iaload, 1) := by decide +kernel
theorem d_Mo_shape_95 : decode prog_8_method_17_code 95 = .ok (.ifCond .ne 17, 3) := by decide +kernel
theorem d_Mo_shape_98 : decode prog_8_method_17_code 98 = .ok (.aload_n 0, 1) := by decide +kernel
theorem d_Mo_shape_99 : decode prog_8_method_17_code 99 = .ok (.getfield 13, 3) := by decide +kernel
theorem d_Mo_shape_102 : decode prog_8_method_17_code 102 = .ok (.iload 4, 2) := by decide +kernel
theorem d_Mo_shape_104 : decode prog_8_method_17_code 104 = .ok (.iaload, 1) := by decide +kernel
theorem d_Mo_shape_105 : decode prog_8_method_17_code 105 = .ok (.ifCond .ne 7, 3) := by decide +kernel
theorem d_Mo_shape_108 : decode prog_8_method_17_code 108 = .ok (.iconst 1, 1) := by decide +kernel
theorem d_Mo_shape_109 : decode prog_8_method_17_code 109 = .ok (.goto 4, 3) := by decide +kernel
theorem d_Mo_shape_112 : decode prog_8_method_17_code 112 = .ok (.iconst 0, 1) := by decide +kernel
theorem d_Mo_shape_113 : decode prog_8_method_17_code 113 = .ok (.istore 7, 2) := by decide +kernel
theorem d_Mo_shape_115 : decode prog_8_method_17_code 115 = .ok (.aload_n 0, 1) := by decide +kernel
theorem d_Mo_shape_116 : decode prog_8_method_17_code 116 = .ok (.getfield 16, 3) := by decide +kernel
theorem d_Mo_shape_119 : decode prog_8_method_17_code 119 = .ok (.iload_n 3, 1) := by decide +kernel
theorem d_Mo_shape_120 : decode prog_8_method_17_code 120 = .ok (.iaload, 1) := by decide +kernel
theorem d_Mo_shape_121 : decode prog_8_method_17_code 121 = .ok (.istore 8, 2) := by decide +kernel
theorem d_Mo_shape_123 : decode prog_8_method_17_code 123 = .ok (.aload_n 0, 1) := by decide +kernel
theorem d_Mo_shape_124 : decode prog_8_method_17_code 124 = .ok (.getfield 19, 3) := by decide +kernel
theorem d_Mo_shape_127 : decode prog_8_method_17_code 127 = .ok (.iload_n 3, 1) := by decide +kernel
theorem d_Mo_shape_128 : decode prog_8_method_17_code 128 = .ok (.iaload, 1) := by decide +kernel
theorem d_Mo_shape_129 : decode prog_8_method_17_code 129 = .ok (.istore 9, 2) := by decide +kernel
theorem d_Mo_shape_131 : decode prog_8_method_17_code 131 = .ok (.iload_n 2, 1) := by decide +kernel
theorem d_Mo_shape_132 : decode prog_8_method_17_code 132 = .ok (.iconst 4, 1) := by decide +kernel
theorem d_Mo_shape_133 : decode prog_8_method_17_code 133 = .ok (.if_icmp .lt 9, 3) := by decide +kernel
theorem d_Mo_shape_136 : decode prog_8_method_17_code 136 = .ok (.iload_n 2, 1) := by decide +kernel
theorem d_Mo_shape_137 : decode prog_8_method_17_code 137 = .ok (.bipush 8, 2) := by decide +kernel
theorem d_Mo_shape_139 : decode prog_8_method_17_code 139 = .ok (.if_icmp .ne 74, 3) := by decide +kernel
theorem d_Mo_shape_142 : decode prog_8_method_17_code 142 = .ok (.iload 6, 2) := by decide +kernel
theorem d_Mo_shape_144 : decode prog_8_method_17_code 144 = .ok (.ifCond .eq 67, 3) := by decide +kernel
theorem d_Mo_shape_147 : decode prog_8_method_17_code 147 = .ok (.aload_n 0, 1) := by decide +kernel
theorem d_Mo_shape_148 : decode prog_8_method_17_code 148 = .ok (.iload_n 3, 1) := by decide +kernel
theorem d_Mo_shape_149 : decode prog_8_method_17_code 149 = .ok (.iload 4, 2) := by decide +kernel
theorem d_Mo_shape_151 : decode prog_8_method_17_code 151 = .ok (.invokevirtual 93, 3) := by decide +kernel
theorem d_Mo_shape_154 : decode prog_8_method_17_code 154 = .ok (.ifCond .eq 57, 3) := by decide +kernel
theorem d_Mo_shape_157 : decode prog_8_method_17_code 157 = .ok (.aload_n 0, 1) := by decide +kernel
theorem d_Mo_shape_158 : decode prog_8_method_17_code 158 = .ok (.iload_n 1, 1) := by decide +kernel
theorem d_Mo_shape_159 : decode prog_8_method_17_code 159 = .ok (.iload_n 2, 1) := by decide +kernel
theorem d_Mo_shape_160 : decode prog_8_method_17_code 160 = .ok (.bipush 8, 2) := by decide +kernel
theorem d_Mo_shape_162 : decode prog_8_method_17_code 162 = .ok (.if_icmp .ne 7, 3) := by decide +kernel
theorem d_Mo_shape_165 : decode prog_8_method_17_code 165 = .ok (.iconst 1, 1) := by decide +kernel
theorem d_Mo_shape_166 : decode prog_8_method_17_code 166 = .ok (.goto 9, 3) := by decide +kernel
theorem d_Mo_shape_169 : decode prog_8_method_17_code 169 = .ok (.aload_n 0, 1) := by decide +kernel
theorem d_Mo_shape_170 : decode prog_8_method_17_code 170 = .ok (.getfield 13, 3) := by decide +kernel
theorem d_Mo_shape_173 : decode prog_8_method_17_code 173 = .ok (.iload_n 3, 1) := by decide +kernel
theorem d_Mo_shape_174 : decode prog_8_method_17_code 174 = .ok (.iaload, 1) := by decide +kernel
theorem d_Mo_shape_175 : decode prog_8_method_17_code 175 = .ok (.aload_n 0, 1) := by decide +kernel
theorem d_Mo_shape_176 : decode prog_8_method_17_code 176 = .ok (.iload 8, 2) := by decide +kernel
theorem d_Mo_shape_178 : decode prog_8_method_17_code 178 = .ok (.aload_n 0, 1) := by decide +kernel
theorem d_Mo_shape_179 : decode prog_8_method_17_code 179 = .ok (.getfield 16, 3) := by decide +kernel
theorem d_Mo_shape_182 : decode prog_8_method_17_code 182 = .ok (.iload 4, 2) := by decide +kernel
theorem d_Mo_shape_184 : decode prog_8_method_17_code 184 = .ok (.iaload, 1) := by decide +kernel
theorem d_Mo_shape_185 : decode prog_8_method_17_code 185 = .ok (.invokevirtual 96, 3) := by decide +kernel
theorem d_Mo_shape_188 : decode prog_8_method_17_code 188 = .ok (.aload_n 0, 1) := by decide +kernel
theorem d_Mo_shape_189 : decode prog_8_method_17_code 189 = .ok (.iload 9, 2) := by decide +kernel
theorem d_Mo_shape_191 : decode prog_8_method_17_code 191 = .ok (.aload_n 0, 1) := by decide +kernel
theorem d_Mo_shape_192 : decode prog_8_method_17_code 192 = .ok (.getfield 19, 3) := by decide +kernel
theorem d_Mo_shape_195 : decode prog_8_method_17_code 195 = .ok (.iload 4, 2) := by decide +kernel
theorem d_Mo_shape_197 : decode prog_8_method_17_code 197 = .ok (.iaload, 1) := by decide +kernel
theorem d_Mo_shape_198 : decode prog_8_method_17_code 198 = .ok (.invokevirtual 96, 3) := by decide +kernel
theorem d_Mo_shape_201 : decode prog_8_method_17_code 201 = .ok (.invokevirtual 100, 3) := by decide +kernel
theorem d_Mo_shape_204 : decode prog_8_method_17_code 204 = .ok (.ifCond .eq 7, 3) := by decide +kernel
theorem d_Mo_shape_207 : decode prog_8_method_17_code 207 = .ok (.iconst 1, 1) := by decide +kernel
theorem d_Mo_shape_208 : decode prog_8_method_17_code 208 = .ok (.goto 4, 3) := by decide +kernel
theorem d_Mo_shape_211 : decode prog_8_method_17_code 211 = .ok (.iconst 0, 1) := by decide +kernel
theorem d_Mo_shape_212 : decode prog_8_method_17_code 212 = .ok (.ireturn, 1) := by decide +kernel
theorem d_Mo_shape_213 : decode prog_8_method_17_code 213 = .ok (.iload_n 2, 1) := by decide +kernel
theorem d_Mo_shape_214 : decode prog_8_method_17_code 214 = .ok (.iconst 4, 1) := by decide +kernel
theorem d_Mo_shape_215 : decode prog_8_method_17_code 215 = .ok (.if_icmp .ne 44, 3) := by decide +kernel
theorem d_Mo_shape_218 : decode prog_8_method_17_code 218 = .ok (.iload 7, 2) := by decide +kernel
theorem d_Mo_shape_220 : decode prog_8_method_17_code 220 = .ok (.ifCond .eq 37, 3) := by decide +kernel
theorem d_Mo_shape_223 : decode prog_8_method_17_code 223 = .ok (.iload 9, 2) := by decide +kernel
theorem d_Mo_shape_225 : decode prog_8_method_17_code 225 = .ok (.aload_n 0, 1) := by decide +kernel
theorem d_Mo_shape_226 : decode prog_8_method_17_code 226 = .ok (.getfield 16, 3) := by decide +kernel
theorem d_Mo_shape_229 : decode prog_8_method_17_code 229 = .ok (.iload 4, 2) := by decide +kernel
theorem d_Mo_shape_231 : decode prog_8_method_17_code 231 = .ok (.iaload, 1) := by decide +kernel
theorem d_Mo_shape_232 : decode prog_8_method_17_code 232 = .ok (.if_icmp .ne 25, 3) := by decide +kernel
theorem d_Mo_shape_235 : decode prog_8_method_17_code 235 = .ok (.aload_n 0, 1) := by decide +kernel
theorem d_Mo_shape_236 : decode prog_8_method_17_code 236 = .ok (.iload_n 1, 1) := by decide +kernel
theorem d_Mo_shape_237 : decode prog_8_method_17_code 237 = .ok (.iconst 0, 1) := by decide +kernel
theorem d_Mo_shape_238 : decode prog_8_method_17_code 238 = .ok (.iload 8, 2) := by decide +kernel
theorem d_Mo_shape_240 : decode prog_8_method_17_code 240 = .ok (.aload_n 0, 1) := by decide +kernel
theorem d_Mo_shape_241 : decode prog_8_method_17_code 241 = .ok (.getfield 19, 3) := by decide +kernel
theorem d_Mo_shape_244 : decode prog_8_method_17_code 244 = .ok (.iload 4, 2) := by decide +kernel
theorem d_Mo_shape_246 : decode prog_8_method_17_code 246 = .ok (.iaload, 1) := by decide +kernel
theorem d_Mo_shape_247 : decode prog_8_method_17_code 247 = .ok (.invokevirtual 100, 3) := by decide +kernel
theorem d_Mo_shape_250 : decode prog_8_method_17_code 250 = .ok (.ifCond .eq 7, 3) := by decide +kernel
theorem d_Mo_shape_253 : decode prog_8_method_17_code 253 = .ok (.iconst 1, 1) := by decide +kernel
theorem d_Mo_shape_254 : decode prog_8_method_17_code 254 = .ok (.goto 4, 3) := by decide +kernel
theorem d_Mo_shape_257 : decode prog_8_method_17_code 257 = .ok (.iconst 0, 1) := by decide +kernel
theorem d_Mo_shape_258 : decode prog_8_method_17_code 258 = .ok (.ireturn, 1) := by decide +kernel
theorem d_Mo_shape_259 : decode prog_8_method_17_code 259 = .ok (.iload_n 2, 1) := by decide +kernel
theorem d_Mo_shape_260 : decode prog_8_method_17_code 260 = .ok (.iconst 5, 1) := by decide +kernel
theorem d_Mo_shape_261 : decode prog_8_method_17_code 261 = .ok (.if_icmp .eq 9, 3) := by decide +kernel
theorem d_Mo_shape_264 : decode prog_8_method_17_code 264 = .ok (.iload_n 2, 1) := by decide +kernel
theorem d_Mo_shape_265 : decode prog_8_method_17_code 265 = .ok (.bipush 18, 2) := by decide +kernel
theorem d_Mo_shape_267 : decode prog_8_method_17_code 267 = .ok (.if_icmp .ne 27, 3) := by decide +kernel
theorem d_Mo_shape_270 : decode prog_8_method_17_code 270 = .ok (.iload 7, 2) := by decide +kernel
theorem d_Mo_shape_272 : decode prog_8_method_17_code 272 = .ok (.ifCond .eq 20, 3) := by decide +kernel
theorem d_Mo_shape_275 : decode prog_8_method_17_code 275 = .ok (.aload_n 0, 1) := by decide +kernel
theorem d_Mo_shape_276 : decode prog_8_method_17_code 276 = .ok (.iload_n 1, 1) := by decide +kernel
theorem d_Mo_shape_277 : decode prog_8_method_17_code 277 = .ok (.iconst 0, 1) := by decide +kernel
theorem d_Mo_shape_278 : decode prog_8_method_17_code 278 = .ok (.iload 8, 2) := by decide +kernel
theorem d_Mo_shape_280 : decode prog_8_method_17_code 280 = .ok (.iload 9, 2) := by decide +kernel
theorem d_Mo_shape_282 : decode prog_8_method_17_code 282 = .ok (.invokevirtual 100, 3) := by decide +kernel
theorem d_Mo_shape_285 : decode prog_8_method_17_code 285 = .ok (.ifCond .eq 7, 3) := by decide +kernel
theorem d_Mo_shape_288 : decode prog_8_method_17_code 288 = .ok (.iconst 1, 1) := by decide +kernel
theorem d_Mo_shape_289 : decode prog_8_method_17_code 289 = .ok (.goto 4, 3) := by decide +kernel
theorem d_Mo_shape_292 : decode prog_8_method_17_code 292 = .ok (.iconst 0, 1) := by decide +kernel
theorem d_Mo_shape_293 : decode prog_8_method_17_code 293 = .ok (.ireturn, 1) := by decide +kernel
theorem d_Mo_shape_294 : decode prog_8_method_17_code 294 = .ok (.iload_n 2, 1) := by decide +kernel
theorem d_Mo_shape_295 : decode prog_8_method_17_code 295 = .ok (.bipush 6, 2) := by decide +kernel
theorem d_Mo_shape_297 : decode prog_8_method_17_code 297 = .ok (.if_icmp .ne 19, 3) := by decide +kernel
theorem d_Mo_shape_300 : decode prog_8_method_17_code 300 = .ok (.aload_n 0, 1) := by decide +kernel
theorem d_Mo_shape_301 : decode prog_8_method_17_code 301 = .ok (.iload_n 1, 1) := by decide +kernel
theorem d_Mo_shape_302 : decode prog_8_method_17_code 302 = .ok (.aload_n 0, 1) := by decide +kernel
theorem d_Mo_shape_303 : decode prog_8_method_17_code 303 = .ok (.getfield 13, 3) := by decide +kernel
theorem d_Mo_shape_306 : decode prog_8_method_17_code 306 = .ok (.iload_n 3, 1) := by decide +kernel
theorem d_Mo_shape_307 : decode prog_8_method_17_code 307 = .ok (.iaload, 1) := by decide +kernel
end
section
theorem d_Mo_shape_308 : decode prog_8_method_17_code 308 = .ok (.iload 9, 2) := by decide +kernel
theorem d_Mo_shape_310 : decode prog_8_method_17_code 310 = .ok (.iload 8, 2) := by decide +kernel
theorem d_Mo_shape_312 : decode prog_8_method_17_code 312 = .ok (.invokevirtual 100, 3) := by decide +kernel
theorem d_Mo_shape_315 : decode prog_8_method_17_code 315 = .ok (.ireturn, 1) := by decide +kernel
theorem d_Mo_shape_316 : decode prog_8_method_17_code 316 = .ok (.iload_n 2, 1) := by decide +kernel
theorem d_Mo_shape_317 : decode prog_8_method_17_code 317 = .ok (.bipush 7, 2) := by decide +kernel
theorem d_Mo_shape_319 : decode prog_8_method_17_code 319 = .ok (.if_icmp .ne 42, 3) := by decide +kernel
theorem d_Mo_shape_322 : decode prog_8_method_17_code 322 = .ok (.aload_n 0, 1) := by decide +kernel
theorem d_Mo_shape_323 : decode prog_8_method_17_code 323 = .ok (.aload_n 0, 1) := by decide +kernel
theorem d_Mo_shape_324 : decode prog_8_method_17_code 324 = .ok (.getfield 35, 3) := by decide +kernel
theorem d_Mo_shape_327 : decode prog_8_method_17_code 327 = .ok (.iload_n 1, 1) := by decide +kernel
theorem d_Mo_shape_328 : decode prog_8_method_17_code 328 = .ok (.iaload, 1) := by decide +kernel
theorem d_Mo_shape_329 : decode prog_8_method_17_code 329 = .ok (.iconst 0, 1) := by decide +kernel
theorem d_Mo_shape_330 : decode prog_8_method_17_code 330 = .ok (.iconst 1, 1) := by decide +kernel
theorem d_Mo_shape_331 : decode prog_8_method_17_code 331 = .ok (.invokevirtual 68, 3) := by decide +kernel
theorem d_Mo_shape_334 : decode prog_8_method_17_code 334 = .ok (.ifCond .ne 25, 3) := by decide +kernel
theorem d_Mo_shape_337 : decode prog_8_method_17_code 337 = .ok (.aload_n 0, 1) := by decide +kernel
theorem d_Mo_shape_338 : decode prog_8_method_17_code 338 = .ok (.iload_n 1, 1) := by decide +kernel
theorem d_Mo_shape_339 : decode prog_8_method_17_code 339 = .ok (.aload_n 0, 1) := by decide +kernel
theorem d_Mo_shape_340 : decode prog_8_method_17_code 340 = .ok (.getfield 35, 3) := by decide +kernel
theorem d_Mo_shape_343 : decode prog_8_method_17_code 343 = .ok (.iload_n 1, 1) := by decide +kernel
theorem d_Mo_shape_344 : decode prog_8_method_17_code 344 = .ok (.iaload, 1) := by decide +kernel
theorem d_Mo_shape_345 : decode prog_8_method_17_code 345 = .ok (.iload 8, 2) := by decide +kernel
theorem d_Mo_shape_347 : decode prog_8_method_17_code 347 = .ok (.iload 9, 2) := by decide +kernel
theorem d_Mo_shape_349 : decode prog_8_method_17_code 349 = .ok (.invokevirtual 100, 3) := by decide +kernel
theorem d_Mo_shape_352 : decode prog_8_method_17_code 352 = .ok (.ifCond .eq 7, 3) := by decide +kernel
theorem d_Mo_shape_355 : decode prog_8_method_17_code 355 = .ok (.iconst 1, 1) := by decide +kernel
theorem d_Mo_shape_356 : decode prog_8_method_17_code 356 = .ok (.goto 4, 3) := by decide +kernel
theorem d_Mo_shape_359 : decode prog_8_method_17_code 359 = .ok (.iconst 0, 1) := by decide +kernel
theorem d_Mo_shape_360 : decode prog_8_method_17_code 360 = .ok (.ireturn, 1) := by decide +kernel
theorem d_Mo_shape_361 : decode prog_8_method_17_code 361 = .ok (.iload_n 2, 1) := by decide +kernel
theorem d_Mo_shape_362 : decode prog_8_method_17_code 362 = .ok (.bipush 9, 2) := by decide +kernel
theorem d_Mo_shape_364 : decode prog_8_method_17_code 364 = .ok (.if_icmp .ne 139, 3) := by decide +kernel
theorem d_Mo_shape_367 : decode prog_8_method_17_code 367 = .ok (.aload_n 0, 1) := by decide +kernel
theorem d_Mo_shape_368 : decode prog_8_method_17_code 368 = .ok (.getfield 13, 3) := by decide +kernel
theorem d_Mo_shape_371 : decode prog_8_method_17_code 371 = .ok (.iload 5, 2) := by decide +kernel
theorem d_Mo_shape_373 : decode prog_8_method_17_code 373 = .ok (.iaload, 1) := by decide +kernel
theorem d_Mo_shape_374 : decode prog_8_method_17_code 374 = .ok (.iconst 1, 1) := by decide +kernel
theorem d_Mo_shape_375 : decode prog_8_method_17_code 375 = .ok (.if_icmp .ne 18, 3) := by decide +kernel
theorem d_Mo_shape_378 : decode prog_8_method_17_code 378 = .ok (.iload 6, 2) := by decide +kernel
theorem d_Mo_shape_380 : decode prog_8_method_17_code 380 = .ok (.ifCond .eq 13, 3) := by decide +kernel
theorem d_Mo_shape_383 : decode prog_8_method_17_code 383 = .ok (.aload_n 0, 1) := by decide +kernel
theorem d_Mo_shape_384 : decode prog_8_method_17_code 384 = .ok (.iload_n 3, 1) := by decide +kernel
theorem d_Mo_shape_385 : decode prog_8_method_17_code 385 = .ok (.iload 4, 2) := by decide +kernel
theorem d_Mo_shape_387 : decode prog_8_method_17_code 387 = .ok (.invokevirtual 93, 3) := by decide +kernel
theorem d_Mo_shape_390 : decode prog_8_method_17_code 390 = .ok (.ifCond .ne 5, 3) := by decide +kernel
theorem d_Mo_shape_393 : decode prog_8_method_17_code 393 = .ok (.iconst 0, 1) := by decide +kernel
theorem d_Mo_shape_394 : decode prog_8_method_17_code 394 = .ok (.ireturn, 1) := by decide +kernel
theorem d_Mo_shape_395 : decode prog_8_method_17_code 395 = .ok (.aload_n 0, 1) := by decide +kernel
theorem d_Mo_shape_396 : decode prog_8_method_17_code 396 = .ok (.iload 8, 2) := by decide +kernel
theorem d_Mo_shape_398 : decode prog_8_method_17_code 398 = .ok (.aload_n 0, 1) := by decide +kernel
theorem d_Mo_shape_399 : decode prog_8_method_17_code 399 = .ok (.getfield 16, 3) := by decide +kernel
theorem d_Mo_shape_402 : decode prog_8_method_17_code 402 = .ok (.iload 4, 2) := by decide +kernel
theorem d_Mo_shape_404 : decode prog_8_method_17_code 404 = .ok (.iaload, 1) := by decide +kernel
theorem d_Mo_shape_405 : decode prog_8_method_17_code 405 = .ok (.invokevirtual 96, 3) := by decide +kernel
theorem d_Mo_shape_408 : decode prog_8_method_17_code 408 = .ok (.istore 10, 2) := by decide +kernel
theorem d_Mo_shape_410 : decode prog_8_method_17_code 410 = .ok (.aload_n 0, 1) := by decide +kernel
theorem d_Mo_shape_411 : decode prog_8_method_17_code 411 = .ok (.iload 9, 2) := by decide +kernel
theorem d_Mo_shape_413 : decode prog_8_method_17_code 413 = .ok (.aload_n 0, 1) := by decide +kernel
theorem d_Mo_shape_414 : decode prog_8_method_17_code 414 = .ok (.getfield 19, 3) := by decide +kernel
theorem d_Mo_shape_417 : decode prog_8_method_17_code 417 = .ok (.iload 4, 2) := by decide +kernel
theorem d_Mo_shape_419 : decode prog_8_method_17_code 419 = .ok (.iaload, 1) := by decide +kernel
theorem d_Mo_shape_420 : decode prog_8_method_17_code 420 = .ok (.invokevirtual 96, 3) := by decide +kernel
theorem d_Mo_shape_423 : decode prog_8_method_17_code 423 = .ok (.istore 11, 2) := by decide +kernel
theorem d_Mo_shape_425 : decode prog_8_method_17_code 425 = .ok (.aload_n 0, 1) := by decide +kernel
theorem d_Mo_shape_426 : decode prog_8_method_17_code 426 = .ok (.iload 10, 2) := by decide +kernel
theorem d_Mo_shape_428 : decode prog_8_method_17_code 428 = .ok (.aload_n 0, 1) := by decide +kernel
theorem d_Mo_shape_429 : decode prog_8_method_17_code 429 = .ok (.getfield 16, 3) := by decide +kernel
theorem d_Mo_shape_432 : decode prog_8_method_17_code 432 = .ok (.iload 5, 2) := by decide +kernel
theorem d_Mo_shape_434 : decode prog_8_method_17_code 434 = .ok (.iaload, 1) := by decide +kernel
theorem d_Mo_shape_435 : decode prog_8_method_17_code 435 = .ok (.invokevirtual 89, 3) := by decide +kernel
theorem d_Mo_shape_438 : decode prog_8_method_17_code 438 = .ok (.ifCond .eq 63, 3) := by decide +kernel
theorem d_Mo_shape_441 : decode prog_8_method_17_code 441 = .ok (.aload_n 0, 1) := by decide +kernel
theorem d_Mo_shape_442 : decode prog_8_method_17_code 442 = .ok (.iload 11, 2) := by decide +kernel
theorem d_Mo_shape_444 : decode prog_8_method_17_code 444 = .ok (.aload_n 0, 1) := by decide +kernel
theorem d_Mo_shape_445 : decode prog_8_method_17_code 445 = .ok (.getfield 19, 3) := by decide +kernel
theorem d_Mo_shape_448 : decode prog_8_method_17_code 448 = .ok (.iload 5, 2) := by decide +kernel
theorem d_Mo_shape_450 : decode prog_8_method_17_code 450 = .ok (.iaload, 1) := by decide +kernel
theorem d_Mo_shape_451 : decode prog_8_method_17_code 451 = .ok (.invokevirtual 89, 3) := by decide +kernel
theorem d_Mo_shape_454 : decode prog_8_method_17_code 454 = .ok (.ifCond .eq 47, 3) := by decide +kernel
theorem d_Mo_shape_457 : decode prog_8_method_17_code 457 = .ok (.aload_n 0, 1) := by decide +kernel
theorem d_Mo_shape_458 : decode prog_8_method_17_code 458 = .ok (.iload_n 1, 1) := by decide +kernel
theorem d_Mo_shape_459 : decode prog_8_method_17_code 459 = .ok (.aload_n 0, 1) := by decide +kernel
theorem d_Mo_shape_460 : decode prog_8_method_17_code 460 = .ok (.getfield 13, 3) := by decide +kernel
theorem d_Mo_shape_463 : decode prog_8_method_17_code 463 = .ok (.iload_n 3, 1) := by decide +kernel
theorem d_Mo_shape_464 : decode prog_8_method_17_code 464 = .ok (.iaload, 1) := by decide +kernel
theorem d_Mo_shape_465 : decode prog_8_method_17_code 465 = .ok (.aload_n 0, 1) := by decide +kernel
theorem d_Mo_shape_466 : decode prog_8_method_17_code 466 = .ok (.iload 10, 2) := by decide +kernel
theorem d_Mo_shape_468 : decode prog_8_method_17_code 468 = .ok (.aload_n 0, 1) := by decide +kernel
theorem d_Mo_shape_469 : decode prog_8_method_17_code 469 = .ok (.getfield 16, 3) := by decide +kernel
theorem d_Mo_shape_472 : decode prog_8_method_17_code 472 = .ok (.iload 5, 2) := by decide +kernel
theorem d_Mo_shape_474 : decode prog_8_method_17_code 474 = .ok (.iaload, 1) := by decide +kernel
theorem d_Mo_shape_475 : decode prog_8_method_17_code 475 = .ok (.invokevirtual 96, 3) := by decide +kernel
theorem d_Mo_shape_478 : decode prog_8_method_17_code 478 = .ok (.aload_n 0, 1) := by decide +kernel
theorem d_Mo_shape_479 : decode prog_8_method_17_code 479 = .ok (.iload 11, 2) := by decide +kernel
theorem d_Mo_shape_481 : decode prog_8_method_17_code 481 = .ok (.aload_n 0, 1) := by decide +kernel
theorem d_Mo_shape_482 : decode prog_8_method_17_code 482 = .ok (.getfield 19, 3) := by decide +kernel
theorem d_Mo_shape_485 : decode prog_8_method_17_code 485 = .ok (.iload 5, 2) := by decide +kernel
theorem d_Mo_shape_487 : decode prog_8_method_17_code 487 = .ok (.iaload, 1) := by decide +kernel
theorem d_Mo_shape_488 : decode prog_8_method_17_code 488 = .ok (.invokevirtual 96, 3) := by decide +kernel
theorem d_Mo_shape_491 : decode prog_8_method_17_code 491 = .ok (.invokevirtual 100, 3) := by decide +kernel
theorem d_Mo_shape_494 : decode prog_8_method_17_code 494 = .ok (.ifCond .eq 7, 3) := by decide +kernel
theorem d_Mo_shape_497 : decode prog_8_method_17_code 497 = .ok (.iconst 1, 1) := by decide +kernel
theorem d_Mo_shape_498 : decode prog_8_method_17_code 498 = .ok (.goto 4, 3) := by decide +kernel
theorem d_Mo_shape_501 : decode prog_8_method_17_code 501 = .ok (.iconst 0, 1) := by decide +kernel
theorem d_Mo_shape_502 : decode prog_8_method_17_code 502 = .ok (.ireturn, 1) := by decide +kernel
theorem d_Mo_shape_503 : decode prog_8_method_17_code 503 = .ok (.iload_n 2, 1) := by decide +kernel
theorem d_Mo_shape_504 : decode prog_8_method_17_code 504 = .ok (.bipush 10, 2) := by decide +kernel
theorem d_Mo_shape_506 : decode prog_8_method_17_code 506 = .ok (.if_icmp .eq 9, 3) := by decide +kernel
theorem d_Mo_shape_509 : decode prog_8_method_17_code 509 = .ok (.iload_n 2, 1) := by decide +kernel
theorem d_Mo_shape_510 : decode prog_8_method_17_code 510 = .ok (.bipush 11, 2) := by decide +kernel
theorem d_Mo_shape_512 : decode prog_8_method_17_code 512 = .ok (.if_icmp .ne 68, 3) := by decide +kernel
theorem d_Mo_shape_515 : decode prog_8_method_17_code 515 = .ok (.aload_n 0, 1) := by decide +kernel
theorem d_Mo_shape_516 : decode prog_8_method_17_code 516 = .ok (.aload_n 0, 1) := by decide +kernel
theorem d_Mo_shape_517 : decode prog_8_method_17_code 517 = .ok (.getfield 35, 3) := by decide +kernel
theorem d_Mo_shape_520 : decode prog_8_method_17_code 520 = .ok (.iload_n 1, 1) := by decide +kernel
theorem d_Mo_shape_521 : decode prog_8_method_17_code 521 = .ok (.iaload, 1) := by decide +kernel
theorem d_Mo_shape_522 : decode prog_8_method_17_code 522 = .ok (.iconst 0, 1) := by decide +kernel
theorem d_Mo_shape_523 : decode prog_8_method_17_code 523 = .ok (.iconst 1, 1) := by decide +kernel
theorem d_Mo_shape_524 : decode prog_8_method_17_code 524 = .ok (.invokevirtual 68, 3) := by decide +kernel
theorem d_Mo_shape_527 : decode prog_8_method_17_code 527 = .ok (.ifCond .ne 51, 3) := by decide +kernel
theorem d_Mo_shape_530 : decode prog_8_method_17_code 530 = .ok (.aload_n 0, 1) := by decide +kernel
theorem d_Mo_shape_531 : decode prog_8_method_17_code 531 = .ok (.iload_n 1, 1) := by decide +kernel
theorem d_Mo_shape_532 : decode prog_8_method_17_code 532 = .ok (.aload_n 0, 1) := by decide +kernel
theorem d_Mo_shape_533 : decode prog_8_method_17_code 533 = .ok (.getfield 13, 3) := by decide +kernel
theorem d_Mo_shape_536 : decode prog_8_method_17_code 536 = .ok (.iload_n 3, 1) := by decide +kernel
theorem d_Mo_shape_537 : decode prog_8_method_17_code 537 = .ok (.iaload, 1) := by decide +kernel
theorem d_Mo_shape_538 : decode prog_8_method_17_code 538 = .ok (.aload_n 0, 1) := by decide +kernel
theorem d_Mo_shape_539 : decode prog_8_method_17_code 539 = .ok (.getfield 35, 3) := by decide +kernel
theorem d_Mo_shape_542 : decode prog_8_method_17_code 542 = .ok (.iload_n 1, 1) := by decide +kernel
theorem d_Mo_shape_543 : decode prog_8_method_17_code 543 = .ok (.iaload, 1) := by decide +kernel
theorem d_Mo_shape_544 : decode prog_8_method_17_code 544 = .ok (.ifCond .ne 7, 3) := by decide +kernel
theorem d_Mo_shape_547 : decode prog_8_method_17_code 547 = .ok (.iconst 1, 1) := by decide +kernel
theorem d_Mo_shape_548 : decode prog_8_method_17_code 548 = .ok (.goto 5, 3) := by decide +kernel
theorem d_Mo_shape_551 : decode prog_8_method_17_code 551 = .ok (.iload 8, 2) := by decide +kernel
theorem d_Mo_shape_553 : decode prog_8_method_17_code 553 = .ok (.aload_n 0, 1) := by decide +kernel
theorem d_Mo_shape_554 : decode prog_8_method_17_code 554 = .ok (.getfield 35, 3) := by decide +kernel
theorem d_Mo_shape_557 : decode prog_8_method_17_code 557 = .ok (.iload_n 1, 1) := by decide +kernel
theorem d_Mo_shape_558 : decode prog_8_method_17_code 558 = .ok (.iaload, 1) := by decide +kernel
theorem d_Mo_shape_559 : decode prog_8_method_17_code 559 = .ok (.ifCond .ne 8, 3) := by decide +kernel
theorem d_Mo_shape_562 : decode prog_8_method_17_code 562 = .ok (.iload 9, 2) := by decide +kernel
theorem d_Mo_shape_564 : decode prog_8_method_17_code 564 = .ok (.goto 4, 3) := by decide +kernel
theorem d_Mo_shape_567 : decode prog_8_method_17_code 567 = .ok (.iconst 1, 1) := by decide +kernel
theorem d_Mo_shape_568 : decode prog_8_method_17_code 568 = .ok (.invokevirtual 100, 3) := by decide +kernel
theorem d_Mo_shape_571 : decode prog_8_method_17_code 571 = .ok (.ifCond .eq 7, 3) := by decide +kernel
theorem d_Mo_shape_574 : decode prog_8_method_17_code 574 = .ok (.iconst 1, 1) := by decide +kernel
theorem d_Mo_shape_575 : decode prog_8_method_17_code 575 = .ok (.goto 4, 3) := by decide +kernel
theorem d_Mo_shape_578 : decode prog_8_method_17_code 578 = .ok (.iconst 0, 1) := by decide +kernel
theorem d_Mo_shape_579 : decode prog_8_method_17_code 579 = .ok (.ireturn, 1) := by decide +kernel
theorem d_Mo_shape_580 : decode prog_8_method_17_code 580 = .ok (.iload_n 2, 1) := by decide +kernel
theorem d_Mo_shape_581 : decode prog_8_method_17_code 581 = .ok (.bipush 12, 2) := by decide +kernel
theorem d_Mo_shape_583 : decode prog_8_method_17_code 583 = .ok (.if_icmp .ne 13, 3) := by decide +kernel
theorem d_Mo_shape_586 : decode prog_8_method_17_code 586 = .ok (.aload_n 0, 1) := by decide +kernel
theorem d_Mo_shape_587 : decode prog_8_method_17_code 587 = .ok (.iload_n 1, 1) := by decide +kernel
theorem d_Mo_shape_588 : decode prog_8_method_17_code 588 = .ok (.iconst 1, 1) := by decide +kernel
theorem d_Mo_shape_589 : decode prog_8_method_17_code 589 = .ok (.iload 8, 2) := by decide +kernel
theorem d_Mo_shape_591 : decode prog_8_method_17_code 591 = .ok (.iconst 1, 1) := by decide +kernel
theorem d_Mo_shape_592 : decode prog_8_method_17_code 592 = .ok (.invokevirtual 100, 3) := by decide +kernel
theorem d_Mo_shape_595 : decode prog_8_method_17_code 595 = .ok (.ireturn, 1) := by decide +kernel
theorem d_Mo_shape_596 : decode prog_8_method_17_code 596 = .ok (.iload_n 2, 1) := by decide +kernel
theorem d_Mo_shape_597 : decode prog_8_method_17_code 597 = .ok (.bipush 13, 2) := by decide +kernel
theorem d_Mo_shape_599 : decode prog_8_method_17_code 599 = .ok (.if_icmp .ne 122, 3) := by decide +kernel
theorem d_Mo_shape_602 : decode prog_8_method_17_code 602 = .ok (.iload 6, 2) := by decide +kernel
theorem d_Mo_shape_604 : decode prog_8_method_17_code 604 = .ok (.ifCond .eq 18, 3) := by decide +kernel
theorem d_Mo_shape_607 : decode prog_8_method_17_code 607 = .ok (.aload_n 0, 1) := by decide +kernel
theorem d_Mo_shape_608 : decode prog_8_method_17_code 608 = .ok (.aload_n 0, 1) := by decide +kernel
theorem d_Mo_shape_609 : decode prog_8_method_17_code 609 = .ok (.getfield 35, 3) := by decide +kernel
theorem d_Mo_shape_612 : decode prog_8_method_17_code 612 = .ok (.iload_n 1, 1) := by decide +kernel
theorem d_Mo_shape_613 : decode prog_8_method_17_code 613 = .ok (.iaload, 1) := by decide +kernel
theorem d_Mo_shape_614 : decode prog_8_method_17_code 614 = .ok (.iconst 0, 1) := by decide +kernel
theorem d_Mo_shape_615 : decode prog_8_method_17_code 615 = .ok (.iconst 1, 1) := by decide +kernel
theorem d_Mo_shape_616 : decode prog_8_method_17_code 616 = .ok (.invokevirtual 68, 3) := by decide +kernel
theorem d_Mo_shape_619 : decode prog_8_method_17_code 619 = .ok (.ifCond .eq 5, 3) := by decide +kernel
theorem d_Mo_shape_622 : decode prog_8_method_17_code 622 = .ok (.iconst 0, 1) := by decide +kernel
theorem d_Mo_shape_623 : decode prog_8_method_17_code 623 = .ok (.ireturn, 1) := by decide +kernel
theorem d_Mo_shape_624 : decode prog_8_method_17_code 624 = .ok (.aload_n 0, 1) := by decide +kernel
theorem d_Mo_shape_625 : decode prog_8_method_17_code 625 = .ok (.getfield 35, 3) := by decide +kernel
theorem d_Mo_shape_628 : decode prog_8_method_17_code 628 = .ok (.iload_n 1, 1) := by decide +kernel
theorem d_Mo_shape_629 : decode prog_8_method_17_code 629 = .ok (.iaload, 1) := by decide +kernel
theorem d_Mo_shape_630 : decode prog_8_method_17_code 630 = .ok (.ifCond .ne 47, 3) := by decide +kernel
theorem d_Mo_shape_633 : decode prog_8_method_17_code 633 = .ok (.iload 9, 2) := by decide +kernel
theorem d_Mo_shape_635 : decode prog_8_method_17_code 635 = .ok (.aload_n 0, 1) := by decide +kernel
theorem d_Mo_shape_636 : decode prog_8_method_17_code 636 = .ok (.getfield 19, 3) := by decide +kernel
theorem d_Mo_shape_639 : decode prog_8_method_17_code 639 = .ok (.iload 4, 2) := by decide +kernel
theorem d_Mo_shape_641 : decode prog_8_method_17_code 641 = .ok (.iaload, 1) := by decide +kernel
theorem d_Mo_shape_642 : decode prog_8_method_17_code 642 = .ok (.if_icmp .ne 33, 3) := by decide +kernel
theorem d_Mo_shape_645 : decode prog_8_method_17_code 645 = .ok (.aload_n 0, 1) := by decide +kernel
theorem d_Mo_shape_646 : decode prog_8_method_17_code 646 = .ok (.iload_n 1, 1) := by decide +kernel
theorem d_Mo_shape_647 : decode prog_8_method_17_code 647 = .ok (.aload_n 0, 1) := by decide +kernel
theorem d_Mo_shape_648 : decode prog_8_method_17_code 648 = .ok (.getfield 13, 3) := by decide +kernel
theorem d_Mo_shape_651 : decode prog_8_method_17_code 651 = .ok (.iload_n 3, 1) := by decide +kernel
theorem d_Mo_shape_652 : decode prog_8_method_17_code 652 = .ok (.iaload, 1) := by decide +kernel
theorem d_Mo_shape_653 : decode prog_8_method_17_code 653 = .ok (.iload 8, 2) := by decide +kernel
theorem d_Mo_shape_655 : decode prog_8_method_17_code 655 = .ok (.aload_n 0, 1) := by decide +kernel
theorem d_Mo_shape_656 : decode prog_8_method_17_code 656 = .ok (.getfield 16, 3) := by decide +kernel
theorem d_Mo_shape_659 : decode prog_8_method_17_code 659 = .ok (.iload 4, 2) := by decide +kernel
theorem d_Mo_shape_661 : decode prog_8_method_17_code 661 = .ok (.iaload, 1) := by decide +kernel
theorem d_Mo_shape_662 : decode prog_8_method_17_code 662 = .ok (.iadd, 1) := by decide +kernel
theorem d_Mo_shape_663 : decode prog_8_method_17_code 663 = .ok (.iload 9, 2) := by decide +kernel
theorem d_Mo_shape_665 : decode prog_8_method_17_code 665 = .ok (.invokevirtual 100, 3) := by decide +kernel
theorem d_Mo_shape_668 : decode prog_8_method_17_code 668 = .ok (.ifCond .eq 7, 3) := by decide +kernel
theorem d_Mo_shape_671 : decode prog_8_method_17_code 671 = .ok (.iconst 1, 1) := by decide +kernel
theorem d_Mo_shape_672 : decode prog_8_method_17_code 672 = .ok (.goto 4, 3) := by decide +kernel
theorem d_Mo_shape_675 : decode prog_8_method_17_code 675 = .ok (.iconst 0, 1) := by decide +kernel
theorem d_Mo_shape_676 : decode prog_8_method_17_code 676 = .ok (.ireturn, 1) := by decide +kernel
theorem d_Mo_shape_677 : decode prog_8_method_17_code 677 = .ok (.iload 8, 2) := by decide +kernel
theorem d_Mo_shape_679 : decode prog_8_method_17_code 679 = .ok (.aload_n 0, 1) := by decide +kernel
theorem d_Mo_shape_680 : decode prog_8_method_17_code 680 = .ok (.getfield 16, 3) := by decide +kernel
theorem d_Mo_shape_683 : decode prog_8_method_17_code 683 = .ok (.iload 4, 2) := by decide +kernel
theorem d_Mo_shape_685 : decode prog_8_method_17_code 685 = .ok (.iaload, 1) := by decide +kernel
theorem d_Mo_shape_686 : decode prog_8_method_17_code 686 = .ok (.if_icmp .ne 33, 3) := by decide +kernel
theorem d_Mo_shape_689 : decode prog_8_method_17_code 689 = .ok (.aload_n 0, 1) := by decide +kernel
theorem d_Mo_shape_690 : decode prog_8_method_17_code 690 = .ok (.iload_n 1, 1) := by decide +kernel
theorem d_Mo_shape_691 : decode prog_8_method_17_code 691 = .ok (.aload_n 0, 1) := by decide +kernel
theorem d_Mo_shape_692 : decode prog_8_method_17_code 692 = .ok (.getfield 13, 3) := by decide +kernel
theorem d_Mo_shape_695 : decode prog_8_method_17_code 695 = .ok (.iload_n 3, 1) := by decide +kernel
theorem d_Mo_shape_696 : decode prog_8_method_17_code 696 = .ok (.iaload, 1) := by decide +kernel
theorem d_Mo_shape_697 : decode prog_8_method_17_code 697 = .ok (.iload 8, 2) := by decide +kernel
theorem d_Mo_shape_699 : decode prog_8_method_17_code 699 = .ok (.iload 9, 2) := by decide +kernel
theorem d_Mo_shape_701 : decode prog_8_method_17_code 701 = .ok (.aload_n 0, 1) := by decide +kernel
theorem d_Mo_shape_702 : decode prog_8_method_17_code 702 = .ok (.getfield 19, 3) := by decide +kernel
theorem d_Mo_shape_705 : decode prog_8_method_17_code 705 = .ok (.iload 4, 2) := by decide +kernel
theorem d_Mo_shape_707 : decode prog_8_method_17_code 707 = .ok (.iaload, 1) := by decide +kernel
theorem d_Mo_shape_708 : decode prog_8_method_17_code 708 = .ok (.iadd, 1) := by decide +kernel
theorem d_Mo_shape_709 : decode prog_8_method_17_code 709 = .ok (.invokevirtual 100, 3) := by decide +kernel
theorem d_Mo_shape_712 : decode prog_8_method_17_code 712 = .ok (.ifCond .eq 7, 3) := by decide +kernel
theorem d_Mo_shape_715 : decode prog_8_method_17_code 715 = .ok (.iconst 1, 1) := by decide +kernel
theorem d_Mo_shape_716 : decode prog_8_method_17_code 716 = .ok (.goto 4, 3) := by decide +kernel
theorem d_Mo_shape_719 : decode prog_8_method_17_code 719 = .ok (.iconst 0, 1) := by decide +kernel
theorem d_Mo_shape_720 : decode prog_8_method_17_code 720 = .ok (.ireturn, 1) := by decide +kernel
theorem d_Mo_shape_721 : decode prog_8_method_17_code 721 = .ok (.iload_n 2, 1) := by decide +kernel
theorem d_Mo_shape_722 : decode prog_8_method_17_code 722 = .ok (.bipush 14, 2) := by decide +kernel
theorem d_Mo_shape_724 : decode prog_8_method_17_code 724 = .ok (.if_icmp .ne 75, 3) := by decide +kernel
theorem d_Mo_shape_727 : decode prog_8_method_17_code 727 = .ok (.aload_n 0, 1) := by decide +kernel
theorem d_Mo_shape_728 : decode prog_8_method_17_code 728 = .ok (.getfield 35, 3) := by decide +kernel
theorem d_Mo_shape_731 : decode prog_8_method_17_code 731 = .ok (.iload_n 1, 1) := by decide +kernel
theorem d_Mo_shape_732 : decode prog_8_method_17_code 732 = .ok (.iaload, 1) := by decide +kernel
theorem d_Mo_shape_733 : decode prog_8_method_17_code 733 = .ok (.ifCond .lt 64, 3) := by decide +kernel
theorem d_Mo_shape_736 : decode prog_8_method_17_code 736 = .ok (.aload_n 0, 1) := by decide +kernel
theorem d_Mo_shape_737 : decode prog_8_method_17_code 737 = .ok (.getfield 35, 3) := by decide +kernel
theorem d_Mo_shape_740 : decode prog_8_method_17_code 740 = .ok (.iload_n 1, 1) := by decide +kernel
theorem d_Mo_shape_741 : decode prog_8_method_17_code 741 = .ok (.iaload, 1) := by decide +kernel
theorem d_Mo_shape_742 : decode prog_8_method_17_code 742 = .ok (.aload_n 0, 1) := by decide +kernel
theorem d_Mo_shape_743 : decode prog_8_method_17_code 743 = .ok (.getfield 38, 3) := by decide +kernel
theorem d_Mo_shape_746 : decode prog_8_method_17_code 746 = .ok (.iload_n 1, 1) := by decide +kernel
theorem d_Mo_shape_747 : decode prog_8_method_17_code 747 = .ok (.iaload, 1) := by decide +kernel
theorem d_Mo_shape_748 : decode prog_8_method_17_code 748 = .ok (.if_icmp .gt 49, 3) := by decide +kernel
theorem d_Mo_shape_751 : decode prog_8_method_17_code 751 = .ok (.aload_n 0, 1) := by decide +kernel
theorem d_Mo_shape_752 : decode prog_8_method_17_code 752 = .ok (.getfield 38, 3) := by decide +kernel
theorem d_Mo_shape_755 : decode prog_8_method_17_code 755 = .ok (.iload_n 1, 1) := by decide +kernel
theorem d_Mo_shape_756 : decode prog_8_method_17_code 756 = .ok (.iaload, 1) := by decide +kernel
theorem d_Mo_shape_757 : decode prog_8_method_17_code 757 = .ok (.iload 8, 2) := by decide +kernel
theorem d_Mo_shape_759 : decode prog_8_method_17_code 759 = .ok (.if_icmp .ge 38, 3) := by decide +kernel
theorem d_Mo_shape_762 : decode prog_8_method_17_code 762 = .ok (.aload_n 0, 1) := by decide +kernel
theorem d_Mo_shape_763 : decode prog_8_method_17_code 763 = .ok (.iload_n 1, 1) := by decide +kernel
theorem d_Mo_shape_764 : decode prog_8_method_17_code 764 = .ok (.aload_n 0, 1) := by decide +kernel
theorem d_Mo_shape_765 : decode prog_8_method_17_code 765 = .ok (.getfield 13, 3) := by decide +kernel
theorem d_Mo_shape_768 : decode prog_8_method_17_code 768 = .ok (.iload_n 3, 1) := by decide +kernel
theorem d_Mo_shape_769 : decode prog_8_method_17_code 769 = .ok (.iaload, 1) := by decide +kernel
theorem d_Mo_shape_770 : decode prog_8_method_17_code 770 = .ok (.aload_n 0, 1) := by decide +kernel
theorem d_Mo_shape_771 : decode prog_8_method_17_code 771 = .ok (.getfield 38, 3) := by decide +kernel
theorem d_Mo_shape_774 : decode prog_8_method_17_code 774 = .ok (.iload_n 1, 1) := by decide +kernel
theorem d_Mo_shape_775 : decode prog_8_method_17_code 775 = .ok (.iaload, 1) := by decide +kernel
theorem d_Mo_shape_776 : decode prog_8_method_17_code 776 = .ok (.aload_n 0, 1) := by decide +kernel
theorem d_Mo_shape_777 : decode prog_8_method_17_code 777 = .ok (.getfield 35, 3) := by decide +kernel
theorem d_Mo_shape_780 : decode prog_8_method_17_code 780 = .ok (.iload_n 1, 1) := by decide +kernel
theorem d_Mo_shape_781 : decode prog_8_method_17_code 781 = .ok (.iaload, 1) := by decide +kernel
theorem d_Mo_shape_782 : decode prog_8_method_17_code 782 = .ok (.isub, 1) := by decide +kernel
theorem d_Mo_shape_783 : decode prog_8_method_17_code 783 = .ok (.iconst 1, 1) := by decide +kernel
theorem d_Mo_shape_784 : decode prog_8_method_17_code 784 = .ok (.iadd, 1) := by decide +kernel
theorem d_Mo_shape_785 : decode prog_8_method_17_code 785 = .ok (.iload 9, 2) := by decide +kernel
theorem d_Mo_shape_787 : decode prog_8_method_17_code 787 = .ok (.invokevirtual 100, 3) := by decide +kernel
theorem d_Mo_shape_790 : decode prog_8_method_17_code 790 = .ok (.ifCond .eq 7, 3) := by decide +kernel
theorem d_Mo_shape_793 : decode prog_8_method_17_code 793 = .ok (.iconst 1, 1) := by decide +kernel
theorem d_Mo_shape_794 : decode prog_8_method_17_code 794 = .ok (.goto 4, 3) := by decide +kernel
theorem d_Mo_shape_797 : decode prog_8_method_17_code 797 = .ok (.iconst 0, 1) := by decide +kernel
theorem d_Mo_shape_798 : decode prog_8_method_17_code 798 = .ok (.ireturn, 1) := by decide +kernel
theorem d_Mo_shape_799 : decode prog_8_method_17_code 799 = .ok (.iload_n 2, 1) := by decide +kernel
theorem d_Mo_shape_800 : decode prog_8_method_17_code 800 = .ok (.bipush 15, 2) := by decide +kernel
theorem d_Mo_shape_802 : decode prog_8_method_17_code 802 = .ok (.if_icmp .ne 54, 3) := by decide +kernel
theorem d_Mo_shape_805 : decode prog_8_method_17_code 805 = .ok (.aload_n 0, 1) := by decide +kernel
theorem d_Mo_shape_806 : decode prog_8_method_17_code 806 = .ok (.getfield 13, 3) := by decide +kernel
theorem d_Mo_shape_809 : decode prog_8_method_17_code 809 = .ok (.iload 4, 2) := by decide +kernel
theorem d_Mo_shape_811 : decode prog_8_method_17_code 811 = .ok (.iaload, 1) := by decide +kernel
theorem d_Mo_shape_812 : decode prog_8_method_17_code 812 = .ok (.iconst 1, 1) := by decide +kernel
theorem d_Mo_shape_813 : decode prog_8_method_17_code 813 = .ok (.if_icmp .ne 41, 3) := by decide +kernel
theorem d_Mo_shape_816 : decode prog_8_method_17_code 816 = .ok (.aload_n 0, 1) := by decide +kernel
theorem d_Mo_shape_817 : decode prog_8_method_17_code 817 = .ok (.getfield 16, 3) := by decide +kernel
theorem d_Mo_shape_820 : decode prog_8_method_17_code 820 = .ok (.iload 4, 2) := by decide +kernel
theorem d_Mo_shape_822 : decode prog_8_method_17_code 822 = .ok (.iaload, 1) := by decide +kernel
theorem d_Mo_shape_823 : decode prog_8_method_17_code 823 = .ok (.iconst 1, 1) := by decide +kernel
theorem d_Mo_shape_824 : decode prog_8_method_17_code 824 = .ok (.if_icmp .ne 30, 3) := by decide +kernel
theorem d_Mo_shape_827 : decode prog_8_method_17_code 827 = .ok (.aload_n 0, 1) := by decide +kernel
theorem d_Mo_shape_828 : decode prog_8_method_17_code 828 = .ok (.iload_n 1, 1) := by decide +kernel
theorem d_Mo_shape_829 : decode prog_8_method_17_code 829 = .ok (.aload_n 0, 1) := by decide +kernel
theorem d_Mo_shape_830 : decode prog_8_method_17_code 830 = .ok (.getfield 13, 3) := by decide +kernel
theorem d_Mo_shape_833 : decode prog_8_method_17_code 833 = .ok (.iload_n 3, 1) := by decide +kernel
theorem d_Mo_shape_834 : decode prog_8_method_17_code 834 = .ok (.iaload, 1) := by decide +kernel
theorem d_Mo_shape_835 : decode prog_8_method_17_code 835 = .ok (.aload_n 0, 1) := by decide +kernel
theorem d_Mo_shape_836 : decode prog_8_method_17_code 836 = .ok (.getfield 19, 3) := by decide +kernel
theorem d_Mo_shape_839 : decode prog_8_method_17_code 839 = .ok (.iload 4, 2) := by decide +kernel
theorem d_Mo_shape_841 : decode prog_8_method_17_code 841 = .ok (.iaload, 1) := by decide +kernel
theorem d_Mo_shape_842 : decode prog_8_method_17_code 842 = .ok (.iload 9, 2) := by decide +kernel
theorem d_Mo_shape_844 : decode prog_8_method_17_code 844 = .ok (.invokevirtual 100, 3) := by decide +kernel
theorem d_Mo_shape_847 : decode prog_8_method_17_code 847 = .ok (.ifCond .eq 7, 3) := by decide +kernel
theorem d_Mo_shape_850 : decode prog_8_method_17_code 850 = .ok (.iconst 1, 1) := by decide +kernel
theorem d_Mo_shape_851 : decode prog_8_method_17_code 851 = .ok (.goto 4, 3) := by decide +kernel
theorem d_Mo_shape_854 : decode prog_8_method_17_code 854 = .ok (.iconst 0, 1) := by decide +kernel
theorem d_Mo_shape_855 : decode prog_8_method_17_code 855 = .ok (.ireturn, 1) := by decide +kernel
theorem d_Mo_shape_856 : decode prog_8_method_17_code 856 = .ok (.iload_n 2, 1) := by decide +kernel
theorem d_Mo_shape_857 : decode prog_8_method_17_code 857 = .ok (.bipush 16, 2) := by decide +kernel
theorem d_Mo_shape_859 : decode prog_8_method_17_code 859 = .ok (.if_icmp .ne 103, 3) := by decide +kernel
theorem d_Mo_shape_862 : decode prog_8_method_17_code 862 = .ok (.iload 9, 2) := by decide +kernel
theorem d_Mo_shape_864 : decode prog_8_method_17_code 864 = .ok (.iconst 2, 1) := by decide +kernel
theorem d_Mo_shape_865 : decode prog_8_method_17_code 865 = .ok (.aload_n 0, 1) := by decide +kernel
theorem d_Mo_shape_866 : decode prog_8_method_17_code 866 = .ok (.getfield 38, 3) := by decide +kernel
theorem d_Mo_shape_869 : decode prog_8_method_17_code 869 = .ok (.iload_n 1, 1) := by decide +kernel
theorem d_Mo_shape_870 : decode prog_8_method_17_code 870 = .ok (.iaload, 1) := by decide +kernel
theorem d_Mo_shape_871 : decode prog_8_method_17_code 871 = .ok (.imul, 1) := by decide +kernel
theorem d_Mo_shape_872 : decode prog_8_method_17_code 872 = .ok (.iadd, 1) := by decide +kernel
theorem d_Mo_shape_873 : decode prog_8_method_17_code 873 = .ok (.aload_n 0, 1) := by decide +kernel
theorem d_Mo_shape_874 : decode prog_8_method_17_code 874 = .ok (.getfield 19, 3) := by decide +kernel
theorem d_Mo_shape_877 : decode prog_8_method_17_code 877 = .ok (.iload 4, 2) := by decide +kernel
theorem d_Mo_shape_879 : decode prog_8_method_17_code 879 = .ok (.iaload, 1) := by decide +kernel
theorem d_Mo_shape_880 : decode prog_8_method_17_code 880 = .ok (.isub, 1) := by decide +kernel
theorem d_Mo_shape_881 : decode prog_8_method_17_code 881 = .ok (.istore 10, 2) := by decide +kernel
theorem d_Mo_shape_883 : decode prog_8_method_17_code 883 = .ok (.iload 7, 2) := by decide +kernel
theorem d_Mo_shape_885 : decode prog_8_method_17_code 885 = .ok (.ifCond .eq 75, 3) := by decide +kernel
theorem d_Mo_shape_888 : decode prog_8_method_17_code 888 = .ok (.aload_n 0, 1) := by decide +kernel
theorem d_Mo_shape_889 : decode prog_8_method_17_code 889 = .ok (.getfield 16, 3) := by decide +kernel
theorem d_Mo_shape_892 : decode prog_8_method_17_code 892 = .ok (.iload 4, 2) := by decide +kernel
theorem d_Mo_shape_894 : decode prog_8_method_17_code 894 = .ok (.iaload, 1) := by decide +kernel
theorem d_Mo_shape_895 : decode prog_8_method_17_code 895 = .ok (.iconst 1, 1) := by decide +kernel
theorem d_Mo_shape_896 : decode prog_8_method_17_code 896 = .ok (.if_icmp .ne 64, 3) := by decide +kernel
theorem d_Mo_shape_899 : decode prog_8_method_17_code 899 = .ok (.aload_n 0, 1) := by decide +kernel
theorem d_Mo_shape_900 : decode prog_8_method_17_code 900 = .ok (.aload_n 0, 1) := by decide +kernel
theorem d_Mo_shape_901 : decode prog_8_method_17_code 901 = .ok (.getfield 38, 3) := by decide +kernel
theorem d_Mo_shape_904 : decode prog_8_method_17_code 904 = .ok (.iload_n 1, 1) := by decide +kernel
theorem d_Mo_shape_905 : decode prog_8_method_17_code 905 = .ok (.iaload, 1) := by decide +kernel
theorem d_Mo_shape_906 : decode prog_8_method_17_code 906 = .ok (.iconst 0, 1) := by decide +kernel
theorem d_Mo_shape_907 : decode prog_8_method_17_code 907 = .ok (.iconst 2, 1) := by decide +kernel
theorem d_Mo_shape_908 : decode prog_8_method_17_code 908 = .ok (.invokevirtual 68, 3) := by decide +kernel
theorem d_Mo_shape_911 : decode prog_8_method_17_code 911 = .ok (.ifCond .ne 49, 3) := by decide +kernel
theorem d_Mo_shape_914 : decode prog_8_method_17_code 914 = .ok (.aload_n 0, 1) := by decide +kernel
theorem d_Mo_shape_915 : decode prog_8_method_17_code 915 = .ok (.aload_n 0, 1) := by decide +kernel
theorem d_Mo_shape_916 : decode prog_8_method_17_code 916 = .ok (.getfield 35, 3) := by decide +kernel
theorem d_Mo_shape_919 : decode prog_8_method_17_code 919 = .ok (.iload_n 1, 1) := by decide +kernel
theorem d_Mo_shape_920 : decode prog_8_method_17_code 920 = .ok (.iaload, 1) := by decide +kernel
theorem d_Mo_shape_921 : decode prog_8_method_17_code 921 = .ok (.iconst 1, 1) := by decide +kernel
theorem d_Mo_shape_922 : decode prog_8_method_17_code 922 = .ok (.iconst 2, 1) := by decide +kernel
theorem d_Mo_shape_923 : decode prog_8_method_17_code 923 = .ok (.invokevirtual 68, 3) := by decide +kernel
theorem d_Mo_shape_926 : decode prog_8_method_17_code 926 = .ok (.ifCond .ne 34, 3) := by decide +kernel
theorem d_Mo_shape_929 : decode prog_8_method_17_code 929 = .ok (.iload 10, 2) := by decide +kernel
theorem d_Mo_shape_931 : decode prog_8_method_17_code 931 = .ok (.ifCond .lt 29, 3) := by decide +kernel
theorem d_Mo_shape_934 : decode prog_8_method_17_code 934 = .ok (.aload_n 0, 1) := by decide +kernel
theorem d_Mo_shape_935 : decode prog_8_method_17_code 935 = .ok (.iload_n 1, 1) := by decide +kernel
theorem d_Mo_shape_936 : decode prog_8_method_17_code 936 = .ok (.iconst 0, 1) := by decide +kernel
theorem d_Mo_shape_937 : decode prog_8_method_17_code 937 = .ok (.iload 8, 2) := by decide +kernel
theorem d_Mo_shape_939 : decode prog_8_method_17_code 939 = .ok (.iload 10, 2) := by decide +kernel
theorem d_Mo_shape_941 : decode prog_8_method_17_code 941 = .ok (.aload_n 0, 1) := by decide +kernel
theorem d_Mo_shape_942 : decode prog_8_method_17_code 942 = .ok (.getfield 35, 3) := by decide +kernel
theorem d_Mo_shape_945 : decode prog_8_method_17_code 945 = .ok (.iload_n 1, 1) := by decide +kernel
theorem d_Mo_shape_946 : decode prog_8_method_17_code 946 = .ok (.iaload, 1) := by decide +kernel
theorem d_Mo_shape_947 : decode prog_8_method_17_code 947 = .ok (.idiv, 1) := by decide +kernel
theorem d_Mo_shape_948 : decode prog_8_method_17_code 948 = .ok (.iconst 1, 1) := by decide +kernel
theorem d_Mo_shape_949 : decode prog_8_method_17_code 949 = .ok (.iadd, 1) := by decide +kernel
theorem d_Mo_shape_950 : decode prog_8_method_17_code 950 = .ok (.invokevirtual 100, 3) := by decide +kernel
theorem d_Mo_shape_953 : decode prog_8_method_17_code 953 = .ok (.ifCond .eq 7, 3) := by decide +kernel
theorem d_Mo_shape_956 : decode prog_8_method_17_code 956 = .ok (.iconst 1, 1) := by decide +kernel
theorem d_Mo_shape_957 : decode prog_8_method_17_code 957 = .ok (.goto 4, 3) := by decide +kernel
theorem d_Mo_shape_960 : decode prog_8_method_17_code 960 = .ok (.iconst 0, 1) := by decide +kernel
theorem d_Mo_shape_961 : decode prog_8_method_17_code 961 = .ok (.ireturn, 1) := by decide +kernel
theorem d_Mo_shape_962 : decode prog_8_method_17_code 962 = .ok (.aload_n 0, 1) := by decide +kernel
theorem d_Mo_shape_963 : decode prog_8_method_17_code 963 = .ok (.getfield 13, 3) := by decide +kernel
theorem d_Mo_shape_966 : decode prog_8_method_17_code 966 = .ok (.iload 5, 2) := by decide +kernel
theorem d_Mo_shape_968 : decode prog_8_method_17_code 968 = .ok (.iaload, 1) := by decide +kernel
theorem d_Mo_shape_969 : decode prog_8_method_17_code 969 = .ok (.iconst 1, 1) := by decide +kernel
theorem d_Mo_shape_970 : decode prog_8_method_17_code 970 = .ok (.if_icmp .ne 76, 3) := by decide +kernel
theorem d_Mo_shape_973 : decode prog_8_method_17_code 973 = .ok (.aload_n 0, 1) := by decide +kernel
theorem d_Mo_shape_974 : decode prog_8_method_17_code 974 = .ok (.getfield 16, 3) := by decide +kernel
theorem d_Mo_shape_977 : decode prog_8_method_17_code 977 = .ok (.iload 5, 2) := by decide +kernel
theorem d_Mo_shape_979 : decode prog_8_method_17_code 979 = .ok (.iaload, 1) := by decide +kernel
theorem d_Mo_shape_980 : decode prog_8_method_17_code 980 = .ok (.iconst 1, 1) := by decide +kernel
theorem d_Mo_shape_981 : decode prog_8_method_17_code 981 = .ok (.if_icmp .ne 65, 3) := by decide +kernel
theorem d_Mo_shape_984 : decode prog_8_method_17_code 984 = .ok (.aload_n 0, 1) := by decide +kernel
theorem d_Mo_shape_985 : decode prog_8_method_17_code 985 = .ok (.getfield 19, 3) := by decide +kernel
theorem d_Mo_shape_988 : decode prog_8_method_17_code 988 = .ok (.iload 5, 2) := by decide +kernel
theorem d_Mo_shape_990 : decode prog_8_method_17_code 990 = .ok (.iaload, 1) := by decide +kernel
theorem d_Mo_shape_991 : decode prog_8_method_17_code 991 = .ok (.iconst 1, 1) := by decide +kernel
theorem d_Mo_shape_992 : decode prog_8_method_17_code 992 = .ok (.if_icmp .ne 54, 3) := by decide +kernel
theorem d_Mo_shape_995 : decode prog_8_method_17_code 995 = .ok (.iload 6, 2) := by decide +kernel
theorem d_Mo_shape_997 : decode prog_8_method_17_code 997 = .ok (.ifCond .eq 49, 3) := by decide +kernel
theorem d_Mo_shape_1000 : decode prog_8_method_17_code 1000 = .ok (.iload 8, 2) := by decide +kernel
theorem d_Mo_shape_1002 : decode prog_8_method_17_code 1002 = .ok (.aload_n 0, 1) := by decide +kernel
theorem d_Mo_shape_1003 : decode prog_8_method_17_code 1003 = .ok (.getfield 16, 3) := by decide +kernel
theorem d_Mo_shape_1006 : decode prog_8_method_17_code 1006 = .ok (.iload 4, 2) := by decide +kernel
theorem d_Mo_shape_1008 : decode prog_8_method_17_code 1008 = .ok (.iaload, 1) := by decide +kernel
theorem d_Mo_shape_1009 : decode prog_8_method_17_code 1009 = .ok (.if_icmp .ne 37, 3) := by decide +kernel
theorem d_Mo_shape_1012 : decode prog_8_method_17_code 1012 = .ok (.iload 9, 2) := by decide +kernel
theorem d_Mo_shape_1014 : decode prog_8_method_17_code 1014 = .ok (.aload_n 0, 1) := by decide +kernel
theorem d_Mo_shape_1015 : decode prog_8_method_17_code 1015 = .ok (.getfield 19, 3) := by decide +kernel
theorem d_Mo_shape_1018 : decode prog_8_method_17_code 1018 = .ok (.iload 4, 2) := by decide +kernel
theorem d_Mo_shape_1020 : decode prog_8_method_17_code 1020 = .ok (.iaload, 1) := by decide +kernel
theorem d_Mo_shape_1021 : decode prog_8_method_17_code 1021 = .ok (.if_icmp .ne 25, 3) := by decide +kernel
theorem d_Mo_shape_1024 : decode prog_8_method_17_code 1024 = .ok (.aload_n 0, 1) := by decide +kernel
theorem d_Mo_shape_1025 : decode prog_8_method_17_code 1025 = .ok (.iload_n 1, 1) := by decide +kernel
theorem d_Mo_shape_1026 : decode prog_8_method_17_code 1026 = .ok (.aload_n 0, 1) := by decide +kernel
theorem d_Mo_shape_1027 : decode prog_8_method_17_code 1027 = .ok (.getfield 13, 3) := by decide +kernel
theorem d_Mo_shape_1030 : decode prog_8_method_17_code 1030 = .ok (.iload_n 3, 1) := by decide +kernel
theorem d_Mo_shape_1031 : decode prog_8_method_17_code 1031 = .ok (.iaload, 1) := by decide +kernel
theorem d_Mo_shape_1032 : decode prog_8_method_17_code 1032 = .ok (.iload 8, 2) := by decide +kernel
theorem d_Mo_shape_1034 : decode prog_8_method_17_code 1034 = .ok (.iload 9, 2) := by decide +kernel
theorem d_Mo_shape_1036 : decode prog_8_method_17_code 1036 = .ok (.invokevirtual 100, 3) := by decide +kernel
theorem d_Mo_shape_1039 : decode prog_8_method_17_code 1039 = .ok (.ifCond .eq 7, 3) := by decide +kernel
theorem d_Mo_shape_1042 : decode prog_8_method_17_code 1042 = .ok (.iconst 1, 1) := by decide +kernel
theorem d_Mo_shape_1043 : decode prog_8_method_17_code 1043 = .ok (.goto 4, 3) := by decide +kernel
theorem d_Mo_shape_1046 : decode prog_8_method_17_code 1046 = .ok (.iconst 0, 1) := by decide +kernel
theorem d_Mo_shape_1047 : decode prog_8_method_17_code 1047 = .ok (.ireturn, 1) := by decide +kernel
theorem d_Mo_fitting_0 : decode prog_8_method_14_code 0 = .ok (.aload_n 0, 1) := by decide +kernel
theorem d_Mo_fitting_1 : decode prog_8_method_14_code 1 = .ok (.aload_n 0, 1) := by decide +kernel
theorem d_Mo_fitting_2 : decode prog_8_method_14_code 2 = .ok (.getfield 16, 3) := by decide +kernel
theorem d_Mo_fitting_5 : decode prog_8_method_14_code 5 = .ok (.iload_n 1, 1) := by decide +kernel
theorem d_Mo_fitting_6 : decode prog_8_method_14_code 6 = .ok (.iaload, 1) := by decide +kernel
theorem d_Mo_fitting_7 : decode prog_8_method_14_code 7 = .ok (.aload_n 0, 1) := by decide +kernel
theorem d_Mo_fitting_8 : decode prog_8_method_14_code 8 = .ok (.getfield 16, 3) := by decide +kernel
theorem d_Mo_fitting_11 : decode prog_8_method_14_code 11 = .ok (.iload_n 2, 1) := by decide +kernel
theorem d_Mo_fitting_12 : decode prog_8_method_14_code 12 = .ok (.iaload, 1) := by decide +kernel
theorem d_Mo_fitting_13 : decode prog_8_method_14_code 13 = .ok (.invokevirtual 89, 3) := by decide +kernel
theorem d_Mo_fitting_16 : decode prog_8_method_14_code 16 = .ok (.ifCond .eq 26, 3) := by decide +kernel
theorem d_Mo_fitting_19 : decode prog_8_method_14_code 19 = .ok (.aload_n 0, 1) := by decide +kernel
theorem d_Mo_fitting_20 : decode prog_8_method_14_code 20 = .ok (.aload_n 0, 1) := by decide +kernel
theorem d_Mo_fitting_21 : decode prog_8_method_14_code 21 = .ok (.getfield 19, 3) := by decide +kernel
theorem d_Mo_fitting_24 : decode prog_8_method_14_code 24 = .ok (.iload_n 1, 1) := by decide +kernel
theorem d_Mo_fitting_25 : decode prog_8_method_14_code 25 = .ok (.iaload, 1) := by decide +kernel
theorem d_Mo_fitting_26 : decode prog_8_method_14_code 26 = .ok (.aload_n 0, 1) := by decide +kernel
theorem d_Mo_fitting_27 : decode prog_8_method_14_code 27 = .ok (.getfield 19, 3) := by decide +kernel
theorem d_Mo_fitting_30 : decode prog_8_method_14_code 30 = .ok (.iload_n 2, 1) := by decide +kernel
theorem d_Mo_fitting_31 : decode prog_8_method_14_code 31 = .ok (.iaload, 1) := by decide +kernel
theorem d_Mo_fitting_32 : decode prog_8_method_14_code 32 = .ok (.invokevirtual 89, 3) := by decide +kernel
theorem d_Mo_fitting_35 : decode prog_8_method_14_code 35 = .ok (.ifCond .eq 7, 3) := by decide +kernel
theorem d_Mo_fitting_38 : decode prog_8_method_14_code 38 = .ok (.iconst 1, 1) := by decide +kernel
theorem d_Mo_fitting_39 : decode prog_8_method_14_code 39 = .ok (.goto 4, 3) := by decide +kernel
theorem d_Mo_fitting_42 : decode prog_8_method_14_code 42 = .ok (.iconst 0, 1) := by decide +kernel
theorem d_Mo_fitting_43 : decode prog_8_method_14_code 43 = .ok (.ireturn, 1) := by decide +kernel
theorem d_Mo_near_0 : decode prog_8_method_13_code 0 = .ok (.iload_n 1, 1) := by decide +kernel
theorem d_Mo_near_1 : decode prog_8_method_13_code 1 = .ok (.iload_n 2, 1) := by decide +kernel
theorem d_Mo_near_2 : decode prog_8_method_13_code 2 = .ok (.if_icmp .eq 13, 3) := by decide +kernel
theorem d_Mo_near_5 : decode prog_8_method_13_code 5 = .ok (.iload_n 1, 1) := by decide +kernel
theorem d_Mo_near_6 : decode prog_8_method_13_code 6 = .ok (.iconst 1, 1) := by decide +kernel
theorem d_Mo_near_7 : decode prog_8_method_13_code 7 = .ok (.if_icmp .eq 8, 3) := by decide +kernel
theorem d_Mo_near_10 : decode prog_8_method_13_code 10 = .ok (.iload_n 2, 1) := by decide +kernel
theorem d_Mo_near_11 : decode prog_8_method_13_code 11 = .ok (.iconst 1, 1) := by decide +kernel
theorem d_Mo_near_12 : decode prog_8_method_13_code 12 = .ok (.if_icmp .ne 7, 3) := by decide +kernel
theorem d_Mo_near_15 : decode prog_8_method_13_code 15 = .ok (.iconst 1, 1) := by decide +kernel
theorem d_Mo_near_16 : decode prog_8_method_13_code 16 = .ok (.goto 4, 3) := by decide +kernel
theorem d_Mo_near_19 : decode prog_8_method_13_code 19 = .ok (.iconst 0, 1) := by decide +kernel
theorem d_Mo_near_20 : decode prog_8_method_13_code 20 = .ok (.ireturn, 1) := by decide +kernel
theorem d_Mo_most_0 : decode prog_8_method_16_code 0 = .ok (.iload_n 1, 1) := by decide +kernel
theorem d_Mo_most_1 : decode prog_8_method_16_code 1 = .ok (.iload_n 2, 1) := by decide +kernel
theorem d_Mo_most_2 : decode prog_8_method_16_code 2 = .ok (.if_icmp .le 7, 3) := by decide +kernel
theorem d_Mo_most_5 : decode prog_8_method_16_code 5 = .ok (.iload_n 1, 1) := by decide +kernel
theorem d_Mo_most_6 : decode prog_8_method_16_code 6 = .ok (.goto 4, 3) := by decide +kernel
theorem d_Mo_most_9 : decode prog_8_method_16_code 9 = .ok (.iload_n 2, 1) := by decide +kernel
theorem d_Mo_most_10 : decode prog_8_method_16_code 10 = .ok (.ireturn, 1) := by decide +kernel
theorem d_Mo_give_0 : decode prog_8_method_15_code 0 = .ok (.aload_n 0, 1) := by decide +kernel
theorem d_Mo_give_1 : decode prog_8_method_15_code 1 = .ok (.getfield 32, 3) := by decide +kernel
theorem d_Mo_give_4 : decode prog_8_method_15_code 4 = .ok (.iload_n 1, 1) := by decide +kernel
theorem d_Mo_give_5 : decode prog_8_method_15_code 5 = .ok (.iaload, 1) := by decide +kernel
theorem d_Mo_give_6 : decode prog_8_method_15_code 6 = .ok (.istore 5, 2) := by decide +kernel
theorem d_Mo_give_8 : decode prog_8_method_15_code 8 = .ok (.aload_n 0, 1) := by decide +kernel
theorem d_Mo_give_9 : decode prog_8_method_15_code 9 = .ok (.getfield 13, 3) := by decide +kernel
theorem d_Mo_give_12 : decode prog_8_method_15_code 12 = .ok (.iload 5, 2) := by decide +kernel
theorem d_Mo_give_14 : decode prog_8_method_15_code 14 = .ok (.iload_n 2, 1) := by decide +kernel
theorem d_Mo_give_15 : decode prog_8_method_15_code 15 = .ok (.iastore, 1) := by decide +kernel
theorem d_Mo_give_16 : decode prog_8_method_15_code 16 = .ok (.aload_n 0, 1) := by decide +kernel
theorem d_Mo_give_17 : decode prog_8_method_15_code 17 = .ok (.getfield 16, 3) := by decide +kernel
theorem d_Mo_give_20 : decode prog_8_method_15_code 20 = .ok (.iload 5, 2) := by decide +kernel
theorem d_Mo_give_22 : decode prog_8_method_15_code 22 = .ok (.iload_n 3, 1) := by decide +kernel
theorem d_Mo_give_23 : decode prog_8_method_15_code 23 = .ok (.iastore, 1) := by decide +kernel
theorem d_Mo_give_24 : decode prog_8_method_15_code 24 = .ok (.aload_n 0, 1) := by decide +kernel
theorem d_Mo_give_25 : decode prog_8_method_15_code 25 = .ok (.getfield 19, 3) := by decide +kernel
theorem d_Mo_give_28 : decode prog_8_method_15_code 28 = .ok (.iload 5, 2) := by decide +kernel
theorem d_Mo_give_30 : decode prog_8_method_15_code 30 = .ok (.iload 4, 2) := by decide +kernel
theorem d_Mo_give_32 : decode prog_8_method_15_code 32 = .ok (.iastore, 1) := by decide +kernel
theorem d_Mo_give_33 : decode prog_8_method_15_code 33 = .ok (.iload_n 3, 1) := by decide +kernel
theorem d_Mo_give_34 : decode prog_8_method_15_code 34 = .ok (.iconst 1, 1) := by decide +kernel
theorem d_Mo_give_35 : decode prog_8_method_15_code 35 = .ok (.if_icmp .lt 24, 3) := by decide +kernel
theorem d_Mo_give_38 : decode prog_8_method_15_code 38 = .ok (.iload_n 3, 1) := by decide +kernel
theorem d_Mo_give_39 : decode prog_8_method_15_code 39 = .ok (.iconst 4, 1) := by decide +kernel
theorem d_Mo_give_40 : decode prog_8_method_15_code 40 = .ok (.if_icmp .gt 19, 3) := by decide +kernel
theorem d_Mo_give_43 : decode prog_8_method_15_code 43 = .ok (.iload 4, 2) := by decide +kernel
theorem d_Mo_give_45 : decode prog_8_method_15_code 45 = .ok (.iconst 1, 1) := by decide +kernel
theorem d_Mo_give_46 : decode prog_8_method_15_code 46 = .ok (.if_icmp .lt 13, 3) := by decide +kernel
theorem d_Mo_give_49 : decode prog_8_method_15_code 49 = .ok (.iload 4, 2) := by decide +kernel
theorem d_Mo_give_51 : decode prog_8_method_15_code 51 = .ok (.iconst 4, 1) := by decide +kernel
theorem d_Mo_give_52 : decode prog_8_method_15_code 52 = .ok (.if_icmp .gt 7, 3) := by decide +kernel
theorem d_Mo_give_55 : decode prog_8_method_15_code 55 = .ok (.iconst 1, 1) := by decide +kernel
theorem d_Mo_give_56 : decode prog_8_method_15_code 56 = .ok (.goto 4, 3) := by decide +kernel
theorem d_Mo_give_59 : decode prog_8_method_15_code 59 = .ok (.iconst 0, 1) := by decide +kernel
theorem d_Mo_give_60 : decode prog_8_method_15_code 60 = .ok (.ireturn, 1) := by decide +kernel
end
section
theorem d_Mo_work_0 : decode prog_8_method_30_code 0 = .ok (.aload_n 0, 1) := by decide +kernel
theorem d_Mo_work_1 : decode prog_8_method_30_code 1 = .ok (.getfield 32, 3) := by decide +kernel
theorem d_Mo_work_4 : decode prog_8_method_30_code 4 = .ok (.iload_n 1, 1) := by decide +kernel
theorem d_Mo_work_5 : decode prog_8_method_30_code 5 = .ok (.iaload, 1) := by decide +kernel
theorem d_Mo_work_6 : decode prog_8_method_30_code 6 = .ok (.istore_n 2, 1) := by decide +kernel
theorem d_Mo_work_7 : decode prog_8_method_30_code 7 = .ok (.aload_n 0, 1) := by decide +kernel
theorem d_Mo_work_8 : decode prog_8_method_30_code 8 = .ok (.iconst 0, 1) := by decide +kernel
theorem d_Mo_work_9 : decode prog_8_method_30_code 9 = .ok (.putfield 108, 3) := by decide +kernel
theorem d_Mo_work_12 : decode prog_8_method_30_code 12 = .ok (.iconst 0, 1) := by decide +kernel
theorem d_Mo_work_13 : decode prog_8_method_30_code 13 = .ok (.istore_n 3, 1) := by decide +kernel
theorem d_Mo_work_14 : decode prog_8_method_30_code 14 = .ok (.iload_n 3, 1) := by decide +kernel
theorem d_Mo_work_15 : decode prog_8_method_30_code 15 = .ok (.aload_n 0, 1) := by decide +kernel
theorem d_Mo_work_16 : decode prog_8_method_30_code 16 = .ok (.getfield 16, 3) := by decide +kernel
theorem d_Mo_work_19 : decode prog_8_method_30_code 19 = .ok (.iload_n 2, 1) := by decide +kernel
theorem d_Mo_work_20 : decode prog_8_method_30_code 20 = .ok (.iaload, 1) := by decide +kernel
theorem d_Mo_work_21 : decode prog_8_method_30_code 21 = .ok (.if_icmp .ge 84, 3) := by decide +kernel
theorem d_Mo_work_24 : decode prog_8_method_30_code 24 = .ok (.iconst 0, 1) := by decide +kernel
theorem d_Mo_work_25 : decode prog_8_method_30_code 25 = .ok (.istore 4, 2) := by decide +kernel
theorem d_Mo_work_27 : decode prog_8_method_30_code 27 = .ok (.iload 4, 2) := by decide +kernel
theorem d_Mo_work_29 : decode prog_8_method_30_code 29 = .ok (.aload_n 0, 1) := by decide +kernel
theorem d_Mo_work_30 : decode prog_8_method_30_code 30 = .ok (.getfield 19, 3) := by decide +kernel
theorem d_Mo_work_33 : decode prog_8_method_30_code 33 = .ok (.iload_n 2, 1) := by decide +kernel
theorem d_Mo_work_34 : decode prog_8_method_30_code 34 = .ok (.iaload, 1) := by decide +kernel
theorem d_Mo_work_35 : decode prog_8_method_30_code 35 = .ok (.if_icmp .ge 64, 3) := by decide +kernel
theorem d_Mo_work_38 : decode prog_8_method_30_code 38 = .ok (.aload_n 0, 1) := by decide +kernel
theorem d_Mo_work_39 : decode prog_8_method_30_code 39 = .ok (.iload_n 1, 1) := by decide +kernel
theorem d_Mo_work_40 : decode prog_8_method_30_code 40 = .ok (.iload_n 3, 1) := by decide +kernel
theorem d_Mo_work_41 : decode prog_8_method_30_code 41 = .ok (.iload 4, 2) := by decide +kernel
theorem d_Mo_work_43 : decode prog_8_method_30_code 43 = .ok (.invokevirtual 148, 3) := by decide +kernel
theorem d_Mo_work_46 : decode prog_8_method_30_code 46 = .ok (.dstore 5, 2) := by decide +kernel
theorem d_Mo_work_48 : decode prog_8_method_30_code 48 = .ok (.aload_n 0, 1) := by decide +kernel
theorem d_Mo_work_49 : decode prog_8_method_30_code 49 = .ok (.getfield 50, 3) := by decide +kernel
theorem d_Mo_work_52 : decode prog_8_method_30_code 52 = .ok (.iload_n 3, 1) := by decide +kernel
theorem d_Mo_work_53 : decode prog_8_method_30_code 53 = .ok (.iconst 4, 1) := by decide +kernel
theorem d_Mo_work_54 : decode prog_8_method_30_code 54 = .ok (.imul, 1) := by decide +kernel
theorem d_Mo_work_55 : decode prog_8_method_30_code 55 = .ok (.iload 4, 2) := by decide +kernel
theorem d_Mo_work_57 : decode prog_8_method_30_code 57 = .ok (.iadd, 1) := by decide +kernel
theorem d_Mo_work_58 : decode prog_8_method_30_code 58 = .ok (.dload 5, 2) := by decide +kernel
theorem d_Mo_work_60 : decode prog_8_method_30_code 60 = .ok (.dastore, 1) := by decide +kernel
theorem d_Mo_work_61 : decode prog_8_method_30_code 61 = .ok (.aload_n 0, 1) := by decide +kernel
theorem d_Mo_work_62 : decode prog_8_method_30_code 62 = .ok (.getfield 13, 3) := by decide +kernel
theorem d_Mo_work_65 : decode prog_8_method_30_code 65 = .ok (.iload_n 2, 1) := by decide +kernel
theorem d_Mo_work_66 : decode prog_8_method_30_code 66 = .ok (.iaload, 1) := by decide +kernel
theorem d_Mo_work_67 : decode prog_8_method_30_code 67 = .ok (.ifCond .ne 26, 3) := by decide +kernel
theorem d_Mo_work_70 : decode prog_8_method_30_code 70 = .ok (.dload 5, 2) := by decide +kernel
theorem d_Mo_work_72 : decode prog_8_method_30_code 72 = .ok (.ldc2_w 151, 3) := by decide +kernel
theorem d_Mo_work_75 : decode prog_8_method_30_code 75 = .ok (.dcmp .l, 1) := by decide +kernel
theorem d_Mo_work_76 : decode prog_8_method_30_code 76 = .ok (.ifCond .gt 12, 3) := by decide +kernel
theorem d_Mo_work_79 : decode prog_8_method_30_code 79 = .ok (.dload 5, 2) := by decide +kernel
theorem d_Mo_work_81 : decode prog_8_method_30_code 81 = .ok (.ldc2_w 153, 3) := by decide +kernel
theorem d_Mo_work_84 : decode prog_8_method_30_code 84 = .ok (.dcmp .g, 1) := by decide +kernel
theorem d_Mo_work_85 : decode prog_8_method_30_code 85 = .ok (.ifCond .ge 8, 3) := by decide +kernel
theorem d_Mo_work_88 : decode prog_8_method_30_code 88 = .ok (.aload_n 0, 1) := by decide +kernel
theorem d_Mo_work_89 : decode prog_8_method_30_code 89 = .ok (.iconst 3, 1) := by decide +kernel
theorem d_Mo_work_90 : decode prog_8_method_30_code 90 = .ok (.invokevirtual 104, 3) := by decide +kernel
theorem d_Mo_work_93 : decode prog_8_method_30_code 93 = .ok (.iinc 4 1, 3) := by decide +kernel
theorem d_Mo_work_96 : decode prog_8_method_30_code 96 = .ok (.goto (-69), 3) := by decide +kernel
theorem d_Mo_work_99 : decode prog_8_method_30_code 99 = .ok (.iinc 3 1, 3) := by decide +kernel
theorem d_Mo_work_102 : decode prog_8_method_30_code 102 = .ok (.goto (-88), 3) := by decide +kernel
theorem d_Mo_work_105 : decode prog_8_method_30_code 105 = .ok (.iconst 0, 1) := by decide +kernel
theorem d_Mo_work_106 : decode prog_8_method_30_code 106 = .ok (.istore_n 3, 1) := by decide +kernel
theorem d_Mo_work_107 : decode prog_8_method_30_code 107 = .ok (.iload_n 3, 1) := by decide +kernel
theorem d_Mo_work_108 : decode prog_8_method_30_code 108 = .ok (.bipush 16, 2) := by decide +kernel
theorem d_Mo_work_110 : decode prog_8_method_30_code 110 = .ok (.if_icmp .ge 33, 3) := by decide +kernel
theorem d_Mo_work_113 : decode prog_8_method_30_code 113 = .ok (.aload_n 0, 1) := by decide +kernel
theorem d_Mo_work_114 : decode prog_8_method_30_code 114 = .ok (.getfield 108, 3) := by decide +kernel
theorem d_Mo_work_117 : decode prog_8_method_30_code 117 = .ok (.ifCond .ne 26, 3) := by decide +kernel
theorem d_Mo_work_120 : decode prog_8_method_30_code 120 = .ok (.aload_n 0, 1) := by decide +kernel
theorem d_Mo_work_121 : decode prog_8_method_30_code 121 = .ok (.getfield 25, 3) := by decide +kernel
theorem d_Mo_work_124 : decode prog_8_method_30_code 124 = .ok (.iload_n 2, 1) := by decide +kernel
theorem d_Mo_work_125 : decode prog_8_method_30_code 125 = .ok (.bipush 16, 2) := by decide +kernel
theorem d_Mo_work_127 : decode prog_8_method_30_code 127 = .ok (.imul, 1) := by decide +kernel
theorem d_Mo_work_128 : decode prog_8_method_30_code 128 = .ok (.iload_n 3, 1) := by decide +kernel
theorem d_Mo_work_129 : decode prog_8_method_30_code 129 = .ok (.iadd, 1) := by decide +kernel
theorem d_Mo_work_130 : decode prog_8_method_30_code 130 = .ok (.aload_n 0, 1) := by decide +kernel
theorem d_Mo_work_131 : decode prog_8_method_30_code 131 = .ok (.getfield 50, 3) := by decide +kernel
theorem d_Mo_work_134 : decode prog_8_method_30_code 134 = .ok (.iload_n 3, 1) := by decide +kernel
theorem d_Mo_work_135 : decode prog_8_method_30_code 135 = .ok (.daload, 1) := by decide +kernel
theorem d_Mo_work_136 : decode prog_8_method_30_code 136 = .ok (.dastore, 1) := by decide +kernel
theorem d_Mo_work_137 : decode prog_8_method_30_code 137 = .ok (.iinc 3 1, 3) := by decide +kernel
theorem d_Mo_work_140 : decode prog_8_method_30_code 140 = .ok (.goto (-33), 3) := by decide +kernel
theorem d_Mo_work_143 : decode prog_8_method_30_code 143 = .ok (.aload_n 0, 1) := by decide +kernel
theorem d_Mo_work_144 : decode prog_8_method_30_code 144 = .ok (.getfield 108, 3) := by decide +kernel
theorem d_Mo_work_147 : decode prog_8_method_30_code 147 = .ok (.ireturn, 1) := by decide +kernel
theorem d_Mo_element_0 : decode prog_8_method_29_code 0 = .ok (.aload_n 0, 1) := by decide +kernel
theorem d_Mo_element_1 : decode prog_8_method_29_code 1 = .ok (.getfield 29, 3) := by decide +kernel
theorem d_Mo_element_4 : decode prog_8_method_29_code 4 = .ok (.iload_n 1, 1) := by decide +kernel
theorem d_Mo_element_5 : decode prog_8_method_29_code 5 = .ok (.iaload, 1) := by decide +kernel
theorem d_Mo_element_6 : decode prog_8_method_29_code 6 = .ok (.istore 4, 2) := by decide +kernel
theorem d_Mo_element_8 : decode prog_8_method_29_code 8 = .ok (.aload_n 0, 1) := by decide +kernel
theorem d_Mo_element_9 : decode prog_8_method_29_code 9 = .ok (.getfield 47, 3) := by decide +kernel
theorem d_Mo_element_12 : decode prog_8_method_29_code 12 = .ok (.iload_n 1, 1) := by decide +kernel
theorem d_Mo_element_13 : decode prog_8_method_29_code 13 = .ok (.iconst 3, 1) := by decide +kernel
theorem d_Mo_element_14 : decode prog_8_method_29_code 14 = .ok (.imul, 1) := by decide +kernel
theorem d_Mo_element_15 : decode prog_8_method_29_code 15 = .ok (.iaload, 1) := by decide +kernel
theorem d_Mo_element_16 : decode prog_8_method_29_code 16 = .ok (.istore 5, 2) := by decide +kernel
theorem d_Mo_element_18 : decode prog_8_method_29_code 18 = .ok (.aload_n 0, 1) := by decide +kernel
theorem d_Mo_element_19 : decode prog_8_method_29_code 19 = .ok (.getfield 47, 3) := by decide +kernel
theorem d_Mo_element_22 : decode prog_8_method_29_code 22 = .ok (.iload_n 1, 1) := by decide +kernel
theorem d_Mo_element_23 : decode prog_8_method_29_code 23 = .ok (.iconst 3, 1) := by decide +kernel
theorem d_Mo_element_24 : decode prog_8_method_29_code 24 = .ok (.imul, 1) := by decide +kernel
theorem d_Mo_element_25 : decode prog_8_method_29_code 25 = .ok (.iconst 1, 1) := by decide +kernel
theorem d_Mo_element_26 : decode prog_8_method_29_code 26 = .ok (.iadd, 1) := by decide +kernel
theorem d_Mo_element_27 : decode prog_8_method_29_code 27 = .ok (.iaload, 1) := by decide +kernel
theorem d_Mo_element_28 : decode prog_8_method_29_code 28 = .ok (.istore 6, 2) := by decide +kernel
theorem d_Mo_element_30 : decode prog_8_method_29_code 30 = .ok (.aload_n 0, 1) := by decide +kernel
theorem d_Mo_element_31 : decode prog_8_method_29_code 31 = .ok (.getfield 47, 3) := by decide +kernel
theorem d_Mo_element_34 : decode prog_8_method_29_code 34 = .ok (.iload_n 1, 1) := by decide +kernel
theorem d_Mo_element_35 : decode prog_8_method_29_code 35 = .ok (.iconst 3, 1) := by decide +kernel
theorem d_Mo_element_36 : decode prog_8_method_29_code 36 = .ok (.imul, 1) := by decide +kernel
theorem d_Mo_element_37 : decode prog_8_method_29_code 37 = .ok (.iconst 2, 1) := by decide +kernel
theorem d_Mo_element_38 : decode prog_8_method_29_code 38 = .ok (.iadd, 1) := by decide +kernel
theorem d_Mo_element_39 : decode prog_8_method_29_code 39 = .ok (.iaload, 1) := by decide +kernel
theorem d_Mo_element_40 : decode prog_8_method_29_code 40 = .ok (.istore 7, 2) := by decide +kernel
theorem d_Mo_element_42 : decode prog_8_method_29_code 42 = .ok (.iload 4, 2) := by decide +kernel
theorem d_Mo_element_44 : decode prog_8_method_29_code 44 = .ok (.tableswitch 443 0 17 #[88, 88, 88, 88, 127, 138, 164, 181, 195, 221, 254, 277, 322, 333, 345, 369, 380, 392], 88) := by decide +kernel
theorem d_Mo_element_132 : decode prog_8_method_29_code 132 = .ok (.aload_n 0, 1) := by decide +kernel
theorem d_Mo_element_133 : decode prog_8_method_29_code 133 = .ok (.iload 4, 2) := by decide +kernel
theorem d_Mo_element_135 : decode prog_8_method_29_code 135 = .ok (.aload_n 0, 1) := by decide +kernel
theorem d_Mo_element_136 : decode prog_8_method_29_code 136 = .ok (.iload 5, 2) := by decide +kernel
theorem d_Mo_element_138 : decode prog_8_method_29_code 138 = .ok (.iload_n 2, 1) := by decide +kernel
theorem d_Mo_element_139 : decode prog_8_method_29_code 139 = .ok (.iload_n 3, 1) := by decide +kernel
theorem d_Mo_element_140 : decode prog_8_method_29_code 140 = .ok (.invokevirtual 111, 3) := by decide +kernel
theorem d_Mo_element_143 : decode prog_8_method_29_code 143 = .ok (.aload_n 0, 1) := by decide +kernel
theorem d_Mo_element_144 : decode prog_8_method_29_code 144 = .ok (.iload 6, 2) := by decide +kernel
theorem d_Mo_element_146 : decode prog_8_method_29_code 146 = .ok (.iload_n 2, 1) := by decide +kernel
theorem d_Mo_element_147 : decode prog_8_method_29_code 147 = .ok (.iload_n 3, 1) := by decide +kernel
theorem d_Mo_element_148 : decode prog_8_method_29_code 148 = .ok (.invokevirtual 111, 3) := by decide +kernel
theorem d_Mo_element_151 : decode prog_8_method_29_code 151 = .ok (.aload_n 0, 1) := by decide +kernel
theorem d_Mo_element_152 : decode prog_8_method_29_code 152 = .ok (.getfield 13, 3) := by decide +kernel
theorem d_Mo_element_155 : decode prog_8_method_29_code 155 = .ok (.iload 5, 2) := by decide +kernel
theorem d_Mo_element_157 : decode prog_8_method_29_code 157 = .ok (.iaload, 1) := by decide +kernel
theorem d_Mo_element_158 : decode prog_8_method_29_code 158 = .ok (.iconst 1, 1) := by decide +kernel
theorem d_Mo_element_159 : decode prog_8_method_29_code 159 = .ok (.if_icmp .ne 7, 3) := by decide +kernel
theorem d_Mo_element_162 : decode prog_8_method_29_code 162 = .ok (.iconst 1, 1) := by decide +kernel
theorem d_Mo_element_163 : decode prog_8_method_29_code 163 = .ok (.goto 4, 3) := by decide +kernel
theorem d_Mo_element_166 : decode prog_8_method_29_code 166 = .ok (.iconst 0, 1) := by decide +kernel
theorem d_Mo_element_167 : decode prog_8_method_29_code 167 = .ok (.invokevirtual 115, 3) := by decide +kernel
theorem d_Mo_element_170 : decode prog_8_method_29_code 170 = .ok (.dreturn, 1) := by decide +kernel
theorem d_Mo_element_171 : decode prog_8_method_29_code 171 = .ok (.aload_n 0, 1) := by decide +kernel
theorem d_Mo_element_172 : decode prog_8_method_29_code 172 = .ok (.iload 5, 2) := by decide +kernel
theorem d_Mo_element_174 : decode prog_8_method_29_code 174 = .ok (.iload 6, 2) := by decide +kernel
theorem d_Mo_element_176 : decode prog_8_method_29_code 176 = .ok (.iload_n 2, 1) := by decide +kernel
theorem d_Mo_element_177 : decode prog_8_method_29_code 177 = .ok (.iload_n 3, 1) := by decide +kernel
theorem d_Mo_element_178 : decode prog_8_method_29_code 178 = .ok (.invokevirtual 119, 3) := by decide +kernel
theorem d_Mo_element_181 : decode prog_8_method_29_code 181 = .ok (.dreturn, 1) := by decide +kernel
theorem d_Mo_element_182 : decode prog_8_method_29_code 182 = .ok (.aload_n 0, 1) := by decide +kernel
theorem d_Mo_element_183 : decode prog_8_method_29_code 183 = .ok (.iload 5, 2) := by decide +kernel
theorem d_Mo_element_185 : decode prog_8_method_29_code 185 = .ok (.iload_n 2, 1) := by decide +kernel
theorem d_Mo_element_186 : decode prog_8_method_29_code 186 = .ok (.iload_n 3, 1) := by decide +kernel
theorem d_Mo_element_187 : decode prog_8_method_29_code 187 = .ok (.invokevirtual 111, 3) := by decide +kernel
theorem d_Mo_element_190 : decode prog_8_method_29_code 190 = .ok (.dconst 0, 1) := by decide +kernel
theorem d_Mo_element_191 : decode prog_8_method_29_code 191 = .ok (.dcmp .l, 1) := by decide +kernel
theorem d_Mo_element_192 : decode prog_8_method_29_code 192 = .ok (.ifCond .le 14, 3) := by decide +kernel
theorem d_Mo_element_195 : decode prog_8_method_29_code 195 = .ok (.aload_n 0, 1) := by decide +kernel
theorem d_Mo_element_196 : decode prog_8_method_29_code 196 = .ok (.iload 5, 2) := by decide +kernel
theorem d_Mo_element_198 : decode prog_8_method_29_code 198 = .ok (.iload_n 2, 1) := by decide +kernel
theorem d_Mo_element_199 : decode prog_8_method_29_code 199 = .ok (.iload_n 3, 1) := by decide +kernel
theorem d_Mo_element_200 : decode prog_8_method_29_code 200 = .ok (.invokevirtual 111, 3) := by decide +kernel
theorem d_Mo_element_203 : decode prog_8_method_29_code 203 = .ok (.goto 4, 3) := by decide +kernel
theorem d_Mo_element_206 : decode prog_8_method_29_code 206 = .ok (.dconst 0, 1) := by decide +kernel
theorem d_Mo_element_207 : decode prog_8_method_29_code 207 = .ok (.dreturn, 1) := by decide +kernel
theorem d_Mo_element_208 : decode prog_8_method_29_code 208 = .ok (.aload_n 0, 1) := by decide +kernel
theorem d_Mo_element_209 : decode prog_8_method_29_code 209 = .ok (.getfield 25, 3) := by decide +kernel
theorem d_Mo_element_212 : decode prog_8_method_29_code 212 = .ok (.iload 5, 2) := by decide +kernel
theorem d_Mo_element_214 : decode prog_8_method_29_code 214 = .ok (.bipush 16, 2) := by decide +kernel
theorem d_Mo_element_216 : decode prog_8_method_29_code 216 = .ok (.imul, 1) := by decide +kernel
theorem d_Mo_element_217 : decode prog_8_method_29_code 217 = .ok (.iload_n 3, 1) := by decide +kernel
theorem d_Mo_element_218 : decode prog_8_method_29_code 218 = .ok (.iconst 4, 1) := by decide +kernel
theorem d_Mo_element_219 : decode prog_8_method_29_code 219 = .ok (.imul, 1) := by decide +kernel
theorem d_Mo_element_220 : decode prog_8_method_29_code 220 = .ok (.iadd, 1) := by decide +kernel
theorem d_Mo_element_221 : decode prog_8_method_29_code 221 = .ok (.iload_n 2, 1) := by decide +kernel
theorem d_Mo_element_222 : decode prog_8_method_29_code 222 = .ok (.iadd, 1) := by decide +kernel
theorem d_Mo_element_223 : decode prog_8_method_29_code 223 = .ok (.daload, 1) := by decide +kernel
theorem d_Mo_element_224 : decode prog_8_method_29_code 224 = .ok (.dreturn, 1) := by decide +kernel
theorem d_Mo_element_225 : decode prog_8_method_29_code 225 = .ok (.aload_n 0, 1) := by decide +kernel
theorem d_Mo_element_226 : decode prog_8_method_29_code 226 = .ok (.iload_n 1, 1) := by decide +kernel
theorem d_Mo_element_227 : decode prog_8_method_29_code 227 = .ok (.aload_n 0, 1) := by decide +kernel
theorem d_Mo_element_228 : decode prog_8_method_29_code 228 = .ok (.iload 5, 2) := by decide +kernel
theorem d_Mo_element_230 : decode prog_8_method_29_code 230 = .ok (.iload_n 2, 1) := by decide +kernel
theorem d_Mo_element_231 : decode prog_8_method_29_code 231 = .ok (.iload_n 3, 1) := by decide +kernel
theorem d_Mo_element_232 : decode prog_8_method_29_code 232 = .ok (.invokevirtual 111, 3) := by decide +kernel
theorem d_Mo_element_235 : decode prog_8_method_29_code 235 = .ok (.invokevirtual 123, 3) := by decide +kernel
theorem d_Mo_element_238 : decode prog_8_method_29_code 238 = .ok (.dreturn, 1) := by decide +kernel
theorem d_Mo_element_239 : decode prog_8_method_29_code 239 = .ok (.aload_n 0, 1) := by decide +kernel
theorem d_Mo_element_240 : decode prog_8_method_29_code 240 = .ok (.iload 5, 2) := by decide +kernel
theorem d_Mo_element_242 : decode prog_8_method_29_code 242 = .ok (.iload_n 2, 1) := by decide +kernel
theorem d_Mo_element_243 : decode prog_8_method_29_code 243 = .ok (.iload_n 3, 1) := by decide +kernel
theorem d_Mo_element_244 : decode prog_8_method_29_code 244 = .ok (.invokevirtual 111, 3) := by decide +kernel
theorem d_Mo_element_247 : decode prog_8_method_29_code 247 = .ok (.aload_n 0, 1) := by decide +kernel
theorem d_Mo_element_248 : decode prog_8_method_29_code 248 = .ok (.iload 6, 2) := by decide +kernel
theorem d_Mo_element_250 : decode prog_8_method_29_code 250 = .ok (.iload_n 2, 1) := by decide +kernel
theorem d_Mo_element_251 : decode prog_8_method_29_code 251 = .ok (.iload_n 3, 1) := by decide +kernel
theorem d_Mo_element_252 : decode prog_8_method_29_code 252 = .ok (.invokevirtual 111, 3) := by decide +kernel
theorem d_Mo_element_255 : decode prog_8_method_29_code 255 = .ok (.dcmp .g, 1) := by decide +kernel
theorem d_Mo_element_256 : decode prog_8_method_29_code 256 = .ok (.ifCond .ge 7, 3) := by decide +kernel
theorem d_Mo_element_259 : decode prog_8_method_29_code 259 = .ok (.dconst 1, 1) := by decide +kernel
theorem d_Mo_element_260 : decode prog_8_method_29_code 260 = .ok (.goto 4, 3) := by decide +kernel
theorem d_Mo_element_263 : decode prog_8_method_29_code 263 = .ok (.dconst 0, 1) := by decide +kernel
theorem d_Mo_element_264 : decode prog_8_method_29_code 264 = .ok (.dreturn, 1) := by decide +kernel
theorem d_Mo_element_265 : decode prog_8_method_29_code 265 = .ok (.aload_n 0, 1) := by decide +kernel
theorem d_Mo_element_266 : decode prog_8_method_29_code 266 = .ok (.iload 7, 2) := by decide +kernel
theorem d_Mo_element_268 : decode prog_8_method_29_code 268 = .ok (.iload_n 2, 1) := by decide +kernel
theorem d_Mo_element_269 : decode prog_8_method_29_code 269 = .ok (.iload_n 3, 1) := by decide +kernel
theorem d_Mo_element_270 : decode prog_8_method_29_code 270 = .ok (.invokevirtual 111, 3) := by decide +kernel
theorem d_Mo_element_273 : decode prog_8_method_29_code 273 = .ok (.dconst 0, 1) := by decide +kernel
theorem d_Mo_element_274 : decode prog_8_method_29_code 274 = .ok (.dcmp .l, 1) := by decide +kernel
theorem d_Mo_element_275 : decode prog_8_method_29_code 275 = .ok (.ifCond .eq 14, 3) := by decide +kernel
theorem d_Mo_element_278 : decode prog_8_method_29_code 278 = .ok (.aload_n 0, 1) := by decide +kernel
theorem d_Mo_element_279 : decode prog_8_method_29_code 279 = .ok (.iload 5, 2) := by decide +kernel
theorem d_Mo_element_281 : decode prog_8_method_29_code 281 = .ok (.iload_n 2, 1) := by decide +kernel
theorem d_Mo_element_282 : decode prog_8_method_29_code 282 = .ok (.iload_n 3, 1) := by decide +kernel
theorem d_Mo_element_283 : decode prog_8_method_29_code 283 = .ok (.invokevirtual 111, 3) := by decide +kernel
theorem d_Mo_element_286 : decode prog_8_method_29_code 286 = .ok (.goto 11, 3) := by decide +kernel
theorem d_Mo_element_289 : decode prog_8_method_29_code 289 = .ok (.aload_n 0, 1) := by decide +kernel
theorem d_Mo_element_290 : decode prog_8_method_29_code 290 = .ok (.iload 6, 2) := by decide +kernel
theorem d_Mo_element_292 : decode prog_8_method_29_code 292 = .ok (.iload_n 2, 1) := by decide +kernel
theorem d_Mo_element_293 : decode prog_8_method_29_code 293 = .ok (.iload_n 3, 1) := by decide +kernel
theorem d_Mo_element_294 : decode prog_8_method_29_code 294 = .ok (.invokevirtual 111, 3) := by decide +kernel
theorem d_Mo_element_297 : decode prog_8_method_29_code 297 = .ok (.dreturn, 1) := by decide +kernel
theorem d_Mo_element_298 : decode prog_8_method_29_code 298 = .ok (.aload_n 0, 1) := by decide +kernel
theorem d_Mo_element_299 : decode prog_8_method_29_code 299 = .ok (.iload 5, 2) := by decide +kernel
theorem d_Mo_element_301 : decode prog_8_method_29_code 301 = .ok (.iload_n 2, 1) := by decide +kernel
theorem d_Mo_element_302 : decode prog_8_method_29_code 302 = .ok (.iload_n 3, 1) := by decide +kernel
theorem d_Mo_element_303 : decode prog_8_method_29_code 303 = .ok (.aload_n 0, 1) := by decide +kernel
theorem d_Mo_element_304 : decode prog_8_method_29_code 304 = .ok (.getfield 35, 3) := by decide +kernel
theorem d_Mo_element_307 : decode prog_8_method_29_code 307 = .ok (.iload_n 1, 1) := by decide +kernel
theorem d_Mo_element_308 : decode prog_8_method_29_code 308 = .ok (.iaload, 1) := by decide +kernel
theorem d_Mo_element_309 : decode prog_8_method_29_code 309 = .ok (.ifCond .ne 7, 3) := by decide +kernel
theorem d_Mo_element_312 : decode prog_8_method_29_code 312 = .ok (.iconst 1, 1) := by decide +kernel
theorem d_Mo_element_313 : decode prog_8_method_29_code 313 = .ok (.goto 4, 3) := by decide +kernel
theorem d_Mo_element_316 : decode prog_8_method_29_code 316 = .ok (.iconst 0, 1) := by decide +kernel
theorem d_Mo_element_317 : decode prog_8_method_29_code 317 = .ok (.invokevirtual 127, 3) := by decide +kernel
theorem d_Mo_element_320 : decode prog_8_method_29_code 320 = .ok (.dreturn, 1) := by decide +kernel
theorem d_Mo_element_321 : decode prog_8_method_29_code 321 = .ok (.aload_n 0, 1) := by decide +kernel
theorem d_Mo_element_322 : decode prog_8_method_29_code 322 = .ok (.getfield 35, 3) := by decide +kernel
theorem d_Mo_element_325 : decode prog_8_method_29_code 325 = .ok (.iload_n 1, 1) := by decide +kernel
theorem d_Mo_element_326 : decode prog_8_method_29_code 326 = .ok (.iaload, 1) := by decide +kernel
theorem d_Mo_element_327 : decode prog_8_method_29_code 327 = .ok (.ifCond .ne 22, 3) := by decide +kernel
theorem d_Mo_element_330 : decode prog_8_method_29_code 330 = .ok (.aload_n 0, 1) := by decide +kernel
theorem d_Mo_element_331 : decode prog_8_method_29_code 331 = .ok (.iload 5, 2) := by decide +kernel
theorem d_Mo_element_333 : decode prog_8_method_29_code 333 = .ok (.aload_n 0, 1) := by decide +kernel
theorem d_Mo_element_334 : decode prog_8_method_29_code 334 = .ok (.iload 5, 2) := by decide +kernel
theorem d_Mo_element_336 : decode prog_8_method_29_code 336 = .ok (.iload_n 2, 1) := by decide +kernel
theorem d_Mo_element_337 : decode prog_8_method_29_code 337 = .ok (.iload_n 3, 1) := by decide +kernel
theorem d_Mo_element_338 : decode prog_8_method_29_code 338 = .ok (.iconst 1, 1) := by decide +kernel
theorem d_Mo_element_339 : decode prog_8_method_29_code 339 = .ok (.invokevirtual 131, 3) := by decide +kernel
theorem d_Mo_element_342 : decode prog_8_method_29_code 342 = .ok (.iload_n 3, 1) := by decide +kernel
theorem d_Mo_element_343 : decode prog_8_method_29_code 343 = .ok (.invokevirtual 111, 3) := by decide +kernel
theorem d_Mo_element_346 : decode prog_8_method_29_code 346 = .ok (.goto 19, 3) := by decide +kernel
theorem d_Mo_element_349 : decode prog_8_method_29_code 349 = .ok (.aload_n 0, 1) := by decide +kernel
theorem d_Mo_element_350 : decode prog_8_method_29_code 350 = .ok (.iload 5, 2) := by decide +kernel
theorem d_Mo_element_352 : decode prog_8_method_29_code 352 = .ok (.iload_n 2, 1) := by decide +kernel
theorem d_Mo_element_353 : decode prog_8_method_29_code 353 = .ok (.aload_n 0, 1) := by decide +kernel
theorem d_Mo_element_354 : decode prog_8_method_29_code 354 = .ok (.iload 5, 2) := by decide +kernel
theorem d_Mo_element_356 : decode prog_8_method_29_code 356 = .ok (.iload_n 2, 1) := by decide +kernel
theorem d_Mo_element_357 : decode prog_8_method_29_code 357 = .ok (.iload_n 3, 1) := by decide +kernel
theorem d_Mo_element_358 : decode prog_8_method_29_code 358 = .ok (.iconst 0, 1) := by decide +kernel
theorem d_Mo_element_359 : decode prog_8_method_29_code 359 = .ok (.invokevirtual 131, 3) := by decide +kernel
theorem d_Mo_element_362 : decode prog_8_method_29_code 362 = .ok (.invokevirtual 111, 3) := by decide +kernel
theorem d_Mo_element_365 : decode prog_8_method_29_code 365 = .ok (.dreturn, 1) := by decide +kernel
theorem d_Mo_element_366 : decode prog_8_method_29_code 366 = .ok (.aload_n 0, 1) := by decide +kernel
theorem d_Mo_element_367 : decode prog_8_method_29_code 367 = .ok (.iload 5, 2) := by decide +kernel
theorem d_Mo_element_369 : decode prog_8_method_29_code 369 = .ok (.iload_n 2, 1) := by decide +kernel
theorem d_Mo_element_370 : decode prog_8_method_29_code 370 = .ok (.iconst 0, 1) := by decide +kernel
theorem d_Mo_element_371 : decode prog_8_method_29_code 371 = .ok (.iconst 0, 1) := by decide +kernel
theorem d_Mo_element_372 : decode prog_8_method_29_code 372 = .ok (.invokevirtual 131, 3) := by decide +kernel
theorem d_Mo_element_375 : decode prog_8_method_29_code 375 = .ok (.i2d, 1) := by decide +kernel
theorem d_Mo_element_376 : decode prog_8_method_29_code 376 = .ok (.dreturn, 1) := by decide +kernel
theorem d_Mo_element_377 : decode prog_8_method_29_code 377 = .ok (.aload_n 0, 1) := by decide +kernel
theorem d_Mo_element_378 : decode prog_8_method_29_code 378 = .ok (.iload_n 1, 1) := by decide +kernel
theorem d_Mo_element_379 : decode prog_8_method_29_code 379 = .ok (.iload 5, 2) := by decide +kernel
theorem d_Mo_element_381 : decode prog_8_method_29_code 381 = .ok (.iload 6, 2) := by decide +kernel
theorem d_Mo_element_383 : decode prog_8_method_29_code 383 = .ok (.iload_n 2, 1) := by decide +kernel
theorem d_Mo_element_384 : decode prog_8_method_29_code 384 = .ok (.iload_n 3, 1) := by decide +kernel
theorem d_Mo_element_385 : decode prog_8_method_29_code 385 = .ok (.invokevirtual 135, 3) := by decide +kernel
theorem d_Mo_element_388 : decode prog_8_method_29_code 388 = .ok (.dreturn, 1) := by decide +kernel
theorem d_Mo_element_389 : decode prog_8_method_29_code 389 = .ok (.aload_n 0, 1) := by decide +kernel
theorem d_Mo_element_390 : decode prog_8_method_29_code 390 = .ok (.getfield 25, 3) := by decide +kernel
theorem d_Mo_element_393 : decode prog_8_method_29_code 393 = .ok (.iload 5, 2) := by decide +kernel
theorem d_Mo_element_395 : decode prog_8_method_29_code 395 = .ok (.bipush 16, 2) := by decide +kernel
theorem d_Mo_element_397 : decode prog_8_method_29_code 397 = .ok (.imul, 1) := by decide +kernel
theorem d_Mo_element_398 : decode prog_8_method_29_code 398 = .ok (.iload_n 2, 1) := by decide +kernel
theorem d_Mo_element_399 : decode prog_8_method_29_code 399 = .ok (.aload_n 0, 1) := by decide +kernel
theorem d_Mo_element_400 : decode prog_8_method_29_code 400 = .ok (.getfield 35, 3) := by decide +kernel
theorem d_Mo_element_403 : decode prog_8_method_29_code 403 = .ok (.iload_n 1, 1) := by decide +kernel
theorem d_Mo_element_404 : decode prog_8_method_29_code 404 = .ok (.iaload, 1) := by decide +kernel
theorem d_Mo_element_405 : decode prog_8_method_29_code 405 = .ok (.iadd, 1) := by decide +kernel
theorem d_Mo_element_406 : decode prog_8_method_29_code 406 = .ok (.iconst 4, 1) := by decide +kernel
theorem d_Mo_element_407 : decode prog_8_method_29_code 407 = .ok (.imul, 1) := by decide +kernel
theorem d_Mo_element_408 : decode prog_8_method_29_code 408 = .ok (.iadd, 1) := by decide +kernel
theorem d_Mo_element_409 : decode prog_8_method_29_code 409 = .ok (.iload_n 3, 1) := by decide +kernel
theorem d_Mo_element_410 : decode prog_8_method_29_code 410 = .ok (.iadd, 1) := by decide +kernel
theorem d_Mo_element_411 : decode prog_8_method_29_code 411 = .ok (.daload, 1) := by decide +kernel
theorem d_Mo_element_412 : decode prog_8_method_29_code 412 = .ok (.dreturn, 1) := by decide +kernel
theorem d_Mo_element_413 : decode prog_8_method_29_code 413 = .ok (.aload_n 0, 1) := by decide +kernel
theorem d_Mo_element_414 : decode prog_8_method_29_code 414 = .ok (.iload 5, 2) := by decide +kernel
theorem d_Mo_element_416 : decode prog_8_method_29_code 416 = .ok (.iload 6, 2) := by decide +kernel
theorem d_Mo_element_418 : decode prog_8_method_29_code 418 = .ok (.iload_n 2, 1) := by decide +kernel
theorem d_Mo_element_419 : decode prog_8_method_29_code 419 = .ok (.iload_n 3, 1) := by decide +kernel
theorem d_Mo_element_420 : decode prog_8_method_29_code 420 = .ok (.invokevirtual 139, 3) := by decide +kernel
theorem d_Mo_element_423 : decode prog_8_method_29_code 423 = .ok (.dreturn, 1) := by decide +kernel
theorem d_Mo_element_424 : decode prog_8_method_29_code 424 = .ok (.aload_n 0, 1) := by decide +kernel
theorem d_Mo_element_425 : decode prog_8_method_29_code 425 = .ok (.iload_n 1, 1) := by decide +kernel
theorem d_Mo_element_426 : decode prog_8_method_29_code 426 = .ok (.iload 5, 2) := by decide +kernel
theorem d_Mo_element_428 : decode prog_8_method_29_code 428 = .ok (.iload 6, 2) := by decide +kernel
theorem d_Mo_element_430 : decode prog_8_method_29_code 430 = .ok (.iload_n 2, 1) := by decide +kernel
theorem d_Mo_element_431 : decode prog_8_method_29_code 431 = .ok (.iload_n 3, 1) := by decide +kernel
theorem d_Mo_element_432 : decode prog_8_method_29_code 432 = .ok (.invokevirtual 142, 3) := by decide +kernel
theorem d_Mo_element_435 : decode prog_8_method_29_code 435 = .ok (.dreturn, 1) := by decide +kernel
theorem d_Mo_element_436 : decode prog_8_method_29_code 436 = .ok (.aload_n 0, 1) := by decide +kernel
theorem d_Mo_element_437 : decode prog_8_method_29_code 437 = .ok (.getfield 25, 3) := by decide +kernel
theorem d_Mo_element_440 : decode prog_8_method_29_code 440 = .ok (.iload 7, 2) := by decide +kernel
theorem d_Mo_element_442 : decode prog_8_method_29_code 442 = .ok (.bipush 16, 2) := by decide +kernel
theorem d_Mo_element_444 : decode prog_8_method_29_code 444 = .ok (.imul, 1) := by decide +kernel
theorem d_Mo_element_445 : decode prog_8_method_29_code 445 = .ok (.daload, 1) := by decide +kernel
theorem d_Mo_element_446 : decode prog_8_method_29_code 446 = .ok (.dconst 0, 1) := by decide +kernel
theorem d_Mo_element_447 : decode prog_8_method_29_code 447 = .ok (.dcmp .l, 1) := by decide +kernel
theorem d_Mo_element_448 : decode prog_8_method_29_code 448 = .ok (.ifCond .eq 22, 3) := by decide +kernel
theorem d_Mo_element_451 : decode prog_8_method_29_code 451 = .ok (.aload_n 0, 1) := by decide +kernel
theorem d_Mo_element_452 : decode prog_8_method_29_code 452 = .ok (.getfield 25, 3) := by decide +kernel
theorem d_Mo_element_455 : decode prog_8_method_29_code 455 = .ok (.iload 5, 2) := by decide +kernel
theorem d_Mo_element_457 : decode prog_8_method_29_code 457 = .ok (.bipush 16, 2) := by decide +kernel
theorem d_Mo_element_459 : decode prog_8_method_29_code 459 = .ok (.imul, 1) := by decide +kernel
theorem d_Mo_element_460 : decode prog_8_method_29_code 460 = .ok (.iload_n 2, 1) := by decide +kernel
theorem d_Mo_element_461 : decode prog_8_method_29_code 461 = .ok (.iconst 4, 1) := by decide +kernel
theorem d_Mo_element_462 : decode prog_8_method_29_code 462 = .ok (.imul, 1) := by decide +kernel
theorem d_Mo_element_463 : decode prog_8_method_29_code 463 = .ok (.iadd, 1) := by decide +kernel
theorem d_Mo_element_464 : decode prog_8_method_29_code 464 = .ok (.iload_n 3, 1) := by decide +kernel
theorem d_Mo_element_465 : decode prog_8_method_29_code 465 = .ok (.iadd, 1) := by decide +kernel
theorem d_Mo_element_466 : decode prog_8_method_29_code 466 = .ok (.daload, 1) := by decide +kernel
theorem d_Mo_element_467 : decode prog_8_method_29_code 467 = .ok (.goto 19, 3) := by decide +kernel
theorem d_Mo_element_470 : decode prog_8_method_29_code 470 = .ok (.aload_n 0, 1) := by decide +kernel
theorem d_Mo_element_471 : decode prog_8_method_29_code 471 = .ok (.getfield 25, 3) := by decide +kernel
theorem d_Mo_element_474 : decode prog_8_method_29_code 474 = .ok (.iload 6, 2) := by decide +kernel
theorem d_Mo_element_476 : decode prog_8_method_29_code 476 = .ok (.bipush 16, 2) := by decide +kernel
theorem d_Mo_element_478 : decode prog_8_method_29_code 478 = .ok (.imul, 1) := by decide +kernel
theorem d_Mo_element_479 : decode prog_8_method_29_code 479 = .ok (.iload_n 2, 1) := by decide +kernel
theorem d_Mo_element_480 : decode prog_8_method_29_code 480 = .ok (.iconst 4, 1) := by decide +kernel
theorem d_Mo_element_481 : decode prog_8_method_29_code 481 = .ok (.imul, 1) := by decide +kernel
theorem d_Mo_element_482 : decode prog_8_method_29_code 482 = .ok (.iadd, 1) := by decide +kernel
theorem d_Mo_element_483 : decode prog_8_method_29_code 483 = .ok (.iload_n 3, 1) := by decide +kernel
theorem d_Mo_element_484 : decode prog_8_method_29_code 484 = .ok (.iadd, 1) := by decide +kernel
theorem d_Mo_element_485 : decode prog_8_method_29_code 485 = .ok (.daload, 1) := by decide +kernel
theorem d_Mo_element_486 : decode prog_8_method_29_code 486 = .ok (.dreturn, 1) := by decide +kernel
theorem d_Mo_element_487 : decode prog_8_method_29_code 487 = .ok (.aload_n 0, 1) := by decide +kernel
theorem d_Mo_element_488 : decode prog_8_method_29_code 488 = .ok (.iload_n 1, 1) := by decide +kernel
theorem d_Mo_element_489 : decode prog_8_method_29_code 489 = .ok (.aload_n 0, 1) := by decide +kernel
theorem d_Mo_element_490 : decode prog_8_method_29_code 490 = .ok (.iload 5, 2) := by decide +kernel
theorem d_Mo_element_492 : decode prog_8_method_29_code 492 = .ok (.iload_n 2, 1) := by decide +kernel
theorem d_Mo_element_493 : decode prog_8_method_29_code 493 = .ok (.iload_n 3, 1) := by decide +kernel
theorem d_Mo_element_494 : decode prog_8_method_29_code 494 = .ok (.invokevirtual 111, 3) := by decide +kernel
theorem d_Mo_element_497 : decode prog_8_method_29_code 497 = .ok (.invokevirtual 145, 3) := by decide +kernel
theorem d_Mo_element_500 : decode prog_8_method_29_code 500 = .ok (.dreturn, 1) := by decide +kernel
theorem d_Mo_at_0 : decode prog_8_method_18_code 0 = .ok (.aload_n 0, 1) := by decide +kernel
theorem d_Mo_at_1 : decode prog_8_method_18_code 1 = .ok (.getfield 25, 3) := by decide +kernel
theorem d_Mo_at_4 : decode prog_8_method_18_code 4 = .ok (.iload_n 1, 1) := by decide +kernel
theorem d_Mo_at_5 : decode prog_8_method_18_code 5 = .ok (.bipush 16, 2) := by decide +kernel
theorem d_Mo_at_7 : decode prog_8_method_18_code 7 = .ok (.imul, 1) := by decide +kernel
theorem d_Mo_at_8 : decode prog_8_method_18_code 8 = .ok (.aload_n 0, 1) := by decide +kernel
theorem d_Mo_at_9 : decode prog_8_method_18_code 9 = .ok (.getfield 16, 3) := by decide +kernel
theorem d_Mo_at_12 : decode prog_8_method_18_code 12 = .ok (.iload_n 1, 1) := by decide +kernel
theorem d_Mo_at_13 : decode prog_8_method_18_code 13 = .ok (.iaload, 1) := by decide +kernel
theorem d_Mo_at_14 : decode prog_8_method_18_code 14 = .ok (.iconst 1, 1) := by decide +kernel
theorem d_Mo_at_15 : decode prog_8_method_18_code 15 = .ok (.if_icmp .ne 7, 3) := by decide +kernel
theorem d_Mo_at_18 : decode prog_8_method_18_code 18 = .ok (.iconst 0, 1) := by decide +kernel
theorem d_Mo_at_19 : decode prog_8_method_18_code 19 = .ok (.goto 4, 3) := by decide +kernel
theorem d_Mo_at_22 : decode prog_8_method_18_code 22 = .ok (.iload_n 2, 1) := by decide +kernel
theorem d_Mo_at_23 : decode prog_8_method_18_code 23 = .ok (.iconst 4, 1) := by decide +kernel
theorem d_Mo_at_24 : decode prog_8_method_18_code 24 = .ok (.imul, 1) := by decide +kernel
theorem d_Mo_at_25 : decode prog_8_method_18_code 25 = .ok (.iadd, 1) := by decide +kernel
theorem d_Mo_at_26 : decode prog_8_method_18_code 26 = .ok (.aload_n 0, 1) := by decide +kernel
theorem d_Mo_at_27 : decode prog_8_method_18_code 27 = .ok (.getfield 19, 3) := by decide +kernel
theorem d_Mo_at_30 : decode prog_8_method_18_code 30 = .ok (.iload_n 1, 1) := by decide +kernel
theorem d_Mo_at_31 : decode prog_8_method_18_code 31 = .ok (.iaload, 1) := by decide +kernel
theorem d_Mo_at_32 : decode prog_8_method_18_code 32 = .ok (.iconst 1, 1) := by decide +kernel
theorem d_Mo_at_33 : decode prog_8_method_18_code 33 = .ok (.if_icmp .ne 7, 3) := by decide +kernel
theorem d_Mo_at_36 : decode prog_8_method_18_code 36 = .ok (.iconst 0, 1) := by decide +kernel
theorem d_Mo_at_37 : decode prog_8_method_18_code 37 = .ok (.goto 4, 3) := by decide +kernel
theorem d_Mo_at_40 : decode prog_8_method_18_code 40 = .ok (.iload_n 3, 1) := by decide +kernel
theorem d_Mo_at_41 : decode prog_8_method_18_code 41 = .ok (.iadd, 1) := by decide +kernel
theorem d_Mo_at_42 : decode prog_8_method_18_code 42 = .ok (.daload, 1) := by decide +kernel
theorem d_Mo_at_43 : decode prog_8_method_18_code 43 = .ok (.dreturn, 1) := by decide +kernel
theorem d_Mo_plain_0 : decode prog_8_method_19_code 0 = .ok (.iload 6, 2) := by decide +kernel
theorem d_Mo_plain_2 : decode prog_8_method_19_code 2 = .ok (.ifCond .eq 84, 3) := by decide +kernel
theorem d_Mo_plain_5 : decode prog_8_method_19_code 5 = .ok (.dload_n 2, 1) := by decide +kernel
theorem d_Mo_plain_6 : decode prog_8_method_19_code 6 = .ok (.d2i, 1) := by decide +kernel
theorem d_Mo_plain_7 : decode prog_8_method_19_code 7 = .ok (.istore 7, 2) := by decide +kernel
theorem d_Mo_plain_9 : decode prog_8_method_19_code 9 = .ok (.dload 4, 2) := by decide +kernel
theorem d_Mo_plain_11 : decode prog_8_method_19_code 11 = .ok (.d2i, 1) := by decide +kernel
theorem d_Mo_plain_12 : decode prog_8_method_19_code 12 = .ok (.istore 8, 2) := by decide +kernel
theorem d_Mo_plain_14 : decode prog_8_method_19_code 14 = .ok (.iload_n 1, 1) := by decide +kernel
theorem d_Mo_plain_15 : decode prog_8_method_19_code 15 = .ok (.iconst 3, 1) := by decide +kernel
theorem d_Mo_plain_16 : decode prog_8_method_19_code 16 = .ok (.if_icmp .ne 13, 3) := by decide +kernel
theorem d_Mo_plain_19 : decode prog_8_method_19_code 19 = .ok (.iload 8, 2) := by decide +kernel
theorem d_Mo_plain_21 : decode prog_8_method_19_code 21 = .ok (.ifCond .ne 8, 3) := by decide +kernel
theorem d_Mo_plain_24 : decode prog_8_method_19_code 24 = .ok (.aload_n 0, 1) := by decide +kernel
theorem d_Mo_plain_25 : decode prog_8_method_19_code 25 = .ok (.iconst 3, 1) := by decide +kernel
theorem d_Mo_plain_26 : decode prog_8_method_19_code 26 = .ok (.invokevirtual 104, 3) := by decide +kernel
theorem d_Mo_plain_29 : decode prog_8_method_19_code 29 = .ok (.iload_n 1, 1) := by decide +kernel
theorem d_Mo_plain_30 : decode prog_8_method_19_code 30 = .ok (.ifCond .ne 12, 3) := by decide +kernel
theorem d_Mo_plain_33 : decode prog_8_method_19_code 33 = .ok (.iload 7, 2) := by decide +kernel
theorem d_Mo_plain_35 : decode prog_8_method_19_code 35 = .ok (.iload 8, 2) := by decide +kernel
theorem d_Mo_plain_37 : decode prog_8_method_19_code 37 = .ok (.iadd, 1) := by decide +kernel
theorem d_Mo_plain_38 : decode prog_8_method_19_code 38 = .ok (.i2d, 1) := by decide +kernel
theorem d_Mo_plain_39 : decode prog_8_method_19_code 39 = .ok (.goto 46, 3) := by decide +kernel
theorem d_Mo_plain_42 : decode prog_8_method_19_code 42 = .ok (.iload_n 1, 1) := by decide +kernel
theorem d_Mo_plain_43 : decode prog_8_method_19_code 43 = .ok (.iconst 1, 1) := by decide +kernel
theorem d_Mo_plain_44 : decode prog_8_method_19_code 44 = .ok (.if_icmp .ne 12, 3) := by decide +kernel
theorem d_Mo_plain_47 : decode prog_8_method_19_code 47 = .ok (.iload 7, 2) := by decide +kernel
theorem d_Mo_plain_49 : decode prog_8_method_19_code 49 = .ok (.iload 8, 2) := by decide +kernel
theorem d_Mo_plain_51 : decode prog_8_method_19_code 51 = .ok (.isub, 1) := by decide +kernel
theorem d_Mo_plain_52 : decode prog_8_method_19_code 52 = .ok (.i2d, 1) := by decide +kernel
theorem d_Mo_plain_53 : decode prog_8_method_19_code 53 = .ok (.goto 32, 3) := by decide +kernel
theorem d_Mo_plain_56 : decode prog_8_method_19_code 56 = .ok (.iload_n 1, 1) := by decide +kernel
theorem d_Mo_plain_57 : decode prog_8_method_19_code 57 = .ok (.iconst 2, 1) := by decide +kernel
theorem d_Mo_plain_58 : decode prog_8_method_19_code 58 = .ok (.if_icmp .ne 12, 3) := by decide +kernel
theorem d_Mo_plain_61 : decode prog_8_method_19_code 61 = .ok (.iload 7, 2) := by decide +kernel
theorem d_Mo_plain_63 : decode prog_8_method_19_code 63 = .ok (.iload 8, 2) := by decide +kernel
theorem d_Mo_plain_65 : decode prog_8_method_19_code 65 = .ok (.imul, 1) := by decide +kernel
theorem d_Mo_plain_66 : decode prog_8_method_19_code 66 = .ok (.i2d, 1) := by decide +kernel
theorem d_Mo_plain_67 : decode prog_8_method_19_code 67 = .ok (.goto 18, 3) := by decide +kernel
theorem d_Mo_plain_70 : decode prog_8_method_19_code 70 = .ok (.iload 8, 2) := by decide +kernel
theorem d_Mo_plain_72 : decode prog_8_method_19_code 72 = .ok (.ifCond .ne 7, 3) := by decide +kernel
theorem d_Mo_plain_75 : decode prog_8_method_19_code 75 = .ok (.dconst 0, 1) := by decide +kernel
theorem d_Mo_plain_76 : decode prog_8_method_19_code 76 = .ok (.goto 9, 3) := by decide +kernel
theorem d_Mo_plain_79 : decode prog_8_method_19_code 79 = .ok (.iload 7, 2) := by decide +kernel
theorem d_Mo_plain_81 : decode prog_8_method_19_code 81 = .ok (.iload 8, 2) := by decide +kernel
theorem d_Mo_plain_83 : decode prog_8_method_19_code 83 = .ok (.idiv, 1) := by decide +kernel
theorem d_Mo_plain_84 : decode prog_8_method_19_code 84 = .ok (.i2d, 1) := by decide +kernel
theorem d_Mo_plain_85 : decode prog_8_method_19_code 85 = .ok (.dreturn, 1) := by decide +kernel
theorem d_Mo_plain_86 : decode prog_8_method_19_code 86 = .ok (.iload_n 1, 1) := by decide +kernel
theorem d_Mo_plain_87 : decode prog_8_method_19_code 87 = .ok (.iconst 3, 1) := by decide +kernel
theorem d_Mo_plain_88 : decode prog_8_method_19_code 88 = .ok (.if_icmp .ne 15, 3) := by decide +kernel
theorem d_Mo_plain_91 : decode prog_8_method_19_code 91 = .ok (.dload 4, 2) := by decide +kernel
theorem d_Mo_plain_93 : decode prog_8_method_19_code 93 = .ok (.dconst 0, 1) := by decide +kernel
theorem d_Mo_plain_94 : decode prog_8_method_19_code 94 = .ok (.dcmp .l, 1) := by decide +kernel
theorem d_Mo_plain_95 : decode prog_8_method_19_code 95 = .ok (.ifCond .ne 8, 3) := by decide +kernel
theorem d_Mo_plain_98 : decode prog_8_method_19_code 98 = .ok (.aload_n 0, 1) := by decide +kernel
theorem d_Mo_plain_99 : decode prog_8_method_19_code 99 = .ok (.iconst 3, 1) := by decide +kernel
theorem d_Mo_plain_100 : decode prog_8_method_19_code 100 = .ok (.invokevirtual 104, 3) := by decide +kernel
theorem d_Mo_plain_103 : decode prog_8_method_19_code 103 = .ok (.iload_n 1, 1) := by decide +kernel
theorem d_Mo_plain_104 : decode prog_8_method_19_code 104 = .ok (.ifCond .ne 10, 3) := by decide +kernel
theorem d_Mo_plain_107 : decode prog_8_method_19_code 107 = .ok (.dload_n 2, 1) := by decide +kernel
theorem d_Mo_plain_108 : decode prog_8_method_19_code 108 = .ok (.dload 4, 2) := by decide +kernel
theorem d_Mo_plain_110 : decode prog_8_method_19_code 110 = .ok (.dadd, 1) := by decide +kernel
theorem d_Mo_plain_111 : decode prog_8_method_19_code 111 = .ok (.goto 42, 3) := by decide +kernel
theorem d_Mo_plain_114 : decode prog_8_method_19_code 114 = .ok (.iload_n 1, 1) := by decide +kernel
theorem d_Mo_plain_115 : decode prog_8_method_19_code 115 = .ok (.iconst 1, 1) := by decide +kernel
theorem d_Mo_plain_116 : decode prog_8_method_19_code 116 = .ok (.if_icmp .ne 10, 3) := by decide +kernel
theorem d_Mo_plain_119 : decode prog_8_method_19_code 119 = .ok (.dload_n 2, 1) := by decide +kernel
theorem d_Mo_plain_120 : decode prog_8_method_19_code 120 = .ok (.dload 4, 2) := by decide +kernel
theorem d_Mo_plain_122 : decode prog_8_method_19_code 122 = .ok (.dsub, 1) := by decide +kernel
theorem d_Mo_plain_123 : decode prog_8_method_19_code 123 = .ok (.goto 30, 3) := by decide +kernel
theorem d_Mo_plain_126 : decode prog_8_method_19_code 126 = .ok (.iload_n 1, 1) := by decide +kernel
theorem d_Mo_plain_127 : decode prog_8_method_19_code 127 = .ok (.iconst 2, 1) := by decide +kernel
theorem d_Mo_plain_128 : decode prog_8_method_19_code 128 = .ok (.if_icmp .ne 10, 3) := by decide +kernel
theorem d_Mo_plain_131 : decode prog_8_method_19_code 131 = .ok (.dload_n 2, 1) := by decide +kernel
theorem d_Mo_plain_132 : decode prog_8_method_19_code 132 = .ok (.dload 4, 2) := by decide +kernel
theorem d_Mo_plain_134 : decode prog_8_method_19_code 134 = .ok (.dmul, 1) := by decide +kernel
theorem d_Mo_plain_135 : decode prog_8_method_19_code 135 = .ok (.goto 18, 3) := by decide +kernel
theorem d_Mo_plain_138 : decode prog_8_method_19_code 138 = .ok (.dload 4, 2) := by decide +kernel
theorem d_Mo_plain_140 : decode prog_8_method_19_code 140 = .ok (.dconst 0, 1) := by decide +kernel
theorem d_Mo_plain_141 : decode prog_8_method_19_code 141 = .ok (.dcmp .l, 1) := by decide +kernel
theorem d_Mo_plain_142 : decode prog_8_method_19_code 142 = .ok (.ifCond .ne 7, 3) := by decide +kernel
theorem d_Mo_plain_145 : decode prog_8_method_19_code 145 = .ok (.dconst 0, 1) := by decide +kernel
theorem d_Mo_plain_146 : decode prog_8_method_19_code 146 = .ok (.goto 7, 3) := by decide +kernel
theorem d_Mo_plain_149 : decode prog_8_method_19_code 149 = .ok (.dload_n 2, 1) := by decide +kernel
theorem d_Mo_plain_150 : decode prog_8_method_19_code 150 = .ok (.dload 4, 2) := by decide +kernel
theorem d_Mo_plain_152 : decode prog_8_method_19_code 152 = .ok (.ddiv, 1) := by decide +kernel
theorem d_Mo_plain_153 : decode prog_8_method_19_code 153 = .ok (.dreturn, 1) := by decide +kernel
theorem d_Mo_trouble_0 : decode prog_8_method_20_code 0 = .ok (.aload_n 0, 1) := by decide +kernel
theorem d_Mo_trouble_1 : decode prog_8_method_20_code 1 = .ok (.getfield 108, 3) := by decide +kernel
theorem d_Mo_trouble_4 : decode prog_8_method_20_code 4 = .ok (.ifCond .ne 8, 3) := by decide +kernel
theorem d_Mo_trouble_7 : decode prog_8_method_20_code 7 = .ok (.aload_n 0, 1) := by decide +kernel
theorem d_Mo_trouble_8 : decode prog_8_method_20_code 8 = .ok (.iload_n 1, 1) := by decide +kernel
theorem d_Mo_trouble_9 : decode prog_8_method_20_code 9 = .ok (.putfield 108, 3) := by decide +kernel
theorem d_Mo_trouble_12 : decode prog_8_method_20_code 12 = .ok (.return_, 1) := by decide +kernel
theorem d_Mo_product_0 : decode prog_8_method_24_code 0 = .ok (.dconst 0, 1) := by decide +kernel
theorem d_Mo_product_1 : decode prog_8_method_24_code 1 = .ok (.dstore 5, 2) := by decide +kernel
theorem d_Mo_product_3 : decode prog_8_method_24_code 3 = .ok (.iconst 0, 1) := by decide +kernel
theorem d_Mo_product_4 : decode prog_8_method_24_code 4 = .ok (.istore 7, 2) := by decide +kernel
theorem d_Mo_product_6 : decode prog_8_method_24_code 6 = .ok (.iload 7, 2) := by decide +kernel
theorem d_Mo_product_8 : decode prog_8_method_24_code 8 = .ok (.aload_n 0, 1) := by decide +kernel
theorem d_Mo_product_9 : decode prog_8_method_24_code 9 = .ok (.getfield 19, 3) := by decide +kernel
theorem d_Mo_product_12 : decode prog_8_method_24_code 12 = .ok (.iload_n 1, 1) := by decide +kernel
theorem d_Mo_product_13 : decode prog_8_method_24_code 13 = .ok (.iaload, 1) := by decide +kernel
theorem d_Mo_product_14 : decode prog_8_method_24_code 14 = .ok (.if_icmp .ge 48, 3) := by decide +kernel
theorem d_Mo_product_17 : decode prog_8_method_24_code 17 = .ok (.dload 5, 2) := by decide +kernel
theorem d_Mo_product_19 : decode prog_8_method_24_code 19 = .ok (.aload_n 0, 1) := by decide +kernel
theorem d_Mo_product_20 : decode prog_8_method_24_code 20 = .ok (.getfield 25, 3) := by decide +kernel
theorem d_Mo_product_23 : decode prog_8_method_24_code 23 = .ok (.iload_n 1, 1) := by decide +kernel
theorem d_Mo_product_24 : decode prog_8_method_24_code 24 = .ok (.bipush 16, 2) := by decide +kernel
theorem d_Mo_product_26 : decode prog_8_method_24_code 26 = .ok (.imul, 1) := by decide +kernel
theorem d_Mo_product_27 : decode prog_8_method_24_code 27 = .ok (.iload_n 3, 1) := by decide +kernel
theorem d_Mo_product_28 : decode prog_8_method_24_code 28 = .ok (.iconst 4, 1) := by decide +kernel
theorem d_Mo_product_29 : decode prog_8_method_24_code 29 = .ok (.imul, 1) := by decide +kernel
theorem d_Mo_product_30 : decode prog_8_method_24_code 30 = .ok (.iadd, 1) := by decide +kernel
theorem d_Mo_product_31 : decode prog_8_method_24_code 31 = .ok (.iload 7, 2) := by decide +kernel
theorem d_Mo_product_33 : decode prog_8_method_24_code 33 = .ok (.iadd, 1) := by decide +kernel
end
section
theorem d_Mo_product_34 : decode prog_8_method_24_code 34 = .ok (.daload, 1) := by decide +kernel
theorem d_Mo_product_35 : decode prog_8_method_24_code 35 = .ok (.aload_n 0, 1) := by decide +kernel
theorem d_Mo_product_36 : decode prog_8_method_24_code 36 = .ok (.getfield 25, 3) := by decide +kernel
theorem d_Mo_product_39 : decode prog_8_method_24_code 39 = .ok (.iload_n 2, 1) := by decide +kernel
theorem d_Mo_product_40 : decode prog_8_method_24_code 40 = .ok (.bipush 16, 2) := by decide +kernel
theorem d_Mo_product_42 : decode prog_8_method_24_code 42 = .ok (.imul, 1) := by decide +kernel
theorem d_Mo_product_43 : decode prog_8_method_24_code 43 = .ok (.iload 7, 2) := by decide +kernel
theorem d_Mo_product_45 : decode prog_8_method_24_code 45 = .ok (.iconst 4, 1) := by decide +kernel
theorem d_Mo_product_46 : decode prog_8_method_24_code 46 = .ok (.imul, 1) := by decide +kernel
theorem d_Mo_product_47 : decode prog_8_method_24_code 47 = .ok (.iadd, 1) := by decide +kernel
theorem d_Mo_product_48 : decode prog_8_method_24_code 48 = .ok (.iload 4, 2) := by decide +kernel
theorem d_Mo_product_50 : decode prog_8_method_24_code 50 = .ok (.iadd, 1) := by decide +kernel
theorem d_Mo_product_51 : decode prog_8_method_24_code 51 = .ok (.daload, 1) := by decide +kernel
theorem d_Mo_product_52 : decode prog_8_method_24_code 52 = .ok (.dmul, 1) := by decide +kernel
theorem d_Mo_product_53 : decode prog_8_method_24_code 53 = .ok (.dadd, 1) := by decide +kernel
theorem d_Mo_product_54 : decode prog_8_method_24_code 54 = .ok (.dstore 5, 2) := by decide +kernel
theorem d_Mo_product_56 : decode prog_8_method_24_code 56 = .ok (.iinc 7 1, 3) := by decide +kernel
theorem d_Mo_product_59 : decode prog_8_method_24_code 59 = .ok (.goto (-53), 3) := by decide +kernel
theorem d_Mo_product_62 : decode prog_8_method_24_code 62 = .ok (.dload 5, 2) := by decide +kernel
theorem d_Mo_product_64 : decode prog_8_method_24_code 64 = .ok (.dreturn, 1) := by decide +kernel
theorem d_Mo_cast_0 : decode prog_8_method_27_code 0 = .ok (.aload_n 0, 1) := by decide +kernel
theorem d_Mo_cast_1 : decode prog_8_method_27_code 1 = .ok (.getfield 35, 3) := by decide +kernel
theorem d_Mo_cast_4 : decode prog_8_method_27_code 4 = .ok (.iload_n 1, 1) := by decide +kernel
theorem d_Mo_cast_5 : decode prog_8_method_27_code 5 = .ok (.iaload, 1) := by decide +kernel
theorem d_Mo_cast_6 : decode prog_8_method_27_code 6 = .ok (.iconst 1, 1) := by decide +kernel
theorem d_Mo_cast_7 : decode prog_8_method_27_code 7 = .ok (.if_icmp .ne 9, 3) := by decide +kernel
theorem d_Mo_cast_10 : decode prog_8_method_27_code 10 = .ok (.dload_n 2, 1) := by decide +kernel
theorem d_Mo_cast_11 : decode prog_8_method_27_code 11 = .ok (.d2i, 1) := by decide +kernel
theorem d_Mo_cast_12 : decode prog_8_method_27_code 12 = .ok (.i2d, 1) := by decide +kernel
theorem d_Mo_cast_13 : decode prog_8_method_27_code 13 = .ok (.goto 4, 3) := by decide +kernel
theorem d_Mo_cast_16 : decode prog_8_method_27_code 16 = .ok (.dload_n 2, 1) := by decide +kernel
theorem d_Mo_cast_17 : decode prog_8_method_27_code 17 = .ok (.dreturn, 1) := by decide +kernel
theorem d_Mo_total_0 : decode prog_8_method_21_code 0 = .ok (.iload 4, 2) := by decide +kernel
theorem d_Mo_total_2 : decode prog_8_method_21_code 2 = .ok (.ifCond .eq 12, 3) := by decide +kernel
theorem d_Mo_total_5 : decode prog_8_method_21_code 5 = .ok (.aload_n 0, 1) := by decide +kernel
theorem d_Mo_total_6 : decode prog_8_method_21_code 6 = .ok (.getfield 16, 3) := by decide +kernel
theorem d_Mo_total_9 : decode prog_8_method_21_code 9 = .ok (.iload_n 1, 1) := by decide +kernel
theorem d_Mo_total_10 : decode prog_8_method_21_code 10 = .ok (.iaload, 1) := by decide +kernel
theorem d_Mo_total_11 : decode prog_8_method_21_code 11 = .ok (.goto 9, 3) := by decide +kernel
theorem d_Mo_total_14 : decode prog_8_method_21_code 14 = .ok (.aload_n 0, 1) := by decide +kernel
theorem d_Mo_total_15 : decode prog_8_method_21_code 15 = .ok (.getfield 19, 3) := by decide +kernel
theorem d_Mo_total_18 : decode prog_8_method_21_code 18 = .ok (.iload_n 1, 1) := by decide +kernel
theorem d_Mo_total_19 : decode prog_8_method_21_code 19 = .ok (.iaload, 1) := by decide +kernel
theorem d_Mo_total_20 : decode prog_8_method_21_code 20 = .ok (.istore 5, 2) := by decide +kernel
theorem d_Mo_total_22 : decode prog_8_method_21_code 22 = .ok (.dconst 0, 1) := by decide +kernel
theorem d_Mo_total_23 : decode prog_8_method_21_code 23 = .ok (.dstore 6, 2) := by decide +kernel
theorem d_Mo_total_25 : decode prog_8_method_21_code 25 = .ok (.iconst 0, 1) := by decide +kernel
theorem d_Mo_total_26 : decode prog_8_method_21_code 26 = .ok (.istore 8, 2) := by decide +kernel
theorem d_Mo_total_28 : decode prog_8_method_21_code 28 = .ok (.iload 8, 2) := by decide +kernel
theorem d_Mo_total_30 : decode prog_8_method_21_code 30 = .ok (.iload 5, 2) := by decide +kernel
theorem d_Mo_total_32 : decode prog_8_method_21_code 32 = .ok (.if_icmp .ge 65, 3) := by decide +kernel
theorem d_Mo_total_35 : decode prog_8_method_21_code 35 = .ok (.iload 4, 2) := by decide +kernel
theorem d_Mo_total_37 : decode prog_8_method_21_code 37 = .ok (.ifCond .eq 14, 3) := by decide +kernel
theorem d_Mo_total_40 : decode prog_8_method_21_code 40 = .ok (.aload_n 0, 1) := by decide +kernel
theorem d_Mo_total_41 : decode prog_8_method_21_code 41 = .ok (.iload_n 1, 1) := by decide +kernel
theorem d_Mo_total_42 : decode prog_8_method_21_code 42 = .ok (.iload 8, 2) := by decide +kernel
theorem d_Mo_total_44 : decode prog_8_method_21_code 44 = .ok (.iload_n 3, 1) := by decide +kernel
theorem d_Mo_total_45 : decode prog_8_method_21_code 45 = .ok (.invokevirtual 111, 3) := by decide +kernel
theorem d_Mo_total_48 : decode prog_8_method_21_code 48 = .ok (.goto 11, 3) := by decide +kernel
theorem d_Mo_total_51 : decode prog_8_method_21_code 51 = .ok (.aload_n 0, 1) := by decide +kernel
theorem d_Mo_total_52 : decode prog_8_method_21_code 52 = .ok (.iload_n 1, 1) := by decide +kernel
theorem d_Mo_total_53 : decode prog_8_method_21_code 53 = .ok (.iload_n 2, 1) := by decide +kernel
theorem d_Mo_total_54 : decode prog_8_method_21_code 54 = .ok (.iload 8, 2) := by decide +kernel
theorem d_Mo_total_56 : decode prog_8_method_21_code 56 = .ok (.invokevirtual 111, 3) := by decide +kernel
theorem d_Mo_total_59 : decode prog_8_method_21_code 59 = .ok (.dstore 9, 2) := by decide +kernel
theorem d_Mo_total_61 : decode prog_8_method_21_code 61 = .ok (.aload_n 0, 1) := by decide +kernel
theorem d_Mo_total_62 : decode prog_8_method_21_code 62 = .ok (.getfield 13, 3) := by decide +kernel
theorem d_Mo_total_65 : decode prog_8_method_21_code 65 = .ok (.iload_n 1, 1) := by decide +kernel
theorem d_Mo_total_66 : decode prog_8_method_21_code 66 = .ok (.iaload, 1) := by decide +kernel
theorem d_Mo_total_67 : decode prog_8_method_21_code 67 = .ok (.iconst 1, 1) := by decide +kernel
theorem d_Mo_total_68 : decode prog_8_method_21_code 68 = .ok (.if_icmp .ne 16, 3) := by decide +kernel
theorem d_Mo_total_71 : decode prog_8_method_21_code 71 = .ok (.dload 6, 2) := by decide +kernel
theorem d_Mo_total_73 : decode prog_8_method_21_code 73 = .ok (.d2i, 1) := by decide +kernel
theorem d_Mo_total_74 : decode prog_8_method_21_code 74 = .ok (.dload 9, 2) := by decide +kernel
theorem d_Mo_total_76 : decode prog_8_method_21_code 76 = .ok (.d2i, 1) := by decide +kernel
theorem d_Mo_total_77 : decode prog_8_method_21_code 77 = .ok (.iadd, 1) := by decide +kernel
theorem d_Mo_total_78 : decode prog_8_method_21_code 78 = .ok (.i2d, 1) := by decide +kernel
theorem d_Mo_total_79 : decode prog_8_method_21_code 79 = .ok (.dstore 6, 2) := by decide +kernel
theorem d_Mo_total_81 : decode prog_8_method_21_code 81 = .ok (.goto 10, 3) := by decide +kernel
theorem d_Mo_total_84 : decode prog_8_method_21_code 84 = .ok (.dload 6, 2) := by decide +kernel
theorem d_Mo_total_86 : decode prog_8_method_21_code 86 = .ok (.dload 9, 2) := by decide +kernel
theorem d_Mo_total_88 : decode prog_8_method_21_code 88 = .ok (.dadd, 1) := by decide +kernel
theorem d_Mo_total_89 : decode prog_8_method_21_code 89 = .ok (.dstore 6, 2) := by decide +kernel
theorem d_Mo_total_91 : decode prog_8_method_21_code 91 = .ok (.iinc 8 1, 3) := by decide +kernel
theorem d_Mo_total_94 : decode prog_8_method_21_code 94 = .ok (.goto (-66), 3) := by decide +kernel
theorem d_Mo_total_97 : decode prog_8_method_21_code 97 = .ok (.dload 6, 2) := by decide +kernel
theorem d_Mo_total_99 : decode prog_8_method_21_code 99 = .ok (.dreturn, 1) := by decide +kernel
theorem d_Mo_first_0 : decode prog_8_method_22_code 0 = .ok (.iload 4, 2) := by decide +kernel
theorem d_Mo_first_2 : decode prog_8_method_22_code 2 = .ok (.ifCond .eq 12, 3) := by decide +kernel
theorem d_Mo_first_5 : decode prog_8_method_22_code 5 = .ok (.aload_n 0, 1) := by decide +kernel
theorem d_Mo_first_6 : decode prog_8_method_22_code 6 = .ok (.getfield 16, 3) := by decide +kernel
theorem d_Mo_first_9 : decode prog_8_method_22_code 9 = .ok (.iload_n 1, 1) := by decide +kernel
theorem d_Mo_first_10 : decode prog_8_method_22_code 10 = .ok (.iaload, 1) := by decide +kernel
theorem d_Mo_first_11 : decode prog_8_method_22_code 11 = .ok (.goto 9, 3) := by decide +kernel
theorem d_Mo_first_14 : decode prog_8_method_22_code 14 = .ok (.aload_n 0, 1) := by decide +kernel
theorem d_Mo_first_15 : decode prog_8_method_22_code 15 = .ok (.getfield 19, 3) := by decide +kernel
theorem d_Mo_first_18 : decode prog_8_method_22_code 18 = .ok (.iload_n 1, 1) := by decide +kernel
theorem d_Mo_first_19 : decode prog_8_method_22_code 19 = .ok (.iaload, 1) := by decide +kernel
theorem d_Mo_first_20 : decode prog_8_method_22_code 20 = .ok (.istore 5, 2) := by decide +kernel
theorem d_Mo_first_22 : decode prog_8_method_22_code 22 = .ok (.iconst 0, 1) := by decide +kernel
theorem d_Mo_first_23 : decode prog_8_method_22_code 23 = .ok (.istore 6, 2) := by decide +kernel
theorem d_Mo_first_25 : decode prog_8_method_22_code 25 = .ok (.iconst 1, 1) := by decide +kernel
theorem d_Mo_first_26 : decode prog_8_method_22_code 26 = .ok (.istore 7, 2) := by decide +kernel
theorem d_Mo_first_28 : decode prog_8_method_22_code 28 = .ok (.iload 7, 2) := by decide +kernel
theorem d_Mo_first_30 : decode prog_8_method_22_code 30 = .ok (.iload 5, 2) := by decide +kernel
theorem d_Mo_first_32 : decode prog_8_method_22_code 32 = .ok (.if_icmp .ge 61, 3) := by decide +kernel
theorem d_Mo_first_35 : decode prog_8_method_22_code 35 = .ok (.iload 4, 2) := by decide +kernel
theorem d_Mo_first_37 : decode prog_8_method_22_code 37 = .ok (.ifCond .eq 26, 3) := by decide +kernel
theorem d_Mo_first_40 : decode prog_8_method_22_code 40 = .ok (.aload_n 0, 1) := by decide +kernel
theorem d_Mo_first_41 : decode prog_8_method_22_code 41 = .ok (.iload_n 1, 1) := by decide +kernel
theorem d_Mo_first_42 : decode prog_8_method_22_code 42 = .ok (.iload 7, 2) := by decide +kernel
theorem d_Mo_first_44 : decode prog_8_method_22_code 44 = .ok (.iload_n 3, 1) := by decide +kernel
theorem d_Mo_first_45 : decode prog_8_method_22_code 45 = .ok (.invokevirtual 111, 3) := by decide +kernel
theorem d_Mo_first_48 : decode prog_8_method_22_code 48 = .ok (.aload_n 0, 1) := by decide +kernel
theorem d_Mo_first_49 : decode prog_8_method_22_code 49 = .ok (.iload_n 1, 1) := by decide +kernel
theorem d_Mo_first_50 : decode prog_8_method_22_code 50 = .ok (.iload 6, 2) := by decide +kernel
theorem d_Mo_first_52 : decode prog_8_method_22_code 52 = .ok (.iload_n 3, 1) := by decide +kernel
theorem d_Mo_first_53 : decode prog_8_method_22_code 53 = .ok (.invokevirtual 111, 3) := by decide +kernel
theorem d_Mo_first_56 : decode prog_8_method_22_code 56 = .ok (.dcmp .l, 1) := by decide +kernel
theorem d_Mo_first_57 : decode prog_8_method_22_code 57 = .ok (.ifCond .le 30, 3) := by decide +kernel
theorem d_Mo_first_60 : decode prog_8_method_22_code 60 = .ok (.goto 23, 3) := by decide +kernel
theorem d_Mo_first_63 : decode prog_8_method_22_code 63 = .ok (.aload_n 0, 1) := by decide +kernel
theorem d_Mo_first_64 : decode prog_8_method_22_code 64 = .ok (.iload_n 1, 1) := by decide +kernel
theorem d_Mo_first_65 : decode prog_8_method_22_code 65 = .ok (.iload_n 2, 1) := by decide +kernel
theorem d_Mo_first_66 : decode prog_8_method_22_code 66 = .ok (.iload 7, 2) := by decide +kernel
theorem d_Mo_first_68 : decode prog_8_method_22_code 68 = .ok (.invokevirtual 111, 3) := by decide +kernel
theorem d_Mo_first_71 : decode prog_8_method_22_code 71 = .ok (.aload_n 0, 1) := by decide +kernel
theorem d_Mo_first_72 : decode prog_8_method_22_code 72 = .ok (.iload_n 1, 1) := by decide +kernel
theorem d_Mo_first_73 : decode prog_8_method_22_code 73 = .ok (.iload_n 2, 1) := by decide +kernel
theorem d_Mo_first_74 : decode prog_8_method_22_code 74 = .ok (.iload 6, 2) := by decide +kernel
theorem d_Mo_first_76 : decode prog_8_method_22_code 76 = .ok (.invokevirtual 111, 3) := by decide +kernel
theorem d_Mo_first_79 : decode prog_8_method_22_code 79 = .ok (.dcmp .l, 1) := by decide +kernel
theorem d_Mo_first_80 : decode prog_8_method_22_code 80 = .ok (.ifCond .le 7, 3) := by decide +kernel
theorem d_Mo_first_83 : decode prog_8_method_22_code 83 = .ok (.iload 7, 2) := by decide +kernel
theorem d_Mo_first_85 : decode prog_8_method_22_code 85 = .ok (.istore 6, 2) := by decide +kernel
theorem d_Mo_first_87 : decode prog_8_method_22_code 87 = .ok (.iinc 7 1, 3) := by decide +kernel
theorem d_Mo_first_90 : decode prog_8_method_22_code 90 = .ok (.goto (-62), 3) := by decide +kernel
theorem d_Mo_first_93 : decode prog_8_method_22_code 93 = .ok (.iload 6, 2) := by decide +kernel
theorem d_Mo_first_95 : decode prog_8_method_22_code 95 = .ok (.ireturn, 1) := by decide +kernel
theorem d_Mo_joined_0 : decode prog_8_method_26_code 0 = .ok (.aload_n 0, 1) := by decide +kernel
theorem d_Mo_joined_1 : decode prog_8_method_26_code 1 = .ok (.getfield 35, 3) := by decide +kernel
theorem d_Mo_joined_4 : decode prog_8_method_26_code 4 = .ok (.iload_n 1, 1) := by decide +kernel
theorem d_Mo_joined_5 : decode prog_8_method_26_code 5 = .ok (.iaload, 1) := by decide +kernel
theorem d_Mo_joined_6 : decode prog_8_method_26_code 6 = .ok (.ifCond .ne 59, 3) := by decide +kernel
theorem d_Mo_joined_9 : decode prog_8_method_26_code 9 = .ok (.iload 4, 2) := by decide +kernel
theorem d_Mo_joined_11 : decode prog_8_method_26_code 11 = .ok (.aload_n 0, 1) := by decide +kernel
theorem d_Mo_joined_12 : decode prog_8_method_26_code 12 = .ok (.getfield 16, 3) := by decide +kernel
theorem d_Mo_joined_15 : decode prog_8_method_26_code 15 = .ok (.iload_n 2, 1) := by decide +kernel
theorem d_Mo_joined_16 : decode prog_8_method_26_code 16 = .ok (.iaload, 1) := by decide +kernel
theorem d_Mo_joined_17 : decode prog_8_method_26_code 17 = .ok (.if_icmp .ge 23, 3) := by decide +kernel
theorem d_Mo_joined_20 : decode prog_8_method_26_code 20 = .ok (.aload_n 0, 1) := by decide +kernel
theorem d_Mo_joined_21 : decode prog_8_method_26_code 21 = .ok (.getfield 25, 3) := by decide +kernel
theorem d_Mo_joined_24 : decode prog_8_method_26_code 24 = .ok (.iload_n 2, 1) := by decide +kernel
theorem d_Mo_joined_25 : decode prog_8_method_26_code 25 = .ok (.bipush 16, 2) := by decide +kernel
theorem d_Mo_joined_27 : decode prog_8_method_26_code 27 = .ok (.imul, 1) := by decide +kernel
theorem d_Mo_joined_28 : decode prog_8_method_26_code 28 = .ok (.iload 4, 2) := by decide +kernel
theorem d_Mo_joined_30 : decode prog_8_method_26_code 30 = .ok (.iconst 4, 1) := by decide +kernel
theorem d_Mo_joined_31 : decode prog_8_method_26_code 31 = .ok (.imul, 1) := by decide +kernel
theorem d_Mo_joined_32 : decode prog_8_method_26_code 32 = .ok (.iadd, 1) := by decide +kernel
theorem d_Mo_joined_33 : decode prog_8_method_26_code 33 = .ok (.iload 5, 2) := by decide +kernel
theorem d_Mo_joined_35 : decode prog_8_method_26_code 35 = .ok (.iadd, 1) := by decide +kernel
theorem d_Mo_joined_36 : decode prog_8_method_26_code 36 = .ok (.daload, 1) := by decide +kernel
theorem d_Mo_joined_37 : decode prog_8_method_26_code 37 = .ok (.goto 27, 3) := by decide +kernel
theorem d_Mo_joined_40 : decode prog_8_method_26_code 40 = .ok (.aload_n 0, 1) := by decide +kernel
theorem d_Mo_joined_41 : decode prog_8_method_26_code 41 = .ok (.getfield 25, 3) := by decide +kernel
theorem d_Mo_joined_44 : decode prog_8_method_26_code 44 = .ok (.iload_n 3, 1) := by decide +kernel
theorem d_Mo_joined_45 : decode prog_8_method_26_code 45 = .ok (.bipush 16, 2) := by decide +kernel
theorem d_Mo_joined_47 : decode prog_8_method_26_code 47 = .ok (.imul, 1) := by decide +kernel
theorem d_Mo_joined_48 : decode prog_8_method_26_code 48 = .ok (.iload 4, 2) := by decide +kernel
theorem d_Mo_joined_50 : decode prog_8_method_26_code 50 = .ok (.aload_n 0, 1) := by decide +kernel
theorem d_Mo_joined_51 : decode prog_8_method_26_code 51 = .ok (.getfield 16, 3) := by decide +kernel
theorem d_Mo_joined_54 : decode prog_8_method_26_code 54 = .ok (.iload_n 2, 1) := by decide +kernel
theorem d_Mo_joined_55 : decode prog_8_method_26_code 55 = .ok (.iaload, 1) := by decide +kernel
theorem d_Mo_joined_56 : decode prog_8_method_26_code 56 = .ok (.isub, 1) := by decide +kernel
theorem d_Mo_joined_57 : decode prog_8_method_26_code 57 = .ok (.iconst 4, 1) := by decide +kernel
theorem d_Mo_joined_58 : decode prog_8_method_26_code 58 = .ok (.imul, 1) := by decide +kernel
theorem d_Mo_joined_59 : decode prog_8_method_26_code 59 = .ok (.iadd, 1) := by decide +kernel
theorem d_Mo_joined_60 : decode prog_8_method_26_code 60 = .ok (.iload 5, 2) := by decide +kernel
theorem d_Mo_joined_62 : decode prog_8_method_26_code 62 = .ok (.iadd, 1) := by decide +kernel
theorem d_Mo_joined_63 : decode prog_8_method_26_code 63 = .ok (.daload, 1) := by decide +kernel
theorem d_Mo_joined_64 : decode prog_8_method_26_code 64 = .ok (.dreturn, 1) := by decide +kernel
theorem d_Mo_joined_65 : decode prog_8_method_26_code 65 = .ok (.iload 5, 2) := by decide +kernel
theorem d_Mo_joined_67 : decode prog_8_method_26_code 67 = .ok (.aload_n 0, 1) := by decide +kernel
theorem d_Mo_joined_68 : decode prog_8_method_26_code 68 = .ok (.getfield 19, 3) := by decide +kernel
theorem d_Mo_joined_71 : decode prog_8_method_26_code 71 = .ok (.iload_n 2, 1) := by decide +kernel
theorem d_Mo_joined_72 : decode prog_8_method_26_code 72 = .ok (.iaload, 1) := by decide +kernel
theorem d_Mo_joined_73 : decode prog_8_method_26_code 73 = .ok (.if_icmp .ge 23, 3) := by decide +kernel
theorem d_Mo_joined_76 : decode prog_8_method_26_code 76 = .ok (.aload_n 0, 1) := by decide +kernel
theorem d_Mo_joined_77 : decode prog_8_method_26_code 77 = .ok (.getfield 25, 3) := by decide +kernel
theorem d_Mo_joined_80 : decode prog_8_method_26_code 80 = .ok (.iload_n 2, 1) := by decide +kernel
theorem d_Mo_joined_81 : decode prog_8_method_26_code 81 = .ok (.bipush 16, 2) := by decide +kernel
theorem d_Mo_joined_83 : decode prog_8_method_26_code 83 = .ok (.imul, 1) := by decide +kernel
theorem d_Mo_joined_84 : decode prog_8_method_26_code 84 = .ok (.iload 4, 2) := by decide +kernel
theorem d_Mo_joined_86 : decode prog_8_method_26_code 86 = .ok (.iconst 4, 1) := by decide +kernel
theorem d_Mo_joined_87 : decode prog_8_method_26_code 87 = .ok (.imul, 1) := by decide +kernel
theorem d_Mo_joined_88 : decode prog_8_method_26_code 88 = .ok (.iadd, 1) := by decide +kernel
theorem d_Mo_joined_89 : decode prog_8_method_26_code 89 = .ok (.iload 5, 2) := by decide +kernel
theorem d_Mo_joined_91 : decode prog_8_method_26_code 91 = .ok (.iadd, 1) := by decide +kernel
theorem d_Mo_joined_92 : decode prog_8_method_26_code 92 = .ok (.daload, 1) := by decide +kernel
theorem d_Mo_joined_93 : decode prog_8_method_26_code 93 = .ok (.goto 27, 3) := by decide +kernel
theorem d_Mo_joined_96 : decode prog_8_method_26_code 96 = .ok (.aload_n 0, 1) := by decide +kernel
theorem d_Mo_joined_97 : decode prog_8_method_26_code 97 = .ok (.getfield 25, 3) := by decide +kernel
theorem d_Mo_joined_100 : decode prog_8_method_26_code 100 = .ok (.iload_n 3, 1) := by decide +kernel
theorem d_Mo_joined_101 : decode prog_8_method_26_code 101 = .ok (.bipush 16, 2) := by decide +kernel
theorem d_Mo_joined_103 : decode prog_8_method_26_code 103 = .ok (.imul, 1) := by decide +kernel
theorem d_Mo_joined_104 : decode prog_8_method_26_code 104 = .ok (.iload 4, 2) := by decide +kernel
theorem d_Mo_joined_106 : decode prog_8_method_26_code 106 = .ok (.iconst 4, 1) := by decide +kernel
theorem d_Mo_joined_107 : decode prog_8_method_26_code 107 = .ok (.imul, 1) := by decide +kernel
theorem d_Mo_joined_108 : decode prog_8_method_26_code 108 = .ok (.iadd, 1) := by decide +kernel
theorem d_Mo_joined_109 : decode prog_8_method_26_code 109 = .ok (.iload 5, 2) := by decide +kernel
theorem d_Mo_joined_111 : decode prog_8_method_26_code 111 = .ok (.iadd, 1) := by decide +kernel
theorem d_Mo_joined_112 : decode prog_8_method_26_code 112 = .ok (.aload_n 0, 1) := by decide +kernel
theorem d_Mo_joined_113 : decode prog_8_method_26_code 113 = .ok (.getfield 19, 3) := by decide +kernel
theorem d_Mo_joined_116 : decode prog_8_method_26_code 116 = .ok (.iload_n 2, 1) := by decide +kernel
theorem d_Mo_joined_117 : decode prog_8_method_26_code 117 = .ok (.iaload, 1) := by decide +kernel
theorem d_Mo_joined_118 : decode prog_8_method_26_code 118 = .ok (.isub, 1) := by decide +kernel
theorem d_Mo_joined_119 : decode prog_8_method_26_code 119 = .ok (.daload, 1) := by decide +kernel
theorem d_Mo_joined_120 : decode prog_8_method_26_code 120 = .ok (.dreturn, 1) := by decide +kernel
theorem d_Mo_picked_0 : decode prog_8_method_25_code 0 = .ok (.aload_n 0, 1) := by decide +kernel
theorem d_Mo_picked_1 : decode prog_8_method_25_code 1 = .ok (.getfield 25, 3) := by decide +kernel
theorem d_Mo_picked_4 : decode prog_8_method_25_code 4 = .ok (.iload_n 2, 1) := by decide +kernel
theorem d_Mo_picked_5 : decode prog_8_method_25_code 5 = .ok (.bipush 16, 2) := by decide +kernel
theorem d_Mo_picked_7 : decode prog_8_method_25_code 7 = .ok (.imul, 1) := by decide +kernel
theorem d_Mo_picked_8 : decode prog_8_method_25_code 8 = .ok (.iload_n 3, 1) := by decide +kernel
theorem d_Mo_picked_9 : decode prog_8_method_25_code 9 = .ok (.iadd, 1) := by decide +kernel
theorem d_Mo_picked_10 : decode prog_8_method_25_code 10 = .ok (.daload, 1) := by decide +kernel
theorem d_Mo_picked_11 : decode prog_8_method_25_code 11 = .ok (.d2i, 1) := by decide +kernel
theorem d_Mo_picked_12 : decode prog_8_method_25_code 12 = .ok (.istore 5, 2) := by decide +kernel
theorem d_Mo_picked_14 : decode prog_8_method_25_code 14 = .ok (.iload 5, 2) := by decide +kernel
theorem d_Mo_picked_16 : decode prog_8_method_25_code 16 = .ok (.ifCond .ge 14, 3) := by decide +kernel
theorem d_Mo_picked_19 : decode prog_8_method_25_code 19 = .ok (.iload 5, 2) := by decide +kernel
theorem d_Mo_picked_21 : decode prog_8_method_25_code 21 = .ok (.aload_n 0, 1) := by decide +kernel
theorem d_Mo_picked_22 : decode prog_8_method_25_code 22 = .ok (.getfield 16, 3) := by decide +kernel
theorem d_Mo_picked_25 : decode prog_8_method_25_code 25 = .ok (.iload_n 1, 1) := by decide +kernel
theorem d_Mo_picked_26 : decode prog_8_method_25_code 26 = .ok (.iaload, 1) := by decide +kernel
theorem d_Mo_picked_27 : decode prog_8_method_25_code 27 = .ok (.iadd, 1) := by decide +kernel
theorem d_Mo_picked_28 : decode prog_8_method_25_code 28 = .ok (.istore 5, 2) := by decide +kernel
theorem d_Mo_picked_30 : decode prog_8_method_25_code 30 = .ok (.iload 5, 2) := by decide +kernel
theorem d_Mo_picked_32 : decode prog_8_method_25_code 32 = .ok (.ifCond .lt 14, 3) := by decide +kernel
theorem d_Mo_picked_35 : decode prog_8_method_25_code 35 = .ok (.iload 5, 2) := by decide +kernel
theorem d_Mo_picked_37 : decode prog_8_method_25_code 37 = .ok (.aload_n 0, 1) := by decide +kernel
theorem d_Mo_picked_38 : decode prog_8_method_25_code 38 = .ok (.getfield 16, 3) := by decide +kernel
theorem d_Mo_picked_41 : decode prog_8_method_25_code 41 = .ok (.iload_n 1, 1) := by decide +kernel
theorem d_Mo_picked_42 : decode prog_8_method_25_code 42 = .ok (.iaload, 1) := by decide +kernel
theorem d_Mo_picked_43 : decode prog_8_method_25_code 43 = .ok (.if_icmp .lt 10, 3) := by decide +kernel
theorem d_Mo_picked_46 : decode prog_8_method_25_code 46 = .ok (.aload_n 0, 1) := by decide +kernel
theorem d_Mo_picked_47 : decode prog_8_method_25_code 47 = .ok (.iconst 4, 1) := by decide +kernel
theorem d_Mo_picked_48 : decode prog_8_method_25_code 48 = .ok (.invokevirtual 104, 3) := by decide +kernel
theorem d_Mo_picked_51 : decode prog_8_method_25_code 51 = .ok (.dconst 0, 1) := by decide +kernel
theorem d_Mo_picked_52 : decode prog_8_method_25_code 52 = .ok (.dreturn, 1) := by decide +kernel
theorem d_Mo_picked_53 : decode prog_8_method_25_code 53 = .ok (.aload_n 0, 1) := by decide +kernel
theorem d_Mo_picked_54 : decode prog_8_method_25_code 54 = .ok (.getfield 25, 3) := by decide +kernel
theorem d_Mo_picked_57 : decode prog_8_method_25_code 57 = .ok (.iload_n 1, 1) := by decide +kernel
theorem d_Mo_picked_58 : decode prog_8_method_25_code 58 = .ok (.bipush 16, 2) := by decide +kernel
theorem d_Mo_picked_60 : decode prog_8_method_25_code 60 = .ok (.imul, 1) := by decide +kernel
theorem d_Mo_picked_61 : decode prog_8_method_25_code 61 = .ok (.iload 5, 2) := by decide +kernel
theorem d_Mo_picked_63 : decode prog_8_method_25_code 63 = .ok (.iconst 4, 1) := by decide +kernel
theorem d_Mo_picked_64 : decode prog_8_method_25_code 64 = .ok (.imul, 1) := by decide +kernel
theorem d_Mo_picked_65 : decode prog_8_method_25_code 65 = .ok (.iadd, 1) := by decide +kernel
theorem d_Mo_picked_66 : decode prog_8_method_25_code 66 = .ok (.iload 4, 2) := by decide +kernel
theorem d_Mo_picked_68 : decode prog_8_method_25_code 68 = .ok (.iadd, 1) := by decide +kernel
theorem d_Mo_picked_69 : decode prog_8_method_25_code 69 = .ok (.daload, 1) := by decide +kernel
theorem d_Mo_picked_70 : decode prog_8_method_25_code 70 = .ok (.dreturn, 1) := by decide +kernel
theorem d_Mo_slid_0 : decode prog_8_method_23_code 0 = .ok (.dconst 0, 1) := by decide +kernel
theorem d_Mo_slid_1 : decode prog_8_method_23_code 1 = .ok (.dstore 6, 2) := by decide +kernel
theorem d_Mo_slid_3 : decode prog_8_method_23_code 3 = .ok (.iconst 0, 1) := by decide +kernel
theorem d_Mo_slid_4 : decode prog_8_method_23_code 4 = .ok (.istore 8, 2) := by decide +kernel
theorem d_Mo_slid_6 : decode prog_8_method_23_code 6 = .ok (.iload 8, 2) := by decide +kernel
theorem d_Mo_slid_8 : decode prog_8_method_23_code 8 = .ok (.aload_n 0, 1) := by decide +kernel
theorem d_Mo_slid_9 : decode prog_8_method_23_code 9 = .ok (.getfield 19, 3) := by decide +kernel
theorem d_Mo_slid_12 : decode prog_8_method_23_code 12 = .ok (.iload_n 3, 1) := by decide +kernel
theorem d_Mo_slid_13 : decode prog_8_method_23_code 13 = .ok (.iaload, 1) := by decide +kernel
theorem d_Mo_slid_14 : decode prog_8_method_23_code 14 = .ok (.if_icmp .ge 77, 3) := by decide +kernel
theorem d_Mo_slid_17 : decode prog_8_method_23_code 17 = .ok (.iload 5, 2) := by decide +kernel
theorem d_Mo_slid_19 : decode prog_8_method_23_code 19 = .ok (.aload_n 0, 1) := by decide +kernel
theorem d_Mo_slid_20 : decode prog_8_method_23_code 20 = .ok (.getfield 35, 3) := by decide +kernel
theorem d_Mo_slid_23 : decode prog_8_method_23_code 23 = .ok (.iload_n 1, 1) := by decide +kernel
theorem d_Mo_slid_24 : decode prog_8_method_23_code 24 = .ok (.iaload, 1) := by decide +kernel
theorem d_Mo_slid_25 : decode prog_8_method_23_code 25 = .ok (.imul, 1) := by decide +kernel
theorem d_Mo_slid_26 : decode prog_8_method_23_code 26 = .ok (.iload 8, 2) := by decide +kernel
theorem d_Mo_slid_28 : decode prog_8_method_23_code 28 = .ok (.iadd, 1) := by decide +kernel
theorem d_Mo_slid_29 : decode prog_8_method_23_code 29 = .ok (.aload_n 0, 1) := by decide +kernel
theorem d_Mo_slid_30 : decode prog_8_method_23_code 30 = .ok (.getfield 38, 3) := by decide +kernel
theorem d_Mo_slid_33 : decode prog_8_method_23_code 33 = .ok (.iload_n 1, 1) := by decide +kernel
theorem d_Mo_slid_34 : decode prog_8_method_23_code 34 = .ok (.iaload, 1) := by decide +kernel
theorem d_Mo_slid_35 : decode prog_8_method_23_code 35 = .ok (.isub, 1) := by decide +kernel
theorem d_Mo_slid_36 : decode prog_8_method_23_code 36 = .ok (.istore 9, 2) := by decide +kernel
theorem d_Mo_slid_38 : decode prog_8_method_23_code 38 = .ok (.iload 9, 2) := by decide +kernel
theorem d_Mo_slid_40 : decode prog_8_method_23_code 40 = .ok (.ifCond .lt 14, 3) := by decide +kernel
theorem d_Mo_slid_43 : decode prog_8_method_23_code 43 = .ok (.iload 9, 2) := by decide +kernel
theorem d_Mo_slid_45 : decode prog_8_method_23_code 45 = .ok (.aload_n 0, 1) := by decide +kernel
theorem d_Mo_slid_46 : decode prog_8_method_23_code 46 = .ok (.getfield 19, 3) := by decide +kernel
theorem d_Mo_slid_49 : decode prog_8_method_23_code 49 = .ok (.iload_n 2, 1) := by decide +kernel
theorem d_Mo_slid_50 : decode prog_8_method_23_code 50 = .ok (.iaload, 1) := by decide +kernel
theorem d_Mo_slid_51 : decode prog_8_method_23_code 51 = .ok (.if_icmp .lt 7, 3) := by decide +kernel
theorem d_Mo_slid_54 : decode prog_8_method_23_code 54 = .ok (.dconst 0, 1) := by decide +kernel
theorem d_Mo_slid_55 : decode prog_8_method_23_code 55 = .ok (.goto 12, 3) := by decide +kernel
theorem d_Mo_slid_58 : decode prog_8_method_23_code 58 = .ok (.aload_n 0, 1) := by decide +kernel
theorem d_Mo_slid_59 : decode prog_8_method_23_code 59 = .ok (.iload_n 2, 1) := by decide +kernel
theorem d_Mo_slid_60 : decode prog_8_method_23_code 60 = .ok (.iload 4, 2) := by decide +kernel
theorem d_Mo_slid_62 : decode prog_8_method_23_code 62 = .ok (.iload 9, 2) := by decide +kernel
theorem d_Mo_slid_64 : decode prog_8_method_23_code 64 = .ok (.invokevirtual 111, 3) := by decide +kernel
theorem d_Mo_slid_67 : decode prog_8_method_23_code 67 = .ok (.dstore 10, 2) := by decide +kernel
theorem d_Mo_slid_69 : decode prog_8_method_23_code 69 = .ok (.dload 6, 2) := by decide +kernel
theorem d_Mo_slid_71 : decode prog_8_method_23_code 71 = .ok (.dload 10, 2) := by decide +kernel
theorem d_Mo_slid_73 : decode prog_8_method_23_code 73 = .ok (.aload_n 0, 1) := by decide +kernel
theorem d_Mo_slid_74 : decode prog_8_method_23_code 74 = .ok (.iload_n 3, 1) := by decide +kernel
theorem d_Mo_slid_75 : decode prog_8_method_23_code 75 = .ok (.iconst 0, 1) := by decide +kernel
theorem d_Mo_slid_76 : decode prog_8_method_23_code 76 = .ok (.iload 8, 2) := by decide +kernel
theorem d_Mo_slid_78 : decode prog_8_method_23_code 78 = .ok (.invokevirtual 111, 3) := by decide +kernel
theorem d_Mo_slid_81 : decode prog_8_method_23_code 81 = .ok (.dmul, 1) := by decide +kernel
theorem d_Mo_slid_82 : decode prog_8_method_23_code 82 = .ok (.dadd, 1) := by decide +kernel
theorem d_Mo_slid_83 : decode prog_8_method_23_code 83 = .ok (.dstore 6, 2) := by decide +kernel
theorem d_Mo_slid_85 : decode prog_8_method_23_code 85 = .ok (.iinc 8 1, 3) := by decide +kernel
theorem d_Mo_slid_88 : decode prog_8_method_23_code 88 = .ok (.goto (-82), 3) := by decide +kernel
theorem d_Mo_slid_91 : decode prog_8_method_23_code 91 = .ok (.dload 6, 2) := by decide +kernel
theorem d_Mo_slid_93 : decode prog_8_method_23_code 93 = .ok (.dreturn, 1) := by decide +kernel
theorem d_Mo_bounded_0 : decode prog_8_method_28_code 0 = .ok (.dload_n 2, 1) := by decide +kernel
theorem d_Mo_bounded_1 : decode prog_8_method_28_code 1 = .ok (.aload_n 0, 1) := by decide +kernel
theorem d_Mo_bounded_2 : decode prog_8_method_28_code 2 = .ok (.getfield 35, 3) := by decide +kernel
theorem d_Mo_bounded_5 : decode prog_8_method_28_code 5 = .ok (.iload_n 1, 1) := by decide +kernel
theorem d_Mo_bounded_6 : decode prog_8_method_28_code 6 = .ok (.iaload, 1) := by decide +kernel
theorem d_Mo_bounded_7 : decode prog_8_method_28_code 7 = .ok (.i2d, 1) := by decide +kernel
theorem d_Mo_bounded_8 : decode prog_8_method_28_code 8 = .ok (.dcmp .g, 1) := by decide +kernel
theorem d_Mo_bounded_9 : decode prog_8_method_28_code 9 = .ok (.ifCond .ge 13, 3) := by decide +kernel
theorem d_Mo_bounded_12 : decode prog_8_method_28_code 12 = .ok (.aload_n 0, 1) := by decide +kernel
theorem d_Mo_bounded_13 : decode prog_8_method_28_code 13 = .ok (.getfield 35, 3) := by decide +kernel
theorem d_Mo_bounded_16 : decode prog_8_method_28_code 16 = .ok (.iload_n 1, 1) := by decide +kernel
theorem d_Mo_bounded_17 : decode prog_8_method_28_code 17 = .ok (.iaload, 1) := by decide +kernel
theorem d_Mo_bounded_18 : decode prog_8_method_28_code 18 = .ok (.i2d, 1) := by decide +kernel
theorem d_Mo_bounded_19 : decode prog_8_method_28_code 19 = .ok (.goto 26, 3) := by decide +kernel
theorem d_Mo_bounded_22 : decode prog_8_method_28_code 22 = .ok (.dload_n 2, 1) := by decide +kernel
theorem d_Mo_bounded_23 : decode prog_8_method_28_code 23 = .ok (.aload_n 0, 1) := by decide +kernel
theorem d_Mo_bounded_24 : decode prog_8_method_28_code 24 = .ok (.getfield 38, 3) := by decide +kernel
theorem d_Mo_bounded_27 : decode prog_8_method_28_code 27 = .ok (.iload_n 1, 1) := by decide +kernel
theorem d_Mo_bounded_28 : decode prog_8_method_28_code 28 = .ok (.iaload, 1) := by decide +kernel
theorem d_Mo_bounded_29 : decode prog_8_method_28_code 29 = .ok (.i2d, 1) := by decide +kernel
theorem d_Mo_bounded_30 : decode prog_8_method_28_code 30 = .ok (.dcmp .l, 1) := by decide +kernel
theorem d_Mo_bounded_31 : decode prog_8_method_28_code 31 = .ok (.ifCond .le 13, 3) := by decide +kernel
theorem d_Mo_bounded_34 : decode prog_8_method_28_code 34 = .ok (.aload_n 0, 1) := by decide +kernel
theorem d_Mo_bounded_35 : decode prog_8_method_28_code 35 = .ok (.getfield 38, 3) := by decide +kernel
theorem d_Mo_bounded_38 : decode prog_8_method_28_code 38 = .ok (.iload_n 1, 1) := by decide +kernel
theorem d_Mo_bounded_39 : decode prog_8_method_28_code 39 = .ok (.iaload, 1) := by decide +kernel
theorem d_Mo_bounded_40 : decode prog_8_method_28_code 40 = .ok (.i2d, 1) := by decide +kernel
theorem d_Mo_bounded_41 : decode prog_8_method_28_code 41 = .ok (.goto 4, 3) := by decide +kernel
theorem d_Mo_bounded_44 : decode prog_8_method_28_code 44 = .ok (.dload_n 2, 1) := by decide +kernel
theorem d_Mo_bounded_45 : decode prog_8_method_28_code 45 = .ok (.dreturn, 1) := by decide +kernel
theorem d_Mo_run_0 : decode prog_8_method_35_code 0 = .ok (.aload_n 0, 1) := by decide +kernel
theorem d_Mo_run_1 : decode prog_8_method_35_code 1 = .ok (.aload_n 0, 1) := by decide +kernel
theorem d_Mo_run_2 : decode prog_8_method_35_code 2 = .ok (.iload_n 1, 1) := by decide +kernel
theorem d_Mo_run_3 : decode prog_8_method_35_code 3 = .ok (.invokevirtual 64, 3) := by decide +kernel
theorem d_Mo_run_6 : decode prog_8_method_35_code 6 = .ok (.ifCond .ne 12, 3) := by decide +kernel
theorem d_Mo_run_9 : decode prog_8_method_35_code 9 = .ok (.aload_n 0, 1) := by decide +kernel
theorem d_Mo_run_10 : decode prog_8_method_35_code 10 = .ok (.getfield 7, 3) := by decide +kernel
theorem d_Mo_run_13 : decode prog_8_method_35_code 13 = .ok (.iload_n 1, 1) := by decide +kernel
theorem d_Mo_run_14 : decode prog_8_method_35_code 14 = .ok (.iaload, 1) := by decide +kernel
theorem d_Mo_run_15 : decode prog_8_method_35_code 15 = .ok (.ifCond .ne 7, 3) := by decide +kernel
theorem d_Mo_run_18 : decode prog_8_method_35_code 18 = .ok (.iconst 1, 1) := by decide +kernel
theorem d_Mo_run_19 : decode prog_8_method_35_code 19 = .ok (.goto 15, 3) := by decide +kernel
theorem d_Mo_run_22 : decode prog_8_method_35_code 22 = .ok (.aload_n 0, 1) := by decide +kernel
theorem d_Mo_run_23 : decode prog_8_method_35_code 23 = .ok (.getfield 53, 3) := by decide +kernel
theorem d_Mo_run_26 : decode prog_8_method_35_code 26 = .ok (.ifCond .ne 7, 3) := by decide +kernel
theorem d_Mo_run_29 : decode prog_8_method_35_code 29 = .ok (.iconst 2, 1) := by decide +kernel
theorem d_Mo_run_30 : decode prog_8_method_35_code 30 = .ok (.goto 4, 3) := by decide +kernel
theorem d_Mo_run_33 : decode prog_8_method_35_code 33 = .ok (.iconst 0, 1) := by decide +kernel
theorem d_Mo_run_34 : decode prog_8_method_35_code 34 = .ok (.putfield 57, 3) := by decide +kernel
theorem d_Mo_run_37 : decode prog_8_method_35_code 37 = .ok (.aload_n 0, 1) := by decide +kernel
theorem d_Mo_run_38 : decode prog_8_method_35_code 38 = .ok (.getfield 57, 3) := by decide +kernel
theorem d_Mo_run_41 : decode prog_8_method_35_code 41 = .ok (.ifCond .eq 5, 3) := by decide +kernel
theorem d_Mo_run_44 : decode prog_8_method_35_code 44 = .ok (.iconst 0, 1) := by decide +kernel
theorem d_Mo_run_45 : decode prog_8_method_35_code 45 = .ok (.ireturn, 1) := by decide +kernel
theorem d_Mo_run_46 : decode prog_8_method_35_code 46 = .ok (.aload_n 0, 1) := by decide +kernel
theorem d_Mo_run_47 : decode prog_8_method_35_code 47 = .ok (.iload_n 1, 1) := by decide +kernel
theorem d_Mo_run_48 : decode prog_8_method_35_code 48 = .ok (.invokevirtual 177, 3) := by decide +kernel
theorem d_Mo_run_51 : decode prog_8_method_35_code 51 = .ok (.istore_n 2, 1) := by decide +kernel
theorem d_Mo_run_52 : decode prog_8_method_35_code 52 = .ok (.aload_n 0, 1) := by decide +kernel
theorem d_Mo_run_53 : decode prog_8_method_35_code 53 = .ok (.getfield 57, 3) := by decide +kernel
theorem d_Mo_run_56 : decode prog_8_method_35_code 56 = .ok (.ifCond .ne 7, 3) := by decide +kernel
theorem d_Mo_run_59 : decode prog_8_method_35_code 59 = .ok (.iload_n 2, 1) := by decide +kernel
theorem d_Mo_run_60 : decode prog_8_method_35_code 60 = .ok (.goto 4, 3) := by decide +kernel
theorem d_Mo_run_63 : decode prog_8_method_35_code 63 = .ok (.iconst 0, 1) := by decide +kernel
theorem d_Mo_run_64 : decode prog_8_method_35_code 64 = .ok (.ireturn, 1) := by decide +kernel
theorem d_Mo_need_0 : decode prog_8_method_34_code 0 = .ok (.iconst 0, 1) := by decide +kernel
theorem d_Mo_need_1 : decode prog_8_method_34_code 1 = .ok (.istore_n 2, 1) := by decide +kernel
theorem d_Mo_need_2 : decode prog_8_method_34_code 2 = .ok (.aload_n 0, 1) := by decide +kernel
theorem d_Mo_need_3 : decode prog_8_method_34_code 3 = .ok (.getfield 57, 3) := by decide +kernel
theorem d_Mo_need_6 : decode prog_8_method_34_code 6 = .ok (.ifCond .ne 92, 3) := by decide +kernel
theorem d_Mo_need_9 : decode prog_8_method_34_code 9 = .ok (.aload_n 0, 1) := by decide +kernel
theorem d_Mo_need_10 : decode prog_8_method_34_code 10 = .ok (.iload_n 1, 1) := by decide +kernel
theorem d_Mo_need_11 : decode prog_8_method_34_code 11 = .ok (.invokevirtual 165, 3) := by decide +kernel
theorem d_Mo_need_14 : decode prog_8_method_34_code 14 = .ok (.ifCond .ne 84, 3) := by decide +kernel
theorem d_Mo_need_17 : decode prog_8_method_34_code 17 = .ok (.aload_n 0, 1) := by decide +kernel
theorem d_Mo_need_18 : decode prog_8_method_34_code 18 = .ok (.getfield 22, 3) := by decide +kernel
theorem d_Mo_need_21 : decode prog_8_method_34_code 21 = .ok (.iload_n 1, 1) := by decide +kernel
theorem d_Mo_need_22 : decode prog_8_method_34_code 22 = .ok (.iaload, 1) := by decide +kernel
theorem d_Mo_need_23 : decode prog_8_method_34_code 23 = .ok (.istore_n 3, 1) := by decide +kernel
theorem d_Mo_need_24 : decode prog_8_method_34_code 24 = .ok (.aload_n 0, 1) := by decide +kernel
theorem d_Mo_need_25 : decode prog_8_method_34_code 25 = .ok (.iload_n 3, 1) := by decide +kernel
theorem d_Mo_need_26 : decode prog_8_method_34_code 26 = .ok (.invokevirtual 168, 3) := by decide +kernel
theorem d_Mo_need_29 : decode prog_8_method_34_code 29 = .ok (.ifCond .lt 17, 3) := by decide +kernel
theorem d_Mo_need_32 : decode prog_8_method_34_code 32 = .ok (.aload_n 0, 1) := by decide +kernel
theorem d_Mo_need_33 : decode prog_8_method_34_code 33 = .ok (.getfield 22, 3) := by decide +kernel
theorem d_Mo_need_36 : decode prog_8_method_34_code 36 = .ok (.aload_n 0, 1) := by decide +kernel
theorem d_Mo_need_37 : decode prog_8_method_34_code 37 = .ok (.iload_n 3, 1) := by decide +kernel
theorem d_Mo_need_38 : decode prog_8_method_34_code 38 = .ok (.invokevirtual 168, 3) := by decide +kernel
theorem d_Mo_need_41 : decode prog_8_method_34_code 41 = .ok (.iaload, 1) := by decide +kernel
theorem d_Mo_need_42 : decode prog_8_method_34_code 42 = .ok (.istore_n 3, 1) := by decide +kernel
theorem d_Mo_need_43 : decode prog_8_method_34_code 43 = .ok (.goto (-19), 3) := by decide +kernel
theorem d_Mo_need_46 : decode prog_8_method_34_code 46 = .ok (.aload_n 0, 1) := by decide +kernel
theorem d_Mo_need_47 : decode prog_8_method_34_code 47 = .ok (.aload_n 0, 1) := by decide +kernel
theorem d_Mo_need_48 : decode prog_8_method_34_code 48 = .ok (.iload_n 3, 1) := by decide +kernel
theorem d_Mo_need_49 : decode prog_8_method_34_code 49 = .ok (.invokevirtual 162, 3) := by decide +kernel
theorem d_Mo_need_52 : decode prog_8_method_34_code 52 = .ok (.putfield 57, 3) := by decide +kernel
theorem d_Mo_need_55 : decode prog_8_method_34_code 55 = .ok (.aload_n 0, 1) := by decide +kernel
theorem d_Mo_need_56 : decode prog_8_method_34_code 56 = .ok (.getfield 57, 3) := by decide +kernel
theorem d_Mo_need_59 : decode prog_8_method_34_code 59 = .ok (.ifCond .ne 26, 3) := by decide +kernel
theorem d_Mo_need_62 : decode prog_8_method_34_code 62 = .ok (.aload_n 0, 1) := by decide +kernel
theorem d_Mo_need_63 : decode prog_8_method_34_code 63 = .ok (.getfield 41, 3) := by decide +kernel
theorem d_Mo_need_66 : decode prog_8_method_34_code 66 = .ok (.iload_n 3, 1) := by decide +kernel
theorem d_Mo_need_67 : decode prog_8_method_34_code 67 = .ok (.iconst 2, 1) := by decide +kernel
theorem d_Mo_need_68 : decode prog_8_method_34_code 68 = .ok (.iastore, 1) := by decide +kernel
theorem d_Mo_need_69 : decode prog_8_method_34_code 69 = .ok (.aload_n 0, 1) := by decide +kernel
theorem d_Mo_need_70 : decode prog_8_method_34_code 70 = .ok (.dup, 1) := by decide +kernel
theorem d_Mo_need_71 : decode prog_8_method_34_code 71 = .ok (.getfield 171, 3) := by decide +kernel
theorem d_Mo_need_74 : decode prog_8_method_34_code 74 = .ok (.iconst 1, 1) := by decide +kernel
theorem d_Mo_need_75 : decode prog_8_method_34_code 75 = .ok (.iadd, 1) := by decide +kernel
theorem d_Mo_need_76 : decode prog_8_method_34_code 76 = .ok (.putfield 171, 3) := by decide +kernel
theorem d_Mo_need_79 : decode prog_8_method_34_code 79 = .ok (.iinc 2 1, 3) := by decide +kernel
theorem d_Mo_need_82 : decode prog_8_method_34_code 82 = .ok (.goto 13, 3) := by decide +kernel
theorem d_Mo_need_85 : decode prog_8_method_34_code 85 = .ok (.aload_n 0, 1) := by decide +kernel
theorem d_Mo_need_86 : decode prog_8_method_34_code 86 = .ok (.dup, 1) := by decide +kernel
theorem d_Mo_need_87 : decode prog_8_method_34_code 87 = .ok (.getfield 174, 3) := by decide +kernel
theorem d_Mo_need_90 : decode prog_8_method_34_code 90 = .ok (.iconst 1, 1) := by decide +kernel
theorem d_Mo_need_91 : decode prog_8_method_34_code 91 = .ok (.iadd, 1) := by decide +kernel
theorem d_Mo_need_92 : decode prog_8_method_34_code 92 = .ok (.putfield 174, 3) := by decide +kernel
theorem d_Mo_need_95 : decode prog_8_method_34_code 95 = .ok (.goto (-93), 3) := by decide +kernel
theorem d_Mo_need_98 : decode prog_8_method_34_code 98 = .ok (.iload_n 2, 1) := by decide +kernel
theorem d_Mo_need_99 : decode prog_8_method_34_code 99 = .ok (.ireturn, 1) := by decide +kernel
theorem d_Mo_known_0 : decode prog_8_method_32_code 0 = .ok (.aload_n 0, 1) := by decide +kernel
theorem d_Mo_known_1 : decode prog_8_method_32_code 1 = .ok (.getfield 7, 3) := by decide +kernel
theorem d_Mo_known_4 : decode prog_8_method_32_code 4 = .ok (.iload_n 1, 1) := by decide +kernel
theorem d_Mo_known_5 : decode prog_8_method_32_code 5 = .ok (.iaload, 1) := by decide +kernel
theorem d_Mo_known_6 : decode prog_8_method_32_code 6 = .ok (.iconst 3, 1) := by decide +kernel
theorem d_Mo_known_7 : decode prog_8_method_32_code 7 = .ok (.if_icmp .ne 17, 3) := by decide +kernel
theorem d_Mo_known_10 : decode prog_8_method_32_code 10 = .ok (.aload_n 0, 1) := by decide +kernel
theorem d_Mo_known_11 : decode prog_8_method_32_code 11 = .ok (.getfield 41, 3) := by decide +kernel
theorem d_Mo_known_14 : decode prog_8_method_32_code 14 = .ok (.aload_n 0, 1) := by decide +kernel
theorem d_Mo_known_15 : decode prog_8_method_32_code 15 = .ok (.getfield 22, 3) := by decide +kernel
theorem d_Mo_known_18 : decode prog_8_method_32_code 18 = .ok (.iload_n 1, 1) := by decide +kernel
theorem d_Mo_known_19 : decode prog_8_method_32_code 19 = .ok (.iaload, 1) := by decide +kernel
theorem d_Mo_known_20 : decode prog_8_method_32_code 20 = .ok (.iaload, 1) := by decide +kernel
theorem d_Mo_known_21 : decode prog_8_method_32_code 21 = .ok (.ifCond .eq 7, 3) := by decide +kernel
theorem d_Mo_known_24 : decode prog_8_method_32_code 24 = .ok (.iconst 1, 1) := by decide +kernel
theorem d_Mo_known_25 : decode prog_8_method_32_code 25 = .ok (.goto 4, 3) := by decide +kernel
theorem d_Mo_known_28 : decode prog_8_method_32_code 28 = .ok (.iconst 0, 1) := by decide +kernel
theorem d_Mo_known_29 : decode prog_8_method_32_code 29 = .ok (.ireturn, 1) := by decide +kernel
theorem d_Mo_missing_0 : decode prog_8_method_33_code 0 = .ok (.aload_n 0, 1) := by decide +kernel
theorem d_Mo_missing_1 : decode prog_8_method_33_code 1 = .ok (.getfield 29, 3) := by decide +kernel
theorem d_Mo_missing_4 : decode prog_8_method_33_code 4 = .ok (.iload_n 1, 1) := by decide +kernel
theorem d_Mo_missing_5 : decode prog_8_method_33_code 5 = .ok (.iaload, 1) := by decide +kernel
theorem d_Mo_missing_6 : decode prog_8_method_33_code 6 = .ok (.bipush 17, 2) := by decide +kernel
theorem d_Mo_missing_8 : decode prog_8_method_33_code 8 = .ok (.if_icmp .ne 74, 3) := by decide +kernel
theorem d_Mo_missing_11 : decode prog_8_method_33_code 11 = .ok (.aload_n 0, 1) := by decide +kernel
theorem d_Mo_missing_12 : decode prog_8_method_33_code 12 = .ok (.getfield 47, 3) := by decide +kernel
theorem d_Mo_missing_15 : decode prog_8_method_33_code 15 = .ok (.iload_n 1, 1) := by decide +kernel
theorem d_Mo_missing_16 : decode prog_8_method_33_code 16 = .ok (.iconst 3, 1) := by decide +kernel
theorem d_Mo_missing_17 : decode prog_8_method_33_code 17 = .ok (.imul, 1) := by decide +kernel
theorem d_Mo_missing_18 : decode prog_8_method_33_code 18 = .ok (.iconst 2, 1) := by decide +kernel
theorem d_Mo_missing_19 : decode prog_8_method_33_code 19 = .ok (.iadd, 1) := by decide +kernel
theorem d_Mo_missing_20 : decode prog_8_method_33_code 20 = .ok (.iaload, 1) := by decide +kernel
theorem d_Mo_missing_21 : decode prog_8_method_33_code 21 = .ok (.istore_n 2, 1) := by decide +kernel
theorem d_Mo_missing_22 : decode prog_8_method_33_code 22 = .ok (.aload_n 0, 1) := by decide +kernel
theorem d_Mo_missing_23 : decode prog_8_method_33_code 23 = .ok (.iload_n 2, 1) := by decide +kernel
theorem d_Mo_missing_24 : decode prog_8_method_33_code 24 = .ok (.invokevirtual 165, 3) := by decide +kernel
theorem d_Mo_missing_27 : decode prog_8_method_33_code 27 = .ok (.ifCond .ne 5, 3) := by decide +kernel
theorem d_Mo_missing_30 : decode prog_8_method_33_code 30 = .ok (.iload_n 2, 1) := by decide +kernel
theorem d_Mo_missing_31 : decode prog_8_method_33_code 31 = .ok (.ireturn, 1) := by decide +kernel
theorem d_Mo_missing_32 : decode prog_8_method_33_code 32 = .ok (.aload_n 0, 1) := by decide +kernel
theorem d_Mo_missing_33 : decode prog_8_method_33_code 33 = .ok (.getfield 25, 3) := by decide +kernel
theorem d_Mo_missing_36 : decode prog_8_method_33_code 36 = .ok (.iload_n 2, 1) := by decide +kernel
theorem d_Mo_missing_37 : decode prog_8_method_33_code 37 = .ok (.bipush 16, 2) := by decide +kernel
theorem d_Mo_missing_39 : decode prog_8_method_33_code 39 = .ok (.imul, 1) := by decide +kernel
theorem d_Mo_missing_40 : decode prog_8_method_33_code 40 = .ok (.daload, 1) := by decide +kernel
theorem d_Mo_missing_41 : decode prog_8_method_33_code 41 = .ok (.dconst 0, 1) := by decide +kernel
theorem d_Mo_missing_42 : decode prog_8_method_33_code 42 = .ok (.dcmp .l, 1) := by decide +kernel
theorem d_Mo_missing_43 : decode prog_8_method_33_code 43 = .ok (.ifCond .eq 14, 3) := by decide +kernel
theorem d_Mo_missing_46 : decode prog_8_method_33_code 46 = .ok (.aload_n 0, 1) := by decide +kernel
theorem d_Mo_missing_47 : decode prog_8_method_33_code 47 = .ok (.getfield 47, 3) := by decide +kernel
theorem d_Mo_missing_50 : decode prog_8_method_33_code 50 = .ok (.iload_n 1, 1) := by decide +kernel
theorem d_Mo_missing_51 : decode prog_8_method_33_code 51 = .ok (.iconst 3, 1) := by decide +kernel
theorem d_Mo_missing_52 : decode prog_8_method_33_code 52 = .ok (.imul, 1) := by decide +kernel
theorem d_Mo_missing_53 : decode prog_8_method_33_code 53 = .ok (.iaload, 1) := by decide +kernel
theorem d_Mo_missing_54 : decode prog_8_method_33_code 54 = .ok (.goto 13, 3) := by decide +kernel
theorem d_Mo_missing_57 : decode prog_8_method_33_code 57 = .ok (.aload_n 0, 1) := by decide +kernel
theorem d_Mo_missing_58 : decode prog_8_method_33_code 58 = .ok (.getfield 47, 3) := by decide +kernel
theorem d_Mo_missing_61 : decode prog_8_method_33_code 61 = .ok (.iload_n 1, 1) := by decide +kernel
theorem d_Mo_missing_62 : decode prog_8_method_33_code 62 = .ok (.iconst 3, 1) := by decide +kernel
theorem d_Mo_missing_63 : decode prog_8_method_33_code 63 = .ok (.imul, 1) := by decide +kernel
theorem d_Mo_missing_64 : decode prog_8_method_33_code 64 = .ok (.iconst 1, 1) := by decide +kernel
theorem d_Mo_missing_65 : decode prog_8_method_33_code 65 = .ok (.iadd, 1) := by decide +kernel
end
section
theorem d_Mo_missing_66 : decode prog_8_method_33_code 66 = .ok (.iaload, 1) := by decide +kernel
theorem d_Mo_missing_67 : decode prog_8_method_33_code 67 = .ok (.istore_n 3, 1) := by decide +kernel
theorem d_Mo_missing_68 : decode prog_8_method_33_code 68 = .ok (.aload_n 0, 1) := by decide +kernel
theorem d_Mo_missing_69 : decode prog_8_method_33_code 69 = .ok (.iload_n 3, 1) := by decide +kernel
theorem d_Mo_missing_70 : decode prog_8_method_33_code 70 = .ok (.invokevirtual 165, 3) := by decide +kernel
theorem d_Mo_missing_73 : decode prog_8_method_33_code 73 = .ok (.ifCond .eq 7, 3) := by decide +kernel
theorem d_Mo_missing_76 : decode prog_8_method_33_code 76 = .ok (.iconst (-1), 1) := by decide +kernel
theorem d_Mo_missing_77 : decode prog_8_method_33_code 77 = .ok (.goto 4, 3) := by decide +kernel
theorem d_Mo_missing_80 : decode prog_8_method_33_code 80 = .ok (.iload_n 3, 1) := by decide +kernel
theorem d_Mo_missing_81 : decode prog_8_method_33_code 81 = .ok (.ireturn, 1) := by decide +kernel
theorem d_Mo_missing_82 : decode prog_8_method_33_code 82 = .ok (.iconst 0, 1) := by decide +kernel
theorem d_Mo_missing_83 : decode prog_8_method_33_code 83 = .ok (.istore_n 2, 1) := by decide +kernel
theorem d_Mo_missing_84 : decode prog_8_method_33_code 84 = .ok (.iload_n 2, 1) := by decide +kernel
theorem d_Mo_missing_85 : decode prog_8_method_33_code 85 = .ok (.aload_n 0, 1) := by decide +kernel
theorem d_Mo_missing_86 : decode prog_8_method_33_code 86 = .ok (.aload_n 0, 1) := by decide +kernel
theorem d_Mo_missing_87 : decode prog_8_method_33_code 87 = .ok (.getfield 29, 3) := by decide +kernel
theorem d_Mo_missing_90 : decode prog_8_method_33_code 90 = .ok (.iload_n 1, 1) := by decide +kernel
theorem d_Mo_missing_91 : decode prog_8_method_33_code 91 = .ok (.iaload, 1) := by decide +kernel
theorem d_Mo_missing_92 : decode prog_8_method_33_code 92 = .ok (.invokevirtual 78, 3) := by decide +kernel
theorem d_Mo_missing_95 : decode prog_8_method_33_code 95 = .ok (.if_icmp .ge 37, 3) := by decide +kernel
theorem d_Mo_missing_98 : decode prog_8_method_33_code 98 = .ok (.aload_n 0, 1) := by decide +kernel
theorem d_Mo_missing_99 : decode prog_8_method_33_code 99 = .ok (.aload_n 0, 1) := by decide +kernel
theorem d_Mo_missing_100 : decode prog_8_method_33_code 100 = .ok (.getfield 47, 3) := by decide +kernel
theorem d_Mo_missing_103 : decode prog_8_method_33_code 103 = .ok (.iload_n 1, 1) := by decide +kernel
theorem d_Mo_missing_104 : decode prog_8_method_33_code 104 = .ok (.iconst 3, 1) := by decide +kernel
theorem d_Mo_missing_105 : decode prog_8_method_33_code 105 = .ok (.imul, 1) := by decide +kernel
theorem d_Mo_missing_106 : decode prog_8_method_33_code 106 = .ok (.iload_n 2, 1) := by decide +kernel
theorem d_Mo_missing_107 : decode prog_8_method_33_code 107 = .ok (.iadd, 1) := by decide +kernel
theorem d_Mo_missing_108 : decode prog_8_method_33_code 108 = .ok (.iaload, 1) := by decide +kernel
theorem d_Mo_missing_109 : decode prog_8_method_33_code 109 = .ok (.invokevirtual 165, 3) := by decide +kernel
theorem d_Mo_missing_112 : decode prog_8_method_33_code 112 = .ok (.ifCond .ne 14, 3) := by decide +kernel
theorem d_Mo_missing_115 : decode prog_8_method_33_code 115 = .ok (.aload_n 0, 1) := by decide +kernel
theorem d_Mo_missing_116 : decode prog_8_method_33_code 116 = .ok (.getfield 47, 3) := by decide +kernel
theorem d_Mo_missing_119 : decode prog_8_method_33_code 119 = .ok (.iload_n 1, 1) := by decide +kernel
theorem d_Mo_missing_120 : decode prog_8_method_33_code 120 = .ok (.iconst 3, 1) := by decide +kernel
theorem d_Mo_missing_121 : decode prog_8_method_33_code 121 = .ok (.imul, 1) := by decide +kernel
theorem d_Mo_missing_122 : decode prog_8_method_33_code 122 = .ok (.iload_n 2, 1) := by decide +kernel
theorem d_Mo_missing_123 : decode prog_8_method_33_code 123 = .ok (.iadd, 1) := by decide +kernel
theorem d_Mo_missing_124 : decode prog_8_method_33_code 124 = .ok (.iaload, 1) := by decide +kernel
theorem d_Mo_missing_125 : decode prog_8_method_33_code 125 = .ok (.ireturn, 1) := by decide +kernel
theorem d_Mo_missing_126 : decode prog_8_method_33_code 126 = .ok (.iinc 2 1, 3) := by decide +kernel
theorem d_Mo_missing_129 : decode prog_8_method_33_code 129 = .ok (.goto (-45), 3) := by decide +kernel
theorem d_Mo_missing_132 : decode prog_8_method_33_code 132 = .ok (.iconst (-1), 1) := by decide +kernel
theorem d_Mo_missing_133 : decode prog_8_method_33_code 133 = .ok (.ireturn, 1) := by decide +kernel
theorem d_Mo_get_0 : decode prog_8_method_36_code 0 = .ok (.aload_n 0, 1) := by decide +kernel
theorem d_Mo_get_1 : decode prog_8_method_36_code 1 = .ok (.aload_n 0, 1) := by decide +kernel
theorem d_Mo_get_2 : decode prog_8_method_36_code 2 = .ok (.iload_n 1, 1) := by decide +kernel
theorem d_Mo_get_3 : decode prog_8_method_36_code 3 = .ok (.invokevirtual 64, 3) := by decide +kernel
theorem d_Mo_get_6 : decode prog_8_method_36_code 6 = .ok (.ifCond .eq 7, 3) := by decide +kernel
theorem d_Mo_get_9 : decode prog_8_method_36_code 9 = .ok (.iconst 1, 1) := by decide +kernel
theorem d_Mo_get_10 : decode prog_8_method_36_code 10 = .ok (.goto 4, 3) := by decide +kernel
theorem d_Mo_get_13 : decode prog_8_method_36_code 13 = .ok (.iconst 0, 1) := by decide +kernel
theorem d_Mo_get_14 : decode prog_8_method_36_code 14 = .ok (.putfield 57, 3) := by decide +kernel
theorem d_Mo_get_17 : decode prog_8_method_36_code 17 = .ok (.aload_n 0, 1) := by decide +kernel
theorem d_Mo_get_18 : decode prog_8_method_36_code 18 = .ok (.getfield 57, 3) := by decide +kernel
theorem d_Mo_get_21 : decode prog_8_method_36_code 21 = .ok (.ifCond .eq 5, 3) := by decide +kernel
theorem d_Mo_get_24 : decode prog_8_method_36_code 24 = .ok (.dconst 0, 1) := by decide +kernel
theorem d_Mo_get_25 : decode prog_8_method_36_code 25 = .ok (.dreturn, 1) := by decide +kernel
theorem d_Mo_get_26 : decode prog_8_method_36_code 26 = .ok (.aload_n 0, 1) := by decide +kernel
theorem d_Mo_get_27 : decode prog_8_method_36_code 27 = .ok (.getfield 7, 3) := by decide +kernel
theorem d_Mo_get_30 : decode prog_8_method_36_code 30 = .ok (.iload_n 1, 1) := by decide +kernel
theorem d_Mo_get_31 : decode prog_8_method_36_code 31 = .ok (.iaload, 1) := by decide +kernel
theorem d_Mo_get_32 : decode prog_8_method_36_code 32 = .ok (.iconst 1, 1) := by decide +kernel
theorem d_Mo_get_33 : decode prog_8_method_36_code 33 = .ok (.if_icmp .eq 37, 3) := by decide +kernel
theorem d_Mo_get_36 : decode prog_8_method_36_code 36 = .ok (.aload_n 0, 1) := by decide +kernel
theorem d_Mo_get_37 : decode prog_8_method_36_code 37 = .ok (.getfield 7, 3) := by decide +kernel
theorem d_Mo_get_40 : decode prog_8_method_36_code 40 = .ok (.iload_n 1, 1) := by decide +kernel
theorem d_Mo_get_41 : decode prog_8_method_36_code 41 = .ok (.iaload, 1) := by decide +kernel
theorem d_Mo_get_42 : decode prog_8_method_36_code 42 = .ok (.iconst 2, 1) := by decide +kernel
theorem d_Mo_get_43 : decode prog_8_method_36_code 43 = .ok (.if_icmp .eq 27, 3) := by decide +kernel
theorem d_Mo_get_46 : decode prog_8_method_36_code 46 = .ok (.aload_n 0, 1) := by decide +kernel
theorem d_Mo_get_47 : decode prog_8_method_36_code 47 = .ok (.getfield 7, 3) := by decide +kernel
theorem d_Mo_get_50 : decode prog_8_method_36_code 50 = .ok (.iload_n 1, 1) := by decide +kernel
theorem d_Mo_get_51 : decode prog_8_method_36_code 51 = .ok (.iaload, 1) := by decide +kernel
theorem d_Mo_get_52 : decode prog_8_method_36_code 52 = .ok (.iconst 3, 1) := by decide +kernel
theorem d_Mo_get_53 : decode prog_8_method_36_code 53 = .ok (.if_icmp .ne 21, 3) := by decide +kernel
theorem d_Mo_get_56 : decode prog_8_method_36_code 56 = .ok (.aload_n 0, 1) := by decide +kernel
theorem d_Mo_get_57 : decode prog_8_method_36_code 57 = .ok (.getfield 41, 3) := by decide +kernel
theorem d_Mo_get_60 : decode prog_8_method_36_code 60 = .ok (.aload_n 0, 1) := by decide +kernel
theorem d_Mo_get_61 : decode prog_8_method_36_code 61 = .ok (.getfield 22, 3) := by decide +kernel
theorem d_Mo_get_64 : decode prog_8_method_36_code 64 = .ok (.iload_n 1, 1) := by decide +kernel
theorem d_Mo_get_65 : decode prog_8_method_36_code 65 = .ok (.iaload, 1) := by decide +kernel
theorem d_Mo_get_66 : decode prog_8_method_36_code 66 = .ok (.iaload, 1) := by decide +kernel
theorem d_Mo_get_67 : decode prog_8_method_36_code 67 = .ok (.ifCond .eq 7, 3) := by decide +kernel
theorem d_Mo_get_70 : decode prog_8_method_36_code 70 = .ok (.iconst 1, 1) := by decide +kernel
theorem d_Mo_get_71 : decode prog_8_method_36_code 71 = .ok (.goto 4, 3) := by decide +kernel
theorem d_Mo_get_74 : decode prog_8_method_36_code 74 = .ok (.iconst 0, 1) := by decide +kernel
theorem d_Mo_get_75 : decode prog_8_method_36_code 75 = .ok (.istore 4, 2) := by decide +kernel
theorem d_Mo_get_77 : decode prog_8_method_36_code 77 = .ok (.iload 4, 2) := by decide +kernel
theorem d_Mo_get_79 : decode prog_8_method_36_code 79 = .ok (.ifCond .eq 31, 3) := by decide +kernel
theorem d_Mo_get_82 : decode prog_8_method_36_code 82 = .ok (.iload_n 2, 1) := by decide +kernel
theorem d_Mo_get_83 : decode prog_8_method_36_code 83 = .ok (.ifCond .lt 27, 3) := by decide +kernel
theorem d_Mo_get_86 : decode prog_8_method_36_code 86 = .ok (.iload_n 3, 1) := by decide +kernel
theorem d_Mo_get_87 : decode prog_8_method_36_code 87 = .ok (.ifCond .lt 23, 3) := by decide +kernel
theorem d_Mo_get_90 : decode prog_8_method_36_code 90 = .ok (.iload_n 2, 1) := by decide +kernel
theorem d_Mo_get_91 : decode prog_8_method_36_code 91 = .ok (.aload_n 0, 1) := by decide +kernel
theorem d_Mo_get_92 : decode prog_8_method_36_code 92 = .ok (.getfield 16, 3) := by decide +kernel
theorem d_Mo_get_95 : decode prog_8_method_36_code 95 = .ok (.iload_n 1, 1) := by decide +kernel
theorem d_Mo_get_96 : decode prog_8_method_36_code 96 = .ok (.iaload, 1) := by decide +kernel
theorem d_Mo_get_97 : decode prog_8_method_36_code 97 = .ok (.if_icmp .ge 13, 3) := by decide +kernel
theorem d_Mo_get_100 : decode prog_8_method_36_code 100 = .ok (.iload_n 3, 1) := by decide +kernel
theorem d_Mo_get_101 : decode prog_8_method_36_code 101 = .ok (.aload_n 0, 1) := by decide +kernel
theorem d_Mo_get_102 : decode prog_8_method_36_code 102 = .ok (.getfield 19, 3) := by decide +kernel
theorem d_Mo_get_105 : decode prog_8_method_36_code 105 = .ok (.iload_n 1, 1) := by decide +kernel
theorem d_Mo_get_106 : decode prog_8_method_36_code 106 = .ok (.iaload, 1) := by decide +kernel
theorem d_Mo_get_107 : decode prog_8_method_36_code 107 = .ok (.if_icmp .lt 10, 3) := by decide +kernel
theorem d_Mo_get_110 : decode prog_8_method_36_code 110 = .ok (.aload_n 0, 1) := by decide +kernel
theorem d_Mo_get_111 : decode prog_8_method_36_code 111 = .ok (.iconst 2, 1) := by decide +kernel
theorem d_Mo_get_112 : decode prog_8_method_36_code 112 = .ok (.putfield 57, 3) := by decide +kernel
theorem d_Mo_get_115 : decode prog_8_method_36_code 115 = .ok (.dconst 0, 1) := by decide +kernel
theorem d_Mo_get_116 : decode prog_8_method_36_code 116 = .ok (.dreturn, 1) := by decide +kernel
theorem d_Mo_get_117 : decode prog_8_method_36_code 117 = .ok (.aload_n 0, 1) := by decide +kernel
theorem d_Mo_get_118 : decode prog_8_method_36_code 118 = .ok (.getfield 25, 3) := by decide +kernel
theorem d_Mo_get_121 : decode prog_8_method_36_code 121 = .ok (.iload_n 1, 1) := by decide +kernel
theorem d_Mo_get_122 : decode prog_8_method_36_code 122 = .ok (.bipush 16, 2) := by decide +kernel
theorem d_Mo_get_124 : decode prog_8_method_36_code 124 = .ok (.imul, 1) := by decide +kernel
theorem d_Mo_get_125 : decode prog_8_method_36_code 125 = .ok (.iload_n 2, 1) := by decide +kernel
theorem d_Mo_get_126 : decode prog_8_method_36_code 126 = .ok (.iconst 4, 1) := by decide +kernel
theorem d_Mo_get_127 : decode prog_8_method_36_code 127 = .ok (.imul, 1) := by decide +kernel
theorem d_Mo_get_128 : decode prog_8_method_36_code 128 = .ok (.iadd, 1) := by decide +kernel
theorem d_Mo_get_129 : decode prog_8_method_36_code 129 = .ok (.iload_n 3, 1) := by decide +kernel
theorem d_Mo_get_130 : decode prog_8_method_36_code 130 = .ok (.iadd, 1) := by decide +kernel
theorem d_Mo_get_131 : decode prog_8_method_36_code 131 = .ok (.daload, 1) := by decide +kernel
theorem d_Mo_get_132 : decode prog_8_method_36_code 132 = .ok (.dreturn, 1) := by decide +kernel
theorem d_Mo_slot_0 : decode prog_8_method_37_code 0 = .ok (.aload_n 0, 1) := by decide +kernel
theorem d_Mo_slot_1 : decode prog_8_method_37_code 1 = .ok (.aload_n 0, 1) := by decide +kernel
theorem d_Mo_slot_2 : decode prog_8_method_37_code 2 = .ok (.iload_n 1, 1) := by decide +kernel
theorem d_Mo_slot_3 : decode prog_8_method_37_code 3 = .ok (.invokevirtual 64, 3) := by decide +kernel
theorem d_Mo_slot_6 : decode prog_8_method_37_code 6 = .ok (.ifCond .ne 13, 3) := by decide +kernel
theorem d_Mo_slot_9 : decode prog_8_method_37_code 9 = .ok (.aload_n 0, 1) := by decide +kernel
theorem d_Mo_slot_10 : decode prog_8_method_37_code 10 = .ok (.iload_n 2, 1) := by decide +kernel
theorem d_Mo_slot_11 : decode prog_8_method_37_code 11 = .ok (.iconst 0, 1) := by decide +kernel
theorem d_Mo_slot_12 : decode prog_8_method_37_code 12 = .ok (.iconst 3, 1) := by decide +kernel
theorem d_Mo_slot_13 : decode prog_8_method_37_code 13 = .ok (.invokevirtual 68, 3) := by decide +kernel
theorem d_Mo_slot_16 : decode prog_8_method_37_code 16 = .ok (.ifCond .eq 7, 3) := by decide +kernel
theorem d_Mo_slot_19 : decode prog_8_method_37_code 19 = .ok (.iconst 1, 1) := by decide +kernel
theorem d_Mo_slot_20 : decode prog_8_method_37_code 20 = .ok (.goto 38, 3) := by decide +kernel
theorem d_Mo_slot_23 : decode prog_8_method_37_code 23 = .ok (.iload_n 2, 1) := by decide +kernel
theorem d_Mo_slot_24 : decode prog_8_method_37_code 24 = .ok (.ifCond .le 33, 3) := by decide +kernel
theorem d_Mo_slot_27 : decode prog_8_method_37_code 27 = .ok (.aload_n 0, 1) := by decide +kernel
theorem d_Mo_slot_28 : decode prog_8_method_37_code 28 = .ok (.getfield 7, 3) := by decide +kernel
theorem d_Mo_slot_31 : decode prog_8_method_37_code 31 = .ok (.iload_n 1, 1) := by decide +kernel
theorem d_Mo_slot_32 : decode prog_8_method_37_code 32 = .ok (.iaload, 1) := by decide +kernel
theorem d_Mo_slot_33 : decode prog_8_method_37_code 33 = .ok (.ifCond .eq 20, 3) := by decide +kernel
theorem d_Mo_slot_36 : decode prog_8_method_37_code 36 = .ok (.aload_n 0, 1) := by decide +kernel
theorem d_Mo_slot_37 : decode prog_8_method_37_code 37 = .ok (.getfield 7, 3) := by decide +kernel
theorem d_Mo_slot_40 : decode prog_8_method_37_code 40 = .ok (.iload_n 1, 1) := by decide +kernel
theorem d_Mo_slot_41 : decode prog_8_method_37_code 41 = .ok (.iaload, 1) := by decide +kernel
theorem d_Mo_slot_42 : decode prog_8_method_37_code 42 = .ok (.iconst 3, 1) := by decide +kernel
theorem d_Mo_slot_43 : decode prog_8_method_37_code 43 = .ok (.if_icmp .ne 14, 3) := by decide +kernel
theorem d_Mo_slot_46 : decode prog_8_method_37_code 46 = .ok (.aload_n 0, 1) := by decide +kernel
theorem d_Mo_slot_47 : decode prog_8_method_37_code 47 = .ok (.getfield 53, 3) := by decide +kernel
theorem d_Mo_slot_50 : decode prog_8_method_37_code 50 = .ok (.ifCond .ne 7, 3) := by decide +kernel
theorem d_Mo_slot_53 : decode prog_8_method_37_code 53 = .ok (.iconst 2, 1) := by decide +kernel
theorem d_Mo_slot_54 : decode prog_8_method_37_code 54 = .ok (.goto 4, 3) := by decide +kernel
theorem d_Mo_slot_57 : decode prog_8_method_37_code 57 = .ok (.iconst 0, 1) := by decide +kernel
theorem d_Mo_slot_58 : decode prog_8_method_37_code 58 = .ok (.putfield 57, 3) := by decide +kernel
theorem d_Mo_slot_61 : decode prog_8_method_37_code 61 = .ok (.aload_n 0, 1) := by decide +kernel
theorem d_Mo_slot_62 : decode prog_8_method_37_code 62 = .ok (.getfield 57, 3) := by decide +kernel
theorem d_Mo_slot_65 : decode prog_8_method_37_code 65 = .ok (.ifCond .eq 5, 3) := by decide +kernel
theorem d_Mo_slot_68 : decode prog_8_method_37_code 68 = .ok (.iconst 0, 1) := by decide +kernel
theorem d_Mo_slot_69 : decode prog_8_method_37_code 69 = .ok (.ireturn, 1) := by decide +kernel
theorem d_Mo_slot_70 : decode prog_8_method_37_code 70 = .ok (.iload_n 2, 1) := by decide +kernel
theorem d_Mo_slot_71 : decode prog_8_method_37_code 71 = .ok (.ifCond .ne 10, 3) := by decide +kernel
theorem d_Mo_slot_74 : decode prog_8_method_37_code 74 = .ok (.aload_n 0, 1) := by decide +kernel
theorem d_Mo_slot_75 : decode prog_8_method_37_code 75 = .ok (.getfield 7, 3) := by decide +kernel
theorem d_Mo_slot_78 : decode prog_8_method_37_code 78 = .ok (.iload_n 1, 1) := by decide +kernel
theorem d_Mo_slot_79 : decode prog_8_method_37_code 79 = .ok (.iaload, 1) := by decide +kernel
theorem d_Mo_slot_80 : decode prog_8_method_37_code 80 = .ok (.ireturn, 1) := by decide +kernel
theorem d_Mo_slot_81 : decode prog_8_method_37_code 81 = .ok (.iload_n 2, 1) := by decide +kernel
theorem d_Mo_slot_82 : decode prog_8_method_37_code 82 = .ok (.iconst 1, 1) := by decide +kernel
theorem d_Mo_slot_83 : decode prog_8_method_37_code 83 = .ok (.if_icmp .ne 12, 3) := by decide +kernel
theorem d_Mo_slot_86 : decode prog_8_method_37_code 86 = .ok (.aload_n 0, 1) := by decide +kernel
theorem d_Mo_slot_87 : decode prog_8_method_37_code 87 = .ok (.getfield 13, 3) := by decide +kernel
theorem d_Mo_slot_90 : decode prog_8_method_37_code 90 = .ok (.iload_n 1, 1) := by decide +kernel
theorem d_Mo_slot_91 : decode prog_8_method_37_code 91 = .ok (.iaload, 1) := by decide +kernel
theorem d_Mo_slot_92 : decode prog_8_method_37_code 92 = .ok (.goto 23, 3) := by decide +kernel
theorem d_Mo_slot_95 : decode prog_8_method_37_code 95 = .ok (.iload_n 2, 1) := by decide +kernel
theorem d_Mo_slot_96 : decode prog_8_method_37_code 96 = .ok (.iconst 2, 1) := by decide +kernel
theorem d_Mo_slot_97 : decode prog_8_method_37_code 97 = .ok (.if_icmp .ne 12, 3) := by decide +kernel
theorem d_Mo_slot_100 : decode prog_8_method_37_code 100 = .ok (.aload_n 0, 1) := by decide +kernel
theorem d_Mo_slot_101 : decode prog_8_method_37_code 101 = .ok (.getfield 16, 3) := by decide +kernel
theorem d_Mo_slot_104 : decode prog_8_method_37_code 104 = .ok (.iload_n 1, 1) := by decide +kernel
theorem d_Mo_slot_105 : decode prog_8_method_37_code 105 = .ok (.iaload, 1) := by decide +kernel
theorem d_Mo_slot_106 : decode prog_8_method_37_code 106 = .ok (.goto 9, 3) := by decide +kernel
theorem d_Mo_slot_109 : decode prog_8_method_37_code 109 = .ok (.aload_n 0, 1) := by decide +kernel
theorem d_Mo_slot_110 : decode prog_8_method_37_code 110 = .ok (.getfield 19, 3) := by decide +kernel
theorem d_Mo_slot_113 : decode prog_8_method_37_code 113 = .ok (.iload_n 1, 1) := by decide +kernel
theorem d_Mo_slot_114 : decode prog_8_method_37_code 114 = .ok (.iaload, 1) := by decide +kernel
theorem d_Mo_slot_115 : decode prog_8_method_37_code 115 = .ok (.ireturn, 1) := by decide +kernel
theorem d_Mo_count_0 : decode prog_8_method_38_code 0 = .ok (.aload_n 0, 1) := by decide +kernel
theorem d_Mo_count_1 : decode prog_8_method_38_code 1 = .ok (.iconst 0, 1) := by decide +kernel
theorem d_Mo_count_2 : decode prog_8_method_38_code 2 = .ok (.putfield 57, 3) := by decide +kernel
theorem d_Mo_count_5 : decode prog_8_method_38_code 5 = .ok (.iconst 0, 1) := by decide +kernel
theorem d_Mo_count_6 : decode prog_8_method_38_code 6 = .ok (.istore_n 2, 1) := by decide +kernel
theorem d_Mo_count_7 : decode prog_8_method_38_code 7 = .ok (.iconst 0, 1) := by decide +kernel
theorem d_Mo_count_8 : decode prog_8_method_38_code 8 = .ok (.istore_n 3, 1) := by decide +kernel
theorem d_Mo_count_9 : decode prog_8_method_38_code 9 = .ok (.iload_n 3, 1) := by decide +kernel
theorem d_Mo_count_10 : decode prog_8_method_38_code 10 = .ok (.aload_n 0, 1) := by decide +kernel
theorem d_Mo_count_11 : decode prog_8_method_38_code 11 = .ok (.getfield 82, 3) := by decide +kernel
theorem d_Mo_count_14 : decode prog_8_method_38_code 14 = .ok (.if_icmp .ge 22, 3) := by decide +kernel
theorem d_Mo_count_17 : decode prog_8_method_38_code 17 = .ok (.aload_n 0, 1) := by decide +kernel
theorem d_Mo_count_18 : decode prog_8_method_38_code 18 = .ok (.getfield 41, 3) := by decide +kernel
theorem d_Mo_count_21 : decode prog_8_method_38_code 21 = .ok (.iload_n 3, 1) := by decide +kernel
theorem d_Mo_count_22 : decode prog_8_method_38_code 22 = .ok (.iaload, 1) := by decide +kernel
theorem d_Mo_count_23 : decode prog_8_method_38_code 23 = .ok (.iconst 2, 1) := by decide +kernel
theorem d_Mo_count_24 : decode prog_8_method_38_code 24 = .ok (.if_icmp .ne 6, 3) := by decide +kernel
theorem d_Mo_count_27 : decode prog_8_method_38_code 27 = .ok (.iinc 2 1, 3) := by decide +kernel
theorem d_Mo_count_30 : decode prog_8_method_38_code 30 = .ok (.iinc 3 1, 3) := by decide +kernel
theorem d_Mo_count_33 : decode prog_8_method_38_code 33 = .ok (.goto (-24), 3) := by decide +kernel
theorem d_Mo_count_36 : decode prog_8_method_38_code 36 = .ok (.iload_n 1, 1) := by decide +kernel
theorem d_Mo_count_37 : decode prog_8_method_38_code 37 = .ok (.tableswitch 74 0 5 #[39, 44, 57, 62, 64, 69], 39) := by decide +kernel
theorem d_Mo_count_76 : decode prog_8_method_38_code 76 = .ok (.aload_n 0, 1) := by decide +kernel
theorem d_Mo_count_77 : decode prog_8_method_38_code 77 = .ok (.getfield 82, 3) := by decide +kernel
theorem d_Mo_count_80 : decode prog_8_method_38_code 80 = .ok (.ireturn, 1) := by decide +kernel
theorem d_Mo_count_81 : decode prog_8_method_38_code 81 = .ok (.aload_n 0, 1) := by decide +kernel
theorem d_Mo_count_82 : decode prog_8_method_38_code 82 = .ok (.getfield 53, 3) := by decide +kernel
theorem d_Mo_count_85 : decode prog_8_method_38_code 85 = .ok (.ifCond .eq 7, 3) := by decide +kernel
theorem d_Mo_count_88 : decode prog_8_method_38_code 88 = .ok (.iconst 1, 1) := by decide +kernel
theorem d_Mo_count_89 : decode prog_8_method_38_code 89 = .ok (.goto 4, 3) := by decide +kernel
theorem d_Mo_count_92 : decode prog_8_method_38_code 92 = .ok (.iconst 0, 1) := by decide +kernel
theorem d_Mo_count_93 : decode prog_8_method_38_code 93 = .ok (.ireturn, 1) := by decide +kernel
theorem d_Mo_count_94 : decode prog_8_method_38_code 94 = .ok (.aload_n 0, 1) := by decide +kernel
theorem d_Mo_count_95 : decode prog_8_method_38_code 95 = .ok (.getfield 61, 3) := by decide +kernel
theorem d_Mo_count_98 : decode prog_8_method_38_code 98 = .ok (.ireturn, 1) := by decide +kernel
theorem d_Mo_count_99 : decode prog_8_method_38_code 99 = .ok (.iload_n 2, 1) := by decide +kernel
theorem d_Mo_count_100 : decode prog_8_method_38_code 100 = .ok (.ireturn, 1) := by decide +kernel
theorem d_Mo_count_101 : decode prog_8_method_38_code 101 = .ok (.aload_n 0, 1) := by decide +kernel
theorem d_Mo_count_102 : decode prog_8_method_38_code 102 = .ok (.getfield 171, 3) := by decide +kernel
theorem d_Mo_count_105 : decode prog_8_method_38_code 105 = .ok (.ireturn, 1) := by decide +kernel
theorem d_Mo_count_106 : decode prog_8_method_38_code 106 = .ok (.aload_n 0, 1) := by decide +kernel
theorem d_Mo_count_107 : decode prog_8_method_38_code 107 = .ok (.getfield 174, 3) := by decide +kernel
theorem d_Mo_count_110 : decode prog_8_method_38_code 110 = .ok (.ireturn, 1) := by decide +kernel
theorem d_Mo_count_111 : decode prog_8_method_38_code 111 = .ok (.iload_n 1, 1) := by decide +kernel
theorem d_Mo_count_112 : decode prog_8_method_38_code 112 = .ok (.bipush 10, 2) := by decide +kernel
theorem d_Mo_count_114 : decode prog_8_method_38_code 114 = .ok (.if_icmp .lt 33, 3) := by decide +kernel
theorem d_Mo_count_117 : decode prog_8_method_38_code 117 = .ok (.iload_n 1, 1) := by decide +kernel
theorem d_Mo_count_118 : decode prog_8_method_38_code 118 = .ok (.bipush 10, 2) := by decide +kernel
theorem d_Mo_count_120 : decode prog_8_method_38_code 120 = .ok (.isub, 1) := by decide +kernel
theorem d_Mo_count_121 : decode prog_8_method_38_code 121 = .ok (.aload_n 0, 1) := by decide +kernel
theorem d_Mo_count_122 : decode prog_8_method_38_code 122 = .ok (.getfield 82, 3) := by decide +kernel
theorem d_Mo_count_125 : decode prog_8_method_38_code 125 = .ok (.if_icmp .ge 22, 3) := by decide +kernel
theorem d_Mo_count_128 : decode prog_8_method_38_code 128 = .ok (.aload_n 0, 1) := by decide +kernel
theorem d_Mo_count_129 : decode prog_8_method_38_code 129 = .ok (.getfield 53, 3) := by decide +kernel
theorem d_Mo_count_132 : decode prog_8_method_38_code 132 = .ok (.ifCond .eq 15, 3) := by decide +kernel
theorem d_Mo_count_135 : decode prog_8_method_38_code 135 = .ok (.aload_n 0, 1) := by decide +kernel
theorem d_Mo_count_136 : decode prog_8_method_38_code 136 = .ok (.getfield 44, 3) := by decide +kernel
theorem d_Mo_count_139 : decode prog_8_method_38_code 139 = .ok (.iload_n 1, 1) := by decide +kernel
theorem d_Mo_count_140 : decode prog_8_method_38_code 140 = .ok (.bipush 10, 2) := by decide +kernel
theorem d_Mo_count_142 : decode prog_8_method_38_code 142 = .ok (.isub, 1) := by decide +kernel
theorem d_Mo_count_143 : decode prog_8_method_38_code 143 = .ok (.iaload, 1) := by decide +kernel
theorem d_Mo_count_144 : decode prog_8_method_38_code 144 = .ok (.goto 4, 3) := by decide +kernel
theorem d_Mo_count_147 : decode prog_8_method_38_code 147 = .ok (.iconst (-1), 1) := by decide +kernel
theorem d_Mo_count_148 : decode prog_8_method_38_code 148 = .ok (.ireturn, 1) := by decide +kernel
theorem d_Lw_table_0 : decode method_3_code 0 = .ok (.aload_n 0, 1) := by decide +kernel
theorem d_Lw_table_1 : decode method_3_code 1 = .ok (.iload_n 1, 1) := by decide +kernel
theorem d_Lw_table_2 : decode method_3_code 2 = .ok (.iload_n 2, 1) := by decide +kernel
theorem d_Lw_table_3 : decode method_3_code 3 = .ok (.iload_n 3, 1) := by decide +kernel
theorem d_Lw_table_4 : decode method_3_code 4 = .ok (.iload 4, 2) := by decide +kernel
theorem d_Lw_table_6 : decode method_3_code 6 = .ok (.iload 5, 2) := by decide +kernel
theorem d_Lw_table_8 : decode method_3_code 8 = .ok (.invokevirtual 7, 3) := by decide +kernel
theorem d_Lw_table_11 : decode method_3_code 11 = .ok (.goto 7, 3) := by decide +kernel
theorem d_Lw_table_14 : decode method_3_code 14 = .ok (.astore 6, 2) := by decide +kernel
theorem d_Lw_table_16 : decode method_3_code 16 = .ok (.iconst 1, 1) := by decide +kernel
theorem d_Lw_table_17 : decode method_3_code 17 = .ok (.ireturn, 1) := by decide +kernel
theorem d_Lw_table_18 : decode method_3_code 18 = .ok (.iconst 0, 1) := by decide +kernel
theorem d_Lw_table_19 : decode method_3_code 19 = .ok (.ireturn, 1) := by decide +kernel
theorem d_Lw_set_0 : decode method_4_code 0 = .ok (.aload_n 0, 1) := by decide +kernel
theorem d_Lw_set_1 : decode method_4_code 1 = .ok (.iload_n 1, 1) := by decide +kernel
theorem d_Lw_set_2 : decode method_4_code 2 = .ok (.iload_n 2, 1) := by decide +kernel
theorem d_Lw_set_3 : decode method_4_code 3 = .ok (.iload_n 3, 1) := by decide +kernel
theorem d_Lw_set_4 : decode method_4_code 4 = .ok (.dload 4, 2) := by decide +kernel
theorem d_Lw_set_6 : decode method_4_code 6 = .ok (.invokevirtual 15, 3) := by decide +kernel
theorem d_Lw_set_9 : decode method_4_code 9 = .ok (.goto 7, 3) := by decide +kernel
theorem d_Lw_set_12 : decode method_4_code 12 = .ok (.astore 6, 2) := by decide +kernel
theorem d_Lw_set_14 : decode method_4_code 14 = .ok (.iconst 1, 1) := by decide +kernel
theorem d_Lw_set_15 : decode method_4_code 15 = .ok (.ireturn, 1) := by decide +kernel
theorem d_Lw_set_16 : decode method_4_code 16 = .ok (.iconst 0, 1) := by decide +kernel
theorem d_Lw_set_17 : decode method_4_code 17 = .ok (.ireturn, 1) := by decide +kernel
theorem d_Lw_node_0 : decode method_5_code 0 = .ok (.aload 8, 2) := by decide +kernel
theorem d_Lw_node_2 : decode method_5_code 2 = .ok (.iconst 0, 1) := by decide +kernel
theorem d_Lw_node_3 : decode method_5_code 3 = .ok (.aload_n 0, 1) := by decide +kernel
theorem d_Lw_node_4 : decode method_5_code 4 = .ok (.iload_n 1, 1) := by decide +kernel
theorem d_Lw_node_5 : decode method_5_code 5 = .ok (.iload_n 2, 1) := by decide +kernel
theorem d_Lw_node_6 : decode method_5_code 6 = .ok (.iload_n 3, 1) := by decide +kernel
theorem d_Lw_node_7 : decode method_5_code 7 = .ok (.iload 4, 2) := by decide +kernel
theorem d_Lw_node_9 : decode method_5_code 9 = .ok (.iload 5, 2) := by decide +kernel
theorem d_Lw_node_11 : decode method_5_code 11 = .ok (.iload 6, 2) := by decide +kernel
theorem d_Lw_node_13 : decode method_5_code 13 = .ok (.iload 7, 2) := by decide +kernel
theorem d_Lw_node_15 : decode method_5_code 15 = .ok (.invokevirtual 19, 3) := by decide +kernel
theorem d_Lw_node_18 : decode method_5_code 18 = .ok (.i2l, 1) := by decide +kernel
theorem d_Lw_node_19 : decode method_5_code 19 = .ok (.lastore, 1) := by decide +kernel
theorem d_Lw_node_20 : decode method_5_code 20 = .ok (.goto 11, 3) := by decide +kernel
theorem d_Lw_node_23 : decode method_5_code 23 = .ok (.astore 9, 2) := by decide +kernel
theorem d_Lw_node_25 : decode method_5_code 25 = .ok (.iconst 1, 1) := by decide +kernel
theorem d_Lw_node_26 : decode method_5_code 26 = .ok (.ireturn, 1) := by decide +kernel
theorem d_Lw_node_27 : decode method_5_code 27 = .ok (.astore 9, 2) := by decide +kernel
theorem d_Lw_node_29 : decode method_5_code 29 = .ok (.iconst 2, 1) := by decide +kernel
theorem d_Lw_node_30 : decode method_5_code 30 = .ok (.ireturn, 1) := by decide +kernel
theorem d_Lw_node_31 : decode method_5_code 31 = .ok (.iconst 0, 1) := by decide +kernel
theorem d_Lw_node_32 : decode method_5_code 32 = .ok (.ireturn, 1) := by decide +kernel
theorem d_Lw_undo_0 : decode method_6_code 0 = .ok (.aload_n 0, 1) := by decide +kernel
theorem d_Lw_undo_1 : decode method_6_code 1 = .ok (.invokevirtual 25, 3) := by decide +kernel
theorem d_Lw_undo_4 : decode method_6_code 4 = .ok (.goto 6, 3) := by decide +kernel
theorem d_Lw_undo_7 : decode method_6_code 7 = .ok (.astore_n 1, 1) := by decide +kernel
theorem d_Lw_undo_8 : decode method_6_code 8 = .ok (.iconst 1, 1) := by decide +kernel
theorem d_Lw_undo_9 : decode method_6_code 9 = .ok (.ireturn, 1) := by decide +kernel
theorem d_Lw_undo_10 : decode method_6_code 10 = .ok (.iconst 0, 1) := by decide +kernel
theorem d_Lw_undo_11 : decode method_6_code 11 = .ok (.ireturn, 1) := by decide +kernel
theorem d_Lw_prepare_0 : decode method_7_code 0 = .ok (.aload_n 1, 1) := by decide +kernel
theorem d_Lw_prepare_1 : decode method_7_code 1 = .ok (.iconst 0, 1) := by decide +kernel
theorem d_Lw_prepare_2 : decode method_7_code 2 = .ok (.aload_n 0, 1) := by decide +kernel
theorem d_Lw_prepare_3 : decode method_7_code 3 = .ok (.invokevirtual 30, 3) := by decide +kernel
theorem d_Lw_prepare_6 : decode method_7_code 6 = .ok (.i2l, 1) := by decide +kernel
theorem d_Lw_prepare_7 : decode method_7_code 7 = .ok (.lastore, 1) := by decide +kernel
theorem d_Lw_prepare_8 : decode method_7_code 8 = .ok (.goto 9, 3) := by decide +kernel
theorem d_Lw_prepare_11 : decode method_7_code 11 = .ok (.astore_n 2, 1) := by decide +kernel
theorem d_Lw_prepare_12 : decode method_7_code 12 = .ok (.iconst 1, 1) := by decide +kernel
theorem d_Lw_prepare_13 : decode method_7_code 13 = .ok (.ireturn, 1) := by decide +kernel
theorem d_Lw_prepare_14 : decode method_7_code 14 = .ok (.astore_n 2, 1) := by decide +kernel
theorem d_Lw_prepare_15 : decode method_7_code 15 = .ok (.iconst 2, 1) := by decide +kernel
theorem d_Lw_prepare_16 : decode method_7_code 16 = .ok (.ireturn, 1) := by decide +kernel
theorem d_Lw_prepare_17 : decode method_7_code 17 = .ok (.iconst 0, 1) := by decide +kernel
theorem d_Lw_prepare_18 : decode method_7_code 18 = .ok (.ireturn, 1) := by decide +kernel
theorem d_Lw_run_0 : decode method_8_code 0 = .ok (.aload_n 2, 1) := by decide +kernel
theorem d_Lw_run_1 : decode method_8_code 1 = .ok (.iconst 0, 1) := by decide +kernel
theorem d_Lw_run_2 : decode method_8_code 2 = .ok (.aload_n 0, 1) := by decide +kernel
theorem d_Lw_run_3 : decode method_8_code 3 = .ok (.iload_n 1, 1) := by decide +kernel
theorem d_Lw_run_4 : decode method_8_code 4 = .ok (.invokevirtual 36, 3) := by decide +kernel
theorem d_Lw_run_7 : decode method_8_code 7 = .ok (.i2l, 1) := by decide +kernel
theorem d_Lw_run_8 : decode method_8_code 8 = .ok (.lastore, 1) := by decide +kernel
theorem d_Lw_run_9 : decode method_8_code 9 = .ok (.goto 15, 3) := by decide +kernel
theorem d_Lw_run_12 : decode method_8_code 12 = .ok (.astore_n 3, 1) := by decide +kernel
theorem d_Lw_run_13 : decode method_8_code 13 = .ok (.iconst 1, 1) := by decide +kernel
theorem d_Lw_run_14 : decode method_8_code 14 = .ok (.ireturn, 1) := by decide +kernel
theorem d_Lw_run_15 : decode method_8_code 15 = .ok (.astore_n 3, 1) := by decide +kernel
theorem d_Lw_run_16 : decode method_8_code 16 = .ok (.iconst 2, 1) := by decide +kernel
theorem d_Lw_run_17 : decode method_8_code 17 = .ok (.ireturn, 1) := by decide +kernel
theorem d_Lw_run_18 : decode method_8_code 18 = .ok (.astore_n 3, 1) := by decide +kernel
theorem d_Lw_run_19 : decode method_8_code 19 = .ok (.iconst 3, 1) := by decide +kernel
theorem d_Lw_run_20 : decode method_8_code 20 = .ok (.ireturn, 1) := by decide +kernel
theorem d_Lw_run_21 : decode method_8_code 21 = .ok (.astore_n 3, 1) := by decide +kernel
theorem d_Lw_run_22 : decode method_8_code 22 = .ok (.iconst 4, 1) := by decide +kernel
theorem d_Lw_run_23 : decode method_8_code 23 = .ok (.ireturn, 1) := by decide +kernel
theorem d_Lw_run_24 : decode method_8_code 24 = .ok (.iconst 0, 1) := by decide +kernel
theorem d_Lw_run_25 : decode method_8_code 25 = .ok (.ireturn, 1) := by decide +kernel
theorem d_Lw_get_0 : decode method_9_code 0 = .ok (.aload 4, 2) := by decide +kernel
theorem d_Lw_get_2 : decode method_9_code 2 = .ok (.iconst 0, 1) := by decide +kernel
theorem d_Lw_get_3 : decode method_9_code 3 = .ok (.aload_n 0, 1) := by decide +kernel
theorem d_Lw_get_4 : decode method_9_code 4 = .ok (.iload_n 1, 1) := by decide +kernel
theorem d_Lw_get_5 : decode method_9_code 5 = .ok (.iload_n 2, 1) := by decide +kernel
theorem d_Lw_get_6 : decode method_9_code 6 = .ok (.iload_n 3, 1) := by decide +kernel
theorem d_Lw_get_7 : decode method_9_code 7 = .ok (.invokevirtual 44, 3) := by decide +kernel
theorem d_Lw_get_10 : decode method_9_code 10 = .ok (.dastore, 1) := by decide +kernel
theorem d_Lw_get_11 : decode method_9_code 11 = .ok (.goto 11, 3) := by decide +kernel
theorem d_Lw_get_14 : decode method_9_code 14 = .ok (.astore 5, 2) := by decide +kernel
theorem d_Lw_get_16 : decode method_9_code 16 = .ok (.iconst 1, 1) := by decide +kernel
theorem d_Lw_get_17 : decode method_9_code 17 = .ok (.ireturn, 1) := by decide +kernel
theorem d_Lw_get_18 : decode method_9_code 18 = .ok (.astore 5, 2) := by decide +kernel
theorem d_Lw_get_20 : decode method_9_code 20 = .ok (.iconst 2, 1) := by decide +kernel
theorem d_Lw_get_21 : decode method_9_code 21 = .ok (.ireturn, 1) := by decide +kernel
theorem d_Lw_get_22 : decode method_9_code 22 = .ok (.iconst 0, 1) := by decide +kernel
theorem d_Lw_get_23 : decode method_9_code 23 = .ok (.ireturn, 1) := by decide +kernel
theorem d_Lw_slot_0 : decode method_10_code 0 = .ok (.aload_n 3, 1) := by decide +kernel
theorem d_Lw_slot_1 : decode method_10_code 1 = .ok (.iconst 0, 1) := by decide +kernel
theorem d_Lw_slot_2 : decode method_10_code 2 = .ok (.aload_n 0, 1) := by decide +kernel
theorem d_Lw_slot_3 : decode method_10_code 3 = .ok (.iload_n 1, 1) := by decide +kernel
theorem d_Lw_slot_4 : decode method_10_code 4 = .ok (.iload_n 2, 1) := by decide +kernel
theorem d_Lw_slot_5 : decode method_10_code 5 = .ok (.invokevirtual 48, 3) := by decide +kernel
theorem d_Lw_slot_8 : decode method_10_code 8 = .ok (.i2l, 1) := by decide +kernel
theorem d_Lw_slot_9 : decode method_10_code 9 = .ok (.lastore, 1) := by decide +kernel
theorem d_Lw_slot_10 : decode method_10_code 10 = .ok (.goto 11, 3) := by decide +kernel
theorem d_Lw_slot_13 : decode method_10_code 13 = .ok (.astore 4, 2) := by decide +kernel
theorem d_Lw_slot_15 : decode method_10_code 15 = .ok (.iconst 1, 1) := by decide +kernel
theorem d_Lw_slot_16 : decode method_10_code 16 = .ok (.ireturn, 1) := by decide +kernel
theorem d_Lw_slot_17 : decode method_10_code 17 = .ok (.astore 4, 2) := by decide +kernel
theorem d_Lw_slot_19 : decode method_10_code 19 = .ok (.iconst 2, 1) := by decide +kernel
theorem d_Lw_slot_20 : decode method_10_code 20 = .ok (.ireturn, 1) := by decide +kernel
theorem d_Lw_slot_21 : decode method_10_code 21 = .ok (.iconst 0, 1) := by decide +kernel
theorem d_Lw_slot_22 : decode method_10_code 22 = .ok (.ireturn, 1) := by decide +kernel
theorem d_Lw_law_0 : decode code 0 = .ok (.new 8, 3) := by decide +kernel
theorem d_Lw_law_3 : decode code 3 = .ok (.dup, 1) := by decide +kernel
theorem d_Lw_law_4 : decode code 4 = .ok (.invokespecial 52, 3) := by decide +kernel
theorem d_Lw_law_7 : decode code 7 = .ok (.astore_n 1, 1) := by decide +kernel
theorem d_Lw_law_8 : decode code 8 = .ok (.new 53, 3) := by decide +kernel
theorem d_Lw_law_11 : decode code 11 = .ok (.dup, 1) := by decide +kernel
theorem d_Lw_law_12 : decode code 12 = .ok (.invokespecial 55, 3) := by decide +kernel
theorem d_Lw_law_15 : decode code 15 = .ok (.astore_n 2, 1) := by decide +kernel
theorem d_Lw_law_16 : decode code 16 = .ok (.iconst 1, 1) := by decide +kernel
theorem d_Lw_law_17 : decode code 17 = .ok (.newarray .long, 2) := by decide +kernel
theorem d_Lw_law_19 : decode code 19 = .ok (.astore_n 3, 1) := by decide +kernel
theorem d_Lw_law_20 : decode code 20 = .ok (.iconst 1, 1) := by decide +kernel
theorem d_Lw_law_21 : decode code 21 = .ok (.newarray .double, 2) := by decide +kernel
theorem d_Lw_law_23 : decode code 23 = .ok (.astore 4, 2) := by decide +kernel
theorem d_Lw_law_25 : decode code 25 = .ok (.iconst 0, 1) := by decide +kernel
theorem d_Lw_law_26 : decode code 26 = .ok (.istore 5, 2) := by decide +kernel
theorem d_Lw_law_28 : decode code 28 = .ok (.iload 5, 2) := by decide +kernel
theorem d_Lw_law_30 : decode code 30 = .ok (.aload_n 0, 1) := by decide +kernel
theorem d_Lw_law_31 : decode code 31 = .ok (.arraylength, 1) := by decide +kernel
theorem d_Lw_law_32 : decode code 32 = .ok (.bipush 8, 2) := by decide +kernel
theorem d_Lw_law_34 : decode code 34 = .ok (.isub, 1) := by decide +kernel
theorem d_Lw_law_35 : decode code 35 = .ok (.if_icmp .gt 699, 3) := by decide +kernel
theorem d_Lw_law_38 : decode code 38 = .ok (.aload_n 0, 1) := by decide +kernel
theorem d_Lw_law_39 : decode code 39 = .ok (.iload 5, 2) := by decide +kernel
theorem d_Lw_law_41 : decode code 41 = .ok (.iaload, 1) := by decide +kernel
theorem d_Lw_law_42 : decode code 42 = .ok (.bipush 15, 2) := by decide +kernel
theorem d_Lw_law_44 : decode code 44 = .ok (.iand, 1) := by decide +kernel
theorem d_Lw_law_45 : decode code 45 = .ok (.tableswitch 683 0 8 #[51, 151, 233, 365, 389, 433, 489, 590, 658], 51) := by decide +kernel
theorem d_Lw_law_96 : decode code 96 = .ok (.aload_n 1, 1) := by decide +kernel
theorem d_Lw_law_97 : decode code 97 = .ok (.aload_n 0, 1) := by decide +kernel
theorem d_Lw_law_98 : decode code 98 = .ok (.iload 5, 2) := by decide +kernel
theorem d_Lw_law_100 : decode code 100 = .ok (.iconst 1, 1) := by decide +kernel
theorem d_Lw_law_101 : decode code 101 = .ok (.iadd, 1) := by decide +kernel
theorem d_Lw_law_102 : decode code 102 = .ok (.iaload, 1) := by decide +kernel
theorem d_Lw_law_103 : decode code 103 = .ok (.aload_n 0, 1) := by decide +kernel
theorem d_Lw_law_104 : decode code 104 = .ok (.iload 5, 2) := by decide +kernel
theorem d_Lw_law_106 : decode code 106 = .ok (.iconst 2, 1) := by decide +kernel
theorem d_Lw_law_107 : decode code 107 = .ok (.iadd, 1) := by decide +kernel
theorem d_Lw_law_108 : decode code 108 = .ok (.iaload, 1) := by decide +kernel
theorem d_Lw_law_109 : decode code 109 = .ok (.aload_n 0, 1) := by decide +kernel
theorem d_Lw_law_110 : decode code 110 = .ok (.iload 5, 2) := by decide +kernel
theorem d_Lw_law_112 : decode code 112 = .ok (.iconst 3, 1) := by decide +kernel
theorem d_Lw_law_113 : decode code 113 = .ok (.iadd, 1) := by decide +kernel
theorem d_Lw_law_114 : decode code 114 = .ok (.iaload, 1) := by decide +kernel
theorem d_Lw_law_115 : decode code 115 = .ok (.aload_n 0, 1) := by decide +kernel
theorem d_Lw_law_116 : decode code 116 = .ok (.iload 5, 2) := by decide +kernel
theorem d_Lw_law_118 : decode code 118 = .ok (.iconst 4, 1) := by decide +kernel
theorem d_Lw_law_119 : decode code 119 = .ok (.iadd, 1) := by decide +kernel
theorem d_Lw_law_120 : decode code 120 = .ok (.iaload, 1) := by decide +kernel
theorem d_Lw_law_121 : decode code 121 = .ok (.aload_n 0, 1) := by decide +kernel
theorem d_Lw_law_122 : decode code 122 = .ok (.iload 5, 2) := by decide +kernel
theorem d_Lw_law_124 : decode code 124 = .ok (.iconst 5, 1) := by decide +kernel
theorem d_Lw_law_125 : decode code 125 = .ok (.iadd, 1) := by decide +kernel
theorem d_Lw_law_126 : decode code 126 = .ok (.iaload, 1) := by decide +kernel
theorem d_Lw_law_127 : decode code 127 = .ok (.ifCond .eq 7, 3) := by decide +kernel
theorem d_Lw_law_130 : decode code 130 = .ok (.iconst 1, 1) := by decide +kernel
theorem d_Lw_law_131 : decode code 131 = .ok (.goto 4, 3) := by decide +kernel
theorem d_Lw_law_134 : decode code 134 = .ok (.iconst 0, 1) := by decide +kernel
theorem d_Lw_law_135 : decode code 135 = .ok (.invokestatic 56, 3) := by decide +kernel
theorem d_Lw_law_138 : decode code 138 = .ok (.istore 6, 2) := by decide +kernel
theorem d_Lw_law_140 : decode code 140 = .ok (.aload_n 2, 1) := by decide +kernel
theorem d_Lw_law_141 : decode code 141 = .ok (.aload_n 0, 1) := by decide +kernel
theorem d_Lw_law_142 : decode code 142 = .ok (.iload 5, 2) := by decide +kernel
theorem d_Lw_law_144 : decode code 144 = .ok (.iconst 1, 1) := by decide +kernel
theorem d_Lw_law_145 : decode code 145 = .ok (.iadd, 1) := by decide +kernel
theorem d_Lw_law_146 : decode code 146 = .ok (.iaload, 1) := by decide +kernel
theorem d_Lw_law_147 : decode code 147 = .ok (.aload_n 0, 1) := by decide +kernel
theorem d_Lw_law_148 : decode code 148 = .ok (.iload 5, 2) := by decide +kernel
theorem d_Lw_law_150 : decode code 150 = .ok (.iconst 2, 1) := by decide +kernel
theorem d_Lw_law_151 : decode code 151 = .ok (.iadd, 1) := by decide +kernel
theorem d_Lw_law_152 : decode code 152 = .ok (.iaload, 1) := by decide +kernel
theorem d_Lw_law_153 : decode code 153 = .ok (.aload_n 0, 1) := by decide +kernel
theorem d_Lw_law_154 : decode code 154 = .ok (.iload 5, 2) := by decide +kernel
theorem d_Lw_law_156 : decode code 156 = .ok (.iconst 3, 1) := by decide +kernel
theorem d_Lw_law_157 : decode code 157 = .ok (.iadd, 1) := by decide +kernel
theorem d_Lw_law_158 : decode code 158 = .ok (.iaload, 1) := by decide +kernel
theorem d_Lw_law_159 : decode code 159 = .ok (.aload_n 0, 1) := by decide +kernel
theorem d_Lw_law_160 : decode code 160 = .ok (.iload 5, 2) := by decide +kernel
theorem d_Lw_law_162 : decode code 162 = .ok (.iconst 4, 1) := by decide +kernel
theorem d_Lw_law_163 : decode code 163 = .ok (.iadd, 1) := by decide +kernel
theorem d_Lw_law_164 : decode code 164 = .ok (.iaload, 1) := by decide +kernel
theorem d_Lw_law_165 : decode code 165 = .ok (.aload_n 0, 1) := by decide +kernel
theorem d_Lw_law_166 : decode code 166 = .ok (.iload 5, 2) := by decide +kernel
theorem d_Lw_law_168 : decode code 168 = .ok (.iconst 5, 1) := by decide +kernel
theorem d_Lw_law_169 : decode code 169 = .ok (.iadd, 1) := by decide +kernel
theorem d_Lw_law_170 : decode code 170 = .ok (.iaload, 1) := by decide +kernel
theorem d_Lw_law_171 : decode code 171 = .ok (.ifCond .eq 7, 3) := by decide +kernel
theorem d_Lw_law_174 : decode code 174 = .ok (.iconst 1, 1) := by decide +kernel
theorem d_Lw_law_175 : decode code 175 = .ok (.goto 4, 3) := by decide +kernel
theorem d_Lw_law_178 : decode code 178 = .ok (.iconst 0, 1) := by decide +kernel
theorem d_Lw_law_179 : decode code 179 = .ok (.invokevirtual 61, 3) := by decide +kernel
theorem d_Lw_law_182 : decode code 182 = .ok (.aload_n 2, 1) := by decide +kernel
theorem d_Lw_law_183 : decode code 183 = .ok (.invokevirtual 62, 3) := by decide +kernel
theorem d_Lw_law_186 : decode code 186 = .ok (.iload 6, 2) := by decide +kernel
theorem d_Lw_law_188 : decode code 188 = .ok (.if_icmp .eq 5, 3) := by decide +kernel
theorem d_Lw_law_191 : decode code 191 = .ok (.iconst 0, 1) := by decide +kernel
theorem d_Lw_law_192 : decode code 192 = .ok (.ireturn, 1) := by decide +kernel
theorem d_Lw_law_193 : decode code 193 = .ok (.goto 535, 3) := by decide +kernel
theorem d_Lw_law_196 : decode code 196 = .ok (.aload_n 1, 1) := by decide +kernel
theorem d_Lw_law_197 : decode code 197 = .ok (.aload_n 0, 1) := by decide +kernel
theorem d_Lw_law_198 : decode code 198 = .ok (.iload 5, 2) := by decide +kernel
theorem d_Lw_law_200 : decode code 200 = .ok (.iconst 1, 1) := by decide +kernel
theorem d_Lw_law_201 : decode code 201 = .ok (.iadd, 1) := by decide +kernel
theorem d_Lw_law_202 : decode code 202 = .ok (.iaload, 1) := by decide +kernel
theorem d_Lw_law_203 : decode code 203 = .ok (.aload_n 0, 1) := by decide +kernel
theorem d_Lw_law_204 : decode code 204 = .ok (.iload 5, 2) := by decide +kernel
theorem d_Lw_law_206 : decode code 206 = .ok (.iconst 2, 1) := by decide +kernel
theorem d_Lw_law_207 : decode code 207 = .ok (.iadd, 1) := by decide +kernel
theorem d_Lw_law_208 : decode code 208 = .ok (.iaload, 1) := by decide +kernel
theorem d_Lw_law_209 : decode code 209 = .ok (.aload_n 0, 1) := by decide +kernel
theorem d_Lw_law_210 : decode code 210 = .ok (.iload 5, 2) := by decide +kernel
theorem d_Lw_law_212 : decode code 212 = .ok (.iconst 3, 1) := by decide +kernel
theorem d_Lw_law_213 : decode code 213 = .ok (.iadd, 1) := by decide +kernel
theorem d_Lw_law_214 : decode code 214 = .ok (.iaload, 1) := by decide +kernel
theorem d_Lw_law_215 : decode code 215 = .ok (.aload_n 0, 1) := by decide +kernel
theorem d_Lw_law_216 : decode code 216 = .ok (.iload 5, 2) := by decide +kernel
theorem d_Lw_law_218 : decode code 218 = .ok (.iconst 4, 1) := by decide +kernel
theorem d_Lw_law_219 : decode code 219 = .ok (.iadd, 1) := by decide +kernel
theorem d_Lw_law_220 : decode code 220 = .ok (.iaload, 1) := by decide +kernel
theorem d_Lw_law_221 : decode code 221 = .ok (.i2d, 1) := by decide +kernel
end
section
theorem d_Lw_law_222 : decode code 222 = .ok (.ldc2_w 65, 3) := by decide +kernel
theorem d_Lw_law_225 : decode code 225 = .ok (.dmul, 1) := by decide +kernel
theorem d_Lw_law_226 : decode code 226 = .ok (.invokestatic 67, 3) := by decide +kernel
theorem d_Lw_law_229 : decode code 229 = .ok (.istore 6, 2) := by decide +kernel
theorem d_Lw_law_231 : decode code 231 = .ok (.aload_n 2, 1) := by decide +kernel
theorem d_Lw_law_232 : decode code 232 = .ok (.aload_n 0, 1) := by decide +kernel
theorem d_Lw_law_233 : decode code 233 = .ok (.iload 5, 2) := by decide +kernel
theorem d_Lw_law_235 : decode code 235 = .ok (.iconst 1, 1) := by decide +kernel
theorem d_Lw_law_236 : decode code 236 = .ok (.iadd, 1) := by decide +kernel
theorem d_Lw_law_237 : decode code 237 = .ok (.iaload, 1) := by decide +kernel
theorem d_Lw_law_238 : decode code 238 = .ok (.aload_n 0, 1) := by decide +kernel
theorem d_Lw_law_239 : decode code 239 = .ok (.iload 5, 2) := by decide +kernel
theorem d_Lw_law_241 : decode code 241 = .ok (.iconst 2, 1) := by decide +kernel
theorem d_Lw_law_242 : decode code 242 = .ok (.iadd, 1) := by decide +kernel
theorem d_Lw_law_243 : decode code 243 = .ok (.iaload, 1) := by decide +kernel
theorem d_Lw_law_244 : decode code 244 = .ok (.aload_n 0, 1) := by decide +kernel
theorem d_Lw_law_245 : decode code 245 = .ok (.iload 5, 2) := by decide +kernel
theorem d_Lw_law_247 : decode code 247 = .ok (.iconst 3, 1) := by decide +kernel
theorem d_Lw_law_248 : decode code 248 = .ok (.iadd, 1) := by decide +kernel
theorem d_Lw_law_249 : decode code 249 = .ok (.iaload, 1) := by decide +kernel
theorem d_Lw_law_250 : decode code 250 = .ok (.aload_n 0, 1) := by decide +kernel
theorem d_Lw_law_251 : decode code 251 = .ok (.iload 5, 2) := by decide +kernel
theorem d_Lw_law_253 : decode code 253 = .ok (.iconst 4, 1) := by decide +kernel
theorem d_Lw_law_254 : decode code 254 = .ok (.iadd, 1) := by decide +kernel
theorem d_Lw_law_255 : decode code 255 = .ok (.iaload, 1) := by decide +kernel
theorem d_Lw_law_256 : decode code 256 = .ok (.i2d, 1) := by decide +kernel
theorem d_Lw_law_257 : decode code 257 = .ok (.ldc2_w 65, 3) := by decide +kernel
theorem d_Lw_law_260 : decode code 260 = .ok (.dmul, 1) := by decide +kernel
theorem d_Lw_law_261 : decode code 261 = .ok (.invokevirtual 70, 3) := by decide +kernel
theorem d_Lw_law_264 : decode code 264 = .ok (.aload_n 2, 1) := by decide +kernel
theorem d_Lw_law_265 : decode code 265 = .ok (.invokevirtual 62, 3) := by decide +kernel
theorem d_Lw_law_268 : decode code 268 = .ok (.iload 6, 2) := by decide +kernel
theorem d_Lw_law_270 : decode code 270 = .ok (.if_icmp .eq 5, 3) := by decide +kernel
theorem d_Lw_law_273 : decode code 273 = .ok (.iconst 0, 1) := by decide +kernel
theorem d_Lw_law_274 : decode code 274 = .ok (.ireturn, 1) := by decide +kernel
theorem d_Lw_law_275 : decode code 275 = .ok (.goto 453, 3) := by decide +kernel
theorem d_Lw_law_278 : decode code 278 = .ok (.aload_n 1, 1) := by decide +kernel
theorem d_Lw_law_279 : decode code 279 = .ok (.aload_n 0, 1) := by decide +kernel
theorem d_Lw_law_280 : decode code 280 = .ok (.iload 5, 2) := by decide +kernel
theorem d_Lw_law_282 : decode code 282 = .ok (.iconst 1, 1) := by decide +kernel
theorem d_Lw_law_283 : decode code 283 = .ok (.iadd, 1) := by decide +kernel
theorem d_Lw_law_284 : decode code 284 = .ok (.iaload, 1) := by decide +kernel
theorem d_Lw_law_285 : decode code 285 = .ok (.aload_n 0, 1) := by decide +kernel
theorem d_Lw_law_286 : decode code 286 = .ok (.iload 5, 2) := by decide +kernel
theorem d_Lw_law_288 : decode code 288 = .ok (.iconst 2, 1) := by decide +kernel
theorem d_Lw_law_289 : decode code 289 = .ok (.iadd, 1) := by decide +kernel
theorem d_Lw_law_290 : decode code 290 = .ok (.iaload, 1) := by decide +kernel
theorem d_Lw_law_291 : decode code 291 = .ok (.aload_n 0, 1) := by decide +kernel
theorem d_Lw_law_292 : decode code 292 = .ok (.iload 5, 2) := by decide +kernel
theorem d_Lw_law_294 : decode code 294 = .ok (.iconst 3, 1) := by decide +kernel
theorem d_Lw_law_295 : decode code 295 = .ok (.iadd, 1) := by decide +kernel
theorem d_Lw_law_296 : decode code 296 = .ok (.iaload, 1) := by decide +kernel
theorem d_Lw_law_297 : decode code 297 = .ok (.aload_n 0, 1) := by decide +kernel
theorem d_Lw_law_298 : decode code 298 = .ok (.iload 5, 2) := by decide +kernel
theorem d_Lw_law_300 : decode code 300 = .ok (.iconst 4, 1) := by decide +kernel
theorem d_Lw_law_301 : decode code 301 = .ok (.iadd, 1) := by decide +kernel
theorem d_Lw_law_302 : decode code 302 = .ok (.iaload, 1) := by decide +kernel
theorem d_Lw_law_303 : decode code 303 = .ok (.aload_n 0, 1) := by decide +kernel
theorem d_Lw_law_304 : decode code 304 = .ok (.iload 5, 2) := by decide +kernel
theorem d_Lw_law_306 : decode code 306 = .ok (.iconst 5, 1) := by decide +kernel
theorem d_Lw_law_307 : decode code 307 = .ok (.iadd, 1) := by decide +kernel
theorem d_Lw_law_308 : decode code 308 = .ok (.iaload, 1) := by decide +kernel
theorem d_Lw_law_309 : decode code 309 = .ok (.aload_n 0, 1) := by decide +kernel
theorem d_Lw_law_310 : decode code 310 = .ok (.iload 5, 2) := by decide +kernel
theorem d_Lw_law_312 : decode code 312 = .ok (.bipush 6, 2) := by decide +kernel
theorem d_Lw_law_314 : decode code 314 = .ok (.iadd, 1) := by decide +kernel
theorem d_Lw_law_315 : decode code 315 = .ok (.iaload, 1) := by decide +kernel
theorem d_Lw_law_316 : decode code 316 = .ok (.aload_n 0, 1) := by decide +kernel
theorem d_Lw_law_317 : decode code 317 = .ok (.iload 5, 2) := by decide +kernel
theorem d_Lw_law_319 : decode code 319 = .ok (.bipush 7, 2) := by decide +kernel
theorem d_Lw_law_321 : decode code 321 = .ok (.iadd, 1) := by decide +kernel
theorem d_Lw_law_322 : decode code 322 = .ok (.iaload, 1) := by decide +kernel
theorem d_Lw_law_323 : decode code 323 = .ok (.aload_n 3, 1) := by decide +kernel
theorem d_Lw_law_324 : decode code 324 = .ok (.invokestatic 71, 3) := by decide +kernel
theorem d_Lw_law_327 : decode code 327 = .ok (.istore 6, 2) := by decide +kernel
theorem d_Lw_law_329 : decode code 329 = .ok (.aload_n 2, 1) := by decide +kernel
theorem d_Lw_law_330 : decode code 330 = .ok (.aload_n 0, 1) := by decide +kernel
theorem d_Lw_law_331 : decode code 331 = .ok (.iload 5, 2) := by decide +kernel
theorem d_Lw_law_333 : decode code 333 = .ok (.iconst 1, 1) := by decide +kernel
theorem d_Lw_law_334 : decode code 334 = .ok (.iadd, 1) := by decide +kernel
theorem d_Lw_law_335 : decode code 335 = .ok (.iaload, 1) := by decide +kernel
theorem d_Lw_law_336 : decode code 336 = .ok (.aload_n 0, 1) := by decide +kernel
theorem d_Lw_law_337 : decode code 337 = .ok (.iload 5, 2) := by decide +kernel
theorem d_Lw_law_339 : decode code 339 = .ok (.iconst 2, 1) := by decide +kernel
theorem d_Lw_law_340 : decode code 340 = .ok (.iadd, 1) := by decide +kernel
theorem d_Lw_law_341 : decode code 341 = .ok (.iaload, 1) := by decide +kernel
theorem d_Lw_law_342 : decode code 342 = .ok (.aload_n 0, 1) := by decide +kernel
theorem d_Lw_law_343 : decode code 343 = .ok (.iload 5, 2) := by decide +kernel
theorem d_Lw_law_345 : decode code 345 = .ok (.iconst 3, 1) := by decide +kernel
theorem d_Lw_law_346 : decode code 346 = .ok (.iadd, 1) := by decide +kernel
theorem d_Lw_law_347 : decode code 347 = .ok (.iaload, 1) := by decide +kernel
theorem d_Lw_law_348 : decode code 348 = .ok (.aload_n 0, 1) := by decide +kernel
theorem d_Lw_law_349 : decode code 349 = .ok (.iload 5, 2) := by decide +kernel
theorem d_Lw_law_351 : decode code 351 = .ok (.iconst 4, 1) := by decide +kernel
theorem d_Lw_law_352 : decode code 352 = .ok (.iadd, 1) := by decide +kernel
theorem d_Lw_law_353 : decode code 353 = .ok (.iaload, 1) := by decide +kernel
theorem d_Lw_law_354 : decode code 354 = .ok (.aload_n 0, 1) := by decide +kernel
theorem d_Lw_law_355 : decode code 355 = .ok (.iload 5, 2) := by decide +kernel
theorem d_Lw_law_357 : decode code 357 = .ok (.iconst 5, 1) := by decide +kernel
theorem d_Lw_law_358 : decode code 358 = .ok (.iadd, 1) := by decide +kernel
theorem d_Lw_law_359 : decode code 359 = .ok (.iaload, 1) := by decide +kernel
theorem d_Lw_law_360 : decode code 360 = .ok (.aload_n 0, 1) := by decide +kernel
theorem d_Lw_law_361 : decode code 361 = .ok (.iload 5, 2) := by decide +kernel
theorem d_Lw_law_363 : decode code 363 = .ok (.bipush 6, 2) := by decide +kernel
theorem d_Lw_law_365 : decode code 365 = .ok (.iadd, 1) := by decide +kernel
theorem d_Lw_law_366 : decode code 366 = .ok (.iaload, 1) := by decide +kernel
theorem d_Lw_law_367 : decode code 367 = .ok (.aload_n 0, 1) := by decide +kernel
theorem d_Lw_law_368 : decode code 368 = .ok (.iload 5, 2) := by decide +kernel
theorem d_Lw_law_370 : decode code 370 = .ok (.bipush 7, 2) := by decide +kernel
theorem d_Lw_law_372 : decode code 372 = .ok (.iadd, 1) := by decide +kernel
theorem d_Lw_law_373 : decode code 373 = .ok (.iaload, 1) := by decide +kernel
theorem d_Lw_law_374 : decode code 374 = .ok (.invokevirtual 74, 3) := by decide +kernel
theorem d_Lw_law_377 : decode code 377 = .ok (.istore 7, 2) := by decide +kernel
theorem d_Lw_law_379 : decode code 379 = .ok (.aload_n 2, 1) := by decide +kernel
theorem d_Lw_law_380 : decode code 380 = .ok (.invokevirtual 62, 3) := by decide +kernel
theorem d_Lw_law_383 : decode code 383 = .ok (.iload 6, 2) := by decide +kernel
theorem d_Lw_law_385 : decode code 385 = .ok (.if_icmp .eq 5, 3) := by decide +kernel
theorem d_Lw_law_388 : decode code 388 = .ok (.iconst 0, 1) := by decide +kernel
theorem d_Lw_law_389 : decode code 389 = .ok (.ireturn, 1) := by decide +kernel
theorem d_Lw_law_390 : decode code 390 = .ok (.iload 6, 2) := by decide +kernel
theorem d_Lw_law_392 : decode code 392 = .ok (.ifCond .ne 15, 3) := by decide +kernel
theorem d_Lw_law_395 : decode code 395 = .ok (.aload_n 3, 1) := by decide +kernel
theorem d_Lw_law_396 : decode code 396 = .ok (.iconst 0, 1) := by decide +kernel
theorem d_Lw_law_397 : decode code 397 = .ok (.laload, 1) := by decide +kernel
theorem d_Lw_law_398 : decode code 398 = .ok (.iload 7, 2) := by decide +kernel
theorem d_Lw_law_400 : decode code 400 = .ok (.i2l, 1) := by decide +kernel
theorem d_Lw_law_401 : decode code 401 = .ok (.lcmp, 1) := by decide +kernel
theorem d_Lw_law_402 : decode code 402 = .ok (.ifCond .eq 5, 3) := by decide +kernel
theorem d_Lw_law_405 : decode code 405 = .ok (.iconst 0, 1) := by decide +kernel
theorem d_Lw_law_406 : decode code 406 = .ok (.ireturn, 1) := by decide +kernel
theorem d_Lw_law_407 : decode code 407 = .ok (.goto 321, 3) := by decide +kernel
theorem d_Lw_law_410 : decode code 410 = .ok (.aload_n 1, 1) := by decide +kernel
theorem d_Lw_law_411 : decode code 411 = .ok (.invokestatic 75, 3) := by decide +kernel
theorem d_Lw_law_414 : decode code 414 = .ok (.istore 6, 2) := by decide +kernel
theorem d_Lw_law_416 : decode code 416 = .ok (.aload_n 2, 1) := by decide +kernel
theorem d_Lw_law_417 : decode code 417 = .ok (.invokevirtual 78, 3) := by decide +kernel
theorem d_Lw_law_420 : decode code 420 = .ok (.aload_n 2, 1) := by decide +kernel
theorem d_Lw_law_421 : decode code 421 = .ok (.invokevirtual 62, 3) := by decide +kernel
theorem d_Lw_law_424 : decode code 424 = .ok (.iload 6, 2) := by decide +kernel
theorem d_Lw_law_426 : decode code 426 = .ok (.if_icmp .eq 5, 3) := by decide +kernel
theorem d_Lw_law_429 : decode code 429 = .ok (.iconst 0, 1) := by decide +kernel
theorem d_Lw_law_430 : decode code 430 = .ok (.ireturn, 1) := by decide +kernel
theorem d_Lw_law_431 : decode code 431 = .ok (.goto 297, 3) := by decide +kernel
theorem d_Lw_law_434 : decode code 434 = .ok (.aload_n 1, 1) := by decide +kernel
theorem d_Lw_law_435 : decode code 435 = .ok (.aload_n 3, 1) := by decide +kernel
theorem d_Lw_law_436 : decode code 436 = .ok (.invokestatic 79, 3) := by decide +kernel
theorem d_Lw_law_439 : decode code 439 = .ok (.istore 6, 2) := by decide +kernel
theorem d_Lw_law_441 : decode code 441 = .ok (.aload_n 2, 1) := by decide +kernel
theorem d_Lw_law_442 : decode code 442 = .ok (.invokevirtual 82, 3) := by decide +kernel
theorem d_Lw_law_445 : decode code 445 = .ok (.istore 7, 2) := by decide +kernel
theorem d_Lw_law_447 : decode code 447 = .ok (.aload_n 2, 1) := by decide +kernel
theorem d_Lw_law_448 : decode code 448 = .ok (.invokevirtual 62, 3) := by decide +kernel
theorem d_Lw_law_451 : decode code 451 = .ok (.iload 6, 2) := by decide +kernel
theorem d_Lw_law_453 : decode code 453 = .ok (.if_icmp .eq 5, 3) := by decide +kernel
theorem d_Lw_law_456 : decode code 456 = .ok (.iconst 0, 1) := by decide +kernel
theorem d_Lw_law_457 : decode code 457 = .ok (.ireturn, 1) := by decide +kernel
theorem d_Lw_law_458 : decode code 458 = .ok (.iload 6, 2) := by decide +kernel
theorem d_Lw_law_460 : decode code 460 = .ok (.ifCond .ne 15, 3) := by decide +kernel
theorem d_Lw_law_463 : decode code 463 = .ok (.aload_n 3, 1) := by decide +kernel
theorem d_Lw_law_464 : decode code 464 = .ok (.iconst 0, 1) := by decide +kernel
theorem d_Lw_law_465 : decode code 465 = .ok (.laload, 1) := by decide +kernel
theorem d_Lw_law_466 : decode code 466 = .ok (.iload 7, 2) := by decide +kernel
theorem d_Lw_law_468 : decode code 468 = .ok (.i2l, 1) := by decide +kernel
theorem d_Lw_law_469 : decode code 469 = .ok (.lcmp, 1) := by decide +kernel
theorem d_Lw_law_470 : decode code 470 = .ok (.ifCond .eq 5, 3) := by decide +kernel
theorem d_Lw_law_473 : decode code 473 = .ok (.iconst 0, 1) := by decide +kernel
theorem d_Lw_law_474 : decode code 474 = .ok (.ireturn, 1) := by decide +kernel
theorem d_Lw_law_475 : decode code 475 = .ok (.goto 253, 3) := by decide +kernel
theorem d_Lw_law_478 : decode code 478 = .ok (.aload_n 1, 1) := by decide +kernel
theorem d_Lw_law_479 : decode code 479 = .ok (.aload_n 0, 1) := by decide +kernel
theorem d_Lw_law_480 : decode code 480 = .ok (.iload 5, 2) := by decide +kernel
theorem d_Lw_law_482 : decode code 482 = .ok (.iconst 1, 1) := by decide +kernel
theorem d_Lw_law_483 : decode code 483 = .ok (.iadd, 1) := by decide +kernel
theorem d_Lw_law_484 : decode code 484 = .ok (.iaload, 1) := by decide +kernel
theorem d_Lw_law_485 : decode code 485 = .ok (.aload_n 3, 1) := by decide +kernel
theorem d_Lw_law_486 : decode code 486 = .ok (.invokestatic 83, 3) := by decide +kernel
theorem d_Lw_law_489 : decode code 489 = .ok (.istore 6, 2) := by decide +kernel
theorem d_Lw_law_491 : decode code 491 = .ok (.aload_n 2, 1) := by decide +kernel
theorem d_Lw_law_492 : decode code 492 = .ok (.aload_n 0, 1) := by decide +kernel
theorem d_Lw_law_493 : decode code 493 = .ok (.iload 5, 2) := by decide +kernel
theorem d_Lw_law_495 : decode code 495 = .ok (.iconst 1, 1) := by decide +kernel
theorem d_Lw_law_496 : decode code 496 = .ok (.iadd, 1) := by decide +kernel
theorem d_Lw_law_497 : decode code 497 = .ok (.iaload, 1) := by decide +kernel
theorem d_Lw_law_498 : decode code 498 = .ok (.invokevirtual 86, 3) := by decide +kernel
theorem d_Lw_law_501 : decode code 501 = .ok (.istore 7, 2) := by decide +kernel
theorem d_Lw_law_503 : decode code 503 = .ok (.aload_n 2, 1) := by decide +kernel
theorem d_Lw_law_504 : decode code 504 = .ok (.invokevirtual 62, 3) := by decide +kernel
theorem d_Lw_law_507 : decode code 507 = .ok (.iload 6, 2) := by decide +kernel
theorem d_Lw_law_509 : decode code 509 = .ok (.if_icmp .eq 5, 3) := by decide +kernel
theorem d_Lw_law_512 : decode code 512 = .ok (.iconst 0, 1) := by decide +kernel
theorem d_Lw_law_513 : decode code 513 = .ok (.ireturn, 1) := by decide +kernel
theorem d_Lw_law_514 : decode code 514 = .ok (.iload 6, 2) := by decide +kernel
theorem d_Lw_law_516 : decode code 516 = .ok (.ifCond .ne 15, 3) := by decide +kernel
theorem d_Lw_law_519 : decode code 519 = .ok (.aload_n 3, 1) := by decide +kernel
theorem d_Lw_law_520 : decode code 520 = .ok (.iconst 0, 1) := by decide +kernel
theorem d_Lw_law_521 : decode code 521 = .ok (.laload, 1) := by decide +kernel
theorem d_Lw_law_522 : decode code 522 = .ok (.iload 7, 2) := by decide +kernel
theorem d_Lw_law_524 : decode code 524 = .ok (.i2l, 1) := by decide +kernel
theorem d_Lw_law_525 : decode code 525 = .ok (.lcmp, 1) := by decide +kernel
theorem d_Lw_law_526 : decode code 526 = .ok (.ifCond .eq 5, 3) := by decide +kernel
theorem d_Lw_law_529 : decode code 529 = .ok (.iconst 0, 1) := by decide +kernel
theorem d_Lw_law_530 : decode code 530 = .ok (.ireturn, 1) := by decide +kernel
theorem d_Lw_law_531 : decode code 531 = .ok (.goto 197, 3) := by decide +kernel
theorem d_Lw_law_534 : decode code 534 = .ok (.aload_n 1, 1) := by decide +kernel
theorem d_Lw_law_535 : decode code 535 = .ok (.aload_n 0, 1) := by decide +kernel
theorem d_Lw_law_536 : decode code 536 = .ok (.iload 5, 2) := by decide +kernel
theorem d_Lw_law_538 : decode code 538 = .ok (.iconst 1, 1) := by decide +kernel
theorem d_Lw_law_539 : decode code 539 = .ok (.iadd, 1) := by decide +kernel
theorem d_Lw_law_540 : decode code 540 = .ok (.iaload, 1) := by decide +kernel
theorem d_Lw_law_541 : decode code 541 = .ok (.aload_n 0, 1) := by decide +kernel
theorem d_Lw_law_542 : decode code 542 = .ok (.iload 5, 2) := by decide +kernel
theorem d_Lw_law_544 : decode code 544 = .ok (.iconst 2, 1) := by decide +kernel
theorem d_Lw_law_545 : decode code 545 = .ok (.iadd, 1) := by decide +kernel
theorem d_Lw_law_546 : decode code 546 = .ok (.iaload, 1) := by decide +kernel
theorem d_Lw_law_547 : decode code 547 = .ok (.aload_n 0, 1) := by decide +kernel
theorem d_Lw_law_548 : decode code 548 = .ok (.iload 5, 2) := by decide +kernel
theorem d_Lw_law_550 : decode code 550 = .ok (.iconst 3, 1) := by decide +kernel
theorem d_Lw_law_551 : decode code 551 = .ok (.iadd, 1) := by decide +kernel
theorem d_Lw_law_552 : decode code 552 = .ok (.iaload, 1) := by decide +kernel
theorem d_Lw_law_553 : decode code 553 = .ok (.aload 4, 2) := by decide +kernel
theorem d_Lw_law_555 : decode code 555 = .ok (.invokestatic 87, 3) := by decide +kernel
theorem d_Lw_law_558 : decode code 558 = .ok (.istore 6, 2) := by decide +kernel
theorem d_Lw_law_560 : decode code 560 = .ok (.aload_n 2, 1) := by decide +kernel
theorem d_Lw_law_561 : decode code 561 = .ok (.aload_n 0, 1) := by decide +kernel
theorem d_Lw_law_562 : decode code 562 = .ok (.iload 5, 2) := by decide +kernel
theorem d_Lw_law_564 : decode code 564 = .ok (.iconst 1, 1) := by decide +kernel
theorem d_Lw_law_565 : decode code 565 = .ok (.iadd, 1) := by decide +kernel
theorem d_Lw_law_566 : decode code 566 = .ok (.iaload, 1) := by decide +kernel
theorem d_Lw_law_567 : decode code 567 = .ok (.aload_n 0, 1) := by decide +kernel
theorem d_Lw_law_568 : decode code 568 = .ok (.iload 5, 2) := by decide +kernel
theorem d_Lw_law_570 : decode code 570 = .ok (.iconst 2, 1) := by decide +kernel
theorem d_Lw_law_571 : decode code 571 = .ok (.iadd, 1) := by decide +kernel
theorem d_Lw_law_572 : decode code 572 = .ok (.iaload, 1) := by decide +kernel
theorem d_Lw_law_573 : decode code 573 = .ok (.aload_n 0, 1) := by decide +kernel
theorem d_Lw_law_574 : decode code 574 = .ok (.iload 5, 2) := by decide +kernel
theorem d_Lw_law_576 : decode code 576 = .ok (.iconst 3, 1) := by decide +kernel
theorem d_Lw_law_577 : decode code 577 = .ok (.iadd, 1) := by decide +kernel
theorem d_Lw_law_578 : decode code 578 = .ok (.iaload, 1) := by decide +kernel
theorem d_Lw_law_579 : decode code 579 = .ok (.invokevirtual 90, 3) := by decide +kernel
theorem d_Lw_law_582 : decode code 582 = .ok (.dstore 7, 2) := by decide +kernel
theorem d_Lw_law_584 : decode code 584 = .ok (.aload_n 2, 1) := by decide +kernel
theorem d_Lw_law_585 : decode code 585 = .ok (.invokevirtual 62, 3) := by decide +kernel
theorem d_Lw_law_588 : decode code 588 = .ok (.iload 6, 2) := by decide +kernel
theorem d_Lw_law_590 : decode code 590 = .ok (.if_icmp .eq 5, 3) := by decide +kernel
theorem d_Lw_law_593 : decode code 593 = .ok (.iconst 0, 1) := by decide +kernel
theorem d_Lw_law_594 : decode code 594 = .ok (.ireturn, 1) := by decide +kernel
theorem d_Lw_law_595 : decode code 595 = .ok (.iload 6, 2) := by decide +kernel
theorem d_Lw_law_597 : decode code 597 = .ok (.ifCond .ne 35, 3) := by decide +kernel
theorem d_Lw_law_600 : decode code 600 = .ok (.aload 4, 2) := by decide +kernel
theorem d_Lw_law_602 : decode code 602 = .ok (.iconst 0, 1) := by decide +kernel
theorem d_Lw_law_603 : decode code 603 = .ok (.daload, 1) := by decide +kernel
theorem d_Lw_law_604 : decode code 604 = .ok (.dload 7, 2) := by decide +kernel
theorem d_Lw_law_606 : decode code 606 = .ok (.dcmp .l, 1) := by decide +kernel
theorem d_Lw_law_607 : decode code 607 = .ok (.ifCond .eq 25, 3) := by decide +kernel
theorem d_Lw_law_610 : decode code 610 = .ok (.aload 4, 2) := by decide +kernel
theorem d_Lw_law_612 : decode code 612 = .ok (.iconst 0, 1) := by decide +kernel
theorem d_Lw_law_613 : decode code 613 = .ok (.daload, 1) := by decide +kernel
theorem d_Lw_law_614 : decode code 614 = .ok (.aload 4, 2) := by decide +kernel
theorem d_Lw_law_616 : decode code 616 = .ok (.iconst 0, 1) := by decide +kernel
theorem d_Lw_law_617 : decode code 617 = .ok (.daload, 1) := by decide +kernel
theorem d_Lw_law_618 : decode code 618 = .ok (.dcmp .l, 1) := by decide +kernel
theorem d_Lw_law_619 : decode code 619 = .ok (.ifCond .eq 11, 3) := by decide +kernel
theorem d_Lw_law_622 : decode code 622 = .ok (.dload 7, 2) := by decide +kernel
theorem d_Lw_law_624 : decode code 624 = .ok (.dload 7, 2) := by decide +kernel
theorem d_Lw_law_626 : decode code 626 = .ok (.dcmp .l, 1) := by decide +kernel
theorem d_Lw_law_627 : decode code 627 = .ok (.ifCond .ne 5, 3) := by decide +kernel
theorem d_Lw_law_630 : decode code 630 = .ok (.iconst 0, 1) := by decide +kernel
theorem d_Lw_law_631 : decode code 631 = .ok (.ireturn, 1) := by decide +kernel
theorem d_Lw_law_632 : decode code 632 = .ok (.goto 96, 3) := by decide +kernel
theorem d_Lw_law_635 : decode code 635 = .ok (.aload_n 1, 1) := by decide +kernel
theorem d_Lw_law_636 : decode code 636 = .ok (.aload_n 0, 1) := by decide +kernel
theorem d_Lw_law_637 : decode code 637 = .ok (.iload 5, 2) := by decide +kernel
theorem d_Lw_law_639 : decode code 639 = .ok (.iconst 1, 1) := by decide +kernel
theorem d_Lw_law_640 : decode code 640 = .ok (.iadd, 1) := by decide +kernel
theorem d_Lw_law_641 : decode code 641 = .ok (.iaload, 1) := by decide +kernel
theorem d_Lw_law_642 : decode code 642 = .ok (.aload_n 0, 1) := by decide +kernel
theorem d_Lw_law_643 : decode code 643 = .ok (.iload 5, 2) := by decide +kernel
theorem d_Lw_law_645 : decode code 645 = .ok (.iconst 2, 1) := by decide +kernel
theorem d_Lw_law_646 : decode code 646 = .ok (.iadd, 1) := by decide +kernel
theorem d_Lw_law_647 : decode code 647 = .ok (.iaload, 1) := by decide +kernel
theorem d_Lw_law_648 : decode code 648 = .ok (.aload_n 3, 1) := by decide +kernel
theorem d_Lw_law_649 : decode code 649 = .ok (.invokestatic 91, 3) := by decide +kernel
theorem d_Lw_law_652 : decode code 652 = .ok (.istore 6, 2) := by decide +kernel
theorem d_Lw_law_654 : decode code 654 = .ok (.aload_n 2, 1) := by decide +kernel
theorem d_Lw_law_655 : decode code 655 = .ok (.aload_n 0, 1) := by decide +kernel
theorem d_Lw_law_656 : decode code 656 = .ok (.iload 5, 2) := by decide +kernel
theorem d_Lw_law_658 : decode code 658 = .ok (.iconst 1, 1) := by decide +kernel
theorem d_Lw_law_659 : decode code 659 = .ok (.iadd, 1) := by decide +kernel
theorem d_Lw_law_660 : decode code 660 = .ok (.iaload, 1) := by decide +kernel
theorem d_Lw_law_661 : decode code 661 = .ok (.aload_n 0, 1) := by decide +kernel
theorem d_Lw_law_662 : decode code 662 = .ok (.iload 5, 2) := by decide +kernel
theorem d_Lw_law_664 : decode code 664 = .ok (.iconst 2, 1) := by decide +kernel
theorem d_Lw_law_665 : decode code 665 = .ok (.iadd, 1) := by decide +kernel
theorem d_Lw_law_666 : decode code 666 = .ok (.iaload, 1) := by decide +kernel
theorem d_Lw_law_667 : decode code 667 = .ok (.invokevirtual 94, 3) := by decide +kernel
theorem d_Lw_law_670 : decode code 670 = .ok (.istore 7, 2) := by decide +kernel
theorem d_Lw_law_672 : decode code 672 = .ok (.aload_n 2, 1) := by decide +kernel
theorem d_Lw_law_673 : decode code 673 = .ok (.invokevirtual 62, 3) := by decide +kernel
theorem d_Lw_law_676 : decode code 676 = .ok (.iload 6, 2) := by decide +kernel
theorem d_Lw_law_678 : decode code 678 = .ok (.if_icmp .eq 5, 3) := by decide +kernel
theorem d_Lw_law_681 : decode code 681 = .ok (.iconst 0, 1) := by decide +kernel
theorem d_Lw_law_682 : decode code 682 = .ok (.ireturn, 1) := by decide +kernel
theorem d_Lw_law_683 : decode code 683 = .ok (.iload 6, 2) := by decide +kernel
theorem d_Lw_law_685 : decode code 685 = .ok (.ifCond .ne 15, 3) := by decide +kernel
theorem d_Lw_law_688 : decode code 688 = .ok (.aload_n 3, 1) := by decide +kernel
theorem d_Lw_law_689 : decode code 689 = .ok (.iconst 0, 1) := by decide +kernel
theorem d_Lw_law_690 : decode code 690 = .ok (.laload, 1) := by decide +kernel
theorem d_Lw_law_691 : decode code 691 = .ok (.iload 7, 2) := by decide +kernel
theorem d_Lw_law_693 : decode code 693 = .ok (.i2l, 1) := by decide +kernel
theorem d_Lw_law_694 : decode code 694 = .ok (.lcmp, 1) := by decide +kernel
theorem d_Lw_law_695 : decode code 695 = .ok (.ifCond .eq 5, 3) := by decide +kernel
theorem d_Lw_law_698 : decode code 698 = .ok (.iconst 0, 1) := by decide +kernel
theorem d_Lw_law_699 : decode code 699 = .ok (.ireturn, 1) := by decide +kernel
theorem d_Lw_law_700 : decode code 700 = .ok (.goto 28, 3) := by decide +kernel
theorem d_Lw_law_703 : decode code 703 = .ok (.aload_n 1, 1) := by decide +kernel
theorem d_Lw_law_704 : decode code 704 = .ok (.aload_n 0, 1) := by decide +kernel
theorem d_Lw_law_705 : decode code 705 = .ok (.iload 5, 2) := by decide +kernel
theorem d_Lw_law_707 : decode code 707 = .ok (.iconst 1, 1) := by decide +kernel
theorem d_Lw_law_708 : decode code 708 = .ok (.iadd, 1) := by decide +kernel
theorem d_Lw_law_709 : decode code 709 = .ok (.iaload, 1) := by decide +kernel
theorem d_Lw_law_710 : decode code 710 = .ok (.invokevirtual 95, 3) := by decide +kernel
theorem d_Lw_law_713 : decode code 713 = .ok (.aload_n 2, 1) := by decide +kernel
theorem d_Lw_law_714 : decode code 714 = .ok (.aload_n 0, 1) := by decide +kernel
theorem d_Lw_law_715 : decode code 715 = .ok (.iload 5, 2) := by decide +kernel
theorem d_Lw_law_717 : decode code 717 = .ok (.iconst 1, 1) := by decide +kernel
theorem d_Lw_law_718 : decode code 718 = .ok (.iadd, 1) := by decide +kernel
theorem d_Lw_law_719 : decode code 719 = .ok (.iaload, 1) := by decide +kernel
theorem d_Lw_law_720 : decode code 720 = .ok (.invokevirtual 98, 3) := by decide +kernel
theorem d_Lw_law_723 : decode code 723 = .ok (.if_icmp .eq 5, 3) := by decide +kernel
theorem d_Lw_law_726 : decode code 726 = .ok (.iconst 0, 1) := by decide +kernel
theorem d_Lw_law_727 : decode code 727 = .ok (.ireturn, 1) := by decide +kernel
theorem d_Lw_law_728 : decode code 728 = .ok (.iinc 5 8, 3) := by decide +kernel
theorem d_Lw_law_731 : decode code 731 = .ok (.goto (-703), 3) := by decide +kernel
theorem d_Lw_law_734 : decode code 734 = .ok (.iconst 1, 1) := by decide +kernel
theorem d_Lw_law_735 : decode code 735 = .ok (.ireturn, 1) := by decide +kernel
end
