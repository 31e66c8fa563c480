section
-- ===== PART A: goes FIRST, ahead of the names: the tables' words, and 'selects' of the private methods out of them =====
/-- a private method of a class that the tables say can be made, by its rows of tables_1 -/
def lw_okq (q : MethodName × Nat) : Prop := (q.1.cls ≠ "java/lang/invoke/MethodHandle" ∧ q.1.cls ≠ "java/lang/invoke/VarHandle") ∧ Cond.instantiable q.1.cls q.2 ∈ tables_1 ∧ Cond.privateMethod q.1 ∈ tables_1 ∧ Cond.instanceMethod q.1 ∈ tables_1
theorem lw_p0 : lw_okq (⟨"GraphRunner", "foldedCount", "()I"⟩, 9) := ⟨⟨by decide +kernel, by decide +kernel⟩, List.mem_of_getElem? (i := 19) (by decide +kernel), List.mem_of_getElem? (i := 159) (by decide +kernel), List.mem_of_getElem? (i := 160) (by decide +kernel)⟩
theorem lw_p1 : lw_okq (⟨"GraphRunner", "knownCount", "()I"⟩, 9) := ⟨⟨by decide +kernel, by decide +kernel⟩, List.mem_of_getElem? (i := 19) (by decide +kernel), List.mem_of_getElem? (i := 163) (by decide +kernel), List.mem_of_getElem? (i := 164) (by decide +kernel)⟩
theorem lw_p2 : lw_okq (⟨"GraphRunner", "inOrder", "(I)I"⟩, 9) := ⟨⟨by decide +kernel, by decide +kernel⟩, List.mem_of_getElem? (i := 19) (by decide +kernel), List.mem_of_getElem? (i := 167) (by decide +kernel), List.mem_of_getElem? (i := 168) (by decide +kernel)⟩
theorem lw_p3 : lw_okq (⟨"GraphRunner", "isFree", "(I)Z"⟩, 9) := ⟨⟨by decide +kernel, by decide +kernel⟩, List.mem_of_getElem? (i := 19) (by decide +kernel), List.mem_of_getElem? (i := 179) (by decide +kernel), List.mem_of_getElem? (i := 180) (by decide +kernel)⟩
theorem lw_p4 : lw_okq (⟨"java/lang/Throwable", "fillInStackTrace", "(I)Ljava/lang/Throwable;"⟩, 6) := ⟨⟨by decide +kernel, by decide +kernel⟩, List.mem_of_getElem? (i := 233) (by decide +kernel), List.mem_of_getElem? (i := 231) (by decide +kernel), List.mem_of_getElem? (i := 232) (by decide +kernel)⟩
theorem lw_p5 : lw_okq (⟨"GraphRunner$Table", "shape", "(III)Z"⟩, 4) := ⟨⟨by decide +kernel, by decide +kernel⟩, List.mem_of_getElem? (i := 31) (by decide +kernel), List.mem_of_getElem? (i := 258) (by decide +kernel), List.mem_of_getElem? (i := 259) (by decide +kernel)⟩
theorem lw_p6 : lw_okq (⟨"GraphRunner$Table", "clear", "()V"⟩, 4) := ⟨⟨by decide +kernel, by decide +kernel⟩, List.mem_of_getElem? (i := 31) (by decide +kernel), List.mem_of_getElem? (i := 263) (by decide +kernel), List.mem_of_getElem? (i := 264) (by decide +kernel)⟩
theorem lw_p7 : lw_okq (⟨"GraphRunner", "unprepare", "()V"⟩, 9) := ⟨⟨by decide +kernel, by decide +kernel⟩, List.mem_of_getElem? (i := 19) (by decide +kernel), List.mem_of_getElem? (i := 267) (by decide +kernel), List.mem_of_getElem? (i := 268) (by decide +kernel)⟩
theorem lw_p8 : lw_okq (⟨"GraphRunner", "forgetKnown", "()V"⟩, 9) := ⟨⟨by decide +kernel, by decide +kernel⟩, List.mem_of_getElem? (i := 19) (by decide +kernel), List.mem_of_getElem? (i := 271) (by decide +kernel), List.mem_of_getElem? (i := 272) (by decide +kernel)⟩
theorem lw_p9 : lw_okq (⟨"GraphRunner", "isFed", "(I)Z"⟩, 9) := ⟨⟨by decide +kernel, by decide +kernel⟩, List.mem_of_getElem? (i := 19) (by decide +kernel), List.mem_of_getElem? (i := 282) (by decide +kernel), List.mem_of_getElem? (i := 283) (by decide +kernel)⟩
theorem lw_p10 : lw_okq (⟨"GraphRunner$Table", "has", "(II)Z"⟩, 4) := ⟨⟨by decide +kernel, by decide +kernel⟩, List.mem_of_getElem? (i := 31) (by decide +kernel), List.mem_of_getElem? (i := 286) (by decide +kernel), List.mem_of_getElem? (i := 287) (by decide +kernel)⟩
theorem lw_p11 : lw_okq (⟨"GraphRunner$Table", "put", "(IID)V"⟩, 4) := ⟨⟨by decide +kernel, by decide +kernel⟩, List.mem_of_getElem? (i := 31) (by decide +kernel), List.mem_of_getElem? (i := 295) (by decide +kernel), List.mem_of_getElem? (i := 296) (by decide +kernel)⟩
theorem lw_p12 : lw_okq (⟨"GraphRunner$Node", "become", "(IIII)V"⟩, 9) := ⟨⟨by decide +kernel, by decide +kernel⟩, List.mem_of_getElem? (i := 80) (by decide +kernel), List.mem_of_getElem? (i := 330) (by decide +kernel), List.mem_of_getElem? (i := 331) (by decide +kernel)⟩
theorem lw_p13 : lw_okq (⟨"GraphRunner$Node", "takeArguments", "(III)V"⟩, 9) := ⟨⟨by decide +kernel, by decide +kernel⟩, List.mem_of_getElem? (i := 80) (by decide +kernel), List.mem_of_getElem? (i := 335) (by decide +kernel), List.mem_of_getElem? (i := 336) (by decide +kernel)⟩
theorem lw_p14 : lw_okq (⟨"GraphRunner", "orderNodes", "()Z"⟩, 9) := ⟨⟨by decide +kernel, by decide +kernel⟩, List.mem_of_getElem? (i := 19) (by decide +kernel), List.mem_of_getElem? (i := 370) (by decide +kernel), List.mem_of_getElem? (i := 371) (by decide +kernel)⟩
theorem lw_p15 : lw_okq (⟨"GraphRunner", "leastToOrder", "()I"⟩, 9) := ⟨⟨by decide +kernel, by decide +kernel⟩, List.mem_of_getElem? (i := 19) (by decide +kernel), List.mem_of_getElem? (i := 374) (by decide +kernel), List.mem_of_getElem? (i := 375) (by decide +kernel)⟩
def lw_privs_1 : List (MethodName × Nat) := [(⟨"GraphRunner", "foldedCount", "()I"⟩, 9), (⟨"GraphRunner", "knownCount", "()I"⟩, 9), (⟨"GraphRunner", "inOrder", "(I)I"⟩, 9), (⟨"GraphRunner", "isFree", "(I)Z"⟩, 9), (⟨"java/lang/Throwable", "fillInStackTrace", "(I)Ljava/lang/Throwable;"⟩, 6), (⟨"GraphRunner$Table", "shape", "(III)Z"⟩, 4), (⟨"GraphRunner$Table", "clear", "()V"⟩, 4), (⟨"GraphRunner", "unprepare", "()V"⟩, 9), (⟨"GraphRunner", "forgetKnown", "()V"⟩, 9), (⟨"GraphRunner", "isFed", "(I)Z"⟩, 9), (⟨"GraphRunner$Table", "has", "(II)Z"⟩, 4), (⟨"GraphRunner$Table", "put", "(IID)V"⟩, 4), (⟨"GraphRunner$Node", "become", "(IIII)V"⟩, 9), (⟨"GraphRunner$Node", "takeArguments", "(III)V"⟩, 9), (⟨"GraphRunner", "orderNodes", "()Z"⟩, 9), (⟨"GraphRunner", "leastToOrder", "()I"⟩, 9)]
theorem lw_r1 : ∀ q ∈ lw_privs_1, lw_okq q := List.forall_mem_cons.mpr ⟨lw_p0, List.forall_mem_cons.mpr ⟨lw_p1, List.forall_mem_cons.mpr ⟨lw_p2, List.forall_mem_cons.mpr ⟨lw_p3, List.forall_mem_cons.mpr ⟨lw_p4, List.forall_mem_cons.mpr ⟨lw_p5, List.forall_mem_cons.mpr ⟨lw_p6, List.forall_mem_cons.mpr ⟨lw_p7, List.forall_mem_cons.mpr ⟨lw_p8, List.forall_mem_cons.mpr ⟨lw_p9, List.forall_mem_cons.mpr ⟨lw_p10, List.forall_mem_cons.mpr ⟨lw_p11, List.forall_mem_cons.mpr ⟨lw_p12, List.forall_mem_cons.mpr ⟨lw_p13, List.forall_mem_cons.mpr ⟨lw_p14, List.forall_mem_cons.mpr ⟨lw_p15, fun _ h => absurd h List.not_mem_nil⟩⟩⟩⟩⟩⟩⟩⟩⟩⟩⟩⟩⟩⟩⟩⟩
theorem lw_p16 : lw_okq (⟨"GraphRunner", "argumentsAreOrdered", "(LGraphRunner$Node;)Z"⟩, 9) := ⟨⟨by decide +kernel, by decide +kernel⟩, List.mem_of_getElem? (i := 19) (by decide +kernel), List.mem_of_getElem? (i := 378) (by decide +kernel), List.mem_of_getElem? (i := 379) (by decide +kernel)⟩
theorem lw_p17 : lw_okq (⟨"GraphRunner", "isOrdered", "(I)Z"⟩, 9) := ⟨⟨by decide +kernel, by decide +kernel⟩, List.mem_of_getElem? (i := 19) (by decide +kernel), List.mem_of_getElem? (i := 382) (by decide +kernel), List.mem_of_getElem? (i := 383) (by decide +kernel)⟩
theorem lw_p18 : lw_okq (⟨"GraphRunner", "findShapes", "()Z"⟩, 9) := ⟨⟨by decide +kernel, by decide +kernel⟩, List.mem_of_getElem? (i := 19) (by decide +kernel), List.mem_of_getElem? (i := 386) (by decide +kernel), List.mem_of_getElem? (i := 387) (by decide +kernel)⟩
theorem lw_p19 : lw_okq (⟨"GraphRunner", "argument", "(LGraphRunner$Node;I)LGraphRunner$Table;"⟩, 9) := ⟨⟨by decide +kernel, by decide +kernel⟩, List.mem_of_getElem? (i := 19) (by decide +kernel), List.mem_of_getElem? (i := 390) (by decide +kernel), List.mem_of_getElem? (i := 391) (by decide +kernel)⟩
theorem lw_p20 : lw_okq (⟨"GraphRunner", "foldNodes", "()V"⟩, 9) := ⟨⟨by decide +kernel, by decide +kernel⟩, List.mem_of_getElem? (i := 19) (by decide +kernel), List.mem_of_getElem? (i := 438) (by decide +kernel), List.mem_of_getElem? (i := 439) (by decide +kernel)⟩
theorem lw_p21 : lw_okq (⟨"GraphRunner", "argumentsAreFolded", "(LGraphRunner$Node;)Z"⟩, 9) := ⟨⟨by decide +kernel, by decide +kernel⟩, List.mem_of_getElem? (i := 19) (by decide +kernel), List.mem_of_getElem? (i := 442) (by decide +kernel), List.mem_of_getElem? (i := 443) (by decide +kernel)⟩
theorem lw_p22 : lw_okq (⟨"GraphRunner", "isConstantOrFolded", "(I)Z"⟩, 9) := ⟨⟨by decide +kernel, by decide +kernel⟩, List.mem_of_getElem? (i := 19) (by decide +kernel), List.mem_of_getElem? (i := 446) (by decide +kernel), List.mem_of_getElem? (i := 447) (by decide +kernel)⟩
theorem lw_p23 : lw_okq (⟨"GraphRunner", "workOut", "(LGraphRunner$Node;)I"⟩, 9) := ⟨⟨by decide +kernel, by decide +kernel⟩, List.mem_of_getElem? (i := 19) (by decide +kernel), List.mem_of_getElem? (i := 450) (by decide +kernel), List.mem_of_getElem? (i := 451) (by decide +kernel)⟩
theorem lw_p24 : lw_okq (⟨"GraphRunner$Table", "atAgain", "(II)D"⟩, 4) := ⟨⟨by decide +kernel, by decide +kernel⟩, List.mem_of_getElem? (i := 31) (by decide +kernel), List.mem_of_getElem? (i := 460) (by decide +kernel), List.mem_of_getElem? (i := 461) (by decide +kernel)⟩
theorem lw_p25 : lw_okq (⟨"GraphRunner$Table", "at", "(II)D"⟩, 4) := ⟨⟨by decide +kernel, by decide +kernel⟩, List.mem_of_getElem? (i := 31) (by decide +kernel), List.mem_of_getElem? (i := 471) (by decide +kernel), List.mem_of_getElem? (i := 472) (by decide +kernel)⟩
theorem lw_p26 : lw_okq (⟨"GraphRunner$Table", "isZero", "()Z"⟩, 4) := ⟨⟨by decide +kernel, by decide +kernel⟩, List.mem_of_getElem? (i := 31) (by decide +kernel), List.mem_of_getElem? (i := 509) (by decide +kernel), List.mem_of_getElem? (i := 510) (by decide +kernel)⟩
theorem lw_p27 : lw_okq (⟨"GraphRunner$Table", "isTooLarge", "()Z"⟩, 4) := ⟨⟨by decide +kernel, by decide +kernel⟩, List.mem_of_getElem? (i := 31) (by decide +kernel), List.mem_of_getElem? (i := 526) (by decide +kernel), List.mem_of_getElem? (i := 527) (by decide +kernel)⟩
theorem lw_p28 : lw_okq (⟨"GraphRunner", "runFor", "(I)I"⟩, 9) := ⟨⟨by decide +kernel, by decide +kernel⟩, List.mem_of_getElem? (i := 19) (by decide +kernel), List.mem_of_getElem? (i := 541) (by decide +kernel), List.mem_of_getElem? (i := 542) (by decide +kernel)⟩
theorem lw_p29 : lw_okq (⟨"GraphRunner", "isThere", "(I)Z"⟩, 9) := ⟨⟨by decide +kernel, by decide +kernel⟩, List.mem_of_getElem? (i := 19) (by decide +kernel), List.mem_of_getElem? (i := 545) (by decide +kernel), List.mem_of_getElem? (i := 546) (by decide +kernel)⟩
theorem lw_p30 : lw_okq (⟨"GraphRunner$Node", "hasOutcome", "()Z"⟩, 9) := ⟨⟨by decide +kernel, by decide +kernel⟩, List.mem_of_getElem? (i := 80) (by decide +kernel), List.mem_of_getElem? (i := 549) (by decide +kernel), List.mem_of_getElem? (i := 550) (by decide +kernel)⟩
theorem lw_p31 : lw_okq (⟨"GraphRunner", "firstNeeded", "(LGraphRunner$Node;)I"⟩, 9) := ⟨⟨by decide +kernel, by decide +kernel⟩, List.mem_of_getElem? (i := 19) (by decide +kernel), List.mem_of_getElem? (i := 553) (by decide +kernel), List.mem_of_getElem? (i := 554) (by decide +kernel)⟩
def lw_privs_2 : List (MethodName × Nat) := [(⟨"GraphRunner", "argumentsAreOrdered", "(LGraphRunner$Node;)Z"⟩, 9), (⟨"GraphRunner", "isOrdered", "(I)Z"⟩, 9), (⟨"GraphRunner", "findShapes", "()Z"⟩, 9), (⟨"GraphRunner", "argument", "(LGraphRunner$Node;I)LGraphRunner$Table;"⟩, 9), (⟨"GraphRunner", "foldNodes", "()V"⟩, 9), (⟨"GraphRunner", "argumentsAreFolded", "(LGraphRunner$Node;)Z"⟩, 9), (⟨"GraphRunner", "isConstantOrFolded", "(I)Z"⟩, 9), (⟨"GraphRunner", "workOut", "(LGraphRunner$Node;)I"⟩, 9), (⟨"GraphRunner$Table", "atAgain", "(II)D"⟩, 4), (⟨"GraphRunner$Table", "at", "(II)D"⟩, 4), (⟨"GraphRunner$Table", "isZero", "()Z"⟩, 4), (⟨"GraphRunner$Table", "isTooLarge", "()Z"⟩, 4), (⟨"GraphRunner", "runFor", "(I)I"⟩, 9), (⟨"GraphRunner", "isThere", "(I)Z"⟩, 9), (⟨"GraphRunner$Node", "hasOutcome", "()Z"⟩, 9), (⟨"GraphRunner", "firstNeeded", "(LGraphRunner$Node;)I"⟩, 9)]
theorem lw_r2 : ∀ q ∈ lw_privs_2, lw_okq q := List.forall_mem_cons.mpr ⟨lw_p16, List.forall_mem_cons.mpr ⟨lw_p17, List.forall_mem_cons.mpr ⟨lw_p18, List.forall_mem_cons.mpr ⟨lw_p19, List.forall_mem_cons.mpr ⟨lw_p20, List.forall_mem_cons.mpr ⟨lw_p21, List.forall_mem_cons.mpr ⟨lw_p22, List.forall_mem_cons.mpr ⟨lw_p23, List.forall_mem_cons.mpr ⟨lw_p24, List.forall_mem_cons.mpr ⟨lw_p25, List.forall_mem_cons.mpr ⟨lw_p26, List.forall_mem_cons.mpr ⟨lw_p27, List.forall_mem_cons.mpr ⟨lw_p28, List.forall_mem_cons.mpr ⟨lw_p29, List.forall_mem_cons.mpr ⟨lw_p30, List.forall_mem_cons.mpr ⟨lw_p31, fun _ h => absurd h List.not_mem_nil⟩⟩⟩⟩⟩⟩⟩⟩⟩⟩⟩⟩⟩⟩⟩⟩
theorem lw_p32 : lw_okq (⟨"GraphRunner", "firstNeededByChoice", "(LGraphRunner$Node;)I"⟩, 9) := ⟨⟨by decide +kernel, by decide +kernel⟩, List.mem_of_getElem? (i := 19) (by decide +kernel), List.mem_of_getElem? (i := 557) (by decide +kernel), List.mem_of_getElem? (i := 558) (by decide +kernel)⟩
theorem lw_p33 : lw_okq (⟨"GraphRunner", "learn", "(LGraphRunner$Node;)I"⟩, 9) := ⟨⟨by decide +kernel, by decide +kernel⟩, List.mem_of_getElem? (i := 19) (by decide +kernel), List.mem_of_getElem? (i := 562) (by decide +kernel), List.mem_of_getElem? (i := 563) (by decide +kernel)⟩
theorem lw_p34 : lw_okq (⟨"GraphRunnerModel", "noSlot", "(I)Z"⟩, 21) := ⟨⟨by decide +kernel, by decide +kernel⟩, List.mem_of_getElem? (i := 611) (by decide +kernel), List.mem_of_getElem? (i := 689) (by decide +kernel), List.mem_of_getElem? (i := 690) (by decide +kernel)⟩
theorem lw_p35 : lw_okq (⟨"GraphRunnerModel", "out", "(III)Z"⟩, 21) := ⟨⟨by decide +kernel, by decide +kernel⟩, List.mem_of_getElem? (i := 611) (by decide +kernel), List.mem_of_getElem? (i := 693) (by decide +kernel), List.mem_of_getElem? (i := 694) (by decide +kernel)⟩
theorem lw_p36 : lw_okq (⟨"GraphRunnerModel", "change", "()V"⟩, 21) := ⟨⟨by decide +kernel, by decide +kernel⟩, List.mem_of_getElem? (i := 611) (by decide +kernel), List.mem_of_getElem? (i := 697) (by decide +kernel), List.mem_of_getElem? (i := 698) (by decide +kernel)⟩
theorem lw_p37 : lw_okq (⟨"GraphRunnerModel", "arity", "(I)I"⟩, 21) := ⟨⟨by decide +kernel, by decide +kernel⟩, List.mem_of_getElem? (i := 611) (by decide +kernel), List.mem_of_getElem? (i := 711) (by decide +kernel), List.mem_of_getElem? (i := 712) (by decide +kernel)⟩
theorem lw_p38 : lw_okq (⟨"GraphRunnerModel", "ordered", "()Z"⟩, 21) := ⟨⟨by decide +kernel, by decide +kernel⟩, List.mem_of_getElem? (i := 611) (by decide +kernel), List.mem_of_getElem? (i := 723) (by decide +kernel), List.mem_of_getElem? (i := 724) (by decide +kernel)⟩
theorem lw_p39 : lw_okq (⟨"GraphRunnerModel", "there", "(IIZ)Z"⟩, 21) := ⟨⟨by decide +kernel, by decide +kernel⟩, List.mem_of_getElem? (i := 611) (by decide +kernel), List.mem_of_getElem? (i := 727) (by decide +kernel), List.mem_of_getElem? (i := 728) (by decide +kernel)⟩
theorem lw_p40 : lw_okq (⟨"GraphRunnerModel", "shape", "(I)Z"⟩, 21) := ⟨⟨by decide +kernel, by decide +kernel⟩, List.mem_of_getElem? (i := 611) (by decide +kernel), List.mem_of_getElem? (i := 731) (by decide +kernel), List.mem_of_getElem? (i := 732) (by decide +kernel)⟩
theorem lw_p41 : lw_okq (⟨"GraphRunnerModel", "fitting", "(II)Z"⟩, 21) := ⟨⟨by decide +kernel, by decide +kernel⟩, List.mem_of_getElem? (i := 611) (by decide +kernel), List.mem_of_getElem? (i := 735) (by decide +kernel), List.mem_of_getElem? (i := 736) (by decide +kernel)⟩
theorem lw_p42 : lw_okq (⟨"GraphRunnerModel", "near", "(II)Z"⟩, 21) := ⟨⟨by decide +kernel, by decide +kernel⟩, List.mem_of_getElem? (i := 611) (by decide +kernel), List.mem_of_getElem? (i := 739) (by decide +kernel), List.mem_of_getElem? (i := 740) (by decide +kernel)⟩
theorem lw_p43 : lw_okq (⟨"GraphRunnerModel", "most", "(II)I"⟩, 21) := ⟨⟨by decide +kernel, by decide +kernel⟩, List.mem_of_getElem? (i := 611) (by decide +kernel), List.mem_of_getElem? (i := 743) (by decide +kernel), List.mem_of_getElem? (i := 744) (by decide +kernel)⟩
theorem lw_p44 : lw_okq (⟨"GraphRunnerModel", "give", "(IIII)Z"⟩, 21) := ⟨⟨by decide +kernel, by decide +kernel⟩, List.mem_of_getElem? (i := 611) (by decide +kernel), List.mem_of_getElem? (i := 747) (by decide +kernel), List.mem_of_getElem? (i := 748) (by decide +kernel)⟩
theorem lw_p45 : lw_okq (⟨"GraphRunnerModel", "work", "(I)I"⟩, 21) := ⟨⟨by decide +kernel, by decide +kernel⟩, List.mem_of_getElem? (i := 611) (by decide +kernel), List.mem_of_getElem? (i := 751) (by decide +kernel), List.mem_of_getElem? (i := 752) (by decide +kernel)⟩
theorem lw_p46 : lw_okq (⟨"GraphRunnerModel", "element", "(III)D"⟩, 21) := ⟨⟨by decide +kernel, by decide +kernel⟩, List.mem_of_getElem? (i := 611) (by decide +kernel), List.mem_of_getElem? (i := 755) (by decide +kernel), List.mem_of_getElem? (i := 756) (by decide +kernel)⟩
theorem lw_p47 : lw_okq (⟨"GraphRunnerModel", "at", "(III)D"⟩, 21) := ⟨⟨by decide +kernel, by decide +kernel⟩, List.mem_of_getElem? (i := 611) (by decide +kernel), List.mem_of_getElem? (i := 759) (by decide +kernel), List.mem_of_getElem? (i := 760) (by decide +kernel)⟩
def lw_privs_3 : List (MethodName × Nat) := [(⟨"GraphRunner", "firstNeededByChoice", "(LGraphRunner$Node;)I"⟩, 9), (⟨"GraphRunner", "learn", "(LGraphRunner$Node;)I"⟩, 9), (⟨"GraphRunnerModel", "noSlot", "(I)Z"⟩, 21), (⟨"GraphRunnerModel", "out", "(III)Z"⟩, 21), (⟨"GraphRunnerModel", "change", "()V"⟩, 21), (⟨"GraphRunnerModel", "arity", "(I)I"⟩, 21), (⟨"GraphRunnerModel", "ordered", "()Z"⟩, 21), (⟨"GraphRunnerModel", "there", "(IIZ)Z"⟩, 21), (⟨"GraphRunnerModel", "shape", "(I)Z"⟩, 21), (⟨"GraphRunnerModel", "fitting", "(II)Z"⟩, 21), (⟨"GraphRunnerModel", "near", "(II)Z"⟩, 21), (⟨"GraphRunnerModel", "most", "(II)I"⟩, 21), (⟨"GraphRunnerModel", "give", "(IIII)Z"⟩, 21), (⟨"GraphRunnerModel", "work", "(I)I"⟩, 21), (⟨"GraphRunnerModel", "element", "(III)D"⟩, 21), (⟨"GraphRunnerModel", "at", "(III)D"⟩, 21)]
theorem lw_r3 : ∀ q ∈ lw_privs_3, lw_okq q := List.forall_mem_cons.mpr ⟨lw_p32, List.forall_mem_cons.mpr ⟨lw_p33, List.forall_mem_cons.mpr ⟨lw_p34, List.forall_mem_cons.mpr ⟨lw_p35, List.forall_mem_cons.mpr ⟨lw_p36, List.forall_mem_cons.mpr ⟨lw_p37, List.forall_mem_cons.mpr ⟨lw_p38, List.forall_mem_cons.mpr ⟨lw_p39, List.forall_mem_cons.mpr ⟨lw_p40, List.forall_mem_cons.mpr ⟨lw_p41, List.forall_mem_cons.mpr ⟨lw_p42, List.forall_mem_cons.mpr ⟨lw_p43, List.forall_mem_cons.mpr ⟨lw_p44, List.forall_mem_cons.mpr ⟨lw_p45, List.forall_mem_cons.mpr ⟨lw_p46, List.forall_mem_cons.mpr ⟨lw_p47, fun _ h => absurd h List.not_mem_nil⟩⟩⟩⟩⟩⟩⟩⟩⟩⟩⟩⟩⟩⟩⟩⟩
theorem lw_p48 : lw_okq (⟨"GraphRunnerModel", "plain", "(IDDZ)D"⟩, 21) := ⟨⟨by decide +kernel, by decide +kernel⟩, List.mem_of_getElem? (i := 611) (by decide +kernel), List.mem_of_getElem? (i := 763) (by decide +kernel), List.mem_of_getElem? (i := 764) (by decide +kernel)⟩
theorem lw_p49 : lw_okq (⟨"GraphRunnerModel", "trouble", "(I)V"⟩, 21) := ⟨⟨by decide +kernel, by decide +kernel⟩, List.mem_of_getElem? (i := 611) (by decide +kernel), List.mem_of_getElem? (i := 767) (by decide +kernel), List.mem_of_getElem? (i := 768) (by decide +kernel)⟩
theorem lw_p50 : lw_okq (⟨"GraphRunnerModel", "product", "(IIII)D"⟩, 21) := ⟨⟨by decide +kernel, by decide +kernel⟩, List.mem_of_getElem? (i := 611) (by decide +kernel), List.mem_of_getElem? (i := 771) (by decide +kernel), List.mem_of_getElem? (i := 772) (by decide +kernel)⟩
theorem lw_p51 : lw_okq (⟨"GraphRunnerModel", "cast", "(ID)D"⟩, 21) := ⟨⟨by decide +kernel, by decide +kernel⟩, List.mem_of_getElem? (i := 611) (by decide +kernel), List.mem_of_getElem? (i := 775) (by decide +kernel), List.mem_of_getElem? (i := 776) (by decide +kernel)⟩
theorem lw_p52 : lw_okq (⟨"GraphRunnerModel", "total", "(IIIZ)D"⟩, 21) := ⟨⟨by decide +kernel, by decide +kernel⟩, List.mem_of_getElem? (i := 611) (by decide +kernel), List.mem_of_getElem? (i := 779) (by decide +kernel), List.mem_of_getElem? (i := 780) (by decide +kernel)⟩
theorem lw_p53 : lw_okq (⟨"GraphRunnerModel", "first", "(IIIZ)I"⟩, 21) := ⟨⟨by decide +kernel, by decide +kernel⟩, List.mem_of_getElem? (i := 611) (by decide +kernel), List.mem_of_getElem? (i := 783) (by decide +kernel), List.mem_of_getElem? (i := 784) (by decide +kernel)⟩
theorem lw_p54 : lw_okq (⟨"GraphRunnerModel", "joined", "(IIIII)D"⟩, 21) := ⟨⟨by decide +kernel, by decide +kernel⟩, List.mem_of_getElem? (i := 611) (by decide +kernel), List.mem_of_getElem? (i := 787) (by decide +kernel), List.mem_of_getElem? (i := 788) (by decide +kernel)⟩
theorem lw_p55 : lw_okq (⟨"GraphRunnerModel", "picked", "(IIII)D"⟩, 21) := ⟨⟨by decide +kernel, by decide +kernel⟩, List.mem_of_getElem? (i := 611) (by decide +kernel), List.mem_of_getElem? (i := 791) (by decide +kernel), List.mem_of_getElem? (i := 792) (by decide +kernel)⟩
theorem lw_p56 : lw_okq (⟨"GraphRunnerModel", "slid", "(IIIII)D"⟩, 21) := ⟨⟨by decide +kernel, by decide +kernel⟩, List.mem_of_getElem? (i := 611) (by decide +kernel), List.mem_of_getElem? (i := 795) (by decide +kernel), List.mem_of_getElem? (i := 796) (by decide +kernel)⟩
theorem lw_p57 : lw_okq (⟨"GraphRunnerModel", "bounded", "(ID)D"⟩, 21) := ⟨⟨by decide +kernel, by decide +kernel⟩, List.mem_of_getElem? (i := 611) (by decide +kernel), List.mem_of_getElem? (i := 799) (by decide +kernel), List.mem_of_getElem? (i := 800) (by decide +kernel)⟩
theorem lw_p58 : lw_okq (⟨"GraphRunnerModel", "need", "(I)I"⟩, 21) := ⟨⟨by decide +kernel, by decide +kernel⟩, List.mem_of_getElem? (i := 611) (by decide +kernel), List.mem_of_getElem? (i := 809) (by decide +kernel), List.mem_of_getElem? (i := 810) (by decide +kernel)⟩
theorem lw_p59 : lw_okq (⟨"GraphRunnerModel", "known", "(I)Z"⟩, 21) := ⟨⟨by decide +kernel, by decide +kernel⟩, List.mem_of_getElem? (i := 611) (by decide +kernel), List.mem_of_getElem? (i := 813) (by decide +kernel), List.mem_of_getElem? (i := 814) (by decide +kernel)⟩
theorem lw_p60 : lw_okq (⟨"GraphRunnerModel", "missing", "(I)I"⟩, 21) := ⟨⟨by decide +kernel, by decide +kernel⟩, List.mem_of_getElem? (i := 611) (by decide +kernel), List.mem_of_getElem? (i := 817) (by decide +kernel), List.mem_of_getElem? (i := 818) (by decide +kernel)⟩
def lw_privs_4 : List (MethodName × Nat) := [(⟨"GraphRunnerModel", "plain", "(IDDZ)D"⟩, 21), (⟨"GraphRunnerModel", "trouble", "(I)V"⟩, 21), (⟨"GraphRunnerModel", "product", "(IIII)D"⟩, 21), (⟨"GraphRunnerModel", "cast", "(ID)D"⟩, 21), (⟨"GraphRunnerModel", "total", "(IIIZ)D"⟩, 21), (⟨"GraphRunnerModel", "first", "(IIIZ)I"⟩, 21), (⟨"GraphRunnerModel", "joined", "(IIIII)D"⟩, 21), (⟨"GraphRunnerModel", "picked", "(IIII)D"⟩, 21), (⟨"GraphRunnerModel", "slid", "(IIIII)D"⟩, 21), (⟨"GraphRunnerModel", "bounded", "(ID)D"⟩, 21), (⟨"GraphRunnerModel", "need", "(I)I"⟩, 21), (⟨"GraphRunnerModel", "known", "(I)Z"⟩, 21), (⟨"GraphRunnerModel", "missing", "(I)I"⟩, 21)]
theorem lw_r4 : ∀ q ∈ lw_privs_4, lw_okq q := List.forall_mem_cons.mpr ⟨lw_p48, List.forall_mem_cons.mpr ⟨lw_p49, List.forall_mem_cons.mpr ⟨lw_p50, List.forall_mem_cons.mpr ⟨lw_p51, List.forall_mem_cons.mpr ⟨lw_p52, List.forall_mem_cons.mpr ⟨lw_p53, List.forall_mem_cons.mpr ⟨lw_p54, List.forall_mem_cons.mpr ⟨lw_p55, List.forall_mem_cons.mpr ⟨lw_p56, List.forall_mem_cons.mpr ⟨lw_p57, List.forall_mem_cons.mpr ⟨lw_p58, List.forall_mem_cons.mpr ⟨lw_p59, List.forall_mem_cons.mpr ⟨lw_p60, fun _ h => absurd h List.not_mem_nil⟩⟩⟩⟩⟩⟩⟩⟩⟩⟩⟩⟩⟩
def lw_privs : List (MethodName × Nat) := lw_privs_1 ++ (lw_privs_2 ++ (lw_privs_3 ++ (lw_privs_4)))
def lw_tbl : List Cond := k2_sels lw_privs ++ tables_1
theorem lw_privs_ok : ∀ q ∈ lw_privs, lw_okq q := by
  show ∀ q ∈ lw_privs_1 ++ (lw_privs_2 ++ (lw_privs_3 ++ (lw_privs_4))), lw_okq q
  exact List.forall_mem_append.mpr ⟨lw_r1, List.forall_mem_append.mpr ⟨lw_r2, List.forall_mem_append.mpr ⟨lw_r3, lw_r4⟩⟩⟩
/-! ===== BEGIN words of one list among another's, by their places ===== -/
theorem goodIn_r {big : List Cond} (ws : List Cond) (ps : List Nat) (hp : ws = ps.filterMap (fun i => big[i]?)) (h : ws.all goodWord = true) : GoodIn big ws := by
  intro w hw
  have h1 := List.all_eq_true.mp h w hw
  rw [hp] at hw
  obtain ⟨i, -, hi⟩ := List.mem_filterMap.mp hw
  have hm : w ∈ big := by first | exact List.mem_of_getElem? hi | exact List.getElem?_mem hi
  exact ⟨hm, good_of_word h1⟩
theorem goodIn_app {big a b : List Cond} (ha : GoodIn big a) (hb : GoodIn big b) : GoodIn big (a ++ b) := fun w h => (List.mem_append.mp h).elim (ha w) (hb w)
theorem goodIn_ca {big a b : List Cond} {c : Cond} (ha : GoodIn big (c :: a)) (hb : GoodIn big b) : GoodIn big (c :: (a ++ b)) := fun w h => (List.mem_cons.mp h).elim (fun e => ha w (List.mem_cons.mpr (Or.inl e))) (fun h => (List.mem_append.mp h).elim (fun h => ha w (List.mem_cons.mpr (Or.inr h))) (hb w))
theorem goodIn_sub {big ws : List Cond} (hm : ∀ w ∈ ws, w ∈ big) (h : ws.all goodWord = true) : GoodIn big ws := fun w hw => ⟨hm w hw, good_of_word (List.all_eq_true.mp h w hw)⟩
/-! ===== END ===== -/

/-! ===== BEGIN exceptions that leave a method, and their catching by the caller (launches without stack traces) ===== -/
section VXA
/-! The laws vx_back, vx_callV, vx_callS, vx_callSW, vx_throw0, vx_throwS follow proofs of the library, with one case more: JvmDerived/Free/Laws.lean (Back.of_free), Shelf42/LK1.lean (callV, callS), Shelf/KitTraced.lean (throwNew0V, throwNewS). -/
/-- where a method has thrown q: the class by its name, the cell, what was written, the world -/
def vx_T (XC : String → State → State → Prop) (st : State) (q : Addr) (t : State) (mc ms : Nat) (free : Addr → Prop) : Prop :=
  ∃ (E : String) (ce : Cell) (L : List Loc), XC E st t ∧ t.heap[q]? = some ce ∧ ce.vm = .none ∧ st.vm.findClass E = some ce.cls ∧ st.WarmedH t.vm ∧ st.sameButNew ({ t with vm := st.vm } : State) L mc ms ∧ ∀ z ∈ L, free z.base
def vx_Q (Qc : Array Value → State → Outcome → State → Prop) (XC : String → State → State → Prop) (mc ms : Nat) (free : Addr → Prop) : Array Value → State → Outcome → State → Prop := fun a st o t =>
  (Qc a st o t ∧ ∃ L, FrameEnd st o t L mc ms ∧ ∀ q ∈ L, free q.base) ∨ ∃ q, o = .threw q ∧ vx_T XC st q t mc ms free
/-- a callee that returns or throws -/
def vx_Met (l : Launch) (y : MethodName) (ws : List Cond) (rm : Room) (Pc : Array Value → State → Prop) (Qc : Array Value → State → Outcome → State → Prop) (XC : String → State → State → Prop) (mc ms : Nat) (free : Addr → Prop) : Prop :=
  MetFree l y (headSpec ws rm) Pc (fun _ _ _ _ _ => True) (vx_Q Qc XC mc ms free)
def vx_Post (XC : String → State → State → Prop) (mc ms : Nat) (free : Addr → Prop) : Pt → Array Value → Addr → Pt → Prop := fun A a q B =>
  ∃ (g : JFrame) (mk : MethodId) (t : State) (L : List Loc) (E : String) (ce : Cell), B.U.heap = t.heap ∧ B.U.vm = t.vm ∧ XC E (A.U.calling g mk a) t ∧ t.heap[q]? = some ce ∧ ce.vm = .none ∧ A.U.vm.findClass E = some ce.cls ∧ B.locs = A.locs ++ L ∧ (∀ z ∈ L, free z.base) ∧ B.cells = A.cells + mc ∧ B.slots = A.slots + ms
def vx_Back (l : Launch) (R : Room) (p : Program) (e : Env) (below : List Frame) (s : State) (sargs : Array Value) (y : MethodName) (len W9 : Nat)
    (Pre : Pt → Array Value → Prop) (Post : Pt → Array Value → Option Value → Pt → Prop) (PostX : Pt → Array Value → Addr → Pt → Prop) : Prop :=
  ∀ (m : MethodId) (meth : Method) (c : Code) (A : Pt) (g : JFrame) (ig : Instr) (mk : MethodId) (a : Array Value),
    Stand p l e R s m sargs below meth c A.U A.locs A.cells A.slots → g.method = m → g.locals.size = c.maxLocals → decode c.code g.pc = .ok (ig, len) →
    2 * g.monitorRoom + (g.stack.map fun v => v.category).sum ≤ W9 → A.U.methodNamed? y = some mk → Pre A a →
    (∃ (v : Option Value) (B : Pt), Stand p l e R s m sargs below meth c B.U B.locs B.cells B.slots ∧ Post A a v B ∧
      Steps p.tables e below (doInvoke e (A.U.setTop g) [] mk a).1 (B.U.setTop { g with pc := g.pc + len, stack := v.toList ++ g.stack })) ∨
    (∃ (q : Addr) (B : Pt), Stand p l e R s m sargs below meth c B.U B.locs B.cells B.slots ∧ PostX A a q B ∧
      Steps p.tables e below (doInvoke e (A.U.setTop g) [] mk a).1 ((B.U.setTop g).pushFrame (.throwing q)))
section Payer
variable {l : Launch} {R : Room} {p : Program} {e : Env} {below : List Frame} {s : State} {sargs : Array Value} {y : MethodName} {len W9 : Nat}
theorem vx_back {ws : List Cond} {rm : Room} {Pc : Array Value → State → Prop} {Qc : Array Value → State → Outcome → State → Prop} {XC : String → State → State → Prop} {mc ms : Nat} {free : Addr → Prop} {bytes : ByteArray} {maxL : Nat} {ret : Option FieldType}
    (hM : vx_Met l y ws rm Pc Qc XC mc ms free) (hblind : FrameBlind Pc) (hrc : rm.cells = mc) (hrs : rm.slots = ms)
    (hframes : rm.frames + 1 ≤ R.frames) (hlocals : W9 + (maxL + 11) + rm.locals ≤ R.locals)
    (hws : ∀ w ∈ ws, ∀ a' U, s.WarmedH U.vm → w.before a' U = true) (hcode : Cond.code y bytes maxL ret ∈ ws) (hinit : ∀ a' U, s.WarmedH U.vm → (Cond.initialized y.cls).before a' U = true) :
    vx_Back l R p e below s sargs y len W9 (PreOf R mc ms Pc) (PostOf Qc mc ms free) (vx_Post XC mc ms free) := by
  intro m meth c A g ig mk a X hg hsize hdg hW hn hp
  have h1 : (headSpec ws rm).pre.before a A.U = true := atoms_intro fun w hw => hws w hw _ _ X.warmed
  have h2 : (Cond.code y bytes maxL ret).before a A.U = true := hws _ hcode _ _ X.warmed
  have h3 : (Cond.initialized y.cls).before a A.U = true := hinit _ _ X.warmed
  have h4 : A.cells + (headSpec ws rm).room.cells ≤ R.cells := by rw [show (headSpec ws rm).room.cells = mc from hrc]; exact hp.1
  have h5 : A.slots + (headSpec ws rm).room.slots ≤ R.slots := by rw [show (headSpec ws rm).room.slots = ms from hrs]; exact hp.2.1
  have hPc : Pc a (A.U.calling g mk a) := hblind _ _ _ _ hp.2.2
  obtain ⟨U, Ls, c0, s0⟩ := A
  dsimp only [Pt.U, Pt.locs, Pt.cells, Pt.slots] at h1 h2 h3 h4 h5 X hn hPc ⊢
  obtain ⟨methY, cY, hmY, hcY, -, hlY, -, -, -, -⟩ := Cond.code_spec hn h2
  obtain ⟨kY, hkY, -⟩ := className_of_methodNamed hn
  have hinitY : kY.init = .initialized := Cond.initialized_spec (findClass_of_methodNamed hn) hkY h3
  have h : At U g.method c below := by rw [hg]; exact X.here
  have hlocals9 : W9 + (maxL + 11) + (headSpec ws rm).room.locals ≤ R.locals := hlocals
  have happ : (headSpec ws rm).appliesLoose y e.platform (U.calling g mk a) = true :=
    Spec.appliesLoose_calling (g := g) h hdg hn hkY hinitY
      (X.room_calling (g := g) (R' := (headSpec ws rm).room) hsize hmY hcY hframes (by rw [hlY]; omega) h4 h5) h1
  obtain ⟨mid, hmid⟩ := h.above
  have hfr : (U.setTop g).frames = (.java g :: mid) ++ below := by rw [State.frames_setTop' g h.top, hmid]; rfl
  obtain ⟨o, s₂, hsteps, -, hend, hq⟩ := Steps.callFree hM p X.admits X.cas X.clock (acts := []) hfr happ hPc trivial
  have hq' : vx_Q Qc XC mc ms free a (U.calling g mk a) o s₂ := hq
  rw [State.frames_setTop' g h.top] at hend
  obtain ⟨g₀, hg0⟩ := Option.isSome_iff_exists.mp h.top
  obtain ⟨r, hr⟩ := State.topJava?_eq_some.mp hg0
  have hr' : (({ U with heap := s₂.heap, slotsUsed := s₂.slotsUsed } : State).setVm s₂.vm).frames = .java g₀ :: r := hr
  rcases hq' with ⟨hqc, L, hfe, hL⟩ | ⟨q, rfl, E, ce, L, hx, hce, hcv, hcl, hW₂, hsm, hL⟩
  · obtain ⟨⟨v, rfl⟩, hW₂, e2, q2, q3, q4, q5, q6⟩ := id hfe
    have e3 : s₂ = ({ (U.calling g mk a).setFrames s₂.frames with heap := s₂.heap, slotsUsed := s₂.slotsUsed } : State).setVm s₂.vm := by
      have : s₂ = ({ s₂ with vm := (U.calling g mk a).vm } : State).setVm s₂.vm := rfl
      rw [e2] at this
      exact this
    obtain ⟨c₂, i₂, len₂, hc₂, hd₂, hf₂⟩ := hend
    have hW' : U.WarmedH s₂.vm := hW₂
    have hcc : c₂ = c := by
      have h1 : s₂.code? g.method = U.code? g.method := by
        rw [State.code?_eq, State.code?_eq, hW'.alike.method?]
      exact Option.some.inj (hc₂.symm.trans (h1.trans h.code))
    subst hcc
    have hlen : len₂ = len := by rw [hdg] at hd₂; cases hd₂; rfl
    subst hlen
    have hs₂ : s₂ = (({ U with heap := s₂.heap, slotsUsed := s₂.slotsUsed } : State).setVm s₂.vm).setTop { g with pc := g.pc + len₂, stack := v.toList ++ g.stack } := by
      refine e3.trans ?_
      rw [hf₂, State.calling_eq h.top, State.setFrames_setFrames, State.setTop_of_frames _ hr', hr]
      rfl
    have hsame : U.sameButNew ({ U with heap := s₂.heap, slotsUsed := s₂.slotsUsed } : State) L mc ms := by
      refine ⟨?_, q2, q3, q4, q5, q6⟩
      obtain ⟨t, ht, -⟩ := State.frames_cons hr
      show ({ U with heap := s₂.heap, slotsUsed := s₂.slotsUsed } : State) = { U.setFrames U.frames with heap := s₂.heap, slotsUsed := s₂.slotsUsed }
      rw [State.setFrames_self ht]
    subst hg
    refine Or.inl ⟨v, ⟨(({ U with heap := s₂.heap, slotsUsed := s₂.slotsUsed } : State).setVm s₂.vm), Ls ++ L, c0 + mc, s0 + ms⟩,
      ⟨X.admits, X.cas, X.clock, X.frames, X.room, X.hears, X.method, X.code, (X.here.setHeapUsed s₂.heap s₂.slotsUsed).setVm hW'.alike, X.tail, State.WarmedH.trans X.warmed hW', X.limits, X.bytes, X.same.trans (hsame.setVm s.vm)⟩,
      ⟨g, mk, s₂, L, rfl, rfl, hqc, rfl, hL, rfl, rfl⟩, ?_⟩
    show Steps p.tables e below _ ((({ U with heap := s₂.heap, slotsUsed := s₂.slotsUsed } : State).setVm s₂.vm).setTop { g with pc := g.pc + len₂, stack := v.toList ++ g.stack })
    rw [← hs₂]
    exact hsteps
  · obtain ⟨e2, q2, q3, q4, q5, q6⟩ := id hsm
    have e3 : s₂ = ({ (U.calling g mk a).setFrames s₂.frames with heap := s₂.heap, slotsUsed := s₂.slotsUsed } : State).setVm s₂.vm := by
      have : s₂ = ({ s₂ with vm := (U.calling g mk a).vm } : State).setVm s₂.vm := rfl
      rw [e2] at this
      exact this
    have hf₂ : s₂.frames = .throwing q :: .java g :: U.frames.tail := hend
    have hW' : U.WarmedH s₂.vm := hW₂
    have hs₂ : s₂ = ((({ U with heap := s₂.heap, slotsUsed := s₂.slotsUsed } : State).setVm s₂.vm).setTop g).pushFrame (.throwing q) := by
      refine e3.trans ?_
      rw [hf₂, State.calling_eq h.top, State.setFrames_setFrames, State.pushFrame, State.frames_setTop _ hr', State.setTop_of_frames _ hr', State.setFrames_setFrames, hr]
      rfl
    have hsame : U.sameButNew ({ U with heap := s₂.heap, slotsUsed := s₂.slotsUsed } : State) L mc ms := by
      refine ⟨?_, q2, q3, q4, q5, q6⟩
      obtain ⟨t, ht, -⟩ := State.frames_cons hr
      show ({ U with heap := s₂.heap, slotsUsed := s₂.slotsUsed } : State) = { U.setFrames U.frames with heap := s₂.heap, slotsUsed := s₂.slotsUsed }
      rw [State.setFrames_self ht]
    subst hg
    refine Or.inr ⟨q, ⟨(({ U with heap := s₂.heap, slotsUsed := s₂.slotsUsed } : State).setVm s₂.vm), Ls ++ L, c0 + mc, s0 + ms⟩,
      ⟨X.admits, X.cas, X.clock, X.frames, X.room, X.hears, X.method, X.code, (X.here.setHeapUsed s₂.heap s₂.slotsUsed).setVm hW'.alike, X.tail, State.WarmedH.trans X.warmed hW', X.limits, X.bytes, X.same.trans (hsame.setVm s.vm)⟩,
      ⟨g, mk, s₂, L, E, ce, rfl, rfl, hx, hce, hcv, hcl, rfl, hL, rfl, rfl⟩, ?_⟩
    show Steps p.tables e below _ (((({ U with heap := s₂.heap, slotsUsed := s₂.slotsUsed } : State).setVm s₂.vm).setTop g).pushFrame (.throwing q))
    rw [← hs₂]
    exact hsteps
end Payer
section Calls
variable {p : Program} {l : Launch} {e : Env} {R : Room} {s : State} {m : MethodId} {args : Array Value} {below : List Frame} {meth : Method} {c : Code} {T : State} {locs : List Loc} {cells slots : Nat}
theorem vx_callV (X : Stand p l e R s m args below meth c T locs cells slots) (hexec : p.tables.exec = Jvm.exec) {own C : String} {index : Nat} {y : MethodName} {bytes : ByteArray} {maxL : Nat} {ret : Option FieldType}
    (hown : s.vm.findClass own = some m.cls) (hlink : (Cond.methodLink own index y).before args s = true) (hinst : (Cond.instanceMethod y).before args s = true) (hsel : (Cond.selects C y y).before args s = true)
    (hcode : (Cond.code y bytes maxL ret).before args s = true) (hy : y.cls ≠ "java/lang/invoke/MethodHandle" ∧ y.cls ≠ "java/lang/invoke/VarHandle")
    {W9 : Nat} {Pre : Pt → Array Value → Prop} {Post : Pt → Array Value → Option Value → Pt → Prop} {PostX : Pt → Array Value → Addr → Pt → Prop} (hK : vx_Back l R p e below s args y 3 W9 Pre Post PostX)
    {b : Addr} {cellB : Cell} (hcell : T.heap[b]? = some cellB) (hobj : cellB.vm.isStatics = false) (hcls : s.vm.findClass C = some cellB.cls)
    {g : JFrame} (hg : g.method = m) (hsize : g.locals.size = c.maxLocals) {argsL rest : List Value} (hlen : ∀ sig, parseMethodDescriptor y.desc = some sig → argsL.length = sig.parameters.length)
    (hstack : g.stack = argsL.reverse ++ .ref b :: rest) (hW : 2 * g.monitorRoom + (rest.map fun v => v.category).sum ≤ W9) (hdg : decode c.code g.pc = .ok (.invokevirtual index, 3))
    (hpre : ∀ vm₁, s.WarmedH vm₁ → Pre ⟨T.setVm vm₁, locs, cells, slots⟩ (Value.ref b :: argsL).toArray) :
    (∃ (v : Option Value) (vm₁ : Vm) (B : Pt), s.WarmedH vm₁ ∧ Stand p l e R s m args below meth c B.U B.locs B.cells B.slots ∧ Post ⟨T.setVm vm₁, locs, cells, slots⟩ (Value.ref b :: argsL).toArray v B ∧
      ∀ target, Steps p.tables e below (B.U.setTop { g with pc := g.pc + 3, stack := v.toList ++ rest }) target → Steps p.tables e below (T.setTop g) target) ∨
    (∃ (q : Addr) (vm₁ : Vm) (B : Pt), s.WarmedH vm₁ ∧ Stand p l e R s m args below meth c B.U B.locs B.cells B.slots ∧ PostX ⟨T.setVm vm₁, locs, cells, slots⟩ (Value.ref b :: argsL).toArray q B ∧
      Steps p.tables e below (T.setTop g) ((B.U.setTop { g with stack := rest }).pushFrame (.throwing q))) := by
  obtain ⟨mk, methM, hnamed, hmethM, hstM, habM⟩ := Cond.instanceMethod_spec hinst
  obtain ⟨methM', cM, hmethM', -, -, -, -, -, -, hsigM⟩ := Cond.code_spec hnamed hcode
  cases hmethM.symm.trans hmethM'
  obtain ⟨c2, r2, m2, q1, q2, q3, q4, kP, hkP, hkPi⟩ := Cond.selects_spec hsel
  cases hcls.symm.trans q1
  cases (State.methodFound?_of_named hnamed hy).symm.trans q2
  cases hnamed.symm.trans q3
  have hselP : selectMethod e.platform s.vm cellB.cls mk = .method mk := by rw [Launch.admits_selectMethod X.admits]; exact q4
  obtain ⟨vm₁, X₁, hstep₁⟩ := X.invokevirtual hexec hown hlink hnamed hmethM hstM hkP hkPi hy (a := b) (cell := cellB) hcell
    (fun z h => by rw [h] at hobj; cases hobj) hselP hmethM habM hkP hkPi (g := g) hg (argsL := argsL) (rest := rest) (hlen _ hsigM) hstack hdg
  rcases hK m meth c ⟨T.setVm vm₁, locs, cells, slots⟩ { g with stack := rest } (.invokevirtual index) mk (Value.ref b :: argsL).toArray X₁ hg hsize hdg hW (X₁.named hnamed) (hpre vm₁ X₁.warmed) with ⟨v, B, X', hpost, hsteps⟩ | ⟨q, B, X', hpost, hsteps⟩
  · exact Or.inl ⟨v, vm₁, B, X₁.warmed, X', hpost, fun target h => hstep₁ _ fun acts => by rw [doInvoke_state]; exact hsteps.trans h⟩
  · exact Or.inr ⟨q, vm₁, B, X₁.warmed, X', hpost, hstep₁ _ fun acts => by rw [doInvoke_state]; exact hsteps⟩
theorem vx_callS (X : Stand p l e R s m args below meth c T locs cells slots) (hexec : p.tables.exec = Jvm.exec) {own : String} {index : Nat} {y : MethodName} {bytes : ByteArray} {maxL : Nat} {ret : Option FieldType}
    (hown : s.vm.findClass own = some m.cls) (hlink : (Cond.methodLink own index y).before args s = true) (hstat : (Cond.static y).before args s = true) (hinit : (Cond.initialized y.cls).before args s = true)
    (hcode : (Cond.code y bytes maxL ret).before args s = true) (hy : y.cls ≠ "java/lang/invoke/MethodHandle" ∧ y.cls ≠ "java/lang/invoke/VarHandle")
    {W9 : Nat} {Pre : Pt → Array Value → Prop} {Post : Pt → Array Value → Option Value → Pt → Prop} {PostX : Pt → Array Value → Addr → Pt → Prop} (hK : vx_Back l R p e below s args y 3 W9 Pre Post PostX)
    {g : JFrame} (hg : g.method = m) (hsize : g.locals.size = c.maxLocals) {argsL rest : List Value} (hlen : ∀ sig, parseMethodDescriptor y.desc = some sig → argsL.length = sig.parameters.length)
    (hstack : g.stack = argsL.reverse ++ rest) (hW : 2 * g.monitorRoom + (rest.map fun v => v.category).sum ≤ W9) (hdg : decode c.code g.pc = .ok (.invokestatic index, 3))
    (hpre : ∀ vm₁, s.WarmedH vm₁ → Pre ⟨T.setVm vm₁, locs, cells, slots⟩ argsL.toArray) :
    (∃ (v : Option Value) (vm₁ : Vm) (B : Pt), s.WarmedH vm₁ ∧ Stand p l e R s m args below meth c B.U B.locs B.cells B.slots ∧ Post ⟨T.setVm vm₁, locs, cells, slots⟩ argsL.toArray v B ∧
      ∀ target, Steps p.tables e below (B.U.setTop { g with pc := g.pc + 3, stack := v.toList ++ rest }) target → Steps p.tables e below (T.setTop g) target) ∨
    (∃ (q : Addr) (vm₁ : Vm) (B : Pt), s.WarmedH vm₁ ∧ Stand p l e R s m args below meth c B.U B.locs B.cells B.slots ∧ PostX ⟨T.setVm vm₁, locs, cells, slots⟩ argsL.toArray q B ∧
      Steps p.tables e below (T.setTop g) ((B.U.setTop { g with stack := rest }).pushFrame (.throwing q))) := by
  obtain ⟨mk, hnamed⟩ := Cond.code_named hcode
  obtain ⟨methM, cM, hmethM, -, -, -, -, -, -, hsigM⟩ := Cond.code_spec hnamed hcode
  have hstatic : methM.isStatic = true := Cond.static_spec hnamed hmethM hstat
  obtain ⟨kP, hkP, -⟩ := className_of_methodNamed hnamed
  have hinitP : kP.init = .initialized := Cond.initialized_spec (findClass_of_methodNamed hnamed) hkP hinit
  obtain ⟨vm₁, X₁, hstep₁⟩ := X.invokestatic hexec hown hlink hnamed hmethM hstatic hkP hinitP hy (g := g) hg (argsL := argsL) (rest := rest) (hlen _ hsigM) hstack hdg
  rcases hK m meth c ⟨T.setVm vm₁, locs, cells, slots⟩ { g with stack := rest } (.invokestatic index) mk argsL.toArray X₁ hg hsize hdg hW (X₁.named hnamed) (hpre vm₁ X₁.warmed) with ⟨v, B, X', hpost, hsteps⟩ | ⟨q, B, X', hpost, hsteps⟩
  · exact Or.inl ⟨v, vm₁, B, X₁.warmed, X', hpost, fun target h => hstep₁ _ fun acts => by rw [doInvoke_state]; exact hsteps.trans h⟩
  · exact Or.inr ⟨q, vm₁, B, X₁.warmed, X', hpost, hstep₁ _ fun acts => by rw [doInvoke_state]; exact hsteps⟩
end Calls
theorem vx_cls {s : State} {T : State} {vm₁ : Vm} {E : String} {k : ClassId} (hW : s.WarmedH vm₁) (h : (T.setVm vm₁).vm.findClass E = some k) : s.vm.findClass E = some k := by
  have h1 : vm₁.findClass E = some k := h
  rw [hW.alike.findClass] at h1
  exact h1
/-- the method's frame g, with q thrown over it -/
def vx_W (p : Program) (l : Launch) (e : Env) (R : Room) (s : State) (m : MethodId) (args : Array Value) (below : List Frame) (meth : Method) (c : Code) (H : Heap) (locs : List Loc) (cells slots : Nat) (Q : State → Prop) (g : JFrame) (q : Addr) : Prop :=
  ∀ T : State, T.heap = H → Stand p l e R s m args below meth c T locs cells slots → ∃ t, Steps p.tables e below ((T.setTop g).pushFrame (.throwing q)) t ∧ Q t
def vx_Run (p : Program) (l : Launch) (e : Env) (R : Room) (s : State) (m : MethodId) (args : Array Value) (below : List Frame) (meth : Method) (c : Code) (H : Heap) (locs : List Loc) (cells slots mc ms : Nat) (g : JFrame) (rest : List Value) (Qa : State → Outcome → State → Prop) (XC : String → State → State → Prop) (free : Addr → Prop) : Prop :=
  ∀ T : State, T.heap = H → Stand p l e R s m args below meth c T locs cells slots →
    (∃ (v : Option Value) (st₀ t T' : State) (L : List Loc), st₀.heap = H ∧ Stand p l e R s m args below meth c T' (locs ++ L) (cells + mc) (slots + ms) ∧ (∀ q ∈ L, free q.base) ∧ T'.heap = t.heap ∧ T'.vm = t.vm ∧ Qa st₀ (.returned v) t ∧
      Goes p e below T g T' { g with pc := g.pc + 3, stack := v.toList ++ rest }) ∨
    (∃ (q : Addr) (st₀ t T' : State) (L : List Loc) (E : String) (ce : Cell), st₀.heap = H ∧ Stand p l e R s m args below meth c T' (locs ++ L) (cells + mc) (slots + ms) ∧ (∀ z ∈ L, free z.base) ∧ T'.heap = t.heap ∧ T'.vm = t.vm ∧ XC E st₀ t ∧ t.heap[q]? = some ce ∧ ce.vm = .none ∧ s.vm.findClass E = some ce.cls ∧
      Steps p.tables e below (T.setTop g) ((T'.setTop { g with stack := rest }).pushFrame (.throwing q)))
def vx_X {S : Type} (px : S → Prop) (B : String → S → State → Prop) (A : Nat → Prop) : String → State → State → Prop := fun E st t => ∃ u : S, px u ∧ B E u t ∧ va_F A st t
section Runs
variable {p : Program} {l : Launch} {e : Env} {R : Room} {s : State} {m : MethodId} {args : Array Value} {below : List Frame} {meth : Method} {c : Code} {H : Heap} {locs : List Loc} {cells slots : Nat}
variable {y : MethodName} {bytes cc : ByteArray} {maxL nL mc ms n index : Nat} {ret : Option FieldType} {ws : List Cond} {rm : Room} {Pc : Array Value → State → Prop} {Qc : Array Value → State → Outcome → State → Prop} {XC : String → State → State → Prop} {free : Addr → Prop} {Ts : List Cond} {own C : String} {b : Addr} {As rest : List Value} {g : JFrame}
theorem vx_callBack (cb : CallB R s args own index y bytes maxL ret ws rm mc ms n) (hM : vx_Met l y ws rm Pc Qc XC mc ms free) (hbl : FrameBlind Pc) : vx_Back l R p e below s args y 3 8 (PreOf R mc ms Pc) (PostOf Qc mc ms free) (vx_Post XC mc ms free) := by
  obtain ⟨hrc, hrs, hfr, hlo, hws, hcw, -, hini, -⟩ := cb
  exact vx_back (bytes := bytes) (maxL := maxL) (ret := ret) hM hbl hrc hrs hfr hlo hws hcw (fun a' U hW => word_at hW (Or.inl (by first | rfl | simp [Cond.onTables, Cond.keeps, Cond.steady])) hini)
theorem vx_runV (S : CallFix p m c cc nL s args Ts own) (hM : vx_Met l y ws rm Pc Qc XC mc ms free) (cw : CallW R s args own C index y bytes maxL ret ws rm mc ms n) (hp : PreV s H C b Pc As)
    (hg : g.method = m) (hn : As.length = n) (hsize : g.locals.size = nL) (hstack : g.stack = As.reverse ++ .ref b :: rest) (hW : 2 * g.monitorRoom + (rest.map fun v => v.category).sum ≤ 8) (hdg : decode cc g.pc = .ok (.invokevirtual index, 3)) (hf : cells + mc ≤ R.cells ∧ slots + ms ≤ R.slots) :
    vx_Run p l e R s m args below meth c H locs cells slots mc ms g rest (Qc (Value.ref b :: As).toArray) XC free := by
  have hK : vx_Back l R p e below s args y 3 8 (PreOf R mc ms Pc) (PostOf Qc mc ms free) (vx_Post XC mc ms free) := vx_callBack cw.1 hM hp.1
  obtain ⟨⟨-, -, -, -, -, -, hcode, -, hy, hlen, hl⟩, hin, hse⟩ := cw
  obtain ⟨hx, hb, hml, ho, -⟩ := S
  obtain ⟨-, ⟨cellB, hcB, hoB, hclB⟩, hPc⟩ := hp
  intro T hT X
  rcases vx_callV X hx (C := C) (bytes := bytes) (maxL := maxL) (ret := ret) ho hl hin hse hcode hy hK (by rw [hT]; exact hcB) hoB hclB hg (hsize.trans hml.symm) (argsL := As) (rest := rest) (fun sig h => hn.trans (hlen sig h)) hstack hW (by rw [hb]; exact hdg)
    (fun vm₁ hW₁ => ⟨hf.1, hf.2, hPc (T.setVm vm₁) hT hW₁⟩) with ⟨v, vm₁, ⟨U', l2, c2, s2⟩, hW₁, X', ⟨g', mk, t, L, e1, e2, hq, h1, hL, h2, h3⟩, st⟩ | ⟨q, vm₁, ⟨U', l2, c2, s2⟩, hW₁, X', ⟨g', mk, t, L, E, ce, e1, e2, hq, hce, hcv, hcl, h1, hL, h2, h3⟩, st⟩
  · dsimp only [Pt.U, Pt.locs, Pt.cells, Pt.slots] at X' e1 e2 h1 h2 h3 st
    subst h1; subst h2; subst h3
    exact Or.inl ⟨v, (T.setVm vm₁).calling g' mk (Value.ref b :: As).toArray, t, U', L, hT, X', hL, e1, e2, hq, st⟩
  · dsimp only [Pt.U, Pt.locs, Pt.cells, Pt.slots] at X' e1 e2 h1 h2 h3 st hcl
    subst h1; subst h2; subst h3
    exact Or.inr ⟨q, (T.setVm vm₁).calling g' mk (Value.ref b :: As).toArray, t, U', L, E, ce, hT, X', hL, e1, e2, hq, hce, hcv, vx_cls hW₁ hcl, st⟩
theorem vx_runS (S : CallFix p m c cc nL s args Ts own) (hM : vx_Met l y ws rm Pc Qc XC mc ms free) (cw : CallB R s args own index y bytes maxL ret ws rm mc ms n ∧ (Cond.static y).before args s = true) (hp : PreS s H Pc As)
    (hg : g.method = m) (hn : As.length = n) (hsize : g.locals.size = nL) (hstack : g.stack = As.reverse ++ rest) (hW : 2 * g.monitorRoom + (rest.map fun v => v.category).sum ≤ 8) (hdg : decode cc g.pc = .ok (.invokestatic index, 3)) (hf : cells + mc ≤ R.cells ∧ slots + ms ≤ R.slots) :
    vx_Run p l e R s m args below meth c H locs cells slots mc ms g rest (Qc As.toArray) XC free := by
  have hK : vx_Back l R p e below s args y 3 8 (PreOf R mc ms Pc) (PostOf Qc mc ms free) (vx_Post XC mc ms free) := vx_callBack cw.1 hM hp.1
  obtain ⟨⟨-, -, -, -, -, -, hcode, hini, hy, hlen, hl⟩, hstt⟩ := cw
  obtain ⟨hx, hb, hml, ho, -⟩ := S
  intro T hT X
  rcases vx_callS X hx (bytes := bytes) (maxL := maxL) (ret := ret) ho hl hstt hini hcode hy hK hg (hsize.trans hml.symm) (argsL := As) (rest := rest) (fun sig h => hn.trans (hlen sig h)) hstack hW (by rw [hb]; exact hdg)
    (fun vm₁ hW₁ => ⟨hf.1, hf.2, hp.2 (T.setVm vm₁) hT hW₁⟩) with ⟨v, vm₁, ⟨U', l2, c2, s2⟩, hW₁, X', ⟨g', mk, t, L, e1, e2, hq, h1, hL, h2, h3⟩, st⟩ | ⟨q, vm₁, ⟨U', l2, c2, s2⟩, hW₁, X', ⟨g', mk, t, L, E, ce, e1, e2, hq, hce, hcv, hcl, h1, hL, h2, h3⟩, st⟩
  · dsimp only [Pt.U, Pt.locs, Pt.cells, Pt.slots] at X' e1 e2 h1 h2 h3 st
    subst h1; subst h2; subst h3
    exact Or.inl ⟨v, (T.setVm vm₁).calling g' mk As.toArray, t, U', L, hT, X', hL, e1, e2, hq, st⟩
  · dsimp only [Pt.U, Pt.locs, Pt.cells, Pt.slots] at X' e1 e2 h1 h2 h3 st hcl
    subst h1; subst h2; subst h3
    exact Or.inr ⟨q, (T.setVm vm₁).calling g' mk As.toArray, t, U', L, E, ce, hT, X', hL, e1, e2, hq, hce, hcv, vx_cls hW₁ hcl, st⟩
end Runs
section Rows
variable {p : Program} {l : Launch} {e : Env} {R : Room} {s : State} {m : MethodId} {args : Array Value} {below : List Frame} {meth : Method} {c : Code} {H : Heap} {locs : List Loc} {cells slots : Nat} {Q : State → Prop}
variable {mc ms : Nat} {free : Addr → Prop} {A0 A1 : Nat → Prop} {H0 : Heap} {a : Array Value} {pc : Nat} {ls : Array Slot} {st0 rest : List Value}
theorem vx_keep {st₀ t T' : State} {L : List Loc} (h0 : st₀.heap = H) (e1 : T'.heap = t.heap) (hS : va_S A0 H0 H locs) (hA : ∀ q, q < H.size → A1 q → A0 q) (hf : ∀ q, free q → A0 q) (hL : ∀ q ∈ L, free q.base) (hF : va_F A1 st₀ t) :
    H.size ≤ T'.heap.size ∧ (∀ q : Nat, q < H.size → ¬ A1 q → T'.heap[q]? = H[q]?) ∧ va_S A0 H0 T'.heap (locs ++ L) := by
  obtain ⟨hz, hk⟩ := hF
  rw [h0] at hz hk
  exact ⟨by rw [e1]; exact hz, fun q h1 h2 => by rw [e1]; exact hk q h1 h2,
    ⟨Nat.le_trans hS.1 (by rw [e1]; exact hz), fun q h1 h2 => by rw [e1, hk q (Nat.lt_of_lt_of_le h1 hS.1) (fun z => h2 (hA q (Nat.lt_of_lt_of_le h1 hS.1) z))]; exact hS.2.1 q h1 h2, fun q hq => by
      rcases List.mem_append.mp hq with h | h
      · exact hS.2.2 q h
      · exact hf _ (hL q h)⟩⟩
theorem vx_calli {S SX : Type} {post : Int32 → S → Prop} {px : SX → Prop} {B : S → State → Prop} {BX : String → SX → State → Prop} {AX : Nat → Prop} (hr : vx_Run p l e R s m args below meth c H locs cells slots mc ms (F0 m pc ls st0) rest (va_Qi post B A1 a) (vx_X px BX AX) free) (hS : va_S A0 H0 H locs) (hA : ∀ q, q < H.size → A1 q → A0 q) (hf : ∀ q, free q → A0 q) (hAX : ∀ q, q < H.size → AX q → A0 q)
    (kx : ∀ (E : String) (ce : Cell) (q9 : Addr) (u : SX) (t : State) (H1 : Heap) (locs1 : List Loc), t.heap = H1 → s.vm.Alike t.vm → px u → BX E u t → H.size ≤ H1.size → (∀ q : Nat, q < H.size → ¬ AX q → H1[q]? = H[q]?) → va_S A0 H0 H1 locs1 → H1[q9]? = some ce → ce.vm = .none → s.vm.findClass E = some ce.cls → vx_W p l e R s m args below meth c H1 locs1 (cells + mc) (slots + ms) Q (F0 m pc ls rest) q9)
    (kk : ∀ (r : Int32) (u : S) (t : State) (H1 : Heap) (locs1 : List Loc), t.heap = H1 → s.vm.Alike t.vm → post r u → B u t → H.size ≤ H1.size → (∀ q : Nat, q < H.size → ¬ A1 q → H1[q]? = H[q]?) → va_S A0 H0 H1 locs1 → W p l e R s m args below meth c H1 locs1 (cells + mc) (slots + ms) Q (F0 m (pc + 3) ls (.int r :: rest))) : W p l e R s m args below meth c H locs cells slots Q (F0 m pc ls st0) := by
  intro T hT X
  rcases hr T hT X with ⟨v, st₀, t, T', L, h0, X', hL, e1, e2, ⟨⟨r, u, hv, hp, hb⟩, hF⟩, st⟩ | ⟨q, st₀, t, T', L, E, ce, h0, X', hL, e1, e2, ⟨u, hp, hb, hF⟩, hce, hcv, hcl, st⟩
  · cases hv
    obtain ⟨k1, k2, k3⟩ := vx_keep h0 e1 hS hA hf hL hF
    obtain ⟨t2, a1, b1⟩ := kk r u t T'.heap (locs ++ L) e1.symm (by rw [← e2]; exact X'.warmed.alike) hp hb k1 k2 k3 T' rfl X'
    exact ⟨t2, st t2 a1, b1⟩
  · obtain ⟨k1, k2, k3⟩ := vx_keep h0 e1 hS hAX hf hL hF
    obtain ⟨t2, a1, b1⟩ := kx E ce q u t T'.heap (locs ++ L) e1.symm (by rw [← e2]; exact X'.warmed.alike) hp hb k1 k2 k3 (by rw [e1]; exact hce) hcv hcl T' rfl X'
    exact ⟨t2, st.trans a1, b1⟩
theorem vx_calll {S SX : Type} {post : Int64 → S → Prop} {px : SX → Prop} {B : S → State → Prop} {BX : String → SX → State → Prop} {AX : Nat → Prop} (hr : vx_Run p l e R s m args below meth c H locs cells slots mc ms (F0 m pc ls st0) rest (va_Ql post B A1 a) (vx_X px BX AX) free) (hS : va_S A0 H0 H locs) (hA : ∀ q, q < H.size → A1 q → A0 q) (hf : ∀ q, free q → A0 q) (hAX : ∀ q, q < H.size → AX q → A0 q)
    (kx : ∀ (E : String) (ce : Cell) (q9 : Addr) (u : SX) (t : State) (H1 : Heap) (locs1 : List Loc), t.heap = H1 → s.vm.Alike t.vm → px u → BX E u t → H.size ≤ H1.size → (∀ q : Nat, q < H.size → ¬ AX q → H1[q]? = H[q]?) → va_S A0 H0 H1 locs1 → H1[q9]? = some ce → ce.vm = .none → s.vm.findClass E = some ce.cls → vx_W p l e R s m args below meth c H1 locs1 (cells + mc) (slots + ms) Q (F0 m pc ls rest) q9)
    (kk : ∀ (r : Int64) (u : S) (t : State) (H1 : Heap) (locs1 : List Loc), t.heap = H1 → s.vm.Alike t.vm → post r u → B u t → H.size ≤ H1.size → (∀ q : Nat, q < H.size → ¬ A1 q → H1[q]? = H[q]?) → va_S A0 H0 H1 locs1 → W p l e R s m args below meth c H1 locs1 (cells + mc) (slots + ms) Q (F0 m (pc + 3) ls (.long r :: rest))) : W p l e R s m args below meth c H locs cells slots Q (F0 m pc ls st0) := by
  intro T hT X
  rcases hr T hT X with ⟨v, st₀, t, T', L, h0, X', hL, e1, e2, ⟨⟨r, u, hv, hp, hb⟩, hF⟩, st⟩ | ⟨q, st₀, t, T', L, E, ce, h0, X', hL, e1, e2, ⟨u, hp, hb, hF⟩, hce, hcv, hcl, st⟩
  · cases hv
    obtain ⟨k1, k2, k3⟩ := vx_keep h0 e1 hS hA hf hL hF
    obtain ⟨t2, a1, b1⟩ := kk r u t T'.heap (locs ++ L) e1.symm (by rw [← e2]; exact X'.warmed.alike) hp hb k1 k2 k3 T' rfl X'
    exact ⟨t2, st t2 a1, b1⟩
  · obtain ⟨k1, k2, k3⟩ := vx_keep h0 e1 hS hAX hf hL hF
    obtain ⟨t2, a1, b1⟩ := kx E ce q u t T'.heap (locs ++ L) e1.symm (by rw [← e2]; exact X'.warmed.alike) hp hb k1 k2 k3 (by rw [e1]; exact hce) hcv hcl T' rfl X'
    exact ⟨t2, st.trans a1, b1⟩
theorem vx_callf {S SX : Type} {post : UInt32 → S → Prop} {px : SX → Prop} {B : S → State → Prop} {BX : String → SX → State → Prop} {AX : Nat → Prop} (hr : vx_Run p l e R s m args below meth c H locs cells slots mc ms (F0 m pc ls st0) rest (va_Qf post B A1 a) (vx_X px BX AX) free) (hS : va_S A0 H0 H locs) (hA : ∀ q, q < H.size → A1 q → A0 q) (hf : ∀ q, free q → A0 q) (hAX : ∀ q, q < H.size → AX q → A0 q)
    (kx : ∀ (E : String) (ce : Cell) (q9 : Addr) (u : SX) (t : State) (H1 : Heap) (locs1 : List Loc), t.heap = H1 → s.vm.Alike t.vm → px u → BX E u t → H.size ≤ H1.size → (∀ q : Nat, q < H.size → ¬ AX q → H1[q]? = H[q]?) → va_S A0 H0 H1 locs1 → H1[q9]? = some ce → ce.vm = .none → s.vm.findClass E = some ce.cls → vx_W p l e R s m args below meth c H1 locs1 (cells + mc) (slots + ms) Q (F0 m pc ls rest) q9)
    (kk : ∀ (r : UInt32) (u : S) (t : State) (H1 : Heap) (locs1 : List Loc), t.heap = H1 → s.vm.Alike t.vm → post r u → B u t → H.size ≤ H1.size → (∀ q : Nat, q < H.size → ¬ A1 q → H1[q]? = H[q]?) → va_S A0 H0 H1 locs1 → W p l e R s m args below meth c H1 locs1 (cells + mc) (slots + ms) Q (F0 m (pc + 3) ls (.float r :: rest))) : W p l e R s m args below meth c H locs cells slots Q (F0 m pc ls st0) := by
  intro T hT X
  rcases hr T hT X with ⟨v, st₀, t, T', L, h0, X', hL, e1, e2, ⟨⟨r, u, hv, hp, hb⟩, hF⟩, st⟩ | ⟨q, st₀, t, T', L, E, ce, h0, X', hL, e1, e2, ⟨u, hp, hb, hF⟩, hce, hcv, hcl, st⟩
  · cases hv
    obtain ⟨k1, k2, k3⟩ := vx_keep h0 e1 hS hA hf hL hF
    obtain ⟨t2, a1, b1⟩ := kk r u t T'.heap (locs ++ L) e1.symm (by rw [← e2]; exact X'.warmed.alike) hp hb k1 k2 k3 T' rfl X'
    exact ⟨t2, st t2 a1, b1⟩
  · obtain ⟨k1, k2, k3⟩ := vx_keep h0 e1 hS hAX hf hL hF
    obtain ⟨t2, a1, b1⟩ := kx E ce q u t T'.heap (locs ++ L) e1.symm (by rw [← e2]; exact X'.warmed.alike) hp hb k1 k2 k3 (by rw [e1]; exact hce) hcv hcl T' rfl X'
    exact ⟨t2, st.trans a1, b1⟩
theorem vx_calld {S SX : Type} {post : UInt64 → S → Prop} {px : SX → Prop} {B : S → State → Prop} {BX : String → SX → State → Prop} {AX : Nat → Prop} (hr : vx_Run p l e R s m args below meth c H locs cells slots mc ms (F0 m pc ls st0) rest (va_Qd post B A1 a) (vx_X px BX AX) free) (hS : va_S A0 H0 H locs) (hA : ∀ q, q < H.size → A1 q → A0 q) (hf : ∀ q, free q → A0 q) (hAX : ∀ q, q < H.size → AX q → A0 q)
    (kx : ∀ (E : String) (ce : Cell) (q9 : Addr) (u : SX) (t : State) (H1 : Heap) (locs1 : List Loc), t.heap = H1 → s.vm.Alike t.vm → px u → BX E u t → H.size ≤ H1.size → (∀ q : Nat, q < H.size → ¬ AX q → H1[q]? = H[q]?) → va_S A0 H0 H1 locs1 → H1[q9]? = some ce → ce.vm = .none → s.vm.findClass E = some ce.cls → vx_W p l e R s m args below meth c H1 locs1 (cells + mc) (slots + ms) Q (F0 m pc ls rest) q9)
    (kk : ∀ (r : UInt64) (u : S) (t : State) (H1 : Heap) (locs1 : List Loc), t.heap = H1 → s.vm.Alike t.vm → post r u → B u t → H.size ≤ H1.size → (∀ q : Nat, q < H.size → ¬ A1 q → H1[q]? = H[q]?) → va_S A0 H0 H1 locs1 → W p l e R s m args below meth c H1 locs1 (cells + mc) (slots + ms) Q (F0 m (pc + 3) ls (.double r :: rest))) : W p l e R s m args below meth c H locs cells slots Q (F0 m pc ls st0) := by
  intro T hT X
  rcases hr T hT X with ⟨v, st₀, t, T', L, h0, X', hL, e1, e2, ⟨⟨r, u, hv, hp, hb⟩, hF⟩, st⟩ | ⟨q, st₀, t, T', L, E, ce, h0, X', hL, e1, e2, ⟨u, hp, hb, hF⟩, hce, hcv, hcl, st⟩
  · cases hv
    obtain ⟨k1, k2, k3⟩ := vx_keep h0 e1 hS hA hf hL hF
    obtain ⟨t2, a1, b1⟩ := kk r u t T'.heap (locs ++ L) e1.symm (by rw [← e2]; exact X'.warmed.alike) hp hb k1 k2 k3 T' rfl X'
    exact ⟨t2, st t2 a1, b1⟩
  · obtain ⟨k1, k2, k3⟩ := vx_keep h0 e1 hS hAX hf hL hF
    obtain ⟨t2, a1, b1⟩ := kx E ce q u t T'.heap (locs ++ L) e1.symm (by rw [← e2]; exact X'.warmed.alike) hp hb k1 k2 k3 (by rw [e1]; exact hce) hcv hcl T' rfl X'
    exact ⟨t2, st.trans a1, b1⟩
theorem vx_callv {S SX : Type} {post : S → Prop} {px : SX → Prop} {B : S → State → Prop} {BX : String → SX → State → Prop} {AX : Nat → Prop} (hr : vx_Run p l e R s m args below meth c H locs cells slots mc ms (F0 m pc ls st0) rest (va_Qv post B A1 a) (vx_X px BX AX) free) (hS : va_S A0 H0 H locs) (hA : ∀ q, q < H.size → A1 q → A0 q) (hf : ∀ q, free q → A0 q) (hAX : ∀ q, q < H.size → AX q → A0 q)
    (kx : ∀ (E : String) (ce : Cell) (q9 : Addr) (u : SX) (t : State) (H1 : Heap) (locs1 : List Loc), t.heap = H1 → s.vm.Alike t.vm → px u → BX E u t → H.size ≤ H1.size → (∀ q : Nat, q < H.size → ¬ AX q → H1[q]? = H[q]?) → va_S A0 H0 H1 locs1 → H1[q9]? = some ce → ce.vm = .none → s.vm.findClass E = some ce.cls → vx_W p l e R s m args below meth c H1 locs1 (cells + mc) (slots + ms) Q (F0 m pc ls rest) q9)
    (kk : ∀ (u : S) (t : State) (H1 : Heap) (locs1 : List Loc), t.heap = H1 → s.vm.Alike t.vm → post u → B u t → H.size ≤ H1.size → (∀ q : Nat, q < H.size → ¬ A1 q → H1[q]? = H[q]?) → va_S A0 H0 H1 locs1 → W p l e R s m args below meth c H1 locs1 (cells + mc) (slots + ms) Q (F0 m (pc + 3) ls (rest))) : W p l e R s m args below meth c H locs cells slots Q (F0 m pc ls st0) := by
  intro T hT X
  rcases hr T hT X with ⟨v, st₀, t, T', L, h0, X', hL, e1, e2, ⟨⟨u, hv, hp, hb⟩, hF⟩, st⟩ | ⟨q, st₀, t, T', L, E, ce, h0, X', hL, e1, e2, ⟨u, hp, hb, hF⟩, hce, hcv, hcl, st⟩
  · cases hv
    obtain ⟨k1, k2, k3⟩ := vx_keep h0 e1 hS hA hf hL hF
    obtain ⟨t2, a1, b1⟩ := kk u t T'.heap (locs ++ L) e1.symm (by rw [← e2]; exact X'.warmed.alike) hp hb k1 k2 k3 T' rfl X'
    exact ⟨t2, st t2 a1, b1⟩
  · obtain ⟨k1, k2, k3⟩ := vx_keep h0 e1 hS hAX hf hL hF
    obtain ⟨t2, a1, b1⟩ := kx E ce q u t T'.heap (locs ++ L) e1.symm (by rw [← e2]; exact X'.warmed.alike) hp hb k1 k2 k3 (by rw [e1]; exact hce) hcv hcl T' rfl X'
    exact ⟨t2, st.trans a1, b1⟩
/-- caught by the row x of this method's table; the rows ahead don't take it -/
theorem vx_catch {own name : String} {E : String} {ce : Cell} {q : Addr} (hown : s.vm.findClass own = some m.cls) (pre : List ExceptionTableEntry) (x : ExceptionTableEntry) (suf : List ExceptionTableEntry) (hsplit : c.exceptionTable.toList = pre ++ x :: suf)
    (hpass : ∀ z ∈ pre, covers z pc = false ∨ (z.catchType ≠ 0 ∧ ∃ nm : String, (Cond.classLink own z.catchType nm).before args s = true ∧ va_Nc E nm s)) (hx : covers x pc = true) (h0 : x.catchType ≠ 0)
    (hlink : (Cond.classLink own x.catchType name).before args s = true) (hcast : (Cond.castable E name).before args s = true) (hcell : H[q]? = some ce) (hv : ce.vm = .none) (hcl : s.vm.findClass E = some ce.cls)
    (kk : W p l e R s m args below meth c H locs cells slots Q (F0 m x.handlerPc ls [.ref q])) : vx_W p l e R s m args below meth c H locs cells slots Q (F0 m pc ls rest) q := by
  intro T hT X
  have hpl : e.platform.magicAccessors = ({} : Platform).magicAccessors := by rw [X.admits.platform]
  obtain ⟨c3, c4, hc3, hc4, hasg⟩ := Cond.castable_spec hcast
  cases Option.some.inj (hc3.symm.trans hcl)
  obtain ⟨c5, hc5, hcl5⟩ := Cond.classLink_spec hown hlink e.platform hpl
  cases Option.some.inj (hc4.symm.trans hc5)
  obtain ⟨vm', X', st⟩ := X.thenCaughtThrough q (g := F0 m pc ls rest) rfl (Steps.refl _) (by rw [hT]; exact hcell) (by rw [hv]; rfl) (by obtain ⟨k9, h9, -⟩ := Vm.findClass_spec hcl; exact ⟨k9, h9⟩) pre x suf hsplit
    (fun z hz => by
      rcases hpass z hz with h | ⟨hz0, nm, hl1, hn1⟩
      · exact Or.inl h
      · obtain ⟨c6, hc6, hcl6⟩ := Cond.classLink_spec hown hl1 e.platform hpl
        obtain ⟨a8, b8, h1, h2, h3⟩ := hn1
        cases Option.some.inj (h1.symm.trans hcl)
        cases Option.some.inj (h2.symm.trans hc6)
        exact Or.inr ⟨hz0, _, hcl6, h3⟩) hx (Or.inr ⟨h0, c4, hcl5, hasg⟩)
  obtain ⟨t, a1, b1⟩ := kk (T.setVm vm') hT X'
  exact ⟨t, st.trans a1, b1⟩
end Rows
section Ends
variable {p : Program} {l : Launch} {e : Env} {R : Room} {s : State} {m : MethodId} {args : Array Value} {below : List Frame} {meth : Method} {c : Code} {H : Heap} {locs : List Loc} {cells slots : Nat} {Q : State → Prop}
variable {mc ms : Nat} {free : Addr → Prop} {A0 A1 : Nat → Prop} {H0 : Heap} {a : Array Value} {ls : Array Slot} {st0 rest : List Value}
variable {Qc : Array Value → State → Outcome → State → Prop} {XC : String → State → State → Prop}
/-- what a body that may throw owes at its end -/
def vx_MQ (below : List Frame) (Qc : Array Value → State → Outcome → State → Prop) (XC : String → State → State → Prop) (a : Array Value) (s : State) (mc ms : Nat) (free : Addr → Prop) : State → Prop := fun t =>
  ∃ o, t.status = .running ∧ Ended t below o ∧ vx_Q Qc XC mc ms free a s o t
theorem vx_ret {g : JFrame} {mc ms : Nat} (k : W p l e R s m args below meth c H locs cells slots (MQ below Qc args s mc ms free) g) : W p l e R s m args below meth c H locs cells slots (vx_MQ below Qc XC args s mc ms free) g := by
  intro T hT X
  obtain ⟨t, a1, o, b1, b2, b3, b4⟩ := k T hT X
  exact ⟨t, a1, o, b1, b2, Or.inl ⟨b3, b4⟩⟩
/-- not caught here: it goes on to the caller -/
theorem vx_widen {g : JFrame} {q : Addr} {k n : Nat} (h1 : cells ≤ k) (h2 : slots ≤ n) (kk : vx_W p l e R s m args below meth c H locs k n Q g q) : vx_W p l e R s m args below meth c H locs cells slots Q g q := fun T hT X => kk T hT (stand_widen X h1 h2)
theorem vx_out {pc : Nat} {E : String} {ce : Cell} {q : Addr} {mc ms : Nat} (hout : ∀ x ∈ c.exceptionTable.toList, covers x pc = false) (hlocks : meth.locks = false) (hcell : H[q]? = some ce) (hv : ce.vm = .none) (hcl : s.vm.findClass E = some ce.cls)
    (hx : ∀ t : State, t.heap = H → s.vm.Alike t.vm → XC E s t) (hf : ∀ z ∈ locs, free z.base) (hc : cells ≤ mc) (hs : slots ≤ ms) :
    vx_W p l e R s m args below meth c H locs cells slots (vx_MQ below Qc XC args s mc ms free) (F0 m pc ls rest) q := by
  intro T hT X
  obtain ⟨st1, hrun, hend, hW, hsm⟩ := X.leaveThrown q (g := F0 m pc ls rest) rfl rfl rfl hout hlocks
  have hcell9 : (T.setFrames (.throwing q :: below)).heap[q]? = some ce := by
    show T.heap[q]? = some ce
    rw [hT]; exact hcell
  exact ⟨_, st1, .threw q, hrun, hend, Or.inr ⟨q, rfl, E, ce, locs, hx _ hT hW.alike, hcell9, hv, hcl, hW, hsm.mono hc hs, hf⟩⟩
theorem vx_frame {U : State} {k n : Nat} (h : s.sameButNew ({ U with vm := s.vm } : State) locs k n) : s.heap.size ≤ U.heap.size ∧ ∀ q : Nat, q < s.heap.size → (∀ z ∈ locs, z.base ≠ q) → U.heap[q]? = s.heap[q]? := by
  obtain ⟨-, h2, -, -, -, h6⟩ := h
  refine ⟨h2, fun q hq hz => ?_⟩
  obtain ⟨c9, e1, e2, e3, e4⟩ := h6 q _ (Array.getElem?_eq_getElem hq)
  have hs : c9.slots = (s.heap[q]).slots := Array.ext_getElem? fun i => e4 i fun hm => hz _ hm rfl
  have h9 : c9 = s.heap[q] := by
    rw [hs] at e2
    exact e2
  have e5 : U.heap[q]? = some c9 := e1
  rw [e5, h9, Array.getElem?_eq_getElem hq]
/-- the words of a throw but the four that speak of the heap -/
def vx_no (w : Cond) : Bool := decide (w ≠ .isRef (.static Bundle.tN "UNASSIGNED_STACK" Bundle.steD)) && decide (w ≠ .isRef (.static Bundle.tN "SUPPRESSED_SENTINEL" Bundle.listD)) && decide (w ≠ .laysStatic Bundle.tN "UNASSIGNED_STACK" Bundle.steD) && decide (w ≠ .laysStatic Bundle.tN "SUPPRESSED_SENTINEL" Bundle.listD)
def vx_at0 (own : String) (ic : Nat) (X : String) (names : List String) : List Cond := (Bundle.ownAtoms0 own ic X names).filter vx_no
def vx_atS (own : String) (ic : Nat) (X : String) (names : List String) : List Cond := (Bundle.ownAtoms own ic X names).filter vx_no
/-- a word that the tables alone decide, or a good one -/
def vx_ot (w : Cond) : Bool := w.onTables || goodWord w
theorem vx_ot_at {args a' : Array Value} {s U : State} {w : Cond} (hW : s.WarmedH U.vm) (hvm : s.vm = U.vm) (hg : vx_ot w = true) (h : w.before args s = true) : w.before a' U = true := by
  simp only [vx_ot, Bool.or_eq_true] at hg
  rcases hg with hg | hg
  · exact va_tabs hg hvm h
  · exact word_at hW (good_of_word hg) h
/-- a list's words: the good ones out of the method's own list, the others by premises of their own -/
theorem vx_hat {args : Array Value} {s : State} {L B : List Cond} (h1 : ∀ w ∈ L.filter goodWord, w.before args s = true) (h2 : ∀ w ∈ L.filter (fun w => !goodWord w), w ∈ B) (h3 : ∀ w ∈ B, w.before args s = true) : ∀ w ∈ L, w.before args s = true := by
  intro w hw
  by_cases g : goodWord w = true
  · exact h1 w (List.mem_filter.mpr ⟨hw, g⟩)
  · refine h3 w (h2 w (List.mem_filter.mpr ⟨hw, ?_⟩))
    show (!goodWord w) = true
    cases hgw : goodWord w
    · rfl
    · exact absurd hgw g
theorem vx_c {args : Array Value} {s : State} {w : Cond} {B : List Cond} (h : w.before args s = true) (t : ∀ w ∈ B, w.before args s = true) : ∀ w' ∈ w :: B, w'.before args s = true := fun w' h' => (List.mem_cons.mp h').elim (fun e => by rw [e]; exact h) (t w')
theorem vx_n {args : Array Value} {s : State} : ∀ w ∈ ([] : List Cond), w.before args s = true := fun _ h => nomatch h
theorem vx_own {args : Array Value} {s : State} {L : List Cond} (h1 : ∀ w ∈ L.filter vx_no, w.before args s = true)
    (hU : (Cond.isRef (.static Bundle.tN "UNASSIGNED_STACK" Bundle.steD)).before args s = true) (hN : (Cond.isRef (.static Bundle.tN "SUPPRESSED_SENTINEL" Bundle.listD)).before args s = true)
    (lU : (Cond.laysStatic Bundle.tN "UNASSIGNED_STACK" Bundle.steD).before args s = true) (lN : (Cond.laysStatic Bundle.tN "SUPPRESSED_SENTINEL" Bundle.listD).before args s = true) : ∀ w ∈ L, w.before args s = true := by
  intro w hw
  by_cases e1 : w = .isRef (.static Bundle.tN "UNASSIGNED_STACK" Bundle.steD)
  · rw [e1]; exact hU
  · by_cases e2 : w = .isRef (.static Bundle.tN "SUPPRESSED_SENTINEL" Bundle.listD)
    · rw [e2]; exact hN
    · by_cases e3 : w = .laysStatic Bundle.tN "UNASSIGNED_STACK" Bundle.steD
      · rw [e3]; exact lU
      · by_cases e4 : w = .laysStatic Bundle.tN "SUPPRESSED_SENTINEL" Bundle.listD
        · rw [e4]; exact lN
        · exact h1 w (List.mem_filter.mpr ⟨hw, by unfold vx_no; rw [decide_eq_true e1, decide_eq_true e2, decide_eq_true e3, decide_eq_true e4]; rfl⟩)
/-- where a static field lies, its class's statics cell in H -/
def vx_L (C n d : String) (A : Nat → Prop) (U : State) (H : Heap) : Prop := ∃ (c : ClassId) (k : Class) (i : Nat) (f : Field) (a : Nat) (cell : Cell), U.vm.findClass C = some c ∧ U.fieldFound? C n d = some (c, k, i, f) ∧ f.isStatic = true ∧ k.statics = some a ∧ H[a]? = some cell ∧ cell.vm.isStatics = true ∧ cell.cls = c ∧ f.slot < cell.slots.size ∧ k.staticTypes[f.slot]? = some f.type ∧ ¬ A a
theorem vx_L.moved {C n d : String} {A : Nat → Prop} {u U : State} {H : Heap} (hvm : u.vm.Alike U.vm) (h : vx_L C n d A u H) : vx_L C n d A U H := by
  obtain ⟨c, k, i, f, a, cell, h1, h2, h3, h4, h5, h6, h7, h8, h9, h10⟩ := h
  obtain ⟨k', hi', he⟩ := State.fieldFound?_setVm hvm h2
  exact ⟨c, k', i, f, a, cell, by rw [hvm.findClass]; exact h1, hi', h3, by rw [he]; exact h4, h5, h6, h7, h8, by rw [he]; exact h9, h10⟩
theorem vx_L.kept {C n d : String} {A : Nat → Prop} {U : State} {H H1 : Heap} (h : vx_L C n d A U H) (hq : ∀ a : Nat, a < H.size → ¬ A a → H1[a]? = H[a]?) : vx_L C n d A U H1 := by
  obtain ⟨c, k, i, f, a, cell, h1, h2, h3, h4, h5, h6, h7, h8, h9, h10⟩ := h
  exact ⟨c, k, i, f, a, cell, h1, h2, h3, h4, by rw [hq a (Array.getElem?_eq_some_iff.mp h5).1 h10]; exact h5, h6, h7, h8, h9, h10⟩
theorem vx_L.narrow {C n d : String} {A B : Nat → Prop} {U : State} {H : Heap} (h : vx_L C n d A U H) (hAB : ∀ q, B q → A q) : vx_L C n d B U H := by
  obtain ⟨c, k, i, f, a, cell, h1, h2, h3, h4, h5, h6, h7, h8, h9, h10⟩ := h
  exact ⟨c, k, i, f, a, cell, h1, h2, h3, h4, h5, h6, h7, h8, h9, fun z => h10 (hAB _ z)⟩
theorem vx_L.word {C n d : String} {A : Nat → Prop} {s : State} {args : Array Value} (h : vx_L C n d A s s.heap) : (Cond.laysStatic C n d).before args s = true := by
  obtain ⟨c, k, i, f, a, cell, h1, h2, h3, h4, h5, h6, h7, h8, h9, -⟩ := h
  show (Cond.laysStatic C n d).holds args s none s [] = true
  exact Cond.laysStatic_of h1 h2 h3 h4 h5 h6 h7 h8 h9
/-- .. and what it holds: null or some reference -/
def vx_Zq (C n d : String) (A : Nat → Prop) (U : State) (H : Heap) : Prop := va_Zq C n d A U H ∧ vx_L C n d A U H
theorem vx_Zq.moved {C n d : String} {A : Nat → Prop} {u U : State} {H : Heap} (hvm : u.vm.Alike U.vm) (h : vx_Zq C n d A u H) : vx_Zq C n d A U H := ⟨va_Zq.moved hvm h.1, vx_L.moved hvm h.2⟩
theorem vx_Zq.kept {C n d : String} {A : Nat → Prop} {U : State} {H H1 : Heap} (h : vx_Zq C n d A U H) (hq : ∀ a : Nat, a < H.size → ¬ A a → H1[a]? = H[a]?) : vx_Zq C n d A U H1 := ⟨va_Zq.kept h.1 hq, vx_L.kept h.2 hq⟩
theorem vx_Zq.narrow {C n d : String} {A B : Nat → Prop} {U : State} {H : Heap} (h : vx_Zq C n d A U H) (hAB : ∀ q, B q → A q) : vx_Zq C n d B U H := ⟨va_Zq.narrow h.1 hAB, vx_L.narrow h.2 hAB⟩
theorem vx_Zqof {args : Array Value} {s : State} {C n d : String} {A : Nat → Prop} (hl : (Cond.laysStatic C n d).before args s = true) (hini : (Cond.initialized C).before args s = true) (h : (Cond.isRef (.static C n d)).before args s = true) (hA : ∀ a : Nat, a < s.heap.size → ¬ A a) : vx_Zq C n d A s s.heap := by
  refine ⟨va_Zqof hl hini h hA, ?_⟩
  obtain ⟨c, k, i, f, a, cell, h1, h2, h3, h4, h5, h6, h7, h8, h9⟩ := Cond.laysStatic_spec hl
  exact ⟨c, k, i, f, a, cell, h1, h2, h3, h4, h5, h6, h7, h8, h9, hA a (Array.getElem?_eq_some_iff.mp h5).1⟩
theorem vx_isRef {C n d : String} {v : Value} {A : Nat → Prop} {s : State} {args : Array Value} (h : va_Z C n d v A s s.heap) (hv : v.isRef = true) : (Cond.isRef (.static C n d)).before args s = true := by
  obtain ⟨cf, kf, fi, f, a, cell, h1, h2, h3, h4, h5, h6, h7, -⟩ := h
  have he : (Term.static C n d).eval args s none [] s = some v := by
    simp [Term.eval, State.fieldNamed?, h1, h2, h4, h5, h6, h7]
  simp only [Cond.before, Cond.holds, Cond.value, he]
  cases v <;> simp_all [Value.isRef]
theorem vx_isRefq {C n d : String} {A : Nat → Prop} {s : State} {args : Array Value} (h : va_Zq C n d A s s.heap) : (Cond.isRef (.static C n d)).before args s = true := by
  rcases h with h | ⟨t, h⟩
  · exact vx_isRef h rfl
  · exact vx_isRef h rfl
/-- the same frame, seen from here: as if the method were called anew in this heap -/
theorem vx_rebase {T : State} (X : Stand p l e R s m args below meth c T locs cells slots) {R' : Room} (hf : R'.frames ≤ R.frames) (hl : R'.locals ≤ R.locals) (hc : cells + R'.cells ≤ R.cells) (hs : slots + R'.slots ≤ R.slots) :
    Stand p l e R' ((T.setVm s.vm).setFrames (.invoking m args :: below)) m args below meth c T [] 0 0 := by
  have htop : (T.setVm s.vm).topJava?.isSome := X.here.top
  have hF : ((T.setVm s.vm).setFrames (.invoking m args :: below)).frames = .invoking m args :: below := State.frames_setFrames _ (State.cur_lt_of_top htop)
  obtain ⟨g₀, hg0⟩ := Option.isSome_iff_exists.mp htop
  obtain ⟨r, hr⟩ := State.topJava?_eq_some.mp hg0
  have hl9 : e.platform.stackLimits (T.setVm s.vm).me = e.platform.stackLimits s.me := X.limits
  have hb9 : (T.setVm s.vm).me.stackBytes = s.me.stackBytes := X.bytes
  refine ⟨X.admits, X.cas, X.clock, hF, ?_, X.hears, X.method, X.code, X.here, X.tail, X.warmed, ?_, ?_, ?_⟩
  · have h := X.room
    have hU : ((T.setVm s.vm).setFrames (.invoking m args :: below)).localsInUse = s.localsInUse := by
      rw [State.localsInUse_invoking hF (meth := meth) (c := c) X.method X.code, State.localsInUse_invoking X.frames X.method X.code]
    simp only [State.hasRoom, Bool.and_eq_true, decide_eq_true_eq] at h ⊢
    obtain ⟨⟨⟨⟨h1, h2, h3, h4, h5, h6⟩, h7⟩, h8⟩, h9⟩ := h
    rw [X.frames, List.length_cons] at h2 h3
    have q1 := X.heapSize
    have q2 := X.used
    simp only [hF, hU, List.length_cons, State.stackLimits_setFrames, State.stackBytes_setFrames, hl9, hb9]
    refine ⟨⟨⟨⟨by omega, by omega, by omega, by omega, by omega, h6⟩, ?_⟩, ?_⟩, X.book⟩
    · show T.heap.size + R'.cells ≤ e.platform.maxCells
      omega
    · show T.slotsUsed + R'.slots ≤ e.platform.maxSlots
      omega
  · rw [State.stackLimits_setFrames]; rfl
  · rw [State.stackBytes_setFrames]; rfl
  · refine ⟨?_, Nat.le_refl _, Nat.le_refl _, ?_, ?_, fun a c9 h9 => ⟨c9, h9, rfl, rfl, fun _ _ => rfl⟩⟩
    · obtain ⟨t, ht, -⟩ := State.frames_cons hr
      show T.setVm s.vm = { ((T.setVm s.vm).setFrames (.invoking m args :: below)).setFrames (T.setVm s.vm).frames with heap := T.heap, slotsUsed := T.slotsUsed }
      rw [State.setFrames_setFrames, State.setFrames_self ht]
      rfl
    · show T.slotsUsed = T.slotsUsed + ((T.heap.toList.drop T.heap.size).map (·.slots.size)).sum
      rw [List.drop_eq_nil_of_le (Nat.le_of_eq Array.length_toList)]
      rfl
    · show ((T.heap.toList.drop T.heap.size).map (·.slots.size)).sum ≤ 0
      rw [List.drop_eq_nil_of_le (Nat.le_of_eq Array.length_toList)]
      exact Nat.le_refl _
/-- 'throw new E()': new; dup; invokespecial; athrow -/
theorem vx_throw0 {cc : ByteArray} {pc : Nat} (hexec : p.tables.exec = Jvm.exec) (hb : c.code = cc) (hl : l.stackTraces = false) {own cls : String} {names : List String} {ik ic mc ms : Nat} {A : Nat → Prop}
    (hown : s.vm.findClass own = some m.cls) (hcls : Bundle.fit cls = true) (hnames : ∀ n ∈ names, Bundle.fit n = true)
    (hk : (Cond.classLink own ik cls).before args s = true) (hini : (Cond.initialized cls).before args s = true) (hat : ∀ w ∈ vx_at0 own ic cls names, w.before args s = true)
    (hgood : ∀ w ∈ Cond.classLink own ik cls :: Cond.initialized cls :: vx_at0 own ic cls names, vx_ot w = true)
    (hU : vx_Zq Bundle.tN "UNASSIGNED_STACK" Bundle.steD A s s.heap) (hN : vx_Zq Bundle.tN "SUPPRESSED_SENTINEL" Bundle.listD A s s.heap) (hS : va_S A s.heap H locs) (hsize : ls.size = c.maxLocals)
    (d0 : decode cc pc = .ok (.new ik, 3)) (d3 : decode cc (pc + 3) = .ok (.dup, 1)) (d4 : decode cc (pc + 4) = .ok (.invokespecial ic, 3)) (d7 : decode cc (pc + 7) = .ok (.athrow, 1))
    (hout : ∀ x ∈ c.exceptionTable.toList, covers x (pc + 7) = false)
    (hRframes : names.length + 3 < R.frames) (hRlocals : (rest.map fun v => v.category).sum + (13 * (names.length + 1) + 42) ≤ R.locals) (hRcells : cells + 1 ≤ R.cells) (hRslots : slots + 6 ≤ R.slots) (hlocks : meth.locks = false)
    (hx : ∀ t : State, s.vm.Alike t.vm → H.size ≤ t.heap.size → (∀ q : Nat, q < H.size → t.heap[q]? = H[q]?) → XC cls s t)
    (hf : ∀ z ∈ locs, free z.base) (hc : cells + 1 ≤ mc) (hs : slots + 6 ≤ ms) :
    W p l e R s m args below meth c H locs cells slots (vx_MQ below Qc XC args s mc ms free) (F0 m pc ls rest) := by
  intro T hT X
  have htr : e.platform.stackTraces = false := (show e.platform.stackTraces = l.stackTraces by rw [X.admits.platform]).trans hl
  have Y := vx_rebase X (R' := { frames := R.frames, locals := R.locals, cells := 1, slots := 6 }) (Nat.le_refl _) (Nat.le_refl _) hRcells hRslots
  obtain ⟨s', hA⟩ : ∃ z, z = (T.setVm s.vm).setFrames (.invoking m args :: below) := ⟨_, rfl⟩
  rw [← hA] at Y
  have hvm : s'.vm = s.vm := by rw [hA]; rfl
  have hhp : s'.heap = H := by rw [hA]; exact hT
  have hW0 : s.WarmedH s'.vm := by rw [hvm]; exact State.WarmedH.refl s
  have hat' : ∀ w ∈ vx_at0 own ic cls names, w.before args s' = true := fun w hw => vx_ot_at hW0 hvm.symm (hgood w (List.mem_cons_of_mem _ (List.mem_cons_of_mem _ hw))) (hat w hw)
  have hk' : (Cond.classLink own ik cls).before args s' = true := vx_ot_at hW0 hvm.symm (hgood _ List.mem_cons_self) hk
  have hini' : (Cond.initialized cls).before args s' = true := vx_ot_at hW0 hvm.symm (hgood _ (List.mem_cons_of_mem _ List.mem_cons_self)) hini
  have hU' : vx_Zq Bundle.tN "UNASSIGNED_STACK" Bundle.steD A s' s'.heap := by rw [hhp]; exact vx_Zq.moved hW0.alike (hU.kept hS.2.1)
  have hN' : vx_Zq Bundle.tN "SUPPRESSED_SENTINEL" Bundle.listD A s' s'.heap := by rw [hhp]; exact vx_Zq.moved hW0.alike (hN.kept hS.2.1)
  have h : ∀ w ∈ Bundle.ownAtoms0 own ic cls names, w.before args s' = true := vx_own hat' (vx_isRefq hU'.1) (vx_isRefq hN'.1) hU'.2.word hN'.2.word
  have hown' : s'.vm.findClass own = some m.cls := by rw [hvm]; exact hown
  have hins : (Cond.instantiable cls 6).before args s' = true := h _ (by simp [Bundle.ownAtoms0])
  obtain ⟨vm₁, cX, kX, hfX, hkX, -, -, X₁, st1⟩ := Y.newCold hexec (own := own) (C := cls) (index := ik) (n := 6) hown' hk' hins hini'
    (g := F0 m pc ls rest) rfl (by rw [hb]; exact d0) (Nat.le_refl _) (Nat.le_refl _)
  generalize hT1 : (T.setVm vm₁).pushCell { cls := cX, slots := kX.instanceTypes.map defaultValue, vm := .none } = T1 at X₁ st1
  have hcat : (Value.ref T.heap.size).category = 1 := rfl
  have hcellA : T1.heap[T.heap.size]? = some (freshCell cX kX) := by rw [← hT1]; exact State.heap_pushCell_size _ _
  have d3' : decode c.code (pc + 3) = .ok (.dup, 1) := by rw [hb]; exact d3
  obtain ⟨U, hsteps, hrun, hend, hW, hsame, ce, hce, hO⟩ := X₁.ctorThrow0 hexec htr (own := own) (cls := cls) (names := names) (ic := ic) hown' hcls hnames h (fun x hx => nomatch hx) hfX hkX hcellA (by rw [hhp, hT]; exact Nat.le_refl _)
    (g := { method := m, pc := pc + 4, locals := ls, stack := .ref T.heap.size :: .ref T.heap.size :: rest, locked := none }) rfl hsize rfl rfl (rest := rest) rfl
    (by rw [hb]; exact d4) (by rw [hb]; exact d7) hout hRframes (by simp only [List.map_cons, List.sum_cons, hcat]; omega) hlocks
  obtain ⟨f1, f2⟩ := vx_frame hsame
  rw [hhp] at f1 f2
  have hWs : s.WarmedH U.vm := State.WarmedH.trans hW0 hW
  have hcl : s.vm.findClass cls = some ce.cls := by
    have h9 := hO.cls
    rw [hvm] at h9
    exact h9
  have hall : s.sameButNew ({ U with vm := s.vm } : State) locs mc ms := by
    subst hA
    obtain ⟨e1, e2⟩ := hsame
    rw [State.setFrames_setFrames] at e1
    have h2 : (T.setVm s.vm).sameButNew ({ U with vm := s.vm } : State) [] (0 + 1) (0 + 6) := ⟨e1, e2⟩
    have h3 := X.same.trans h2
    rw [List.append_nil] at h3
    exact h3.mono hc hs
  refine ⟨U, ?_, .threw T.heap.size, hrun, hend, Or.inr ⟨T.heap.size, rfl, cls, ce, locs, hx U hWs.alike f1 (fun q hq => f2 q hq (fun z hz => nomatch hz)), hce, hO.vm, hcl, hWs, hall, hf⟩⟩
  refine st1 _ ?_
  show Steps p.tables e below (T1.setTop { method := m, pc := pc + 3, locals := ls, stack := .ref T.heap.size :: rest, locked := none }) _
  jvm_step X₁.here [X₁.here.top, hexec, d3', Value.category]
  exact hsteps
end Ends
section Bodies
variable {l : Launch}
theorem vx_ofW {y : MethodName} {ws ws' : List Cond} {rm : Room} {Pc : Array Value → State → Prop} {Qc : Array Value → State → Outcome → State → Prop} {XC : String → State → State → Prop} {mc ms : Nat} {free : Addr → Prop} {cc : ByteArray} {maxL : Nat} {ret : Option FieldType}
    (hy : plainName y.cls = true) (hw : ws = Cond.code y cc maxL ret :: ws')
    (body : ∀ p e s m args below meth c s₁, BodyLoose p l y (headSpec ws rm) cc maxL ret e s m args below meth c s₁ → c.maxLocals = maxL → (∀ x ∈ c.exceptionTable.toList, False) → Pc args s →
      W p l e (headSpec ws rm).room s m args below meth c s.heap [] 0 0 (vx_MQ below Qc XC args s mc ms free) (entryFrame m args maxL)) : vx_Met l y ws rm Pc Qc XC mc ms free := by
  refine MetFree.of_bodyS (code := cc) (maxLocals := maxL) (ret := ret) hy ?_ ?_
  · intro args s m h hn
    obtain ⟨meth, c, h1, h2, h3, h4, h5, h6, -, -⟩ := Cond.code_spec hn (atoms_spec (ws := ws) h _ (by rw [hw]; exact List.mem_cons_self))
    exact ⟨meth, c, h1, h2, h3, h4, h5, h6⟩
  · intro p e s m args below meth c s₁ B hml hP _
    have hh0 : s₁.heap = s.heap := by rw [B.state]; rfl
    have ht : ∀ x ∈ c.exceptionTable.toList, False := by
      obtain ⟨meth9, c9, h1, h2, -, -, -, -, h7, -⟩ := Cond.code_spec B.named (atoms_spec (ws := ws) B.pre _ (by rw [hw]; exact List.mem_cons_self))
      cases Option.some.inj (h1.symm.trans B.method)
      cases Option.some.inj (h2.symm.trans (Stand.of_body B).code)
      intro x hx
      rw [Array.isEmpty_iff.mp h7] at hx
      cases hx
    obtain ⟨t, a1, o, b1, b2, b3⟩ := body p e s m args below meth c s₁ B hml ht hP s₁ hh0 (Stand.of_body B)
    exact ⟨t, o, a1, b1, b2, b3⟩
/-- the table of a body with handlers -/
theorem vx_table {p : Program} {x y : MethodName} {S : Spec} {cc bytes : ByteArray} {maxL maxL' : Nat} {ret ret' : Option FieldType} {e : Env} {s s₁ : State} {m : MethodId} {args : Array Value} {below : List Frame} {meth : Method} {c : Code} {hh : List (Nat × Nat × Nat × Nat)}
    (B : BodyLoose p l y S cc maxL ret e s m args below meth c s₁) (h : (Cond.codeWith y bytes maxL' ret' hh).before args s = true) : c.exceptionTable.toList = tableOf hh := by
  obtain ⟨m9, meth9, c9, hn9, h1, h2, -, -, h6, -⟩ := Cond.codeWith_spec h
  cases Option.some.inj (hn9.symm.trans B.named)
  cases Option.some.inj (h1.symm.trans B.method)
  cases Option.some.inj (h2.symm.trans (Stand.of_body B).code)
  rw [← h6, table_eq]
end Bodies
end VXA
/-! ===== END ===== -/
/-! ===== BEGIN a static call of a method with an exception table ===== -/
section VXS
variable {p : Program} {l : Launch} {e : Env} {R : Room} {s : State} {m : MethodId} {args : Array Value} {below : List Frame} {meth : Method} {c : Code} {T : State} {H : Heap} {locs : List Loc} {cells slots : Nat}
abbrev vx_CSW (R : Room) (s : State) (args : Array Value) (own : String) (index : Nat) (y : MethodName) (bytes : ByteArray) (maxL : Nat) (ret : Option FieldType) (hh : List (Nat × Nat × Nat × Nat)) (ws : List Cond) (rm : Room) (mc ms n : Nat) : Prop :=
  (rm.cells = mc ∧ rm.slots = ms ∧ rm.frames + 1 ≤ R.frames ∧ 8 + (maxL + 11) + rm.locals ≤ R.locals ∧ (∀ w ∈ ws, ∀ (a' : Array Value) (U : State), s.WarmedH U.vm → w.before a' U = true) ∧ Cond.codeWith y bytes maxL ret hh ∈ ws) ∧
  (Cond.codeWith y bytes maxL ret hh).before args s = true ∧ (Cond.initialized y.cls).before args s = true ∧ (y.cls ≠ "java/lang/invoke/MethodHandle" ∧ y.cls ≠ "java/lang/invoke/VarHandle") ∧
  (∀ sig, parseMethodDescriptor y.desc = some sig → n = sig.parameters.length) ∧ (Cond.methodLink own index y).before args s = true ∧ (Cond.static y).before args s = true
theorem vx_cwSW {own : String} {index maxL mc ms : Nat} {y : MethodName} {bytes : ByteArray} {ret : Option FieldType} {hh : List (Nat × Nat × Nat × Nat)} {Ts ws ws' : List Cond} {rm : Room} (n : Nat) (ht : ∀ w ∈ Ts, w.before args s = true) (hT : GoodIn Ts (va_wsS own index y ws)) (hw : ws = Cond.codeWith y bytes maxL ret hh :: ws') (hrc : rm.cells = mc) (hrs : rm.slots = ms)
    (hd : y.cls ≠ "java/lang/invoke/MethodHandle" ∧ y.cls ≠ "java/lang/invoke/VarHandle" ∧ (parseMethodDescriptor y.desc).map (fun d => d.parameters.length) = some n) (hR : rm.frames + 1 ≤ R.frames ∧ 8 + (maxL + 11) + rm.locals ≤ R.locals) :
    vx_CSW R s args own index y bytes maxL ret hh ws rm mc ms n := by
  have ok : ∀ w ∈ va_wsS own index y ws, w.before args s = true := fun w h => ht w (hT w h).1
  have hG : GoodIn Ts ws := fun w h => hT w (by unfold va_wsS; exact List.mem_append_right _ h)
  have hc : Cond.codeWith y bytes maxL ret hh ∈ ws := by rw [hw]; exact List.mem_cons_self
  refine ⟨⟨hrc, hrs, hR.1, hR.2, pay_in ht hG, hc⟩, ht _ (hG _ hc).1, ok _ (by simp [va_wsS]), ⟨hd.1, hd.2.1⟩, fun sig h => ?_, ok _ (by simp [va_wsS]), ok _ (by simp [va_wsS])⟩
  have h2 := hd.2.2
  rw [h] at h2
  exact (Option.some.inj h2).symm
theorem vx_callSW (X : Stand p l e R s m args below meth c T locs cells slots) (hexec : p.tables.exec = Jvm.exec) {own : String} {index : Nat} {y : MethodName} {bytes : ByteArray} {maxL : Nat} {ret : Option FieldType} {hh : List (Nat × Nat × Nat × Nat)}
    (hown : s.vm.findClass own = some m.cls) (hlink : (Cond.methodLink own index y).before args s = true) (hstat : (Cond.static y).before args s = true) (hinit : (Cond.initialized y.cls).before args s = true)
    (hcode : (Cond.codeWith y bytes maxL ret hh).before args s = true) (hy : y.cls ≠ "java/lang/invoke/MethodHandle" ∧ y.cls ≠ "java/lang/invoke/VarHandle")
    {W9 : Nat} {Pre : Pt → Array Value → Prop} {Post : Pt → Array Value → Option Value → Pt → Prop} (hK : Back l R p e below s args y 3 W9 Pre Post)
    {g : JFrame} (hg : g.method = m) (hsize : g.locals.size = c.maxLocals) {argsL rest : List Value} (hlen : ∀ sig, parseMethodDescriptor y.desc = some sig → argsL.length = sig.parameters.length)
    (hstack : g.stack = argsL.reverse ++ rest) (hW : 2 * g.monitorRoom + (rest.map fun v => v.category).sum ≤ W9) (hdg : decode c.code g.pc = .ok (.invokestatic index, 3))
    (hpre : ∀ vm₁, s.WarmedH vm₁ → Pre ⟨T.setVm vm₁, locs, cells, slots⟩ argsL.toArray) :
    ∃ (v : Option Value) (vm₁ : Vm) (B : Pt), s.WarmedH vm₁ ∧ Stand p l e R s m args below meth c B.U B.locs B.cells B.slots ∧ Post ⟨T.setVm vm₁, locs, cells, slots⟩ argsL.toArray v B ∧
      ∀ target, Steps p.tables e below (B.U.setTop { g with pc := g.pc + 3, stack := v.toList ++ rest }) target → Steps p.tables e below (T.setTop g) target := by
  obtain ⟨mk, methM, cM, hnamed, hmethM, -, -, -, -, -, -, hsigM⟩ := Cond.codeWith_spec hcode
  have hstatic : methM.isStatic = true := Cond.static_spec hnamed hmethM hstat
  obtain ⟨kP, hkP, -⟩ := className_of_methodNamed hnamed
  have hinitP : kP.init = .initialized := Cond.initialized_spec (findClass_of_methodNamed hnamed) hkP hinit
  obtain ⟨vm₁, X₁, hstep₁⟩ := X.invokestatic hexec hown hlink hnamed hmethM hstatic hkP hinitP hy (g := g) hg (argsL := argsL) (rest := rest) (hlen _ hsigM) hstack hdg
  obtain ⟨v, B, X', hpost, hsteps⟩ := hK m meth c ⟨T.setVm vm₁, locs, cells, slots⟩ { g with stack := rest } (.invokestatic index) mk argsL.toArray X₁ hg hsize hdg hW (X₁.named hnamed) (hpre vm₁ X₁.warmed)
  exact ⟨v, vm₁, B, X₁.warmed, X', hpost, fun target h => hstep₁ _ fun acts => by rw [doInvoke_state]; exact hsteps.trans h⟩
theorem vx_runSW {y : MethodName} {bytes cc : ByteArray} {maxL nL mc ms n index : Nat} {ret : Option FieldType} {hh : List (Nat × Nat × Nat × Nat)} {ws : List Cond} {rm : Room} {Pc : Array Value → State → Prop} {Qc : Array Value → State → Outcome → State → Prop} {free : Addr → Prop} {Ts : List Cond} {own : String} {As rest : List Value} {g : JFrame}
    (S : CallFix p m c cc nL s args Ts own) (hM : Met l y ws rm Pc Qc mc ms free) (cw : vx_CSW R s args own index y bytes maxL ret hh ws rm mc ms n) (hp : PreS s H Pc As)
    (hg : g.method = m) (hn : As.length = n) (hsize : g.locals.size = nL) (hstack : g.stack = As.reverse ++ rest) (hW : 2 * g.monitorRoom + (rest.map fun v => v.category).sum ≤ 8) (hdg : decode cc g.pc = .ok (.invokestatic index, 3)) (hf : cells + mc ≤ R.cells ∧ slots + ms ≤ R.slots) :
    va_Run p l e R s m args below meth c H locs cells slots mc ms g rest (Qc As.toArray) (free) := by
  obtain ⟨⟨hrc, hrs, hfr, hlo, hws, hcw⟩, hcode, hini, hy, hlen, hl, hstt⟩ := cw
  have hK : Back l R p e below s args y 3 8 (PreOf R mc ms Pc) (PostOf Qc mc ms free) := va_backW (hh := hh) (bytes := bytes) (maxL := maxL) (ret := ret) hM hp.1 hrc hrs hfr hlo hws hcw (fun a' U hW => word_at hW (Or.inl (by first | rfl | simp [Cond.onTables, Cond.keeps, Cond.steady])) hini)
  obtain ⟨hx, hb, hml, ho, -⟩ := S
  intro T hT X
  obtain ⟨v, vm₁, ⟨U', l2, c2, s2⟩, hW₁, X', ⟨g', mk, t, L, e1, e2, hq, h1, hL, h2, h3⟩, st⟩ := vx_callSW X hx (hh := hh) (bytes := bytes) (maxL := maxL) (ret := ret) ho hl hstt hini hcode hy hK hg (hsize.trans hml.symm) (argsL := As) (rest := rest) (fun sig h => hn.trans (hlen sig h)) hstack hW (by rw [hb]; exact hdg)
    (fun vm₁ hW₁ => ⟨hf.1, hf.2, hp.2 (T.setVm vm₁) hT hW₁⟩)
  dsimp only [Pt.U, Pt.locs, Pt.cells, Pt.slots] at X' e1 e2 h1 h2 h3 st
  subst h1; subst h2; subst h3
  exact ⟨v, (T.setVm vm₁).calling g' mk As.toArray, t, U', L, hT, X', hL, e1, e2, hq, st⟩
/-- not caught here, past rows that name other classes: it goes on to the caller -/
theorem vx_outP {p : Program} {l : Launch} {e : Env} {R : Room} {s : State} {m : MethodId} {args : Array Value} {below : List Frame} {meth : Method} {c : Code} {H : Heap} {locs : List Loc} {cells slots : Nat} {free : Addr → Prop} {ls : Array Slot} {rest : List Value} {Qc : Array Value → State → Outcome → State → Prop} {XC : String → State → State → Prop}
    {pc : Nat} {own E : String} {ce : Cell} {q : Addr} {mc ms : Nat} (hown : s.vm.findClass own = some m.cls) (hlocks : meth.locks = false)
    (hpass : ∀ z ∈ c.exceptionTable.toList, covers z pc = false ∨ (z.catchType ≠ 0 ∧ ∃ nm : String, (Cond.classLink own z.catchType nm).before args s = true ∧ va_Nc E nm s)) (hcell : H[q]? = some ce) (hv : ce.vm = .none) (hcl : s.vm.findClass E = some ce.cls)
    (hx : ∀ t : State, t.heap = H → s.vm.Alike t.vm → XC E s t) (hf : ∀ z ∈ locs, free z.base) (hc : cells ≤ mc) (hs : slots ≤ ms) :
    vx_W p l e R s m args below meth c H locs cells slots (vx_MQ below Qc XC args s mc ms free) (F0 m pc ls rest) q := by
  intro T hT X
  have hpl : e.platform.magicAccessors = ({} : Platform).magicAccessors := by rw [X.admits.platform]
  obtain ⟨vm', hW', X', st⟩ := X.outThrough hlocks q (g := F0 m pc ls rest) rfl rfl rfl (cell := ce) (by rw [hT]; exact hcell) (by rw [hv]; rfl)
    (by obtain ⟨k9, h9, -⟩ := Vm.findClass_spec hcl; exact ⟨k9, h9⟩) (fun z hz => by
      rcases hpass z hz with h | ⟨hz0, nm, hl1, hn1⟩
      · exact Or.inl h
      · obtain ⟨c6, hc6, hcl6⟩ := Cond.classLink_spec hown hl1 e.platform hpl
        obtain ⟨a8, b8, h1, h2, h3⟩ := hn1
        cases Option.some.inj (h1.symm.trans hcl)
        cases Option.some.inj (h2.symm.trans hc6)
        exact Or.inr ⟨hz0, _, hcl6, h3⟩)
  obtain ⟨g₀, hfr⟩ := X'.frames_eq
  have hcell9 : ((T.setVm vm').setFrames (.throwing q :: below)).heap[q]? = some ce := by
    show T.heap[q]? = some ce
    rw [hT]; exact hcell
  have hend : Ended ((T.setVm vm').setFrames (.throwing q :: below)) below (.threw q) := State.frames_setFrames _ (State.cur_lt_of_frames hfr)
  refine ⟨(T.setVm vm').setFrames (.throwing q :: below), ?_, .threw q, X'.here.running, hend, Or.inr ⟨q, rfl, E, ce, locs, hx _ hT (X'.ends _).1.alike, hcell9, hv, hcl, (X'.ends _).1, (X'.ends _).2.mono hc hs, hf⟩⟩
  rw [X.pushThrowing_eq]
  exact st
/-- a thing of a world lies in the heap -/
theorem vx_lt {D : va_G} {cl : List vw_C} {ws : va_W} {H1 : Heap} (h : va_P D cl ws H1) {k : Nat} {q : Nat × va_E} (hk : ws[k]? = some q) : q.1 < H1.size := (h k q hk).lt
end VXS
/-! ===== END ===== -/
/-! ===== BEGIN methods with a table of their own: called by a name, returning or throwing ===== -/
section VXH
/-! vx_backW, vx_callVX, vx_callSX, vx_callVW, vx_runVW, vx_runVX, vx_runSX, vx_ofWH follow the same proofs as their sisters above (Free/Laws.lean, Shelf42/LK1.lean); vx_outP calls Shelf42/NT130.lean (outThrough). -/
section
variable {l : Launch} {R : Room} {p : Program} {e : Env} {below : List Frame} {s : State} {sargs : Array Value} {y : MethodName} {len W9 : Nat}
theorem vx_backW {ws : List Cond} {rm : Room} {Pc : Array Value → State → Prop} {Qc : Array Value → State → Outcome → State → Prop} {XC : String → State → State → Prop} {mc ms : Nat} {free : Addr → Prop} {bytes : ByteArray} {maxL : Nat} {ret : Option FieldType} {hh : List (Nat × Nat × Nat × Nat)}
    (hM : vx_Met l y ws rm Pc Qc XC mc ms free) (hblind : FrameBlind Pc) (hrc : rm.cells = mc) (hrs : rm.slots = ms)
    (hframes : rm.frames + 1 ≤ R.frames) (hlocals : W9 + (maxL + 11) + rm.locals ≤ R.locals)
    (hws : ∀ w ∈ ws, ∀ a' U, s.WarmedH U.vm → w.before a' U = true) (hcode : Cond.codeWith y bytes maxL ret hh ∈ ws) (hinit : ∀ a' U, s.WarmedH U.vm → (Cond.initialized y.cls).before a' U = true) :
    vx_Back l R p e below s sargs y len W9 (PreOf R mc ms Pc) (PostOf Qc mc ms free) (vx_Post XC mc ms free) := by
  intro m meth c A g ig mk a X hg hsize hdg hW hn hp
  have h1 : (headSpec ws rm).pre.before a A.U = true := atoms_intro fun w hw => hws w hw _ _ X.warmed
  have h2 : (Cond.codeWith y bytes maxL ret hh).before a A.U = true := hws _ hcode _ _ X.warmed
  have h3 : (Cond.initialized y.cls).before a A.U = true := hinit _ _ X.warmed
  have h4 : A.cells + (headSpec ws rm).room.cells ≤ R.cells := by rw [show (headSpec ws rm).room.cells = mc from hrc]; exact hp.1
  have h5 : A.slots + (headSpec ws rm).room.slots ≤ R.slots := by rw [show (headSpec ws rm).room.slots = ms from hrs]; exact hp.2.1
  have hPc : Pc a (A.U.calling g mk a) := hblind _ _ _ _ hp.2.2
  obtain ⟨U, Ls, c0, s0⟩ := A
  dsimp only [Pt.U, Pt.locs, Pt.cells, Pt.slots] at h1 h2 h3 h4 h5 X hn hPc ⊢
  obtain ⟨m9, methY, cY, hn9, hmY, hcY, -, hlY, -⟩ := Cond.codeWith_spec h2
  cases Option.some.inj (hn9.symm.trans hn)
  obtain ⟨kY, hkY, -⟩ := className_of_methodNamed hn
  have hinitY : kY.init = .initialized := Cond.initialized_spec (findClass_of_methodNamed hn) hkY h3
  have h : At U g.method c below := by rw [hg]; exact X.here
  have hlocals9 : W9 + (maxL + 11) + (headSpec ws rm).room.locals ≤ R.locals := hlocals
  have happ : (headSpec ws rm).appliesLoose y e.platform (U.calling g mk a) = true :=
    Spec.appliesLoose_calling (g := g) h hdg hn hkY hinitY
      (X.room_calling (g := g) (R' := (headSpec ws rm).room) hsize hmY hcY hframes (by rw [hlY]; omega) h4 h5) h1
  obtain ⟨mid, hmid⟩ := h.above
  have hfr : (U.setTop g).frames = (.java g :: mid) ++ below := by rw [State.frames_setTop' g h.top, hmid]; rfl
  obtain ⟨o, s₂, hsteps, -, hend, hq⟩ := Steps.callFree hM p X.admits X.cas X.clock (acts := []) hfr happ hPc trivial
  have hq' : vx_Q Qc XC mc ms free a (U.calling g mk a) o s₂ := hq
  rw [State.frames_setTop' g h.top] at hend
  obtain ⟨g₀, hg0⟩ := Option.isSome_iff_exists.mp h.top
  obtain ⟨r, hr⟩ := State.topJava?_eq_some.mp hg0
  have hr' : (({ U with heap := s₂.heap, slotsUsed := s₂.slotsUsed } : State).setVm s₂.vm).frames = .java g₀ :: r := hr
  rcases hq' with ⟨hqc, L, hfe, hL⟩ | ⟨q, rfl, E, ce, L, hx, hce, hcv, hcl, hW₂, hsm, hL⟩
  · obtain ⟨⟨v, rfl⟩, hW₂, e2, q2, q3, q4, q5, q6⟩ := id hfe
    have e3 : s₂ = ({ (U.calling g mk a).setFrames s₂.frames with heap := s₂.heap, slotsUsed := s₂.slotsUsed } : State).setVm s₂.vm := by
      have : s₂ = ({ s₂ with vm := (U.calling g mk a).vm } : State).setVm s₂.vm := rfl
      rw [e2] at this
      exact this
    obtain ⟨c₂, i₂, len₂, hc₂, hd₂, hf₂⟩ := hend
    have hW' : U.WarmedH s₂.vm := hW₂
    have hcc : c₂ = c := by
      have h1 : s₂.code? g.method = U.code? g.method := by
        rw [State.code?_eq, State.code?_eq, hW'.alike.method?]
      exact Option.some.inj (hc₂.symm.trans (h1.trans h.code))
    subst hcc
    have hlen : len₂ = len := by rw [hdg] at hd₂; cases hd₂; rfl
    subst hlen
    have hs₂ : s₂ = (({ U with heap := s₂.heap, slotsUsed := s₂.slotsUsed } : State).setVm s₂.vm).setTop { g with pc := g.pc + len₂, stack := v.toList ++ g.stack } := by
      refine e3.trans ?_
      rw [hf₂, State.calling_eq h.top, State.setFrames_setFrames, State.setTop_of_frames _ hr', hr]
      rfl
    have hsame : U.sameButNew ({ U with heap := s₂.heap, slotsUsed := s₂.slotsUsed } : State) L mc ms := by
      refine ⟨?_, q2, q3, q4, q5, q6⟩
      obtain ⟨t, ht, -⟩ := State.frames_cons hr
      show ({ U with heap := s₂.heap, slotsUsed := s₂.slotsUsed } : State) = { U.setFrames U.frames with heap := s₂.heap, slotsUsed := s₂.slotsUsed }
      rw [State.setFrames_self ht]
    subst hg
    refine Or.inl ⟨v, ⟨(({ U with heap := s₂.heap, slotsUsed := s₂.slotsUsed } : State).setVm s₂.vm), Ls ++ L, c0 + mc, s0 + ms⟩,
      ⟨X.admits, X.cas, X.clock, X.frames, X.room, X.hears, X.method, X.code, (X.here.setHeapUsed s₂.heap s₂.slotsUsed).setVm hW'.alike, X.tail, State.WarmedH.trans X.warmed hW', X.limits, X.bytes, X.same.trans (hsame.setVm s.vm)⟩,
      ⟨g, mk, s₂, L, rfl, rfl, hqc, rfl, hL, rfl, rfl⟩, ?_⟩
    show Steps p.tables e below _ ((({ U with heap := s₂.heap, slotsUsed := s₂.slotsUsed } : State).setVm s₂.vm).setTop { g with pc := g.pc + len₂, stack := v.toList ++ g.stack })
    rw [← hs₂]
    exact hsteps
  · obtain ⟨e2, q2, q3, q4, q5, q6⟩ := id hsm
    have e3 : s₂ = ({ (U.calling g mk a).setFrames s₂.frames with heap := s₂.heap, slotsUsed := s₂.slotsUsed } : State).setVm s₂.vm := by
      have : s₂ = ({ s₂ with vm := (U.calling g mk a).vm } : State).setVm s₂.vm := rfl
      rw [e2] at this
      exact this
    have hf₂ : s₂.frames = .throwing q :: .java g :: U.frames.tail := hend
    have hW' : U.WarmedH s₂.vm := hW₂
    have hs₂ : s₂ = ((({ U with heap := s₂.heap, slotsUsed := s₂.slotsUsed } : State).setVm s₂.vm).setTop g).pushFrame (.throwing q) := by
      refine e3.trans ?_
      rw [hf₂, State.calling_eq h.top, State.setFrames_setFrames, State.pushFrame, State.frames_setTop _ hr', State.setTop_of_frames _ hr', State.setFrames_setFrames, hr]
      rfl
    have hsame : U.sameButNew ({ U with heap := s₂.heap, slotsUsed := s₂.slotsUsed } : State) L mc ms := by
      refine ⟨?_, q2, q3, q4, q5, q6⟩
      obtain ⟨t, ht, -⟩ := State.frames_cons hr
      show ({ U with heap := s₂.heap, slotsUsed := s₂.slotsUsed } : State) = { U.setFrames U.frames with heap := s₂.heap, slotsUsed := s₂.slotsUsed }
      rw [State.setFrames_self ht]
    subst hg
    refine Or.inr ⟨q, ⟨(({ U with heap := s₂.heap, slotsUsed := s₂.slotsUsed } : State).setVm s₂.vm), Ls ++ L, c0 + mc, s0 + ms⟩,
      ⟨X.admits, X.cas, X.clock, X.frames, X.room, X.hears, X.method, X.code, (X.here.setHeapUsed s₂.heap s₂.slotsUsed).setVm hW'.alike, X.tail, State.WarmedH.trans X.warmed hW', X.limits, X.bytes, X.same.trans (hsame.setVm s.vm)⟩,
      ⟨g, mk, s₂, L, E, ce, rfl, rfl, hx, hce, hcv, hcl, rfl, hL, rfl, rfl⟩, ?_⟩
    show Steps p.tables e below _ (((({ U with heap := s₂.heap, slotsUsed := s₂.slotsUsed } : State).setVm s₂.vm).setTop g).pushFrame (.throwing q))
    rw [← hs₂]
    exact hsteps
end
variable {p : Program} {l : Launch} {e : Env} {R : Room} {s : State} {m : MethodId} {args : Array Value} {below : List Frame} {meth : Method} {c : Code} {T : State} {H : Heap} {locs : List Loc} {cells slots : Nat}
theorem vx_callVX (X : Stand p l e R s m args below meth c T locs cells slots) (hexec : p.tables.exec = Jvm.exec) {own C : String} {index : Nat} {y : MethodName} {bytes : ByteArray} {maxL : Nat} {ret : Option FieldType} {hh : List (Nat × Nat × Nat × Nat)}
    (hown : s.vm.findClass own = some m.cls) (hlink : (Cond.methodLink own index y).before args s = true) (hinst : (Cond.instanceMethod y).before args s = true) (hsel : (Cond.selects C y y).before args s = true)
    (hcode : (Cond.codeWith y bytes maxL ret hh).before args s = true) (hy : y.cls ≠ "java/lang/invoke/MethodHandle" ∧ y.cls ≠ "java/lang/invoke/VarHandle")
    {W9 : Nat} {Pre : Pt → Array Value → Prop} {Post : Pt → Array Value → Option Value → Pt → Prop} {PostX : Pt → Array Value → Addr → Pt → Prop} (hK : vx_Back l R p e below s args y 3 W9 Pre Post PostX)
    {b : Addr} {cellB : Cell} (hcell : T.heap[b]? = some cellB) (hobj : cellB.vm.isStatics = false) (hcls : s.vm.findClass C = some cellB.cls)
    {g : JFrame} (hg : g.method = m) (hsize : g.locals.size = c.maxLocals) {argsL rest : List Value} (hlen : ∀ sig, parseMethodDescriptor y.desc = some sig → argsL.length = sig.parameters.length)
    (hstack : g.stack = argsL.reverse ++ .ref b :: rest) (hW : 2 * g.monitorRoom + (rest.map fun v => v.category).sum ≤ W9) (hdg : decode c.code g.pc = .ok (.invokevirtual index, 3))
    (hpre : ∀ vm₁, s.WarmedH vm₁ → Pre ⟨T.setVm vm₁, locs, cells, slots⟩ (Value.ref b :: argsL).toArray) :
    (∃ (v : Option Value) (vm₁ : Vm) (B : Pt), s.WarmedH vm₁ ∧ Stand p l e R s m args below meth c B.U B.locs B.cells B.slots ∧ Post ⟨T.setVm vm₁, locs, cells, slots⟩ (Value.ref b :: argsL).toArray v B ∧
      ∀ target, Steps p.tables e below (B.U.setTop { g with pc := g.pc + 3, stack := v.toList ++ rest }) target → Steps p.tables e below (T.setTop g) target) ∨
    (∃ (q : Addr) (vm₁ : Vm) (B : Pt), s.WarmedH vm₁ ∧ Stand p l e R s m args below meth c B.U B.locs B.cells B.slots ∧ PostX ⟨T.setVm vm₁, locs, cells, slots⟩ (Value.ref b :: argsL).toArray q B ∧
      Steps p.tables e below (T.setTop g) ((B.U.setTop { g with stack := rest }).pushFrame (.throwing q))) := by
  obtain ⟨mk, methM, hnamed, hmethM, hstM, habM⟩ := Cond.instanceMethod_spec hinst
  obtain ⟨m8, methM', cM, hn8, hmethM', -, -, -, -, -, -, hsigM⟩ := Cond.codeWith_spec hcode
  cases Option.some.inj (hn8.symm.trans hnamed)
  cases hmethM.symm.trans hmethM'
  obtain ⟨c2, r2, m2, q1, q2, q3, q4, kP, hkP, hkPi⟩ := Cond.selects_spec hsel
  cases hcls.symm.trans q1
  cases (State.methodFound?_of_named hnamed hy).symm.trans q2
  cases hnamed.symm.trans q3
  have hselP : selectMethod e.platform s.vm cellB.cls mk = .method mk := by rw [Launch.admits_selectMethod X.admits]; exact q4
  obtain ⟨vm₁, X₁, hstep₁⟩ := X.invokevirtual hexec hown hlink hnamed hmethM hstM hkP hkPi hy (a := b) (cell := cellB) hcell
    (fun z h => by rw [h] at hobj; cases hobj) hselP hmethM habM hkP hkPi (g := g) hg (argsL := argsL) (rest := rest) (hlen _ hsigM) hstack hdg
  rcases hK m meth c ⟨T.setVm vm₁, locs, cells, slots⟩ { g with stack := rest } (.invokevirtual index) mk (Value.ref b :: argsL).toArray X₁ hg hsize hdg hW (X₁.named hnamed) (hpre vm₁ X₁.warmed) with ⟨v, B, X', hpost, hsteps⟩ | ⟨q, B, X', hpost, hsteps⟩
  · exact Or.inl ⟨v, vm₁, B, X₁.warmed, X', hpost, fun target h => hstep₁ _ fun acts => by rw [doInvoke_state]; exact hsteps.trans h⟩
  · exact Or.inr ⟨q, vm₁, B, X₁.warmed, X', hpost, hstep₁ _ fun acts => by rw [doInvoke_state]; exact hsteps⟩
theorem vx_callSX (X : Stand p l e R s m args below meth c T locs cells slots) (hexec : p.tables.exec = Jvm.exec) {own : String} {index : Nat} {y : MethodName} {bytes : ByteArray} {maxL : Nat} {ret : Option FieldType} {hh : List (Nat × Nat × Nat × Nat)}
    (hown : s.vm.findClass own = some m.cls) (hlink : (Cond.methodLink own index y).before args s = true) (hstat : (Cond.static y).before args s = true) (hinit : (Cond.initialized y.cls).before args s = true)
    (hcode : (Cond.codeWith y bytes maxL ret hh).before args s = true) (hy : y.cls ≠ "java/lang/invoke/MethodHandle" ∧ y.cls ≠ "java/lang/invoke/VarHandle")
    {W9 : Nat} {Pre : Pt → Array Value → Prop} {Post : Pt → Array Value → Option Value → Pt → Prop} {PostX : Pt → Array Value → Addr → Pt → Prop} (hK : vx_Back l R p e below s args y 3 W9 Pre Post PostX)
    {g : JFrame} (hg : g.method = m) (hsize : g.locals.size = c.maxLocals) {argsL rest : List Value} (hlen : ∀ sig, parseMethodDescriptor y.desc = some sig → argsL.length = sig.parameters.length)
    (hstack : g.stack = argsL.reverse ++ rest) (hW : 2 * g.monitorRoom + (rest.map fun v => v.category).sum ≤ W9) (hdg : decode c.code g.pc = .ok (.invokestatic index, 3))
    (hpre : ∀ vm₁, s.WarmedH vm₁ → Pre ⟨T.setVm vm₁, locs, cells, slots⟩ argsL.toArray) :
    (∃ (v : Option Value) (vm₁ : Vm) (B : Pt), s.WarmedH vm₁ ∧ Stand p l e R s m args below meth c B.U B.locs B.cells B.slots ∧ Post ⟨T.setVm vm₁, locs, cells, slots⟩ argsL.toArray v B ∧
      ∀ target, Steps p.tables e below (B.U.setTop { g with pc := g.pc + 3, stack := v.toList ++ rest }) target → Steps p.tables e below (T.setTop g) target) ∨
    (∃ (q : Addr) (vm₁ : Vm) (B : Pt), s.WarmedH vm₁ ∧ Stand p l e R s m args below meth c B.U B.locs B.cells B.slots ∧ PostX ⟨T.setVm vm₁, locs, cells, slots⟩ argsL.toArray q B ∧
      Steps p.tables e below (T.setTop g) ((B.U.setTop { g with stack := rest }).pushFrame (.throwing q))) := by
  obtain ⟨mk, methM, cM, hnamed, hmethM, -, -, -, -, -, -, hsigM⟩ := Cond.codeWith_spec hcode
  have hstatic : methM.isStatic = true := Cond.static_spec hnamed hmethM hstat
  obtain ⟨kP, hkP, -⟩ := className_of_methodNamed hnamed
  have hinitP : kP.init = .initialized := Cond.initialized_spec (findClass_of_methodNamed hnamed) hkP hinit
  obtain ⟨vm₁, X₁, hstep₁⟩ := X.invokestatic hexec hown hlink hnamed hmethM hstatic hkP hinitP hy (g := g) hg (argsL := argsL) (rest := rest) (hlen _ hsigM) hstack hdg
  rcases hK m meth c ⟨T.setVm vm₁, locs, cells, slots⟩ { g with stack := rest } (.invokestatic index) mk argsL.toArray X₁ hg hsize hdg hW (X₁.named hnamed) (hpre vm₁ X₁.warmed) with ⟨v, B, X', hpost, hsteps⟩ | ⟨q, B, X', hpost, hsteps⟩
  · exact Or.inl ⟨v, vm₁, B, X₁.warmed, X', hpost, fun target h => hstep₁ _ fun acts => by rw [doInvoke_state]; exact hsteps.trans h⟩
  · exact Or.inr ⟨q, vm₁, B, X₁.warmed, X', hpost, hstep₁ _ fun acts => by rw [doInvoke_state]; exact hsteps⟩
theorem vx_callVW (X : Stand p l e R s m args below meth c T locs cells slots) (hexec : p.tables.exec = Jvm.exec) {own C : String} {index : Nat} {y : MethodName} {bytes : ByteArray} {maxL : Nat} {ret : Option FieldType} {hh : List (Nat × Nat × Nat × Nat)}
    (hown : s.vm.findClass own = some m.cls) (hlink : (Cond.methodLink own index y).before args s = true) (hinst : (Cond.instanceMethod y).before args s = true) (hsel : (Cond.selects C y y).before args s = true)
    (hcode : (Cond.codeWith y bytes maxL ret hh).before args s = true) (hy : y.cls ≠ "java/lang/invoke/MethodHandle" ∧ y.cls ≠ "java/lang/invoke/VarHandle")
    {W9 : Nat} {Pre : Pt → Array Value → Prop} {Post : Pt → Array Value → Option Value → Pt → Prop} (hK : Back l R p e below s args y 3 W9 Pre Post)
    {b : Addr} {cellB : Cell} (hcell : T.heap[b]? = some cellB) (hobj : cellB.vm.isStatics = false) (hcls : s.vm.findClass C = some cellB.cls)
    {g : JFrame} (hg : g.method = m) (hsize : g.locals.size = c.maxLocals) {argsL rest : List Value} (hlen : ∀ sig, parseMethodDescriptor y.desc = some sig → argsL.length = sig.parameters.length)
    (hstack : g.stack = argsL.reverse ++ .ref b :: rest) (hW : 2 * g.monitorRoom + (rest.map fun v => v.category).sum ≤ W9) (hdg : decode c.code g.pc = .ok (.invokevirtual index, 3))
    (hpre : ∀ vm₁, s.WarmedH vm₁ → Pre ⟨T.setVm vm₁, locs, cells, slots⟩ (Value.ref b :: argsL).toArray) :
    ∃ (v : Option Value) (vm₁ : Vm) (B : Pt), s.WarmedH vm₁ ∧ Stand p l e R s m args below meth c B.U B.locs B.cells B.slots ∧ Post ⟨T.setVm vm₁, locs, cells, slots⟩ (Value.ref b :: argsL).toArray v B ∧
      ∀ target, Steps p.tables e below (B.U.setTop { g with pc := g.pc + 3, stack := v.toList ++ rest }) target → Steps p.tables e below (T.setTop g) target := by
  obtain ⟨mk, methM, hnamed, hmethM, hstM, habM⟩ := Cond.instanceMethod_spec hinst
  obtain ⟨m8, methM', cM, hn8, hmethM', -, -, -, -, -, -, hsigM⟩ := Cond.codeWith_spec hcode
  cases Option.some.inj (hn8.symm.trans hnamed)
  cases hmethM.symm.trans hmethM'
  obtain ⟨c2, r2, m2, q1, q2, q3, q4, kP, hkP, hkPi⟩ := Cond.selects_spec hsel
  cases hcls.symm.trans q1
  cases (State.methodFound?_of_named hnamed hy).symm.trans q2
  cases hnamed.symm.trans q3
  have hselP : selectMethod e.platform s.vm cellB.cls mk = .method mk := by rw [Launch.admits_selectMethod X.admits]; exact q4
  obtain ⟨vm₁, X₁, hstep₁⟩ := X.invokevirtual hexec hown hlink hnamed hmethM hstM hkP hkPi hy (a := b) (cell := cellB) hcell
    (fun z h => by rw [h] at hobj; cases hobj) hselP hmethM habM hkP hkPi (g := g) hg (argsL := argsL) (rest := rest) (hlen _ hsigM) hstack hdg
  obtain ⟨v, B, X', hpost, hsteps⟩ := hK m meth c ⟨T.setVm vm₁, locs, cells, slots⟩ { g with stack := rest } (.invokevirtual index) mk (Value.ref b :: argsL).toArray X₁ hg hsize hdg hW (X₁.named hnamed) (hpre vm₁ X₁.warmed)
  exact ⟨v, vm₁, B, X₁.warmed, X', hpost, fun target h => hstep₁ _ fun acts => by rw [doInvoke_state]; exact hsteps.trans h⟩
abbrev vx_CVW (R : Room) (s : State) (args : Array Value) (own C : String) (index : Nat) (y : MethodName) (bytes : ByteArray) (maxL : Nat) (ret : Option FieldType) (hh : List (Nat × Nat × Nat × Nat)) (ws : List Cond) (rm : Room) (mc ms n : Nat) : Prop :=
  (rm.cells = mc ∧ rm.slots = ms ∧ rm.frames + 1 ≤ R.frames ∧ 8 + (maxL + 11) + rm.locals ≤ R.locals ∧ (∀ w ∈ ws, ∀ (a' : Array Value) (U : State), s.WarmedH U.vm → w.before a' U = true) ∧ Cond.codeWith y bytes maxL ret hh ∈ ws) ∧
  (Cond.codeWith y bytes maxL ret hh).before args s = true ∧ (Cond.initialized y.cls).before args s = true ∧ (y.cls ≠ "java/lang/invoke/MethodHandle" ∧ y.cls ≠ "java/lang/invoke/VarHandle") ∧
  (∀ sig, parseMethodDescriptor y.desc = some sig → n = sig.parameters.length) ∧ (Cond.methodLink own index y).before args s = true ∧ (Cond.instanceMethod y).before args s = true ∧ (Cond.selects C y y).before args s = true
theorem vx_cwVW {own C : String} {index maxL mc ms : Nat} {y : MethodName} {bytes : ByteArray} {ret : Option FieldType} {hh : List (Nat × Nat × Nat × Nat)} {Ts ws ws' : List Cond} {rm : Room} (n : Nat) (ht : ∀ w ∈ Ts, w.before args s = true) (hT : GoodIn Ts (wsV own index C y ws)) (hw : ws = Cond.codeWith y bytes maxL ret hh :: ws') (hrc : rm.cells = mc) (hrs : rm.slots = ms)
    (hd : y.cls = C ∧ y.cls ≠ "java/lang/invoke/MethodHandle" ∧ y.cls ≠ "java/lang/invoke/VarHandle" ∧ (parseMethodDescriptor y.desc).map (fun d => d.parameters.length) = some n) (hR : rm.frames + 1 ≤ R.frames ∧ 8 + (maxL + 11) + rm.locals ≤ R.locals) :
    vx_CVW R s args own C index y bytes maxL ret hh ws rm mc ms n := by
  obtain ⟨hC, hd⟩ := hd
  subst hC
  have ok : ∀ w ∈ wsV own index y.cls y ws, w.before args s = true := fun w h => ht w (hT w h).1
  have hG : GoodIn Ts ws := fun w h => hT w (by unfold wsV; exact List.mem_append_right _ h)
  have hc : Cond.codeWith y bytes maxL ret hh ∈ ws := by rw [hw]; exact List.mem_cons_self
  refine ⟨⟨hrc, hrs, hR.1, hR.2, pay_in ht hG, hc⟩, ht _ (hG _ hc).1, ok _ (by simp [wsV]), ⟨hd.1, hd.2.1⟩, fun sig h => ?_, ok _ (by simp [wsV]), ok _ (by simp [wsV]), ok _ (by simp [wsV])⟩
  have h2 := hd.2.2
  rw [h] at h2
  exact (Option.some.inj h2).symm
theorem vx_runVW {y : MethodName} {bytes cc : ByteArray} {maxL nL mc ms n index : Nat} {ret : Option FieldType} {hh : List (Nat × Nat × Nat × Nat)} {ws : List Cond} {rm : Room} {Pc : Array Value → State → Prop} {Qc : Array Value → State → Outcome → State → Prop} {free : Addr → Prop} {Ts : List Cond} {own C : String} {b : Addr} {As rest : List Value} {g : JFrame}
    (S : CallFix p m c cc nL s args Ts own) (hM : Met l y ws rm Pc Qc mc ms free) (cw : vx_CVW R s args own C index y bytes maxL ret hh ws rm mc ms n) (hp : PreV s H C b Pc As)
    (hg : g.method = m) (hn : As.length = n) (hsize : g.locals.size = nL) (hstack : g.stack = As.reverse ++ .ref b :: rest) (hW : 2 * g.monitorRoom + (rest.map fun v => v.category).sum ≤ 8) (hdg : decode cc g.pc = .ok (.invokevirtual index, 3)) (hf : cells + mc ≤ R.cells ∧ slots + ms ≤ R.slots) :
    va_Run p l e R s m args below meth c H locs cells slots mc ms g rest (Qc (Value.ref b :: As).toArray) free := by
  obtain ⟨⟨hrc, hrs, hfr, hlo, hws, hcw⟩, hcode, hini, hy, hlen, hl, hin, hse⟩ := cw
  have hK : Back l R p e below s args y 3 8 (PreOf R mc ms Pc) (PostOf Qc mc ms free) := va_backW (hh := hh) (bytes := bytes) (maxL := maxL) (ret := ret) hM hp.1 hrc hrs hfr hlo hws hcw (fun a' U hW => word_at hW (Or.inl (by first | rfl | simp [Cond.onTables, Cond.keeps, Cond.steady])) hini)
  obtain ⟨hx, hb, hml, ho, -⟩ := S
  obtain ⟨-, ⟨cellB, hcB, hoB, hclB⟩, hPc⟩ := hp
  intro T hT X
  obtain ⟨v, vm₁, ⟨U', l2, c2, s2⟩, hW₁, X', ⟨g', mk, t, L, e1, e2, hq, h1, hL, h2, h3⟩, st⟩ := vx_callVW X hx (C := C) (hh := hh) (bytes := bytes) (maxL := maxL) (ret := ret) ho hl hin hse hcode hy hK (by rw [hT]; exact hcB) hoB hclB hg (hsize.trans hml.symm) (argsL := As) (rest := rest) (fun sig h => hn.trans (hlen sig h)) hstack hW (by rw [hb]; exact hdg)
    (fun vm₁ hW₁ => ⟨hf.1, hf.2, hPc (T.setVm vm₁) hT hW₁⟩)
  dsimp only [Pt.U, Pt.locs, Pt.cells, Pt.slots] at X' e1 e2 h1 h2 h3 st
  subst h1; subst h2; subst h3
  exact ⟨v, (T.setVm vm₁).calling g' mk (Value.ref b :: As).toArray, t, U', L, hT, X', hL, e1, e2, hq, st⟩
section
variable {y : MethodName} {bytes cc : ByteArray} {maxL nL mc ms n index : Nat} {ret : Option FieldType} {ws : List Cond} {rm : Room} {Pc : Array Value → State → Prop} {Qc : Array Value → State → Outcome → State → Prop} {XC : String → State → State → Prop} {free : Addr → Prop} {Ts : List Cond} {own C : String} {b : Addr} {As rest : List Value} {g : JFrame}
theorem vx_runVX {hh : List (Nat × Nat × Nat × Nat)} (S : CallFix p m c cc nL s args Ts own) (hM : vx_Met l y ws rm Pc Qc XC mc ms free) (cw : vx_CVW R s args own C index y bytes maxL ret hh ws rm mc ms n) (hp : PreV s H C b Pc As)
    (hg : g.method = m) (hn : As.length = n) (hsize : g.locals.size = nL) (hstack : g.stack = As.reverse ++ .ref b :: rest) (hW : 2 * g.monitorRoom + (rest.map fun v => v.category).sum ≤ 8) (hdg : decode cc g.pc = .ok (.invokevirtual index, 3)) (hf : cells + mc ≤ R.cells ∧ slots + ms ≤ R.slots) :
    vx_Run p l e R s m args below meth c H locs cells slots mc ms g rest (Qc (Value.ref b :: As).toArray) XC free := by
  obtain ⟨⟨hrc, hrs, hfr, hlo, hws, hcw⟩, hcode, hini, hy, hlen, hl, hin, hse⟩ := cw
  have hK : vx_Back l R p e below s args y 3 8 (PreOf R mc ms Pc) (PostOf Qc mc ms free) (vx_Post XC mc ms free) := vx_backW (hh := hh) (bytes := bytes) (maxL := maxL) (ret := ret) hM hp.1 hrc hrs hfr hlo hws hcw (fun a' U hW => word_at hW (Or.inl (by first | rfl | simp [Cond.onTables, Cond.keeps, Cond.steady])) hini)
  obtain ⟨hx, hb, hml, ho, -⟩ := S
  obtain ⟨-, ⟨cellB, hcB, hoB, hclB⟩, hPc⟩ := hp
  intro T hT X
  rcases vx_callVX X hx (C := C) (hh := hh) (bytes := bytes) (maxL := maxL) (ret := ret) ho hl hin hse hcode hy hK (by rw [hT]; exact hcB) hoB hclB hg (hsize.trans hml.symm) (argsL := As) (rest := rest) (fun sig h => hn.trans (hlen sig h)) hstack hW (by rw [hb]; exact hdg)
    (fun vm₁ hW₁ => ⟨hf.1, hf.2, hPc (T.setVm vm₁) hT hW₁⟩) with ⟨v, vm₁, ⟨U', l2, c2, s2⟩, hW₁, X', ⟨g', mk, t, L, e1, e2, hq, h1, hL, h2, h3⟩, st⟩ | ⟨q, vm₁, ⟨U', l2, c2, s2⟩, hW₁, X', ⟨g', mk, t, L, E, ce, e1, e2, hq, hce, hcv, hcl, h1, hL, h2, h3⟩, st⟩
  · dsimp only [Pt.U, Pt.locs, Pt.cells, Pt.slots] at X' e1 e2 h1 h2 h3 st
    subst h1; subst h2; subst h3
    exact Or.inl ⟨v, (T.setVm vm₁).calling g' mk (Value.ref b :: As).toArray, t, U', L, hT, X', hL, e1, e2, hq, st⟩
  · dsimp only [Pt.U, Pt.locs, Pt.cells, Pt.slots] at X' e1 e2 h1 h2 h3 st hcl
    subst h1; subst h2; subst h3
    exact Or.inr ⟨q, (T.setVm vm₁).calling g' mk (Value.ref b :: As).toArray, t, U', L, E, ce, hT, X', hL, e1, e2, hq, hce, hcv, vx_cls hW₁ hcl, st⟩
theorem vx_runSX {hh : List (Nat × Nat × Nat × Nat)} (S : CallFix p m c cc nL s args Ts own) (hM : vx_Met l y ws rm Pc Qc XC mc ms free) (cw : vx_CSW R s args own index y bytes maxL ret hh ws rm mc ms n) (hp : PreS s H Pc As)
    (hg : g.method = m) (hn : As.length = n) (hsize : g.locals.size = nL) (hstack : g.stack = As.reverse ++ rest) (hW : 2 * g.monitorRoom + (rest.map fun v => v.category).sum ≤ 8) (hdg : decode cc g.pc = .ok (.invokestatic index, 3)) (hf : cells + mc ≤ R.cells ∧ slots + ms ≤ R.slots) :
    vx_Run p l e R s m args below meth c H locs cells slots mc ms g rest (Qc As.toArray) XC free := by
  obtain ⟨⟨hrc, hrs, hfr, hlo, hws, hcw⟩, hcode, hini, hy, hlen, hl, hstt⟩ := cw
  have hK : vx_Back l R p e below s args y 3 8 (PreOf R mc ms Pc) (PostOf Qc mc ms free) (vx_Post XC mc ms free) := vx_backW (hh := hh) (bytes := bytes) (maxL := maxL) (ret := ret) hM hp.1 hrc hrs hfr hlo hws hcw (fun a' U hW => word_at hW (Or.inl (by first | rfl | simp [Cond.onTables, Cond.keeps, Cond.steady])) hini)
  obtain ⟨hx, hb, hml, ho, -⟩ := S
  intro T hT X
  rcases vx_callSX X hx (hh := hh) (bytes := bytes) (maxL := maxL) (ret := ret) ho hl hstt hini hcode hy hK hg (hsize.trans hml.symm) (argsL := As) (rest := rest) (fun sig h => hn.trans (hlen sig h)) hstack hW (by rw [hb]; exact hdg)
    (fun vm₁ hW₁ => ⟨hf.1, hf.2, hp.2 (T.setVm vm₁) hT hW₁⟩) with ⟨v, vm₁, ⟨U', l2, c2, s2⟩, hW₁, X', ⟨g', mk, t, L, e1, e2, hq, h1, hL, h2, h3⟩, st⟩ | ⟨q, vm₁, ⟨U', l2, c2, s2⟩, hW₁, X', ⟨g', mk, t, L, E, ce, e1, e2, hq, hce, hcv, hcl, h1, hL, h2, h3⟩, st⟩
  · dsimp only [Pt.U, Pt.locs, Pt.cells, Pt.slots] at X' e1 e2 h1 h2 h3 st
    subst h1; subst h2; subst h3
    exact Or.inl ⟨v, (T.setVm vm₁).calling g' mk As.toArray, t, U', L, hT, X', hL, e1, e2, hq, st⟩
  · dsimp only [Pt.U, Pt.locs, Pt.cells, Pt.slots] at X' e1 e2 h1 h2 h3 st hcl
    subst h1; subst h2; subst h3
    exact Or.inr ⟨q, (T.setVm vm₁).calling g' mk As.toArray, t, U', L, E, ce, hT, X', hL, e1, e2, hq, hce, hcv, vx_cls hW₁ hcl, st⟩
end
end VXH
theorem vx_ofWH {l : Launch} {y : MethodName} {ws ws' : List Cond} {rm : Room} {Pc : Array Value → State → Prop} {Qc : Array Value → State → Outcome → State → Prop} {XC : String → State → State → Prop} {mc ms : Nat} {free : Addr → Prop} {cc : ByteArray} {maxL : Nat} {ret : Option FieldType} {hh : List (Nat × Nat × Nat × Nat)}
    (hy : plainName y.cls = true) (hw : ws = Cond.codeWith y cc maxL ret hh :: ws')
    (body : ∀ p e s m args below meth c s₁, BodyLoose p l y (headSpec ws rm) cc maxL ret e s m args below meth c s₁ → c.maxLocals = maxL → Pc args s →
      W p l e (headSpec ws rm).room s m args below meth c s.heap [] 0 0 (vx_MQ below Qc XC args s mc ms free) (entryFrame m args maxL)) : vx_Met l y ws rm Pc Qc XC mc ms free := by
  refine MetFree.of_bodyS (code := cc) (maxLocals := maxL) (ret := ret) hy ?_ ?_
  · intro args s m h hn
    obtain ⟨m9, meth, c, hn9, h1, h2, h3, h4, -, h5, h6, -⟩ := Cond.codeWith_spec (atoms_spec (ws := ws) h _ (by rw [hw]; exact List.mem_cons_self))
    cases hn.symm.trans hn9
    exact ⟨meth, c, h1, h2, h3, h4, h5, h6⟩
  · intro p e s m args below meth c s₁ B hml hP _
    have hh0 : s₁.heap = s.heap := by rw [B.state]; rfl
    obtain ⟨t, a1, o, b1, b2, b3⟩ := body p e s m args below meth c s₁ B hml hP s₁ hh0 (Stand.of_body B)
    exact ⟨t, o, a1, b1, b2, b3⟩
/-! ===== END ===== -/
end
section
/-! ===== a body's judgement over ONE heap of cells, by their places: pm_Ev; a method's contract: pm_En ===== -/
/-- a method: name, bytes, locals, answer's type, table of handlers, frames and words that it needs below -/
abbrev pm_M : Type := MethodName × ByteArray × Nat × Option FieldType × List (Nat × Nat × Nat × Nat) × Nat × Nat
abbrev pm_H : Type := List va_E
/-- an answer, or the class of what is thrown -/
abbrev pm_O : Type := Option Value ⊕ String
/-- where things lie: the first new address, the classes, the array classes by their kinds, old cells by numbers (0: the script), the script -/
abbrev pm_G : Type := Nat × va_G × (Nat → ClassId) × (Nat → Nat) × Nat × (Nat → Int32)
def pm_A (G : pm_G) : Nat → Prop := fun q => G.1 ≤ q
def pm_rv (G : pm_G) : Value → Value
  | .ref k => .ref (G.1 + k)
  | .retAddr j => .ref (G.2.2.2.1 j)
  | v => v
def pm_re (G : pm_G) : va_E → va_E
  | .inr o => .inr (o.1, o.2.map (pm_rv G))
  | .inl (kd, n, .inr (.inr (.inr (.inr f)))) => .inl (G.2.2.1 kd, n, .inr (.inr (.inr (.inr fun j => (f j).map fun k => G.1 + k))))
  | .inl (kd, n, .inr (.inr (.inr (.inl f)))) => .inl (G.2.2.1 kd, n, .inr (.inr (.inr (.inl f))))
  | .inl (kd, n, .inr (.inr (.inl f))) => .inl (G.2.2.1 kd, n, .inr (.inr (.inl f)))
  | .inl (kd, n, .inr (.inl f)) => .inl (G.2.2.1 kd, n, .inr (.inl f))
  | .inl (kd, n, .inl f) => .inl (G.2.2.1 kd, n, .inl f)
def pm_ws (G : pm_G) (h : pm_H) : va_W := h.mapIdx fun k c => (G.1 + k, pm_re G c)
theorem pm_at {G : pm_G} {h : pm_H} {k : Nat} {c : va_E} (hk : h[k]? = some c) : (pm_ws G h)[k]? = some (G.1 + k, pm_re G c) := by
  simp [pm_ws, List.getElem?_mapIdx, hk]
theorem pm_set {G : pm_G} {h : pm_H} {k : Nat} {c : va_E} : (pm_ws G h).set k (G.1 + k, pm_re G c) = pm_ws G (h.set k c) := by
  apply List.ext_getElem?
  intro i
  simp only [pm_ws, List.getElem?_set, List.getElem?_mapIdx, List.length_mapIdx]
  by_cases hi : k = i
  · subst hi
    by_cases hl : k < h.length <;> simp [hl]
  · simp [hi]
theorem pm_push {G : pm_G} {h : pm_H} {c : va_E} : pm_ws G (h ++ [c]) = pm_ws G h ++ [(G.1 + h.length, pm_re G c)] := by
  simp [pm_ws, List.mapIdx_append]
theorem pm_D (G : pm_G) (h : pm_H) : va_D (pm_A G) (pm_ws G h) := by
  refine ⟨fun i j p q hi hj e => ?_, fun k q hk => ?_⟩
  · simp only [pm_ws, List.getElem?_mapIdx, Option.map_eq_some_iff] at hi hj
    obtain ⟨a, -, rfl⟩ := hi
    obtain ⟨b, -, rfl⟩ := hj
    have e : G.1 + i = G.1 + j := e
    omega
  · simp only [pm_ws, List.getElem?_mapIdx, Option.map_eq_some_iff] at hk
    obtain ⟨a, -, rfl⟩ := hk
    exact Nat.le_add_right _ _
theorem pm_cat (G : pm_G) (v : Value) : (pm_rv G v).category = v.category := by cases v <;> rfl
def pm_lv (G : pm_G) (lv : List (Nat × Value)) : List (Nat × Value) := lv.map fun q => (q.1, pm_rv G q.2)
def pm_lk (lv : List (Nat × Value)) (i : Nat) : Option Value := (lv.find? fun q => q.1 == i).map fun q => q.2
theorem pm_lk_at {G : pm_G} {lv : List (Nat × Value)} {i n : Nat} {v : Value} {ls : Array Slot} (h : lv_has ls n (pm_lv G lv)) (hk : pm_lk lv i = some v) : ls[i]? = some (.val (pm_rv G v)) := by
  simp only [pm_lk, Option.map_eq_some_iff] at hk
  obtain ⟨q, hq, rfl⟩ := hk
  have h1 := List.mem_of_find?_eq_some hq
  have h2 := List.find?_some hq
  simp only [beq_iff_eq] at h2
  have h3 := h.2.2 (q.1, pm_rv G q.2) (List.mem_map.mpr ⟨q, h1, rfl⟩)
  rw [← h2]
  exact h3
/-- locals behind a store of one word, and of two -/
def pm_s1 (lv : List (Nat × Value)) (i : Nat) (v : Value) : List (Nat × Value) := (i, v) :: lv.filter (fun q => !(q.1 == i) && !(q.1 + 1 == i && q.2.category == 2))
def pm_s2 (lv : List (Nat × Value)) (i : Nat) (v : Value) : List (Nat × Value) := (i, v) :: lv.filter (fun q => !(q.1 == i) && (!(q.1 == i + 1) && !(q.1 + 1 == i && q.2.category == 2)))
theorem pm_s1_eq (G : pm_G) (lv : List (Nat × Value)) (i : Nat) (v : Value) : (i, pm_rv G v) :: (pm_lv G lv).filter (fun q => !(q.1 == i) && !(q.1 + 1 == i && q.2.category == 2)) = pm_lv G (pm_s1 lv i v) := by
  simp only [pm_lv, pm_s1, List.map_cons, List.filter_map]
  congr 2
  apply List.filter_congr
  intro q _
  simp [Function.comp, pm_cat]
theorem pm_s2_eq (G : pm_G) (lv : List (Nat × Value)) (i : Nat) (v : Value) : (i, pm_rv G v) :: (pm_lv G lv).filter (fun q => !(q.1 == i) && (!(q.1 == i + 1) && !(q.1 + 1 == i && q.2.category == 2))) = pm_lv G (pm_s2 lv i v) := by
  simp only [pm_lv, pm_s2, List.map_cons, List.filter_map]
  congr 2
  apply List.filter_congr
  intro q _
  simp [Function.comp, pm_cat]
theorem pm_args (G : pm_G) (av : List Value) (i : Nat) : lv_args i (av.map (pm_rv G)) = pm_lv G (lv_args i av) := by
  induction av generalizing i with
  | nil => rfl
  | cons v t ih =>
    simp only [List.map_cons, lv_args, pm_lv, pm_cat]
    rw [ih]
    rfl
theorem pm_sl (G : pm_G) (av : List Value) : (lg_sl (av.map (pm_rv G))).length = (lg_sl av).length := by
  induction av with
  | nil => rfl
  | cons v t ih =>
    simp only [lg_sl, List.map_cons, List.flatMap_cons, List.length_append, pm_cat] at ih ⊢
    rw [ih]
    split <;> rfl
def pm_tbl : List Cond := lw_tbl.filter goodWord
theorem pm_in {w : Cond} (h : w ∈ lw_tbl) (hg : goodWord w = true) : w ∈ pm_tbl := List.mem_filter.mpr ⟨h, hg⟩
theorem pm_ta {w : Cond} (h : w ∈ tables_1) : w ∈ lw_tbl := List.mem_append_right _ h
theorem pm_se {w : Cond} (h : w ∈ k2_sels lw_privs) : w ∈ lw_tbl := List.mem_append_left _ h
end
section
def T_Nd : u_T := fun k => match k with
  | 0 => ("GraphRunner$Node", "arguments", "[I", true)
  | 1 => ("GraphRunner$Node", "argumentCount", "I", false)
  | 2 => ("GraphRunner$Node", "op", "I", false)
  | 3 => ("GraphRunner$Node", "out", "I", false)
  | 4 => ("GraphRunner$Node", "p", "I", false)
  | 5 => ("GraphRunner$Node", "q", "I", false)
  | 6 => ("GraphRunner$Node", "ordered", "Z", false)
  | 7 => ("GraphRunner$Node", "folded", "Z", false)
  | _ => ("GraphRunner$Node", "known", "Z", false)
def t_Nd : Nat → FieldType := fun k => match k with
  | 0 => (.array .int)
  | 1 => .int
  | 2 => .int
  | 3 => .int
  | 4 => .int
  | 5 => .int
  | 6 => .boolean
  | 7 => .boolean
  | _ => .boolean
theorem t_Nd_ok : ∀ k, k < 9 → parseFieldDescriptor (T_Nd k).2.2.1 = some (t_Nd k) := by decide +kernel
theorem n_Nd : ∀ a, a < 9 → ∀ b, b < 9 → a ≠ b → (T_Nd a).2.1 ≠ (T_Nd b).2.1 := by decide +kernel
theorem u_Nd : ∀ w ∈ u_ws "GraphRunner$Node" T_Nd 9, w ∈ pm_tbl := by
  intro w hw
  have e : u_ws "GraphRunner$Node" T_Nd 9 = ([107, 109, 111, 113, 115, 117, 119, 121, 123] : List Nat).filterMap (fun i => tables_1[i]?) := by decide +kernel
  have g : (u_ws "GraphRunner$Node" T_Nd 9).all goodWord = true := by decide +kernel
  refine pm_in (pm_ta ?_) (List.all_eq_true.mp g w hw)
  rw [e] at hw
  obtain ⟨i, -, hi⟩ := List.mem_filterMap.mp hw
  exact List.mem_of_getElem? hi
def T_Sl : u_T := fun k => match k with
  | 0 => ("GraphRunner$Slot", "table", "LGraphRunner$Table;", true)
  | 1 => ("GraphRunner$Slot", "kind", "I", false)
  | _ => ("GraphRunner$Slot", "maker", "I", false)
def t_Sl : Nat → FieldType := fun k => match k with
  | 0 => (.object "GraphRunner$Table")
  | 1 => .int
  | _ => .int
theorem t_Sl_ok : ∀ k, k < 3 → parseFieldDescriptor (T_Sl k).2.2.1 = some (t_Sl k) := by decide +kernel
theorem n_Sl : ∀ a, a < 3 → ∀ b, b < 3 → a ≠ b → (T_Sl a).2.1 ≠ (T_Sl b).2.1 := by decide +kernel
theorem u_Sl : ∀ w ∈ u_ws "GraphRunner$Slot" T_Sl 3, w ∈ pm_tbl := by
  intro w hw
  have e : u_ws "GraphRunner$Slot" T_Sl 3 = ([73, 75, 77] : List Nat).filterMap (fun i => tables_1[i]?) := by decide +kernel
  have g : (u_ws "GraphRunner$Slot" T_Sl 3).all goodWord = true := by decide +kernel
  refine pm_in (pm_ta ?_) (List.all_eq_true.mp g w hw)
  rw [e] at hw
  obtain ⟨i, -, hi⟩ := List.mem_filterMap.mp hw
  exact List.mem_of_getElem? hi
def T_Tb : u_T := fun k => match k with
  | 0 => ("GraphRunner$Table", "cells", "[D", true)
  | 1 => ("GraphRunner$Table", "type", "I", false)
  | 2 => ("GraphRunner$Table", "rows", "I", false)
  | _ => ("GraphRunner$Table", "columns", "I", false)
def t_Tb : Nat → FieldType := fun k => match k with
  | 0 => (.array .double)
  | 1 => .int
  | 2 => .int
  | _ => .int
theorem t_Tb_ok : ∀ k, k < 4 → parseFieldDescriptor (T_Tb k).2.2.1 = some (t_Tb k) := by decide +kernel
theorem n_Tb : ∀ a, a < 4 → ∀ b, b < 4 → a ≠ b → (T_Tb a).2.1 ≠ (T_Tb b).2.1 := by decide +kernel
theorem u_Tb : ∀ w ∈ u_ws "GraphRunner$Table" T_Tb 4, w ∈ pm_tbl := by
  intro w hw
  have e : u_ws "GraphRunner$Table" T_Tb 4 = ([49, 51, 53, 55] : List Nat).filterMap (fun i => tables_1[i]?) := by decide +kernel
  have g : (u_ws "GraphRunner$Table" T_Tb 4).all goodWord = true := by decide +kernel
  refine pm_in (pm_ta ?_) (List.all_eq_true.mp g w hw)
  rw [e] at hw
  obtain ⟨i, -, hi⟩ := List.mem_filterMap.mp hw
  exact List.mem_of_getElem? hi
def T_Gr : u_T := fun k => match k with
  | 0 => ("GraphRunner", "slots", "[LGraphRunner$Slot;", true)
  | 1 => ("GraphRunner", "nodes", "[LGraphRunner$Node;", true)
  | 2 => ("GraphRunner", "order", "[I", true)
  | 3 => ("GraphRunner", "opened", "[I", true)
  | 4 => ("GraphRunner", "noTable", "LGraphRunner$Table;", true)
  | 5 => ("GraphRunner", "nodeCount", "I", false)
  | 6 => ("GraphRunner", "prepared", "Z", false)
  | 7 => ("GraphRunner", "workedInAll", "I", false)
  | _ => ("GraphRunner", "thrownInAll", "I", false)
def t_Gr : Nat → FieldType := fun k => match k with
  | 0 => (.array (.object "GraphRunner$Slot"))
  | 1 => (.array (.object "GraphRunner$Node"))
  | 2 => (.array .int)
  | 3 => (.array .int)
  | 4 => (.object "GraphRunner$Table")
  | 5 => .int
  | 6 => .boolean
  | 7 => .int
  | _ => .int
theorem t_Gr_ok : ∀ k, k < 9 → parseFieldDescriptor (T_Gr k).2.2.1 = some (t_Gr k) := by decide +kernel
theorem n_Gr : ∀ a, a < 9 → ∀ b, b < 9 → a ≠ b → (T_Gr a).2.1 ≠ (T_Gr b).2.1 := by decide +kernel
theorem u_Gr : ∀ w ∈ u_ws "GraphRunner" T_Gr 9, w ∈ pm_tbl := by
  intro w hw
  have e : u_ws "GraphRunner" T_Gr 9 = ([135, 137, 139, 141, 143, 145, 147, 149, 151] : List Nat).filterMap (fun i => tables_1[i]?) := by decide +kernel
  have g : (u_ws "GraphRunner" T_Gr 9).all goodWord = true := by decide +kernel
  refine pm_in (pm_ta ?_) (List.all_eq_true.mp g w hw)
  rw [e] at hw
  obtain ⟨i, -, hi⟩ := List.mem_filterMap.mp hw
  exact List.mem_of_getElem? hi
def T_Mo : u_T := fun k => match k with
  | 0 => ("GraphRunnerModel", "kind", "[I", true)
  | 1 => ("GraphRunnerModel", "type", "[I", true)
  | 2 => ("GraphRunnerModel", "rows", "[I", true)
  | 3 => ("GraphRunnerModel", "columns", "[I", true)
  | 4 => ("GraphRunnerModel", "maker", "[I", true)
  | 5 => ("GraphRunnerModel", "value", "[D", true)
  | 6 => ("GraphRunnerModel", "op", "[I", true)
  | 7 => ("GraphRunnerModel", "out", "[I", true)
  | 8 => ("GraphRunnerModel", "p", "[I", true)
  | 9 => ("GraphRunnerModel", "q", "[I", true)
  | 10 => ("GraphRunnerModel", "state", "[I", true)
  | 11 => ("GraphRunnerModel", "order", "[I", true)
  | 12 => ("GraphRunnerModel", "argument", "[I", true)
  | 13 => ("GraphRunnerModel", "fresh", "[D", true)
  | 14 => ("GraphRunnerModel", "nodes", "I", false)
  | 15 => ("GraphRunnerModel", "folded", "I", false)
  | 16 => ("GraphRunnerModel", "worked", "I", false)
  | 17 => ("GraphRunnerModel", "threw", "I", false)
  | 18 => ("GraphRunnerModel", "now", "I", false)
  | 19 => ("GraphRunnerModel", "thrown", "I", false)
  | _ => ("GraphRunnerModel", "ready", "Z", false)
def t_Mo : Nat → FieldType := fun k => match k with
  | 0 => (.array .int)
  | 1 => (.array .int)
  | 2 => (.array .int)
  | 3 => (.array .int)
  | 4 => (.array .int)
  | 5 => (.array .double)
  | 6 => (.array .int)
  | 7 => (.array .int)
  | 8 => (.array .int)
  | 9 => (.array .int)
  | 10 => (.array .int)
  | 11 => (.array .int)
  | 12 => (.array .int)
  | 13 => (.array .double)
  | 14 => .int
  | 15 => .int
  | 16 => .int
  | 17 => .int
  | 18 => .int
  | 19 => .int
  | _ => .boolean
theorem t_Mo_ok : ∀ k, k < 21 → parseFieldDescriptor (T_Mo k).2.2.1 = some (t_Mo k) := by decide +kernel
theorem n_Mo : ∀ a, a < 21 → ∀ b, b < 21 → a ≠ b → (T_Mo a).2.1 ≠ (T_Mo b).2.1 := by decide +kernel
theorem u_Mo : ∀ w ∈ u_ws "GraphRunnerModel" T_Mo 21, w ∈ pm_tbl := by
  intro w hw
  have e : u_ws "GraphRunnerModel" T_Mo 21 = ([637, 639, 641, 643, 645, 647, 649, 651, 653, 655, 657, 659, 661, 663, 665, 667, 669, 671, 673, 675, 677] : List Nat).filterMap (fun i => tables_1[i]?) := by decide +kernel
  have g : (u_ws "GraphRunnerModel" T_Mo 21).all goodWord = true := by decide +kernel
  refine pm_in (pm_ta ?_) (List.all_eq_true.mp g w hw)
  rw [e] at hw
  obtain ⟨i, -, hi⟩ := List.mem_filterMap.mp hw
  exact List.mem_of_getElem? hi
abbrev pm_cl : List vw_C := [("GraphRunner$Node", T_Nd, 9), ("GraphRunner$Slot", T_Sl, 3), ("GraphRunner$Table", T_Tb, 4), ("GraphRunner", T_Gr, 9), ("GraphRunnerModel", T_Mo, 21)]
def pm_tys (G : pm_G) : List (ClassId × FieldType) := [(G.2.2.1 0, .int), (G.2.2.1 1, .double), (G.2.2.1 2, .long), (G.2.2.1 3, (.object "GraphRunner$Slot")), (G.2.2.1 4, (.object "GraphRunner$Node"))]
def pm_isN : Cond → Bool
  | .fieldLinkNest .. => true
  | .methodLinkNest .. => true
  | .castable .. => true
  | _ => false
def pm_nst : List Cond := lw_tbl.filter pm_isN
theorem pm_ni {w : Cond} (h : w ∈ lw_tbl) (hg : pm_isN w = true) : w ∈ pm_nst := List.mem_filter.mpr ⟨h, hg⟩
def pm_ac (j : Nat) : Int32 := ([2, 2, 2, 2, 2, 1, 1, 1, 2, 3, 1, 1, 1, 2, 1, 2, 2, 3, 1] : List Int32).getD j 0
def pm_ncs : List (String × String) := [("java/lang/ArithmeticException", "java/lang/IllegalArgumentException"), ("java/lang/ArithmeticException", "java/lang/IllegalStateException"), ("java/lang/IllegalStateException", "java/lang/IllegalArgumentException"), ("java/lang/IndexOutOfBoundsException", "java/lang/ArithmeticException"), ("java/lang/IndexOutOfBoundsException", "java/lang/IllegalArgumentException"), ("java/lang/IndexOutOfBoundsException", "java/lang/IllegalStateException"), ("java/lang/UnsupportedOperationException", "java/util/NoSuchElementException"), ("java/util/NoSuchElementException", "java/lang/IllegalArgumentException")]
abbrev M_Gr_init : pm_M := (⟨"GraphRunner", "<init>", "()V"⟩, prog_1_method_1_code, 2, none, [], 3, 54)
abbrev M_Tb_init : pm_M := (⟨"GraphRunner$Table", "<init>", "()V"⟩, prog_5_method_1_code, 1, none, [], 1, 14)
abbrev M_Sl_init : pm_M := (⟨"GraphRunner$Slot", "<init>", "()V"⟩, prog_4_method_1_code, 1, none, [], 2, 34)
abbrev M_Nd_init : pm_M := (⟨"GraphRunner$Node", "<init>", "()V"⟩, prog_2_method_1_code, 1, none, [], 1, 14)
abbrev M_Gr_count : pm_M := (⟨"GraphRunner", "count", "(I)I"⟩, prog_1_method_10_code, 2, (some .int), [], 1, 22)
abbrev M_Gr_foldedCount : pm_M := (⟨"GraphRunner", "foldedCount", "()I"⟩, prog_1_method_25_code, 3, (some .int), [], 0, 0)
abbrev M_Gr_knownCount : pm_M := (⟨"GraphRunner", "knownCount", "()I"⟩, prog_1_method_26_code, 3, (some .int), [], 0, 0)
abbrev M_Gr_inOrder : pm_M := (⟨"GraphRunner", "inOrder", "(I)I"⟩, prog_1_method_11_code, 2, (some .int), [], 0, 0)
abbrev M_Lw_table : pm_M := (⟨"GraphRunnerLaw", "table", "(LGraphRunner;IIIIZ)I"⟩, method_3_code, 7, (some .int), [(0, 11, 14, 13)], 7, 125)
abbrev M_Gr_table : pm_M := (⟨"GraphRunner", "table", "(IIIIZ)V"⟩, prog_1_method_2_code, 6, none, [], 6, 100)
abbrev M_Gr_isFree : pm_M := (⟨"GraphRunner", "isFree", "(I)Z"⟩, prog_1_method_18_code, 2, (some .boolean), [], 1, 20)
abbrev M_Gr_isSlot : pm_M := (⟨"GraphRunner", "isSlot", "(I)Z"⟩, prog_1_method_12_code, 1, (some .boolean), [], 0, 0)
abbrev M_Gr_isType : pm_M := (⟨"GraphRunner", "isType", "(I)Z"⟩, prog_1_method_13_code, 1, (some .boolean), [], 0, 0)
abbrev M_Gr_isSide : pm_M := (⟨"GraphRunner", "isSide", "(I)Z"⟩, prog_1_method_14_code, 1, (some .boolean), [], 0, 0)
abbrev M_Tb_shape : pm_M := (⟨"GraphRunner$Table", "shape", "(III)Z"⟩, prog_5_method_2_code, 4, (some .boolean), [], 1, 20)
abbrev M_Tb_clear : pm_M := (⟨"GraphRunner$Table", "clear", "()V"⟩, prog_5_method_3_code, 2, none, [], 0, 0)
abbrev M_Gr_unprepare : pm_M := (⟨"GraphRunner", "unprepare", "()V"⟩, prog_1_method_23_code, 2, none, [], 1, 21)
abbrev M_Gr_forgetKnown : pm_M := (⟨"GraphRunner", "forgetKnown", "()V"⟩, prog_1_method_24_code, 2, none, [], 0, 0)
abbrev M_Lw_set : pm_M := (⟨"GraphRunnerLaw", "set", "(LGraphRunner;IIID)I"⟩, method_4_code, 7, (some .int), [(0, 9, 12, 13)], 7, 125)
abbrev M_Gr_set : pm_M := (⟨"GraphRunner", "set", "(IIID)V"⟩, prog_1_method_3_code, 6, none, [], 6, 100)
abbrev M_Gr_isFed : pm_M := (⟨"GraphRunner", "isFed", "(I)Z"⟩, prog_1_method_19_code, 2, (some .boolean), [], 0, 0)
abbrev M_Tb_has : pm_M := (⟨"GraphRunner$Table", "has", "(II)Z"⟩, prog_5_method_4_code, 3, (some .boolean), [], 0, 0)
abbrev M_Gr_isSettable : pm_M := (⟨"GraphRunner", "isSettable", "(ID)Z"⟩, prog_1_method_16_code, 4, (some .boolean), [], 0, 0)
abbrev M_Tb_put : pm_M := (⟨"GraphRunner$Table", "put", "(IID)V"⟩, prog_5_method_7_code, 5, none, [], 0, 0)
abbrev M_Lw_node : pm_M := (⟨"GraphRunnerLaw", "node", "(LGraphRunner;IIIIIII[J)I"⟩, method_5_code, 10, (some .int), [(0, 20, 23, 13), (0, 20, 27, 23)], 7, 127)
abbrev M_Gr_node : pm_M := (⟨"GraphRunner", "node", "(IIIIIII)I"⟩, prog_1_method_4_code, 8, (some .int), [], 6, 100)
abbrev M_Gr_areArguments : pm_M := (⟨"GraphRunner", "areArguments", "(IIII)Z"⟩, prog_1_method_17_code, 4, (some .boolean), [], 1, 20)
abbrev M_Gr_isNumber : pm_M := (⟨"GraphRunner", "isNumber", "(I)Z"⟩, prog_1_method_15_code, 1, (some .boolean), [], 0, 0)
abbrev M_Nd_become : pm_M := (⟨"GraphRunner$Node", "become", "(IIII)V"⟩, prog_2_method_2_code, 5, none, [], 0, 0)
abbrev M_Nd_takeArguments : pm_M := (⟨"GraphRunner$Node", "takeArguments", "(III)V"⟩, prog_2_method_3_code, 4, none, [], 0, 0)
abbrev M_Lw_undo : pm_M := (⟨"GraphRunnerLaw", "undo", "(LGraphRunner;)I"⟩, method_6_code, 2, (some .int), [(0, 4, 7, 28)], 7, 120)
abbrev M_Gr_undo : pm_M := (⟨"GraphRunner", "undo", "()V"⟩, prog_1_method_5_code, 1, none, [], 6, 100)
abbrev M_Lw_prepare : pm_M := (⟨"GraphRunnerLaw", "prepare", "(LGraphRunner;[J)I"⟩, method_7_code, 3, (some .int), [(0, 8, 11, 28), (0, 8, 14, 34)], 7, 162)
abbrev M_Gr_prepare : pm_M := (⟨"GraphRunner", "prepare", "()I"⟩, prog_1_method_6_code, 1, (some .int), [], 6, 142)
abbrev M_Gr_orderNodes : pm_M := (⟨"GraphRunner", "orderNodes", "()Z"⟩, prog_1_method_27_code, 3, (some .boolean), [], 4, 85)
abbrev M_Gr_leastToOrder : pm_M := (⟨"GraphRunner", "leastToOrder", "()I"⟩, prog_1_method_28_code, 2, (some .int), [], 3, 64)
abbrev M_Gr_argumentsAreOrdered : pm_M := (⟨"GraphRunner", "argumentsAreOrdered", "(LGraphRunner$Node;)Z"⟩, prog_1_method_29_code, 3, (some .boolean), [], 2, 42)
abbrev M_Gr_isOrdered : pm_M := (⟨"GraphRunner", "isOrdered", "(I)Z"⟩, prog_1_method_20_code, 2, (some .boolean), [], 1, 21)
abbrev M_Gr_findShapes : pm_M := (⟨"GraphRunner", "findShapes", "()Z"⟩, prog_1_method_30_code, 4, (some .boolean), [], 4, 91)
abbrev M_Gr_argument : pm_M := (⟨"GraphRunner", "argument", "(LGraphRunner$Node;I)LGraphRunner$Table;"⟩, prog_1_method_33_code, 3, (some (.object "GraphRunner$Table")), [], 0, 0)
abbrev M_Sh_find : pm_M := (⟨"GraphRunner$Shapes", "find", "(LGraphRunner$Node;LGraphRunner$Table;LGraphRunner$Table;LGraphRunner$Table;LGraphRunner$Table;)Z"⟩, prog_3_method_2_code, 5, (some .boolean), [], 3, 67)
abbrev M_Sh_fit : pm_M := (⟨"GraphRunner$Shapes", "fit", "(LGraphRunner$Table;LGraphRunner$Table;ILGraphRunner$Table;)Z"⟩, prog_3_method_5_code, 4, (some .boolean), [], 2, 43)
abbrev M_Sh_sidesFit : pm_M := (⟨"GraphRunner$Shapes", "sidesFit", "(II)Z"⟩, prog_3_method_6_code, 2, (some .boolean), [], 0, 0)
abbrev M_Ma_max : pm_M := (⟨"java/lang/Math", "max", "(II)I"⟩, prog_14_method_65_code, 2, (some .int), [], 0, 0)
abbrev M_Sh_areFloats : pm_M := (⟨"GraphRunner$Shapes", "areFloats", "(LGraphRunner$Table;LGraphRunner$Table;)Z"⟩, prog_3_method_3_code, 2, (some .boolean), [], 0, 0)
abbrev M_Sh_findGathered : pm_M := (⟨"GraphRunner$Shapes", "findGathered", "(ILGraphRunner$Table;LGraphRunner$Table;)Z"⟩, prog_3_method_7_code, 3, (some .boolean), [], 2, 43)
abbrev M_Sh_findJoined : pm_M := (⟨"GraphRunner$Shapes", "findJoined", "(ILGraphRunner$Table;LGraphRunner$Table;LGraphRunner$Table;)Z"⟩, prog_3_method_8_code, 4, (some .boolean), [], 2, 43)
abbrev M_Sh_findSlid : pm_M := (⟨"GraphRunner$Shapes", "findSlid", "(LGraphRunner$Node;LGraphRunner$Table;LGraphRunner$Table;LGraphRunner$Table;)Z"⟩, prog_3_method_9_code, 5, (some .boolean), [], 2, 43)
abbrev M_Sh_areAlike : pm_M := (⟨"GraphRunner$Shapes", "areAlike", "(LGraphRunner$Table;LGraphRunner$Table;)Z"⟩, prog_3_method_4_code, 2, (some .boolean), [], 0, 0)
abbrev M_Gr_foldNodes : pm_M := (⟨"GraphRunner", "foldNodes", "()V"⟩, prog_1_method_31_code, 3, none, [], 5, 120)
abbrev M_Gr_argumentsAreFolded : pm_M := (⟨"GraphRunner", "argumentsAreFolded", "(LGraphRunner$Node;)Z"⟩, prog_1_method_32_code, 3, (some .boolean), [], 1, 21)
abbrev M_Gr_isConstantOrFolded : pm_M := (⟨"GraphRunner", "isConstantOrFolded", "(I)Z"⟩, prog_1_method_21_code, 2, (some .boolean), [], 0, 0)
abbrev M_Gr_workOut : pm_M := (⟨"GraphRunner", "workOut", "(LGraphRunner$Node;)I"⟩, prog_1_method_34_code, 4, (some .int), [], 4, 97)
abbrev M_Wk_workOut : pm_M := (⟨"GraphRunner$Work", "workOut", "(LGraphRunner$Node;LGraphRunner$Table;LGraphRunner$Table;LGraphRunner$Table;LGraphRunner$Table;)I"⟩, prog_6_method_2_code, 5, (some .int), [], 3, 73)
abbrev M_Wk_divide : pm_M := (⟨"GraphRunner$Work", "divide", "(LGraphRunner$Table;LGraphRunner$Table;LGraphRunner$Table;)I"⟩, prog_6_method_6_code, 9, (some .int), [], 1, 24)
abbrev M_Tb_atAgain : pm_M := (⟨"GraphRunner$Table", "atAgain", "(II)D"⟩, prog_5_method_6_code, 3, (some .double), [], 0, 0)
abbrev M_Wk_divideInts : pm_M := (⟨"GraphRunner$Work", "divideInts", "(II)I"⟩, prog_6_method_7_code, 2, (some .int), [], 0, 0)
abbrev M_Wk_pick : pm_M := (⟨"GraphRunner$Work", "pick", "(LGraphRunner$Table;LGraphRunner$Table;LGraphRunner$Table;)I"⟩, prog_6_method_18_code, 6, (some .int), [], 2, 48)
abbrev M_Tb_at : pm_M := (⟨"GraphRunner$Table", "at", "(II)D"⟩, prog_5_method_5_code, 3, (some .double), [], 0, 0)
abbrev M_Wk_copyRow : pm_M := (⟨"GraphRunner$Work", "copyRow", "(LGraphRunner$Table;ILGraphRunner$Table;I)V"⟩, prog_6_method_19_code, 5, none, [], 1, 24)
abbrev M_Wk_multiplyTables : pm_M := (⟨"GraphRunner$Work", "multiplyTables", "(LGraphRunner$Table;LGraphRunner$Table;LGraphRunner$Table;)V"⟩, prog_6_method_8_code, 8, none, [], 1, 24)
abbrev M_Wk_turn : pm_M := (⟨"GraphRunner$Work", "turn", "(LGraphRunner$Table;LGraphRunner$Table;)V"⟩, prog_6_method_11_code, 4, none, [], 1, 24)
abbrev M_Wk_chooseEach : pm_M := (⟨"GraphRunner$Work", "chooseEach", "(LGraphRunner$Table;LGraphRunner$Table;LGraphRunner$Table;LGraphRunner$Table;)V"⟩, prog_6_method_12_code, 6, none, [], 1, 24)
abbrev M_Wk_sum : pm_M := (⟨"GraphRunner$Work", "sum", "(ILGraphRunner$Table;LGraphRunner$Table;)V"⟩, prog_6_method_13_code, 11, none, [], 1, 24)
abbrev M_Wk_pairInts : pm_M := (⟨"GraphRunner$Work", "pairInts", "(III)I"⟩, prog_6_method_4_code, 3, (some .int), [], 0, 0)
abbrev M_Wk_greatest : pm_M := (⟨"GraphRunner$Work", "greatest", "(ILGraphRunner$Table;LGraphRunner$Table;)V"⟩, prog_6_method_14_code, 8, none, [], 1, 24)
abbrev M_Wk_firstGreatest : pm_M := (⟨"GraphRunner$Work", "firstGreatest", "(LGraphRunner$Table;LGraphRunner$Table;)V"⟩, prog_6_method_15_code, 5, none, [], 1, 24)
abbrev M_Wk_copy : pm_M := (⟨"GraphRunner$Work", "copy", "(LGraphRunner$Table;LGraphRunner$Table;II)V"⟩, prog_6_method_16_code, 6, none, [], 1, 24)
abbrev M_Wk_cut : pm_M := (⟨"GraphRunner$Work", "cut", "(ILGraphRunner$Table;LGraphRunner$Table;)V"⟩, prog_6_method_17_code, 4, none, [], 2, 48)
abbrev M_Wk_slide : pm_M := (⟨"GraphRunner$Work", "slide", "(LGraphRunner$Node;LGraphRunner$Table;LGraphRunner$Table;LGraphRunner$Table;)V"⟩, prog_6_method_20_code, 10, none, [], 1, 24)
abbrev M_Tb_isZero : pm_M := (⟨"GraphRunner$Table", "isZero", "()Z"⟩, prog_5_method_8_code, 1, (some .boolean), [], 1, 22)
abbrev M_Wk_workEach : pm_M := (⟨"GraphRunner$Work", "workEach", "(LGraphRunner$Node;LGraphRunner$Table;LGraphRunner$Table;)V"⟩, prog_6_method_9_code, 5, none, [], 1, 24)
abbrev M_Wk_ofOne : pm_M := (⟨"GraphRunner$Work", "ofOne", "(LGraphRunner$Node;D)D"⟩, prog_6_method_10_code, 3, (some .double), [], 0, 0)
abbrev M_Wk_pair : pm_M := (⟨"GraphRunner$Work", "pair", "(ILGraphRunner$Table;LGraphRunner$Table;LGraphRunner$Table;)V"⟩, prog_6_method_3_code, 10, none, [], 1, 24)
abbrev M_Wk_pairFloats : pm_M := (⟨"GraphRunner$Work", "pairFloats", "(IDD)D"⟩, prog_6_method_5_code, 5, (some .double), [], 0, 0)
abbrev M_Tb_isTooLarge : pm_M := (⟨"GraphRunner$Table", "isTooLarge", "()Z"⟩, prog_5_method_9_code, 3, (some .boolean), [], 1, 22)
abbrev M_Lw_run : pm_M := (⟨"GraphRunnerLaw", "run", "(LGraphRunner;I[J)I"⟩, method_8_code, 4, (some .int), [(0, 9, 12, 13), (0, 9, 15, 23), (0, 9, 18, 40), (0, 9, 21, 42)], 8, 191)
abbrev M_Gr_run : pm_M := (⟨"GraphRunner", "run", "(I)I"⟩, prog_1_method_7_code, 4, (some .int), [], 7, 168)
abbrev M_Gr_runFor : pm_M := (⟨"GraphRunner", "runFor", "(I)I"⟩, prog_1_method_35_code, 7, (some .int), [], 6, 142)
abbrev M_Gr_isThere : pm_M := (⟨"GraphRunner", "isThere", "(I)Z"⟩, prog_1_method_22_code, 2, (some .boolean), [], 1, 21)
abbrev M_Nd_hasOutcome : pm_M := (⟨"GraphRunner$Node", "hasOutcome", "()Z"⟩, prog_2_method_4_code, 1, (some .boolean), [], 0, 0)
abbrev M_Gr_firstNeeded : pm_M := (⟨"GraphRunner", "firstNeeded", "(LGraphRunner$Node;)I"⟩, prog_1_method_37_code, 3, (some .int), [], 3, 65)
abbrev M_Gr_firstNeededByChoice : pm_M := (⟨"GraphRunner", "firstNeededByChoice", "(LGraphRunner$Node;)I"⟩, prog_1_method_38_code, 4, (some .int), [], 2, 42)
abbrev M_Gr_learn : pm_M := (⟨"GraphRunner", "learn", "(LGraphRunner$Node;)I"⟩, prog_1_method_36_code, 3, (some .int), [], 5, 120)
abbrev M_Lw_get : pm_M := (⟨"GraphRunnerLaw", "get", "(LGraphRunner;III[D)I"⟩, method_9_code, 6, (some .int), [(0, 11, 14, 13), (0, 11, 18, 28)], 7, 123)
abbrev M_Gr_get : pm_M := (⟨"GraphRunner", "get", "(III)D"⟩, prog_1_method_8_code, 4, (some .double), [], 6, 100)
abbrev M_Lw_slot : pm_M := (⟨"GraphRunnerLaw", "slot", "(LGraphRunner;II[J)I"⟩, method_10_code, 5, (some .int), [(0, 10, 13, 13), (0, 10, 17, 28)], 7, 123)
abbrev M_Gr_slot : pm_M := (⟨"GraphRunner", "slot", "(II)I"⟩, prog_1_method_9_code, 4, (some .int), [], 6, 100)
abbrev M_Mo_init : pm_M := (⟨"GraphRunnerModel", "<init>", "()V"⟩, prog_8_method_1_code, 1, none, [], 1, 14)
abbrev M_Mo_thrown : pm_M := (⟨"GraphRunnerModel", "thrown", "()I"⟩, prog_8_method_2_code, 1, (some .int), [], 0, 0)
abbrev M_Mo_table : pm_M := (⟨"GraphRunnerModel", "table", "(IIIIZ)V"⟩, prog_8_method_6_code, 7, none, [], 1, 23)
abbrev M_Mo_noSlot : pm_M := (⟨"GraphRunnerModel", "noSlot", "(I)Z"⟩, prog_8_method_3_code, 2, (some .boolean), [], 0, 0)
abbrev M_Mo_out : pm_M := (⟨"GraphRunnerModel", "out", "(III)Z"⟩, prog_8_method_4_code, 4, (some .boolean), [], 0, 0)
abbrev M_Mo_change : pm_M := (⟨"GraphRunnerModel", "change", "()V"⟩, prog_8_method_5_code, 2, none, [], 0, 0)
abbrev M_Mo_set : pm_M := (⟨"GraphRunnerModel", "set", "(IIID)V"⟩, prog_8_method_7_code, 8, none, [], 1, 21)
abbrev M_Mo_node : pm_M := (⟨"GraphRunnerModel", "node", "(IIIIIII)I"⟩, prog_8_method_9_code, 10, (some .int), [], 1, 23)
abbrev M_Mo_arity : pm_M := (⟨"GraphRunnerModel", "arity", "(I)I"⟩, prog_8_method_8_code, 2, (some .int), [], 0, 0)
abbrev M_Mo_undo : pm_M := (⟨"GraphRunnerModel", "undo", "()V"⟩, prog_8_method_10_code, 1, none, [], 1, 21)
abbrev M_Mo_prepare : pm_M := (⟨"GraphRunnerModel", "prepare", "()I"⟩, prog_8_method_31_code, 4, (some .int), [], 4, 107)
abbrev M_Mo_ordered : pm_M := (⟨"GraphRunnerModel", "ordered", "()Z"⟩, prog_8_method_12_code, 5, (some .boolean), [], 2, 46)
abbrev M_Mo_there : pm_M := (⟨"GraphRunnerModel", "there", "(IIZ)Z"⟩, prog_8_method_11_code, 6, (some .boolean), [], 1, 21)
abbrev M_Mo_shape : pm_M := (⟨"GraphRunnerModel", "shape", "(I)Z"⟩, prog_8_method_17_code, 12, (some .boolean), [], 2, 44)
abbrev M_Mo_fitting : pm_M := (⟨"GraphRunnerModel", "fitting", "(II)Z"⟩, prog_8_method_14_code, 3, (some .boolean), [], 1, 22)
abbrev M_Mo_near : pm_M := (⟨"GraphRunnerModel", "near", "(II)Z"⟩, prog_8_method_13_code, 3, (some .boolean), [], 0, 0)
abbrev M_Mo_most : pm_M := (⟨"GraphRunnerModel", "most", "(II)I"⟩, prog_8_method_16_code, 3, (some .int), [], 0, 0)
abbrev M_Mo_give : pm_M := (⟨"GraphRunnerModel", "give", "(IIII)Z"⟩, prog_8_method_15_code, 6, (some .boolean), [], 0, 0)
abbrev M_Mo_work : pm_M := (⟨"GraphRunnerModel", "work", "(I)I"⟩, prog_8_method_30_code, 7, (some .int), [], 3, 81)
abbrev M_Mo_element : pm_M := (⟨"GraphRunnerModel", "element", "(III)D"⟩, prog_8_method_29_code, 8, (some .double), [], 2, 54)
abbrev M_Mo_at : pm_M := (⟨"GraphRunnerModel", "at", "(III)D"⟩, prog_8_method_18_code, 4, (some .double), [], 0, 0)
abbrev M_Mo_plain : pm_M := (⟨"GraphRunnerModel", "plain", "(IDDZ)D"⟩, prog_8_method_19_code, 9, (some .double), [], 1, 21)
abbrev M_Mo_trouble : pm_M := (⟨"GraphRunnerModel", "trouble", "(I)V"⟩, prog_8_method_20_code, 2, none, [], 0, 0)
abbrev M_Mo_product : pm_M := (⟨"GraphRunnerModel", "product", "(IIII)D"⟩, prog_8_method_24_code, 8, (some .double), [], 0, 0)
abbrev M_Mo_cast : pm_M := (⟨"GraphRunnerModel", "cast", "(ID)D"⟩, prog_8_method_27_code, 4, (some .double), [], 0, 0)
abbrev M_Mo_total : pm_M := (⟨"GraphRunnerModel", "total", "(IIIZ)D"⟩, prog_8_method_21_code, 11, (some .double), [], 1, 23)
abbrev M_Mo_first : pm_M := (⟨"GraphRunnerModel", "first", "(IIIZ)I"⟩, prog_8_method_22_code, 8, (some .int), [], 1, 23)
abbrev M_Mo_joined : pm_M := (⟨"GraphRunnerModel", "joined", "(IIIII)D"⟩, prog_8_method_26_code, 6, (some .double), [], 0, 0)
abbrev M_Mo_picked : pm_M := (⟨"GraphRunnerModel", "picked", "(IIII)D"⟩, prog_8_method_25_code, 6, (some .double), [], 1, 21)
abbrev M_Mo_slid : pm_M := (⟨"GraphRunnerModel", "slid", "(IIIII)D"⟩, prog_8_method_23_code, 12, (some .double), [], 1, 23)
abbrev M_Mo_bounded : pm_M := (⟨"GraphRunnerModel", "bounded", "(ID)D"⟩, prog_8_method_28_code, 4, (some .double), [], 0, 0)
abbrev M_Mo_run : pm_M := (⟨"GraphRunnerModel", "run", "(I)I"⟩, prog_8_method_35_code, 3, (some .int), [], 5, 130)
abbrev M_Mo_need : pm_M := (⟨"GraphRunnerModel", "need", "(I)I"⟩, prog_8_method_34_code, 4, (some .int), [], 4, 107)
abbrev M_Mo_known : pm_M := (⟨"GraphRunnerModel", "known", "(I)Z"⟩, prog_8_method_32_code, 2, (some .boolean), [], 0, 0)
abbrev M_Mo_missing : pm_M := (⟨"GraphRunnerModel", "missing", "(I)I"⟩, prog_8_method_33_code, 4, (some .int), [], 1, 21)
abbrev M_Mo_get : pm_M := (⟨"GraphRunnerModel", "get", "(III)D"⟩, prog_8_method_36_code, 5, (some .double), [], 1, 21)
abbrev M_Mo_slot : pm_M := (⟨"GraphRunnerModel", "slot", "(II)I"⟩, prog_8_method_37_code, 3, (some .int), [], 1, 23)
abbrev M_Mo_count : pm_M := (⟨"GraphRunnerModel", "count", "(I)I"⟩, prog_8_method_38_code, 4, (some .int), [], 0, 0)
abbrev M_Lw_law : pm_M := (⟨"GraphRunnerLaw", "law", "([I)Z"⟩, code, 9, (some .boolean), [], 11, 432)
end
section
/-! ===== what stands at a method's entry; the judgement; the contract ===== -/
def pm_old (G : pm_G) (U : State) (H : Heap) : Prop :=
  va_X (G.2.2.2.1 0) G.2.2.2.2.1 G.2.2.2.2.2 U H ∧ va_Z "GraphRunner" "ARGUMENT_COUNTS" "[I" (.ref (G.2.2.2.1 1)) (pm_A G) U H ∧ va_T .int (G.2.2.2.1 1) 19 (fun j => .int (pm_ac j)) (pm_A G) U H ∧
  vx_Zq Bundle.tN "UNASSIGNED_STACK" Bundle.steD (pm_A G) U H ∧ vx_Zq Bundle.tN "SUPPRESSED_SENTINEL" Bundle.listD (pm_A G) U H
def pm_F (G : pm_G) (U : State) : Prop :=
  va_K G.2.1 pm_cl (pm_tys G) U ∧ (∀ w ∈ pm_nst, va_Nw w U) ∧ (∀ q ∈ pm_ncs, va_Nc q.1 q.2 U) ∧ G.1 ≤ U.heap.size ∧ G.2.2.2.1 0 < G.1 ∧ pm_old G U U.heap
theorem pm_nst_warm {w : Cond} (hw : w ∈ pm_nst) {s U : State} (hW : s.WarmedH U.vm) (h : va_Nw w s) : va_Nw w U := by
  have hg : pm_isN w = true := (List.mem_filter.mp hw).2
  cases w <;> simp only [pm_isN, Bool.false_eq_true] at hg
  case fieldLinkNest => exact va_Nw.warmF hW h
  case methodLinkNest => exact va_Nw.warmM hW h
  case castable => exact va_Nw.warmC hW h
theorem pm_nst_on {w : Cond} (hw : w ∈ pm_nst) : w.onTables = true := by
  have hg : pm_isN w = true := (List.mem_filter.mp hw).2
  cases w <;> simp only [pm_isN, Bool.false_eq_true] at hg <;> rfl
/-- it holds as well further on in the walk -/
theorem pm_F.moved {G : pm_G} {s U : State} {H : Heap} {locs : List Loc} (h : pm_F G s) (hW : s.WarmedH U.vm) (hS : va_S (pm_A G) s.heap H locs) (hU : U.heap = H) : pm_F G U := by
  obtain ⟨hK, hN, hC, hz, hb, hX, hZ, hT, hu, hn⟩ := h
  have hb0 : ¬ pm_A G (G.2.2.2.1 0) := Nat.not_le.mpr hb
  subst hU
  refine ⟨va_K.moved hW.alike hK, fun w hw => pm_nst_warm hw hW (hN w hw), fun q hq => va_Nc.moved hW.alike (hC q hq), Nat.le_trans hz hS.1, hb, va_X.moved hW.alike (hX.kept ?_), va_Z.moved hW.alike (hZ.kept hS.2.1), va_T.moved hW.alike (hT.kept hS.2.1), vx_Zq.moved hW.alike (hu.kept hS.2.1), vx_Zq.moved hW.alike (hn.kept hS.2.1)⟩
  exact hS.2.1 _ (Nat.lt_of_lt_of_le hb hz) hb0
theorem pm_F.calling {G : pm_G} {U : State} (h : pm_F G U) (g : JFrame) (mk : MethodId) (a : Array Value) : pm_F G (U.calling g mk a) := by
  obtain ⟨hK, hN, hC, hz, hb, hX, hZ, hT, hu, hn⟩ := h
  have r := Vm.Alike.refl U.vm
  exact ⟨va_K.moved (u := U) (U := U.calling g mk a) r hK, fun w hw => va_Nw.same (pm_nst_on hw) (u := U) (U := U.calling g mk a) rfl (hN w hw), fun q hq => va_Nc.moved (u := U) (U := U.calling g mk a) r (hC q hq), hz, hb, va_X.moved (u := U) (U := U.calling g mk a) r hX, va_Z.moved (u := U) (U := U.calling g mk a) r hZ, va_T.moved (u := U) (U := U.calling g mk a) r hT, vx_Zq.moved (u := U) (U := U.calling g mk a) r hu, vx_Zq.moved (u := U) (U := U.calling g mk a) r hn⟩
/-- the heap holds h -/
def pm_Hp (G : pm_G) (f : Bool) (h : pm_H) (H : Heap) : Prop := va_P G.2.1 pm_cl (pm_ws G h) H ∧ G.1 + h.length ≤ H.size ∧ (f = true → H.size = G.1 + h.length)
def pm_Cx (l : Launch) (G : pm_G) (M : pm_M) (p : Program) (s : State) (m : MethodId) (args : Array Value) (meth : Method) (c : Code) : Prop :=
  p.tables.exec = Jvm.exec ∧ c.code = M.2.1 ∧ c.maxLocals = M.2.2.1 ∧ s.vm.findClass M.1.cls = some m.cls ∧ (∀ w ∈ pm_tbl, w.before args s = true) ∧ meth.sig.returnType = M.2.2.2.1 ∧ meth.locks = false ∧ c.exceptionTable.toList = tableOf M.2.2.2.2.1 ∧ meth.name = M.1.name ∧ pm_F G s ∧ l.stackTraces = false
def pm_rm (M : pm_M) (mc ms : Nat) : Room := { frames := M.2.2.2.2.2.1, cells := mc, slots := ms, locals := M.2.2.2.2.2.2 }
/-- how it ends -/
def pm_oc (G : pm_G) (o : pm_O) (oc : Outcome) (s t : State) : Prop := match o with
  | .inl v => oc = .returned (v.map (pm_rv G))
  | .inr E => ∃ (q : Addr) (ce : Cell), oc = .threw q ∧ t.heap[q]? = some ce ∧ ce.vm = .none ∧ s.vm.findClass E = some ce.cls
def pm_Qc (G : pm_G) (fo : Bool) (r : pm_O × pm_H) : Array Value → State → Outcome → State → Prop := fun _ s oc t =>
  pm_oc G r.1 oc s t ∧ pm_Hp G fo r.2 t.heap ∧ va_F (pm_A G) s t
def pm_Q (G : pm_G) (fo : Bool) (below : List Frame) (a : Array Value) (s : State) (mc ms : Nat) (r : pm_O × pm_H) : State → Prop := fun t =>
  ∃ oc, t.status = .running ∧ Ended t below oc ∧ pm_Qc G fo r a s oc t ∧ s.WarmedH t.vm ∧ ∃ L, s.sameButNew ({ t with vm := s.vm } : State) L mc ms ∧ ∀ q ∈ L, pm_A G q.base
/-- from pc, with these locals and operands and this heap, the body comes to the end r; at most kc cells of ks slots are made -/
def pm_Ev (l : Launch) (G : pm_G) (fi fo : Bool) (kc ks : Nat) (M : pm_M) (pc : Nat) (lv : List (Nat × Value)) (st : List Value) (h : pm_H) (r : pm_O × pm_H) : Prop :=
  ∀ (p : Program) (e : Env) (s : State) (m : MethodId) (args : Array Value) (below : List Frame) (meth : Method) (c : Code) (H : Heap) (locs : List Loc) (cells slots mc ms : Nat) (ls : Array Slot),
    pm_Cx l G M p s m args meth c → pm_Hp G fi h H → va_S (pm_A G) s.heap H locs → lv_has ls M.2.2.1 (pm_lv G lv) → cells + kc ≤ mc → slots + ks ≤ ms →
    W p l e (pm_rm M mc ms) s m args below meth c H locs cells slots (pm_Q G fo below args s mc ms r) (F0 m pc ls (st.map (pm_rv G)))
def pm_Pc (G : pm_G) (fi : Bool) (av : List Value) (h : pm_H) : Array Value → State → Prop := fun a U => a = (av.map (pm_rv G)).toArray ∧ pm_F G U ∧ pm_Hp G fi h U.heap
def pm_wsM (M : pm_M) : List Cond := (if M.2.2.2.2.1 = [] then Cond.code M.1 M.2.1 M.2.2.1 M.2.2.2.1 else Cond.codeWith M.1 M.2.1 M.2.2.1 M.2.2.2.1 M.2.2.2.2.1) :: pm_tbl
def pm_End (G : pm_G) (fo : Bool) (mc ms : Nat) (r : pm_O × pm_H) : Array Value → State → Outcome → State → Prop := fun a s oc t =>
  pm_Qc G fo r a s oc t ∧ s.WarmedH t.vm ∧ ∃ L, s.sameButNew ({ t with vm := s.vm } : State) L mc ms ∧ ∀ q ∈ L, pm_A G q.base
/-- the contract of M: called with av in the heap h, it ends with r -/
def pm_En (l : Launch) (G : pm_G) (fi fo : Bool) (kc ks : Nat) (M : pm_M) (av : List Value) (h : pm_H) (r : pm_O × pm_H) : Prop :=
  ∀ mc ms, kc ≤ mc → ks ≤ ms → MetFree l M.1 (headSpec (pm_wsM M) (pm_rm M mc ms)) (pm_Pc G fi av h) (fun _ _ _ _ _ => True) (pm_End G fo mc ms r)
theorem pm_blind {G : pm_G} {fi : Bool} {av : List Value} {h : pm_H} : FrameBlind (pm_Pc G fi av h) := fun a U g mk q => ⟨q.1, q.2.1.calling g mk a, q.2.2⟩
/-- a contract out of its body -/
theorem pm_En.of {l : Launch} {G : pm_G} {fi fo : Bool} {kc ks : Nat} {M : pm_M} {av : List Value} {h : pm_H} {r : pm_O × pm_H} (hl : l.stackTraces = false) (hy : plainName M.1.cls = true) (hn : (lg_sl av).length ≤ M.2.2.1)
    (k : pm_Ev l G fi fo kc ks M 0 (lv_args 0 av) [] h r) : pm_En l G fi fo kc ks M av h r := by
  intro mc ms hc hs
  have key : ∀ (args : Array Value) (s : State) (m : MethodId), (headSpec (pm_wsM M) (pm_rm M mc ms)).pre.before args s = true → s.methodNamed? M.1 = some m → ∃ meth c, s.vm.method? m = some meth ∧ meth.code = some c ∧ c.code = M.2.1 ∧ c.maxLocals = M.2.2.1 ∧ meth.sig.returnType = M.2.2.2.1 ∧ meth.locks = false ∧ c.exceptionTable.toList = tableOf M.2.2.2.2.1 := by
    intro args s m hp hn
    have h0 := atoms_spec (ws := pm_wsM M) hp _ List.mem_cons_self
    by_cases he : M.2.2.2.2.1 = []
    · rw [if_pos he] at h0
      obtain ⟨meth, c, h1, h2, h3, h4, h5, h6, h7, -⟩ := Cond.code_spec hn h0
      refine ⟨meth, c, h1, h2, h3, h4, h5, h6, ?_⟩
      rw [he, Array.isEmpty_iff.mp h7]
      rfl
    · rw [if_neg he] at h0
      obtain ⟨m9, meth, c, hn9, h1, h2, h3, h4, h7, h5, h6, -⟩ := Cond.codeWith_spec h0
      cases hn.symm.trans hn9
      refine ⟨meth, c, h1, h2, h3, h4, h5, h6, ?_⟩
      rw [← h7, table_eq]
  refine MetFree.of_bodyS (code := M.2.1) (maxLocals := M.2.2.1) (ret := M.2.2.2.1) hy ?_ ?_
  · intro args s m hp hn
    obtain ⟨meth, c, h1, h2, h3, h4, h5, h6, -⟩ := key args s m hp hn
    exact ⟨meth, c, h1, h2, h3, h4, h5, h6⟩
  · intro p e s m args below meth c s₁ B hml hP _
    obtain ⟨rfl, hF, hH⟩ := hP
    have hh0 : s₁.heap = s.heap := by rw [B.state]; rfl
    obtain ⟨meth9, c9, h1, h2, -, -, -, -, h7⟩ := key _ s m B.pre B.named
    cases Option.some.inj (h1.symm.trans B.method)
    cases Option.some.inj (h2.symm.trans (Stand.of_body B).code)
    have hl0 := lv_entry (av.map (pm_rv G)) (n := M.2.2.1) (by rw [pm_sl]; exact hn)
    have hC : pm_Cx l G M p s m (av.map (pm_rv G)).toArray meth c := ⟨B.exec, B.bytes, hml, findClass_of_methodNamed B.named, fun w hw => atoms_spec (ws := pm_wsM M) B.pre _ (List.mem_cons_of_mem _ hw), B.returns, B.notSynchronized, h7, (name_of_methodNamed B.named B.method).1, hF, hl⟩
    rw [pm_args] at hl0
    have K := k p e s m _ below meth c s.heap [] 0 0 mc ms _ hC hH va_S.rf hl0 (by omega) (by omega)
    rw [List.map_nil, ← lg_entry_eq] at K
    obtain ⟨t, a1, o, b1, b2, b3, b4⟩ := K s₁ hh0 (Stand.of_body B)
    exact ⟨t, o, a1, b1, b2, b3, b4⟩
/-- as the kit's own contract, where it returns -/
theorem pm_En.met {l : Launch} {G : pm_G} {fi fo : Bool} {kc ks : Nat} {M : pm_M} {av : List Value} {h h1 : pm_H} {v : Option Value} (k : pm_En l G fi fo kc ks M av h (.inl v, h1)) {mc ms : Nat} (hc : kc ≤ mc) (hs : ks ≤ ms) :
    Met l M.1 (pm_wsM M) (pm_rm M mc ms) (pm_Pc G fi av h) (pm_Qc G fo (.inl v, h1)) mc ms (pm_A G) := by
  intro p e ha hcs hk s m args below hf happ hP hT
  obtain ⟨n, o, q1, q2, q3, q4, q5, L, q6, q7⟩ := k mc ms hc hs p e ha hcs hk s m args below hf happ hP hT
  exact ⟨n, o, q1, q2, q3, q4, L, ⟨⟨_, q4.1⟩, q5, q6⟩, q7⟩
/-- as the kit's own contract, where it throws -/
theorem pm_En.metX {l : Launch} {G : pm_G} {fi fo : Bool} {kc ks : Nat} {M : pm_M} {av : List Value} {h h1 : pm_H} {E : String} (k : pm_En l G fi fo kc ks M av h (.inr E, h1)) {mc ms : Nat} (hc : kc ≤ mc) (hs : ks ≤ ms) :
    vx_Met l M.1 (pm_wsM M) (pm_rm M mc ms) (pm_Pc G fi av h) (fun _ _ _ _ => False) (fun E' st t => E' = E ∧ pm_Hp G fo h1 t.heap ∧ va_F (pm_A G) st t) mc ms (pm_A G) := by
  intro p e ha hcs hk s m args below hf happ hP hT
  obtain ⟨n, o, q1, q2, q3, ⟨⟨q, ce, rfl, g2, g3, g4⟩, g5, g6⟩, q5, L, q6, q7⟩ := k mc ms hc hs p e ha hcs hk s m args below hf happ hP hT
  exact ⟨n, .threw q, q1, q2, q3, Or.inr ⟨q, rfl, E, ce, L, ⟨rfl, g5, g6⟩, g2, g3, g4, q5, q6, q7⟩⟩
end
section
section PMR
variable {l : Launch} {G : pm_G} {fi fo : Bool} {kc ks : Nat} {M : pm_M} {pc : Nat} {lv : List (Nat × Value)} {st : List Value} {h : pm_H} {r : pm_O × pm_H}
/-- the frame of every plain row -/
theorem pm_row {pc' : Nat} {st' : List Value} (hr : ∀ {p : Program} {e : Env} {R : Room} {s : State} {m : MethodId} {args : Array Value} {below : List Frame} {meth : Method} {c : Code} {H : Heap} {locs : List Loc} {cells slots : Nat} {Q : State → Prop} {ls : Array Slot}, p.tables.exec = Jvm.exec → c.code = M.2.1 → lv_has ls M.2.2.1 (pm_lv G lv) → s.vm.findClass M.1.cls = some m.cls → (∀ w ∈ pm_tbl, w.before args s = true) → W p l e R s m args below meth c H locs cells slots Q (F0 m pc' ls (st'.map (pm_rv G))) → W p l e R s m args below meth c H locs cells slots Q (F0 m pc ls (st.map (pm_rv G))))
    (k : pm_Ev l G fi fo kc ks M pc' lv st' h r) : pm_Ev l G fi fo kc ks M pc lv st h r :=
  fun p e s m args below meth c H locs cells slots mc ms ls C P S L k1 k2 => hr C.1 C.2.1 L C.2.2.2.1 C.2.2.2.2.1 (k p e s m args below meth c H locs cells slots mc ms ls C P S L k1 k2)
theorem pm_rowS {pc' : Nat} {st' : List Value} {lv' : List (Nat × Value)} (hr : ∀ {p : Program} {e : Env} {R : Room} {s : State} {m : MethodId} {args : Array Value} {below : List Frame} {meth : Method} {c : Code} {H : Heap} {locs : List Loc} {cells slots : Nat} {Q : State → Prop} {ls : Array Slot}, p.tables.exec = Jvm.exec → c.code = M.2.1 → lv_has ls M.2.2.1 (pm_lv G lv) → (∀ ls', lv_has ls' M.2.2.1 (pm_lv G lv') → W p l e R s m args below meth c H locs cells slots Q (F0 m pc' ls' (st'.map (pm_rv G)))) → W p l e R s m args below meth c H locs cells slots Q (F0 m pc ls (st.map (pm_rv G))))
    (k : pm_Ev l G fi fo kc ks M pc' lv' st' h r) : pm_Ev l G fi fo kc ks M pc lv st h r :=
  fun p e s m args below meth c H locs cells slots mc ms ls C P S L k1 k2 => hr C.1 C.2.1 L (fun ls' L' => k p e s m args below meth c H locs cells slots mc ms ls' C P S L' k1 k2)
theorem pm_br {pc1 pc2 : Nat} {st1 st2 : List Value} {A : Prop} (hr : ∀ {p : Program} {e : Env} {R : Room} {s : State} {m : MethodId} {args : Array Value} {below : List Frame} {meth : Method} {c : Code} {H : Heap} {locs : List Loc} {cells slots : Nat} {Q : State → Prop} {ls : Array Slot}, p.tables.exec = Jvm.exec → c.code = M.2.1 → (A → W p l e R s m args below meth c H locs cells slots Q (F0 m pc1 ls (st1.map (pm_rv G)))) → (¬ A → W p l e R s m args below meth c H locs cells slots Q (F0 m pc2 ls (st2.map (pm_rv G)))) → W p l e R s m args below meth c H locs cells slots Q (F0 m pc ls (st.map (pm_rv G))))
    (k1 : A → pm_Ev l G fi fo kc ks M pc1 lv st1 h r) (k2 : ¬ A → pm_Ev l G fi fo kc ks M pc2 lv st2 h r) : pm_Ev l G fi fo kc ks M pc lv st h r :=
  fun p e s m args below meth c H locs cells slots mc ms ls C P S L q1 q2 => hr C.1 C.2.1 (fun a => k1 a p e s m args below meth c H locs cells slots mc ms ls C P S L q1 q2) (fun a => k2 a p e s m args below meth c H locs cells slots mc ms ls C P S L q1 q2)
theorem pm_iconst {n : Int} {v : Int32} (d : decode M.2.1 pc = .ok (.iconst n, 1)) (hv : Int32.ofInt n = v) (k : pm_Ev l G fi fo kc ks M (pc + 1) lv (.int v :: st) h r) : pm_Ev l G fi fo kc ks M pc lv (st) h r := pm_row (fun hx hb hl ho ht k => lv_iconst (v := v) hx hb d hv k) k
theorem pm_bipush {n : Int} {v : Int32} (d : decode M.2.1 pc = .ok (.bipush n, 2)) (hv : (Int8.ofInt n).toInt32 = v) (k : pm_Ev l G fi fo kc ks M (pc + 2) lv (.int v :: st) h r) : pm_Ev l G fi fo kc ks M pc lv (st) h r := pm_row (fun hx hb hl ho ht k => lv_bipush (v := v) hx hb d hv k) k
theorem pm_sipush {n : Int} {v : Int32} (d : decode M.2.1 pc = .ok (.sipush n, 3)) (hv : (Int16.ofInt n).toInt32 = v) (k : pm_Ev l G fi fo kc ks M (pc + 3) lv (.int v :: st) h r) : pm_Ev l G fi fo kc ks M pc lv (st) h r := pm_row (fun hx hb hl ho ht k => lv_sipush (v := v) hx hb d hv k) k
theorem pm_dconst0  (d : decode M.2.1 pc = .ok (.dconst 0, 1))  (k : pm_Ev l G fi fo kc ks M (pc + 1) lv (.double FP.dconst0 :: st) h r) : pm_Ev l G fi fo kc ks M pc lv (st) h r := pm_row (fun hx hb hl ho ht k => lv_dconst0 hx hb d k) k
theorem pm_dconst1  (d : decode M.2.1 pc = .ok (.dconst 1, 1))  (k : pm_Ev l G fi fo kc ks M (pc + 1) lv (.double FP.dconst1 :: st) h r) : pm_Ev l G fi fo kc ks M pc lv (st) h r := pm_row (fun hx hb hl ho ht k => lv_dconst1 hx hb d k) k
theorem pm_ldc2d {index : Nat} {v : UInt64} (d : decode M.2.1 pc = .ok (.ldc2_w index, 3)) (hw : Cond.constantDouble M.1.cls index v ∈ pm_tbl) (k : pm_Ev l G fi fo kc ks M (pc + 3) lv (.double v :: st) h r) : pm_Ev l G fi fo kc ks M pc lv (st) h r := pm_row (fun hx hb hl ho ht k => lv_ldc2d hx hb ho (ht _ hw) d k) k
theorem pm_aconst_null  (d : decode M.2.1 pc = .ok (.aconst_null, 1))  (k : pm_Ev l G fi fo kc ks M (pc + 1) lv (.null :: st) h r) : pm_Ev l G fi fo kc ks M pc lv (st) h r := pm_row (fun hx hb hl ho ht k => lv_null hx hb d k) k
theorem pm_iload_n {n : Fin 4} {x : Int32} (d : decode M.2.1 pc = .ok (.iload_n n, 1)) (hk : pm_lk lv n = some (.int x)) (k : pm_Ev l G fi fo kc ks M (pc + 1) lv (.int x :: st) h r) : pm_Ev l G fi fo kc ks M pc lv (st) h r := pm_row (fun hx hb hl ho ht k => lv_iload_n hx hb d rfl (pm_lk_at hl hk) k) k
theorem pm_iload {i : Nat} {x : Int32} (d : decode M.2.1 pc = .ok (.iload i, 2)) (hk : pm_lk lv i = some (.int x)) (k : pm_Ev l G fi fo kc ks M (pc + 2) lv (.int x :: st) h r) : pm_Ev l G fi fo kc ks M pc lv (st) h r := pm_row (fun hx hb hl ho ht k => lv_iload hx hb d (pm_lk_at hl hk) k) k
theorem pm_lload_n {n : Fin 4} {x : Int64} (d : decode M.2.1 pc = .ok (.lload_n n, 1)) (hk : pm_lk lv n = some (.long x)) (k : pm_Ev l G fi fo kc ks M (pc + 1) lv (.long x :: st) h r) : pm_Ev l G fi fo kc ks M pc lv (st) h r := pm_row (fun hx hb hl ho ht k => lv_lload_n hx hb d rfl (pm_lk_at hl hk) k) k
theorem pm_lload {i : Nat} {x : Int64} (d : decode M.2.1 pc = .ok (.lload i, 2)) (hk : pm_lk lv i = some (.long x)) (k : pm_Ev l G fi fo kc ks M (pc + 2) lv (.long x :: st) h r) : pm_Ev l G fi fo kc ks M pc lv (st) h r := pm_row (fun hx hb hl ho ht k => lv_lload hx hb d (pm_lk_at hl hk) k) k
theorem pm_dload_n {n : Fin 4} {x : UInt64} (d : decode M.2.1 pc = .ok (.dload_n n, 1)) (hk : pm_lk lv n = some (.double x)) (k : pm_Ev l G fi fo kc ks M (pc + 1) lv (.double x :: st) h r) : pm_Ev l G fi fo kc ks M pc lv (st) h r := pm_row (fun hx hb hl ho ht k => lv_dload_n hx hb d rfl (pm_lk_at hl hk) k) k
theorem pm_dload {i : Nat} {x : UInt64} (d : decode M.2.1 pc = .ok (.dload i, 2)) (hk : pm_lk lv i = some (.double x)) (k : pm_Ev l G fi fo kc ks M (pc + 2) lv (.double x :: st) h r) : pm_Ev l G fi fo kc ks M pc lv (st) h r := pm_row (fun hx hb hl ho ht k => lv_dload hx hb d (pm_lk_at hl hk) k) k
theorem pm_aload_n {n : Fin 4} {x : Nat} (d : decode M.2.1 pc = .ok (.aload_n n, 1)) (hk : pm_lk lv n = some (.ref x)) (k : pm_Ev l G fi fo kc ks M (pc + 1) lv (.ref x :: st) h r) : pm_Ev l G fi fo kc ks M pc lv (st) h r := pm_row (fun hx hb hl ho ht k => lv_aload_n hx hb d rfl (pm_lk_at hl hk) k) k
theorem pm_aload {i : Nat} {x : Nat} (d : decode M.2.1 pc = .ok (.aload i, 2)) (hk : pm_lk lv i = some (.ref x)) (k : pm_Ev l G fi fo kc ks M (pc + 2) lv (.ref x :: st) h r) : pm_Ev l G fi fo kc ks M pc lv (st) h r := pm_row (fun hx hb hl ho ht k => lv_aload hx hb d (pm_lk_at hl hk) k) k
theorem pm_aload_nO {n : Fin 4} {x : Nat} (d : decode M.2.1 pc = .ok (.aload_n n, 1)) (hk : pm_lk lv n = some (.retAddr x)) (k : pm_Ev l G fi fo kc ks M (pc + 1) lv (.retAddr x :: st) h r) : pm_Ev l G fi fo kc ks M pc lv (st) h r := pm_row (fun hx hb hl ho ht k => lv_aload_n hx hb d rfl (pm_lk_at hl hk) k) k
theorem pm_aloadO {i : Nat} {x : Nat} (d : decode M.2.1 pc = .ok (.aload i, 2)) (hk : pm_lk lv i = some (.retAddr x)) (k : pm_Ev l G fi fo kc ks M (pc + 2) lv (.retAddr x :: st) h r) : pm_Ev l G fi fo kc ks M pc lv (st) h r := pm_row (fun hx hb hl ho ht k => lv_aload hx hb d (pm_lk_at hl hk) k) k
theorem pm_istore_n {n : Fin 4} {x : Int32} {lv' : List (Nat × Value)} (d : decode M.2.1 pc = .ok (.istore_n n, 1)) (hn : (n : Nat) < M.2.2.1) (hs : pm_s1 lv (n : Nat) (.int x) = lv') (k : pm_Ev l G fi fo kc ks M (pc + 1) lv' st h r) : pm_Ev l G fi fo kc ks M pc lv (.int x :: st) h r := by
  subst hs
  exact pm_rowS (fun hx hb hl k => lv_istore_n hx hb d rfl hl hn (pm_s1_eq G lv n (.int x)) k) k
theorem pm_istore {i : Nat} {x : Int32} {lv' : List (Nat × Value)} (d : decode M.2.1 pc = .ok (.istore i, 2)) (hn : i < M.2.2.1) (hs : pm_s1 lv i (.int x) = lv') (k : pm_Ev l G fi fo kc ks M (pc + 2) lv' st h r) : pm_Ev l G fi fo kc ks M pc lv (.int x :: st) h r := by
  subst hs
  exact pm_rowS (fun hx hb hl k => lv_istore hx hb d hl hn (pm_s1_eq G lv i (.int x)) k) k
theorem pm_lstore_n {n : Fin 4} {x : Int64} {lv' : List (Nat × Value)} (d : decode M.2.1 pc = .ok (.lstore_n n, 1)) (hn : (n : Nat) + 1 < M.2.2.1) (hs : pm_s2 lv (n : Nat) (.long x) = lv') (k : pm_Ev l G fi fo kc ks M (pc + 1) lv' st h r) : pm_Ev l G fi fo kc ks M pc lv (.long x :: st) h r := by
  subst hs
  exact pm_rowS (fun hx hb hl k => lv_lstore_n hx hb d rfl hl hn (pm_s2_eq G lv n (.long x)) k) k
theorem pm_lstore {i : Nat} {x : Int64} {lv' : List (Nat × Value)} (d : decode M.2.1 pc = .ok (.lstore i, 2)) (hn : i + 1 < M.2.2.1) (hs : pm_s2 lv i (.long x) = lv') (k : pm_Ev l G fi fo kc ks M (pc + 2) lv' st h r) : pm_Ev l G fi fo kc ks M pc lv (.long x :: st) h r := by
  subst hs
  exact pm_rowS (fun hx hb hl k => lv_lstore hx hb d hl hn (pm_s2_eq G lv i (.long x)) k) k
theorem pm_dstore_n {n : Fin 4} {x : UInt64} {lv' : List (Nat × Value)} (d : decode M.2.1 pc = .ok (.dstore_n n, 1)) (hn : (n : Nat) + 1 < M.2.2.1) (hs : pm_s2 lv (n : Nat) (.double x) = lv') (k : pm_Ev l G fi fo kc ks M (pc + 1) lv' st h r) : pm_Ev l G fi fo kc ks M pc lv (.double x :: st) h r := by
  subst hs
  exact pm_rowS (fun hx hb hl k => lv_dstore_n hx hb d rfl hl hn (pm_s2_eq G lv n (.double x)) k) k
theorem pm_dstore {i : Nat} {x : UInt64} {lv' : List (Nat × Value)} (d : decode M.2.1 pc = .ok (.dstore i, 2)) (hn : i + 1 < M.2.2.1) (hs : pm_s2 lv i (.double x) = lv') (k : pm_Ev l G fi fo kc ks M (pc + 2) lv' st h r) : pm_Ev l G fi fo kc ks M pc lv (.double x :: st) h r := by
  subst hs
  exact pm_rowS (fun hx hb hl k => lv_dstore hx hb d hl hn (pm_s2_eq G lv i (.double x)) k) k
theorem pm_astore_n {n : Fin 4} {x : Nat} {lv' : List (Nat × Value)} (d : decode M.2.1 pc = .ok (.astore_n n, 1)) (hn : (n : Nat) < M.2.2.1) (hs : pm_s1 lv (n : Nat) (.ref x) = lv') (k : pm_Ev l G fi fo kc ks M (pc + 1) lv' st h r) : pm_Ev l G fi fo kc ks M pc lv (.ref x :: st) h r := by
  subst hs
  exact pm_rowS (fun hx hb hl k => lv_astore_n hx hb d rfl hl hn (pm_s1_eq G lv n (.ref x)) k) k
theorem pm_astore {i : Nat} {x : Nat} {lv' : List (Nat × Value)} (d : decode M.2.1 pc = .ok (.astore i, 2)) (hn : i < M.2.2.1) (hs : pm_s1 lv i (.ref x) = lv') (k : pm_Ev l G fi fo kc ks M (pc + 2) lv' st h r) : pm_Ev l G fi fo kc ks M pc lv (.ref x :: st) h r := by
  subst hs
  exact pm_rowS (fun hx hb hl k => lv_astore hx hb d hl hn (pm_s1_eq G lv i (.ref x)) k) k
theorem pm_lkm {lv : List (Nat × Value)} {i : Nat} {v : Value} (h : pm_lk lv i = some v) : ∃ k : Nat, lv[k]? = some (i, v) := by
  simp only [pm_lk, Option.map_eq_some_iff] at h
  obtain ⟨q, hq, rfl⟩ := h
  obtain ⟨k, hk⟩ := List.getElem?_of_mem (List.mem_of_find?_eq_some hq)
  have h2 := List.find?_some hq
  simp only [beq_iff_eq] at h2
  exact ⟨k, by rw [hk, ← h2]⟩
theorem pm_iinc {i : Nat} {n : Int} {x v : Int32} {lv' : List (Nat × Value)} (d : decode M.2.1 pc = .ok (.iinc i n, 3)) (hk : pm_lk lv i = some (.int x)) (hv : x + Int32.ofInt n = v) (hn : i < M.2.2.1) (hs : pm_s1 lv i (.int v) = lv') (k : pm_Ev l G fi fo kc ks M (pc + 3) lv' st h r) : pm_Ev l G fi fo kc ks M pc lv st h r := by
  subst hs
  obtain ⟨q, hq⟩ := pm_lkm hk
  exact pm_rowS (fun hx hb hl k => lv_iinc (k := q) hx hb d hl (by simp [pm_lv, hq, pm_rv]) hv hn (pm_s1_eq G lv i (.int v)) k) k
theorem pm_iadd {x y : Int32} (d : decode M.2.1 pc = .ok (.iadd, 1))  (k : pm_Ev l G fi fo kc ks M (pc + 1) lv (.int (x + y) :: st) h r) : pm_Ev l G fi fo kc ks M pc lv (.int y :: .int x :: st) h r := pm_row (fun hx hb hl ho ht k => lv_iadd hx hb d k) k
theorem pm_isub {x y : Int32} (d : decode M.2.1 pc = .ok (.isub, 1))  (k : pm_Ev l G fi fo kc ks M (pc + 1) lv (.int (x - y) :: st) h r) : pm_Ev l G fi fo kc ks M pc lv (.int y :: .int x :: st) h r := pm_row (fun hx hb hl ho ht k => lv_isub hx hb d k) k
theorem pm_imul {x y : Int32} (d : decode M.2.1 pc = .ok (.imul, 1))  (k : pm_Ev l G fi fo kc ks M (pc + 1) lv (.int (x * y) :: st) h r) : pm_Ev l G fi fo kc ks M pc lv (.int y :: .int x :: st) h r := pm_row (fun hx hb hl ho ht k => lv_imul hx hb d k) k
theorem pm_iand {x y : Int32} (d : decode M.2.1 pc = .ok (.iand, 1))  (k : pm_Ev l G fi fo kc ks M (pc + 1) lv (.int (x &&& y) :: st) h r) : pm_Ev l G fi fo kc ks M pc lv (.int y :: .int x :: st) h r := pm_row (fun hx hb hl ho ht k => lv_iand hx hb d k) k
theorem pm_ior {x y : Int32} (d : decode M.2.1 pc = .ok (.ior, 1))  (k : pm_Ev l G fi fo kc ks M (pc + 1) lv (.int (x ||| y) :: st) h r) : pm_Ev l G fi fo kc ks M pc lv (.int y :: .int x :: st) h r := pm_row (fun hx hb hl ho ht k => lv_ior hx hb d k) k
theorem pm_idiv {x y : Int32} (d : decode M.2.1 pc = .ok (.idiv, 1)) (hne : ¬ y = 0) (k : pm_Ev l G fi fo kc ks M (pc + 1) lv (.int (x / y) :: st) h r) : pm_Ev l G fi fo kc ks M pc lv (.int y :: .int x :: st) h r := pm_row (fun hx hb hl ho ht k => lv_idiv hx hb d hne k) k
theorem pm_ishl {x y : Int32} (d : decode M.2.1 pc = .ok (.ishl, 1))  (k : pm_Ev l G fi fo kc ks M (pc + 1) lv (.int (x <<< (y &&& 31)) :: st) h r) : pm_Ev l G fi fo kc ks M pc lv (.int y :: .int x :: st) h r := pm_row (fun hx hb hl ho ht k => lv_ishl hx hb d k) k
theorem pm_ishr {x y : Int32} (d : decode M.2.1 pc = .ok (.ishr, 1))  (k : pm_Ev l G fi fo kc ks M (pc + 1) lv (.int (x >>> (y &&& 31)) :: st) h r) : pm_Ev l G fi fo kc ks M pc lv (.int y :: .int x :: st) h r := pm_row (fun hx hb hl ho ht k => lv_ishr hx hb d k) k
theorem pm_dadd {x y : UInt64} (d : decode M.2.1 pc = .ok (.dadd, 1)) (hne : vf_n64 (FP.dadd x y)) (k : pm_Ev l G fi fo kc ks M (pc + 1) lv (.double (FP.dadd x y) :: st) h r) : pm_Ev l G fi fo kc ks M pc lv (.double y :: .double x :: st) h r := pm_row (fun hx hb hl ho ht k => lv_dadd hx hb d hne k) k
theorem pm_dsub {x y : UInt64} (d : decode M.2.1 pc = .ok (.dsub, 1)) (hne : vf_n64 (FP.dsub x y)) (k : pm_Ev l G fi fo kc ks M (pc + 1) lv (.double (FP.dsub x y) :: st) h r) : pm_Ev l G fi fo kc ks M pc lv (.double y :: .double x :: st) h r := pm_row (fun hx hb hl ho ht k => lv_dsub hx hb d hne k) k
theorem pm_dmul {x y : UInt64} (d : decode M.2.1 pc = .ok (.dmul, 1)) (hne : vf_n64 (FP.dmul x y)) (k : pm_Ev l G fi fo kc ks M (pc + 1) lv (.double (FP.dmul x y) :: st) h r) : pm_Ev l G fi fo kc ks M pc lv (.double y :: .double x :: st) h r := pm_row (fun hx hb hl ho ht k => lv_dmul hx hb d hne k) k
theorem pm_ddiv {x y : UInt64} (d : decode M.2.1 pc = .ok (.ddiv, 1)) (hne : vf_n64 (FP.ddiv x y)) (k : pm_Ev l G fi fo kc ks M (pc + 1) lv (.double (FP.ddiv x y) :: st) h r) : pm_Ev l G fi fo kc ks M pc lv (.double y :: .double x :: st) h r := pm_row (fun hx hb hl ho ht k => lv_ddiv hx hb d hne k) k
theorem pm_i2d {x : Int32} (d : decode M.2.1 pc = .ok (.i2d, 1))  (k : pm_Ev l G fi fo kc ks M (pc + 1) lv (.double (FP.i2d x) :: st) h r) : pm_Ev l G fi fo kc ks M pc lv (.int x :: st) h r := pm_row (fun hx hb hl ho ht k => lv_i2d hx hb d k) k
theorem pm_d2i {x : UInt64} (d : decode M.2.1 pc = .ok (.d2i, 1))  (k : pm_Ev l G fi fo kc ks M (pc + 1) lv (.int (FP.d2i x) :: st) h r) : pm_Ev l G fi fo kc ks M pc lv (.double x :: st) h r := pm_row (fun hx hb hl ho ht k => lv_d2i hx hb d k) k
theorem pm_i2l {x : Int32} (d : decode M.2.1 pc = .ok (.i2l, 1))  (k : pm_Ev l G fi fo kc ks M (pc + 1) lv (.long x.toInt64 :: st) h r) : pm_Ev l G fi fo kc ks M pc lv (.int x :: st) h r := pm_row (fun hx hb hl ho ht k => lv_i2l hx hb d rfl k) k
theorem pm_lcmp {x y : Int64} (d : decode M.2.1 pc = .ok (.lcmp, 1))  (k : pm_Ev l G fi fo kc ks M (pc + 1) lv (.int (lg_cmp x y) :: st) h r) : pm_Ev l G fi fo kc ks M pc lv (.long y :: .long x :: st) h r := pm_row (fun hx hb hl ho ht k => W.lcmp hx hb d k) k
theorem pm_dcmp {x y : UInt64} {op : CmpOp} (d : decode M.2.1 pc = .ok (.dcmp op, 1))  (k : pm_Ev l G fi fo kc ks M (pc + 1) lv (.int (Op.cmpValue (FP.dcmp x y) op) :: st) h r) : pm_Ev l G fi fo kc ks M pc lv (.double y :: .double x :: st) h r := pm_row (fun hx hb hl ho ht k => lv_dcmp hx hb d k) k
theorem pm_dup {v : Value} (d : decode M.2.1 pc = .ok (.dup, 1)) (hv : v.category = 1) (k : pm_Ev l G fi fo kc ks M (pc + 1) lv (v :: v :: st) h r) : pm_Ev l G fi fo kc ks M pc lv (v :: st) h r := pm_row (fun hx hb hl ho ht k => lv_dup hx hb d ((pm_cat G v).trans hv) k) k
theorem pm_pop {v : Value} (d : decode M.2.1 pc = .ok (.pop, 1)) (hv : v.category = 1) (k : pm_Ev l G fi fo kc ks M (pc + 1) lv (st) h r) : pm_Ev l G fi fo kc ks M pc lv (v :: st) h r := pm_row (fun hx hb hl ho ht k => lv_pop hx hb d ((pm_cat G v).trans hv) k) k
theorem pm_dup_x1 {v w : Value} (d : decode M.2.1 pc = .ok (.dup_x1, 1)) (hv : v.category = 1) (hw : w.category = 1) (k : pm_Ev l G fi fo kc ks M (pc + 1) lv (v :: w :: v :: st) h r) : pm_Ev l G fi fo kc ks M pc lv (v :: w :: st) h r := pm_row (fun hx hb hl ho ht k => lv_dup_x1 hx hb d ((pm_cat G v).trans hv) ((pm_cat G w).trans hw) k) k
theorem pm_if_eq {x : Int32} {off : Int} {tgt : Nat} (d : decode M.2.1 pc = .ok (.ifCond .eq off, 3)) (ht : (pc : Int) + off = (tgt : Int)) (k1 : x = 0 → pm_Ev l G fi fo kc ks M tgt lv st h r) (k2 : ¬ (x = 0) → pm_Ev l G fi fo kc ks M (pc + 3) lv st h r) : pm_Ev l G fi fo kc ks M pc lv (.int x :: st) h r := pm_br (fun hx hb a b => lv_if_eq hx hb d ht a b) k1 k2
theorem pm_icmp_eq {x y : Int32} {off : Int} {tgt : Nat} (d : decode M.2.1 pc = .ok (.if_icmp .eq off, 3)) (ht : (pc : Int) + off = (tgt : Int)) (k1 : x = y → pm_Ev l G fi fo kc ks M tgt lv st h r) (k2 : ¬ (x = y) → pm_Ev l G fi fo kc ks M (pc + 3) lv st h r) : pm_Ev l G fi fo kc ks M pc lv (.int y :: .int x :: st) h r := pm_br (fun hx hb a b => lv_icmp_eq hx hb d ht a b) k1 k2
theorem pm_if_ne {x : Int32} {off : Int} {tgt : Nat} (d : decode M.2.1 pc = .ok (.ifCond .ne off, 3)) (ht : (pc : Int) + off = (tgt : Int)) (k1 : ¬ x = 0 → pm_Ev l G fi fo kc ks M tgt lv st h r) (k2 : x = 0 → pm_Ev l G fi fo kc ks M (pc + 3) lv st h r) : pm_Ev l G fi fo kc ks M pc lv (.int x :: st) h r := pm_br (A := ¬ x = 0) (fun hx hb a b => lv_if_ne hx hb d ht a (fun q => b (fun z => z q))) k1 (fun z => k2 (Decidable.byContradiction z))
theorem pm_icmp_ne {x y : Int32} {off : Int} {tgt : Nat} (d : decode M.2.1 pc = .ok (.if_icmp .ne off, 3)) (ht : (pc : Int) + off = (tgt : Int)) (k1 : ¬ x = y → pm_Ev l G fi fo kc ks M tgt lv st h r) (k2 : x = y → pm_Ev l G fi fo kc ks M (pc + 3) lv st h r) : pm_Ev l G fi fo kc ks M pc lv (.int y :: .int x :: st) h r := pm_br (A := ¬ x = y) (fun hx hb a b => lv_icmp_ne hx hb d ht a (fun q => b (fun z => z q))) k1 (fun z => k2 (Decidable.byContradiction z))
theorem pm_if_lt {x : Int32} {off : Int} {tgt : Nat} (d : decode M.2.1 pc = .ok (.ifCond .lt off, 3)) (ht : (pc : Int) + off = (tgt : Int)) (k1 : x < 0 → pm_Ev l G fi fo kc ks M tgt lv st h r) (k2 : ¬ (x < 0) → pm_Ev l G fi fo kc ks M (pc + 3) lv st h r) : pm_Ev l G fi fo kc ks M pc lv (.int x :: st) h r := pm_br (fun hx hb a b => lv_if_lt hx hb d ht a b) k1 k2
theorem pm_icmp_lt {x y : Int32} {off : Int} {tgt : Nat} (d : decode M.2.1 pc = .ok (.if_icmp .lt off, 3)) (ht : (pc : Int) + off = (tgt : Int)) (k1 : x < y → pm_Ev l G fi fo kc ks M tgt lv st h r) (k2 : ¬ (x < y) → pm_Ev l G fi fo kc ks M (pc + 3) lv st h r) : pm_Ev l G fi fo kc ks M pc lv (.int y :: .int x :: st) h r := pm_br (fun hx hb a b => lv_icmp_lt hx hb d ht a b) k1 k2
theorem pm_if_ge {x : Int32} {off : Int} {tgt : Nat} (d : decode M.2.1 pc = .ok (.ifCond .ge off, 3)) (ht : (pc : Int) + off = (tgt : Int)) (k1 : 0 ≤ x → pm_Ev l G fi fo kc ks M tgt lv st h r) (k2 : ¬ (0 ≤ x) → pm_Ev l G fi fo kc ks M (pc + 3) lv st h r) : pm_Ev l G fi fo kc ks M pc lv (.int x :: st) h r := pm_br (fun hx hb a b => lv_if_ge hx hb d ht a b) k1 k2
theorem pm_icmp_ge {x y : Int32} {off : Int} {tgt : Nat} (d : decode M.2.1 pc = .ok (.if_icmp .ge off, 3)) (ht : (pc : Int) + off = (tgt : Int)) (k1 : y ≤ x → pm_Ev l G fi fo kc ks M tgt lv st h r) (k2 : ¬ (y ≤ x) → pm_Ev l G fi fo kc ks M (pc + 3) lv st h r) : pm_Ev l G fi fo kc ks M pc lv (.int y :: .int x :: st) h r := pm_br (fun hx hb a b => lv_icmp_ge hx hb d ht a b) k1 k2
theorem pm_if_gt {x : Int32} {off : Int} {tgt : Nat} (d : decode M.2.1 pc = .ok (.ifCond .gt off, 3)) (ht : (pc : Int) + off = (tgt : Int)) (k1 : 0 < x → pm_Ev l G fi fo kc ks M tgt lv st h r) (k2 : ¬ (0 < x) → pm_Ev l G fi fo kc ks M (pc + 3) lv st h r) : pm_Ev l G fi fo kc ks M pc lv (.int x :: st) h r := pm_br (fun hx hb a b => lv_if_gt hx hb d ht a b) k1 k2
theorem pm_icmp_gt {x y : Int32} {off : Int} {tgt : Nat} (d : decode M.2.1 pc = .ok (.if_icmp .gt off, 3)) (ht : (pc : Int) + off = (tgt : Int)) (k1 : y < x → pm_Ev l G fi fo kc ks M tgt lv st h r) (k2 : ¬ (y < x) → pm_Ev l G fi fo kc ks M (pc + 3) lv st h r) : pm_Ev l G fi fo kc ks M pc lv (.int y :: .int x :: st) h r := pm_br (fun hx hb a b => lv_icmp_gt hx hb d ht a b) k1 k2
theorem pm_if_le {x : Int32} {off : Int} {tgt : Nat} (d : decode M.2.1 pc = .ok (.ifCond .le off, 3)) (ht : (pc : Int) + off = (tgt : Int)) (k1 : x ≤ 0 → pm_Ev l G fi fo kc ks M tgt lv st h r) (k2 : ¬ (x ≤ 0) → pm_Ev l G fi fo kc ks M (pc + 3) lv st h r) : pm_Ev l G fi fo kc ks M pc lv (.int x :: st) h r := pm_br (fun hx hb a b => lv_if_le hx hb d ht a b) k1 k2
theorem pm_icmp_le {x y : Int32} {off : Int} {tgt : Nat} (d : decode M.2.1 pc = .ok (.if_icmp .le off, 3)) (ht : (pc : Int) + off = (tgt : Int)) (k1 : x ≤ y → pm_Ev l G fi fo kc ks M tgt lv st h r) (k2 : ¬ (x ≤ y) → pm_Ev l G fi fo kc ks M (pc + 3) lv st h r) : pm_Ev l G fi fo kc ks M pc lv (.int y :: .int x :: st) h r := pm_br (fun hx hb a b => lv_icmp_le hx hb d ht a b) k1 k2
theorem pm_goto {off : Int} {tgt : Nat} (d : decode M.2.1 pc = .ok (.goto off, 3)) (ht : (pc : Int) + off = (tgt : Int)) (k : pm_Ev l G fi fo kc ks M tgt lv st h r) : pm_Ev l G fi fo kc ks M pc lv st h r := pm_row (fun hx hb _ _ _ k => lv_goto hx hb d ht k) k
theorem pm_tabOut {dflt lo hi : Int} {offs : Array Int} {len : Nat} {x : Int32} {tgt : Nat} (d : decode M.2.1 pc = .ok (.tableswitch dflt lo hi offs, len)) (hx : x.toInt < lo ∨ hi < x.toInt) (ht : (pc : Int) + dflt = (tgt : Int)) (k : pm_Ev l G fi fo kc ks M tgt lv st h r) : pm_Ev l G fi fo kc ks M pc lv (.int x :: st) h r := pm_row (fun h1 hb _ _ _ k => lv_tableOut h1 hb d hx ht k) k
theorem pm_tabIn {dflt lo hi : Int} {offs : Array Int} {len : Nat} {x : Int32} {off : Int} {tgt : Nat} (d : decode M.2.1 pc = .ok (.tableswitch dflt lo hi offs, len)) (h1 : ¬ x.toInt < lo) (h2 : ¬ hi < x.toInt) (ho : offs[(x.toInt - lo).toNat]? = some off) (ht : (pc : Int) + off = (tgt : Int)) (k : pm_Ev l G fi fo kc ks M tgt lv st h r) : pm_Ev l G fi fo kc ks M pc lv (.int x :: st) h r := pm_row (fun hx hb _ _ _ k => lv_tableIn hx hb d h1 h2 ho ht k) k
theorem pm_look {dflt : Int} {ps : Array (Int × Int)} {len : Nat} {x : Int32} {off : Int} {tgt : Nat} (d : decode M.2.1 pc = .ok (.lookupswitch dflt ps, len)) (hp : (ps.toList.zip (ps.toList.drop 1)).all (fun (a, next) => a.1 < next.1) = true) (ho : Op.lookupswitch.offset ps.toList dflt x.toInt = off) (ht : (pc : Int) + off = (tgt : Int)) (k : pm_Ev l G fi fo kc ks M tgt lv st h r) : pm_Ev l G fi fo kc ks M pc lv (.int x :: st) h r := pm_row (fun hx hb _ _ _ k => lv_lookup hx hb d hp ho ht k) k
end PMR
end
section
/-! ===== returns; fields; arrays ===== -/
section PMH
variable {l : Launch} {G : pm_G} {fi fo : Bool} {kc ks : Nat} {M : pm_M} {pc : Nat} {lv : List (Nat × Value)} {st : List Value} {h : pm_H} {r : pm_O × pm_H}
theorem pm_Hp.wk {fi fi' : Bool} {H : Heap} (hP : pm_Hp G fi h H) (hf : fi' = true → fi = true) : pm_Hp G fi' h H := ⟨hP.1, hP.2.1, fun q => hP.2.2 (hf q)⟩
/-- asked less of the heap's size, or promised more -/
theorem pm_Ev.wk {fi' fo' : Bool} (hi : fi = true → fi' = true) (ho : fo' = true → fo = true) (k : pm_Ev l G fi fo kc ks M pc lv st h r) : pm_Ev l G fi' fo' kc ks M pc lv st h r := by
  intro p e s m args below meth c H locs cells slots mc ms ls C P S L k1 k2 T hT X
  obtain ⟨t, a1, oc, b1, b2, ⟨b3, b4, b5⟩, b6⟩ := k p e s m args below meth c H locs cells slots mc ms ls C (P.wk hi) S L k1 k2 T hT X
  exact ⟨t, a1, oc, b1, b2, ⟨b3, b4.wk ho, b5⟩, b6⟩
theorem pm_Ev.more {kc' ks' : Nat} (hc : kc ≤ kc') (hs : ks ≤ ks') (k : pm_Ev l G fi fo kc ks M pc lv st h r) : pm_Ev l G fi fo kc' ks' M pc lv st h r :=
  fun p e s m args below meth c H locs cells slots mc ms ls C P S L k1 k2 => k p e s m args below meth c H locs cells slots mc ms ls C P S L (by omega) (by omega)
theorem pm_Ev.to {lv' : List (Nat × Value)} (hl : ∀ q ∈ lv', q ∈ lv) (k : pm_Ev l G fi fo kc ks M pc lv' st h r) : pm_Ev l G fi fo kc ks M pc lv st h r :=
  fun p e s m args below meth c H locs cells slots mc ms ls C P S L k1 k2 => k p e s m args below meth c H locs cells slots mc ms ls C P S ⟨L.1, L.2.1, fun q hq => by
    obtain ⟨q0, h0, rfl⟩ := List.mem_map.mp hq
    exact L.2.2 _ (List.mem_map.mpr ⟨q0, hl q0 h0, rfl⟩)⟩ k1 k2
theorem pm_end {p : Program} {e : Env} {R : Room} {s : State} {m : MethodId} {args : Array Value} {below : List Frame} {meth : Method} {c : Code} {H : Heap} {locs : List Loc} {cells slots mc ms : Nat} {g : JFrame} (hc : cells ≤ mc) (hs : slots ≤ ms) (k : W p l e R s m args below meth c H locs cells slots (MQ below (pm_Qc G fo r) args s cells slots (pm_A G)) g) :
    W p l e R s m args below meth c H locs cells slots (pm_Q G fo below args s mc ms r) g := by
  intro T hT X
  obtain ⟨t, a1, o, b1, b2, b3, L, ⟨-, b5, b6⟩, b7⟩ := k T hT X
  exact ⟨t, a1, o, b1, b2, b3, b5, L, b6.mono hc hs, b7⟩
theorem pm_qr {s t : State} {H : Heap} {locs : List Loc} {v : Option Value} {a : Array Value} (P : pm_Hp G fi h H) (S : va_S (pm_A G) s.heap H locs) (ht : t.heap = H) : pm_Qc G fi (.inl v, h) a s (.returned (v.map (pm_rv G))) t := ⟨rfl, by rw [ht]; exact P, S.F ht⟩
theorem pm_iret {v : Int32} {ty : FieldType} (d : decode M.2.1 pc = .ok (.ireturn, 1)) (hr : M.2.2.2.1 = some ty) (hn : narrow ty (.int v) = .int v) : pm_Ev l G fi fi 0 0 M pc lv [.int v] h (.inl (some (.int v)), h) :=
  fun p e s m args below meth c H locs cells slots mc ms ls C P S L k1 k2 => pm_end (by omega) (by omega) (W.zret (v := v) C.1 C.2.1 (C.2.2.2.2.2.1.trans hr) hn (fun t ht _ => pm_qr (v := some (.int v)) P S ht) S.2.2 d C.2.2.2.2.2.2.1)
theorem pm_dret {v : UInt64} (d : decode M.2.1 pc = .ok (.dreturn, 1)) (hr : M.2.2.2.1 = some .double) : pm_Ev l G fi fi 0 0 M pc lv [.double v] h (.inl (some (.double v)), h) :=
  fun p e s m args below meth c H locs cells slots mc ms ls C P S L k1 k2 => pm_end (by omega) (by omega) (W.dret (v := v) C.1 C.2.1 (C.2.2.2.2.2.1.trans hr) (fun t ht _ => pm_qr (v := some (.double v)) P S ht) S.2.2 d C.2.2.2.2.2.2.1)
theorem pm_vret (d : decode M.2.1 pc = .ok (.return_, 1)) (hr : M.2.2.2.1 = none) : pm_Ev l G fi fi 0 0 M pc lv [] h (.inl none, h) :=
  fun p e s m args below meth c H locs cells slots mc ms ls C P S L k1 k2 => pm_end (by omega) (by omega) (W.vret C.1 C.2.1 (C.2.2.2.2.2.1.trans hr) (fun t ht _ => pm_qr (v := none) P S ht) S.2.2 d C.2.2.2.2.2.2.1)
theorem pm_aret {a : Nat} {C0 : String} (d : decode M.2.1 pc = .ok (.areturn, 1)) (hr : M.2.2.2.1 = some (.object C0)) : pm_Ev l G fi fi 0 0 M pc lv [.ref a] h (.inl (some (.ref a)), h) :=
  fun p e s m args below meth c H locs cells slots mc ms ls C P S L k1 k2 => pm_end (by omega) (by omega) (W.aret (v := .ref (G.1 + a)) C.1 C.2.1 (C.2.2.2.2.2.1.trans hr) (Or.inl ⟨_, rfl⟩) (Or.inr ⟨_, rfl⟩) (fun t ht _ => pm_qr (v := some (.ref a)) P S ht) S.2.2 d C.2.2.2.2.2.2.1)
/-- one cell of the heap has changed -/
theorem pm_Hp.set {fi : Bool} {H H1 : Heap} {a : Nat} {c0 c : va_E} (hP : pm_Hp G fi h H) (ha : h[a]? = some c0) (he : va_at G.2.1 pm_cl (G.1 + a, pm_re G c) H1) (hz : H1.size = H.size) (oq : ∀ q : Nat, q ≠ G.1 + a → H1[q]? = H[q]?) : pm_Hp G fi (h.set a c) H1 := by
  refine ⟨?_, by rw [List.length_set, hz]; exact hP.2.1, fun q => by rw [List.length_set, hz]; exact hP.2.2 q⟩
  rw [← pm_set]
  exact hP.1.set (pm_D G h) (pm_at ha) he oq
/-- a field's entry in a class's pool -/
def pm_FL (own : String) (idx ci k : Nat) : Prop := ∃ (C : String) (T : u_T) (N : Nat), pm_cl[ci]? = some (C, T, N) ∧ k < N ∧ (∀ w ∈ u_ws C T N, w ∈ pm_tbl) ∧ (Cond.fieldLink own idx (T k).1 (T k).2.1 (T k).2.2.1 ∈ pm_tbl ∨ ∃ host, Cond.fieldLinkNest own idx (T k).1 (T k).2.1 (T k).2.2.1 host ∈ pm_nst)
theorem pm_getf {idx ci k a : Nat} {fs : List Value} {v : Value} (fl : pm_FL M.1.cls idx ci k) (d : decode M.2.1 pc = .ok (.getfield idx, 3)) (he : h[a]? = some (.inr (ci, fs))) (hv : fs[k]? = some v) (kk : pm_Ev l G fi fo kc ks M (pc + 3) lv (v :: st) h r) : pm_Ev l G fi fo kc ks M pc lv (.ref a :: st) h r := by
  intro p e s m args below meth c H locs cells slots mc ms ls C P S L k1 k2
  obtain ⟨Cn, T, N, hc, hk, hin, hlk⟩ := fl
  obtain ⟨hx, hb, -, ho, ht, -, -, -, -, hF, -⟩ := id C
  have hv' : (fs.map (pm_rv G))[k]? = some (pm_rv G v) := by simp [hv]
  have K := kk p e s m args below meth c H locs cells slots mc ms ls C P S L k1 k2
  rcases hlk with hlk | ⟨host, hlk⟩
  · exact va_get hx hb ht hin ho hF.1 P.1 a (pm_at he) hc k hk (ht _ hlk) (fun _ q => q) hv' d K
  · exact va_getN hx hb ht hin ho hF.1 P.1 a (pm_at he) hc k hk (va_Nw.use rfl (hF.2.1 _ hlk)) (fun _ q => q) hv' d K
def pm_FP (own : String) (idx ci k : Nat) (ty : FieldType) : Prop := ∃ (C : String) (T : u_T) (N : Nat) (t0 : Nat → FieldType), pm_cl[ci]? = some (C, T, N) ∧ k < N ∧ (∀ w ∈ u_ws C T N, w ∈ pm_tbl) ∧ (∀ k, k < N → parseFieldDescriptor (T k).2.2.1 = some (t0 k)) ∧ (∀ a, a < N → ∀ b, b < N → a ≠ b → (T a).2.1 ≠ (T b).2.1) ∧ parseFieldDescriptor (T k).2.2.1 = some ty ∧ (T k).2.2.2 = false ∧ (Cond.fieldLink own idx (T k).1 (T k).2.1 (T k).2.2.1 ∈ pm_tbl ∨ ∃ host, Cond.fieldLinkNest own idx (T k).1 (T k).2.1 (T k).2.2.1 host ∈ pm_nst)
theorem pm_putf {idx ci k a : Nat} {ty : FieldType} {fs : List Value} {v : Value} (fl : pm_FP M.1.cls idx ci k ty) (d : decode M.2.1 pc = .ok (.putfield idx, 3)) (he : h[a]? = some (.inr (ci, fs))) (hl : k < fs.length) (hn : narrow ty (pm_rv G v) = pm_rv G v) (hf : fits ty (pm_rv G v) = true) (kk : pm_Ev l G fi fo kc ks M (pc + 3) lv st (h.set a (.inr (ci, fs.set k v))) r) : pm_Ev l G fi fo kc ks M pc lv (v :: .ref a :: st) h r := by
  intro p e s m args below meth c H locs cells slots mc ms ls C P S L k1 k2
  obtain ⟨Cn, T, N, t0, hc, hk, hin, hty, hnm, hd, hfin, hlk⟩ := fl
  obtain ⟨hx, hb, -, ho, hts, -, -, -, -, hF, -⟩ := id C
  have hK := hF.1
  have hap := va_apart (own := M.1.cls) hts hin t0 hty hnm hK hc
  have he' := pm_at (G := G) he
  obtain ⟨r', h1, cell, q1, q2, q3, q4⟩ := P.1 a _ he'
  have hr : r' = (Cn, T, N) := Option.some.inj (h1.symm.trans hc)
  subst hr
  obtain ⟨hS, hfc, kC, hkC, hkind⟩ := hK.1 ci _ hc
  obtain ⟨cf, kf, f0, f, hi, hsl⟩ := hS k hk
  have hlay := hts _ (hin _ (u_in_lay hk))
  unfold u_lay at hlay
  rw [if_neg (by rw [hfin]; decide)] at hlay
  have hst := (u_facts hfc hkC (u_lays hts hin hk) hi).1
  have h6 := u_store hfc hkC hkind hlay hi hd hn hf
  have hl' : k < (fs.map (pm_rv G)).length := by rw [List.length_map]; exact hl
  have fin : ∀ H' : Heap, H'[G.1 + a]? = some (cell.setSlot f.slot (pm_rv G v)) → H'.size = H.size → (∀ q, q ≠ G.1 + a → H'[q]? = H[q]?) → W p l e (pm_rm M mc ms) s m args below meth c H' (locs ++ [⟨G.1 + a, f.slot⟩]) cells slots (pm_Q G fo below args s mc ms r) (F0 m (pc + 3) ls (st.map (pm_rv G))) := by
    intro H' e1 e2 e3
    rw [hsl] at e1
    refine kk p e s m args below meth c H' _ cells slots mc ms ls C (P.set he ?_ e2 e3) (S.put e2 e3 (Nat.le_add_right _ _)) L k1 k2
    refine ⟨_, hc, ?_⟩
    have e4 : pm_re G (.inr (ci, fs.set k v)) = .inr (ci, (fs.map (pm_rv G)).set k (pm_rv G v)) := by simp [pm_re]
    exact t_OB.to (V := updV (vp_V (fs.map (pm_rv G))) k (pm_rv G v)) ⟨_, e1, q2, q3, t_set q4 hap hk _⟩ (fun j _ => by rw [vp_updV_set hl' _ j]; show _ = vp_V ((fs.set k v).map (pm_rv G)) j; rw [List.map_set])
  rcases hlk with hlk | ⟨host, hlk⟩
  · exact W.putK hx hb (f := f) ⟨ho, hts _ hlk, ⟨_, _, _, hi⟩, hst⟩ (by rw [q2]; exact h6) q1 q3 (by rw [hsl]; exact k2_hasslot (q4 k hk)) rfl rfl d fin
  · exact va_WputK hx hb (f := f) ho (va_Nw.use rfl (hF.2.1 _ hlk)) hi hst (by rw [q2]; exact h6) q1 q3 (by rw [hsl]; exact k2_hasslot (q4 k hk)) rfl rfl d fin
def pm_FF (own : String) (idx ci k : Nat) (ty : FieldType) : Prop := ∃ (C : String) (T : u_T) (N : Nat) (t0 : Nat → FieldType), pm_cl[ci]? = some (C, T, N) ∧ k < N ∧ (∀ w ∈ u_ws C T N, w ∈ pm_tbl) ∧ (∀ k, k < N → parseFieldDescriptor (T k).2.2.1 = some (t0 k)) ∧ (∀ a, a < N → ∀ b, b < N → a ≠ b → (T a).2.1 ≠ (T b).2.1) ∧ parseFieldDescriptor (T k).2.2.1 = some ty ∧ (T k).2.2.2 = true ∧ (T k).1 = own ∧ Cond.fieldLink own idx (T k).1 (T k).2.1 (T k).2.2.1 ∈ pm_tbl
theorem pm_putF {idx ci k a : Nat} {ty : FieldType} {fs : List Value} {v : Value} (fl : pm_FF M.1.cls idx ci k ty) (hM : M.1.name = "<init>") (d : decode M.2.1 pc = .ok (.putfield idx, 3)) (he : h[a]? = some (.inr (ci, fs))) (hl : k < fs.length) (hn : narrow ty (pm_rv G v) = pm_rv G v) (hf : fits ty (pm_rv G v) = true) (kk : pm_Ev l G fi fo kc ks M (pc + 3) lv st (h.set a (.inr (ci, fs.set k v))) r) : pm_Ev l G fi fo kc ks M pc lv (v :: .ref a :: st) h r := by
  intro p e s m args below meth c H locs cells slots mc ms ls C P S L k1 k2
  obtain ⟨Cn, T, N, t0, hc, hk, hin, hty, hnm, hd, hfin, hdecl, hlk⟩ := fl
  obtain ⟨hx, hb, -, ho, hts, -, -, -, hnam, hF, -⟩ := id C
  have hK := hF.1
  have hap := va_apart (own := M.1.cls) hts hin t0 hty hnm hK hc
  have he' := pm_at (G := G) he
  obtain ⟨r', h1, cell, q1, q2, q3, q4⟩ := P.1 a _ he'
  have hr : r' = (Cn, T, N) := Option.some.inj (h1.symm.trans hc)
  subst hr
  obtain ⟨hS, hfc, kC, hkC, hkind⟩ := hK.1 ci _ hc
  obtain ⟨cf, kf, f0, f, hi, hsl⟩ := hS k hk
  have hlay := hts _ (hin _ (u_in_lay hk))
  unfold u_lay at hlay
  rw [if_pos hfin] at hlay
  have hst := (u_facts hfc hkC (u_lays hts hin hk) hi).1
  have hcf : m.cls = cf := by
    obtain ⟨_, _, c', _, _, _, -, -, hf', -, -, -, hown2, -⟩ := Cond.laysFinal_spec hlay
    have e1 : c' = cf := by have := hi.symm.trans hf'; simp at this; exact this.1.symm
    rw [hdecl] at hown2
    rw [← e1]; exact Option.some.inj (ho.symm.trans hown2)
  have h6 := u_fits hfc hkC hkind (Or.inr hlay) hi hd hn hf
  have hl' : k < (fs.map (pm_rv G)).length := by rw [List.length_map]; exact hl
  refine W.putFinK hx hb ho (hts _ hlk) hi hst hcf (hnam.trans hM) (by rw [q2]; exact h6) q1 q3 (by rw [hsl]; exact k2_hasslot (q4 k hk)) rfl rfl d fun H' e1 e2 e3 => ?_
  rw [hsl] at e1
  refine kk p e s m args below meth c H' _ cells slots mc ms ls C (P.set he ?_ e2 e3) (S.put e2 e3 (Nat.le_add_right _ _)) L k1 k2
  refine ⟨_, hc, ?_⟩
  exact t_OB.to (V := updV (vp_V (fs.map (pm_rv G))) k (pm_rv G v)) ⟨_, e1, q2, q3, t_set q4 hap hk _⟩ (fun j _ => by rw [vp_updV_set hl' _ j]; show _ = vp_V ((fs.set k v).map (pm_rv G)) j; rw [List.map_set])
end PMH
end
section
/-! ===== arrays; what is made; the script and the static table ===== -/
abbrev pm_I (n : Nat) (f : Nat → Int32) : va_E := .inl (0, n, .inl f)
abbrev pm_Dd (n : Nat) (f : Nat → UInt64) : va_E := .inl (1, n, .inr (.inr (.inr (.inl f))))
abbrev pm_Lg (n : Nat) (f : Nat → Int64) : va_E := .inl (2, n, .inr (.inl f))
abbrev pm_Rf (kd n : Nat) (f : Nat → Option Nat) : va_E := .inl (kd, n, .inr (.inr (.inr (.inr f))))
abbrev pm_Ob (ci : Nat) (fs : List Value) : va_E := .inr (ci, fs)
section PMA
variable {l : Launch} {G : pm_G} {fi fo : Bool} {kc ks : Nat} {M : pm_M} {pc : Nat} {lv : List (Nat × Value)} {st : List Value} {h : pm_H} {r : pm_O × pm_H}
theorem pm_iald {i : Int32} {j n a : Nat} {f : Nat → Int32} (d : decode M.2.1 pc = .ok (.iaload, 1)) (he : h[a]? = some (pm_I n f)) (hi : i = nI j) (hj : j < n) (hn : n < 2 ^ 31) (kk : pm_Ev l G fi fo kc ks M (pc + 1) lv (.int (f j) :: st) h r) : pm_Ev l G fi fo kc ks M pc lv (.int i :: .ref a :: st) h r := by
  subst hi
  intro p e s m args below meth c H locs cells slots mc ms ls C P S L k1 k2
  refine va_iald C.1 C.2.1 C.2.2.2.2.2.2.2.2.2.1.1 P.1 a 0 (pm_at he) rfl (vp_in_nI hj hn) d ?_
  rw [nI_clamp (by omega)]
  exact kk p e s m args below meth c H locs cells slots mc ms ls C P S L k1 k2
theorem pm_dald {i : Int32} {j n a : Nat} {f : Nat → UInt64} (d : decode M.2.1 pc = .ok (.daload, 1)) (he : h[a]? = some (pm_Dd n f)) (hi : i = nI j) (hj : j < n) (hn : n < 2 ^ 31) (kk : pm_Ev l G fi fo kc ks M (pc + 1) lv (.double (f j) :: st) h r) : pm_Ev l G fi fo kc ks M pc lv (.int i :: .ref a :: st) h r := by
  subst hi
  intro p e s m args below meth c H locs cells slots mc ms ls C P S L k1 k2
  refine va_dald C.1 C.2.1 C.2.2.2.2.2.2.2.2.2.1.1 P.1 a 1 (pm_at he) rfl (vp_in_nI hj hn) d ?_
  rw [nI_clamp (by omega)]
  exact kk p e s m args below meth c H locs cells slots mc ms ls C P S L k1 k2
theorem pm_lald {i : Int32} {j n a : Nat} {f : Nat → Int64} (d : decode M.2.1 pc = .ok (.laload, 1)) (he : h[a]? = some (pm_Lg n f)) (hi : i = nI j) (hj : j < n) (hn : n < 2 ^ 31) (kk : pm_Ev l G fi fo kc ks M (pc + 1) lv (.long (f j) :: st) h r) : pm_Ev l G fi fo kc ks M pc lv (.int i :: .ref a :: st) h r := by
  subst hi
  intro p e s m args below meth c H locs cells slots mc ms ls C P S L k1 k2
  refine va_lald C.1 C.2.1 C.2.2.2.2.2.2.2.2.2.1.1 P.1 a 2 (pm_at he) rfl (vp_in_nI hj hn) d ?_
  rw [nI_clamp (by omega)]
  exact kk p e s m args below meth c H locs cells slots mc ms ls C P S L k1 k2
theorem pm_aald {i : Int32} {j n a b kd : Nat} {Cn : String} {f : Nat → Option Nat} (d : decode M.2.1 pc = .ok (.aaload, 1)) (hkd : ∀ G : pm_G, (pm_tys G)[kd]? = some (G.2.2.1 kd, .object Cn)) (he : h[a]? = some (pm_Rf kd n f)) (hi : i = nI j) (hj : j < n) (hn : n < 2 ^ 31) (hf : f j = some b) (kk : pm_Ev l G fi fo kc ks M (pc + 1) lv (.ref b :: st) h r) : pm_Ev l G fi fo kc ks M pc lv (.int i :: .ref a :: st) h r := by
  subst hi
  intro p e s m args below meth c H locs cells slots mc ms ls C P S L k1 k2
  refine va_aldq C.1 C.2.1 C.2.2.2.2.2.2.2.2.2.1.1 P.1 a kd (pm_at he) (hkd G) (vp_in_nI hj hn) d ?_
  rw [nI_clamp (by omega), hf]
  exact kk p e s m args below meth c H locs cells slots mc ms ls C P S L k1 k2
theorem pm_iast {i x : Int32} {j n a : Nat} {f : Nat → Int32} (d : decode M.2.1 pc = .ok (.iastore, 1)) (he : h[a]? = some (pm_I n f)) (hi : i = nI j) (hj : j < n) (hn : n < 2 ^ 31) (kk : pm_Ev l G fi fo kc ks M (pc + 1) lv st (h.set a (pm_I n (va_up f j x))) r) : pm_Ev l G fi fo kc ks M pc lv (.int x :: .int i :: .ref a :: st) h r := by
  subst hi
  intro p e s m args below meth c H locs cells slots mc ms ls C P S L k1 k2
  refine W.iast C.1 C.2.1 (P.1 a _ (pm_at he)) ((C.2.2.2.2.2.2.2.2.2.1.1.2 0 _ rfl).1 n (fun j => .int (f j))) (fun q => by cases q) (by show ¬ (nI j < 0 ∨ (arrV _ _ _).slots.size ≤ _); rw [arrV_size]; exact vp_in_nI hj hn) rfl rfl d fun H1 e1 z oq => ?_
  refine kk p e s m args below meth c H1 _ cells slots mc ms ls C (P.set he ?_ z oq) (S.put z oq (Nat.le_add_right _ _)) L k1 k2
  show H1[G.1 + a]? = some (vp_cell _ _)
  rw [e1, nI_clamp (by omega)]
  show some ((vp_cell (G.2.2.1 0) (n, .inl f)).setSlot j (.int x)) = some (vp_cell (G.2.2.1 0) (n, .inl (va_up f j x)))
  rw [vp_cell_i, vp_cell_i, arrV_store]
  congr 2
  funext q
  by_cases hq : q = j
  · subst hq
    simp [updV, va_up]
  · simp [updV, va_up, hq]
theorem pm_dast {i : Int32} {x : UInt64} {j n a : Nat} {f : Nat → UInt64} (d : decode M.2.1 pc = .ok (.dastore, 1)) (he : h[a]? = some (pm_Dd n f)) (hi : i = nI j) (hj : j < n) (hn : n < 2 ^ 31) (kk : pm_Ev l G fi fo kc ks M (pc + 1) lv st (h.set a (pm_Dd n (va_up f j x))) r) : pm_Ev l G fi fo kc ks M pc lv (.double x :: .int i :: .ref a :: st) h r := by
  subst hi
  intro p e s m args below meth c H locs cells slots mc ms ls C P S L k1 k2
  refine W.dast C.1 C.2.1 (P.1 a _ (pm_at he)) ((C.2.2.2.2.2.2.2.2.2.1.1.2 1 _ rfl).1 n (fun j => .double (f j))) (fun q => by cases q) (by show ¬ (nI j < 0 ∨ (arrV _ _ _).slots.size ≤ _); rw [arrV_size]; exact vp_in_nI hj hn) rfl rfl d fun H1 e1 z oq => ?_
  refine kk p e s m args below meth c H1 _ cells slots mc ms ls C (P.set he ?_ z oq) (S.put z oq (Nat.le_add_right _ _)) L k1 k2
  show H1[G.1 + a]? = some (vp_cell _ _)
  rw [e1, nI_clamp (by omega)]
  show some ((vp_cell (G.2.2.1 1) (n, .inr (.inr (.inr (.inl f))))).setSlot j (.double x)) = some (vp_cell (G.2.2.1 1) (n, .inr (.inr (.inr (.inl (va_up f j x))))))
  rw [vp_cell_d, vp_cell_d, arrV_store]
  congr 2
  funext q
  by_cases hq : q = j
  · subst hq
    simp [updV, va_up]
  · simp [updV, va_up, hq]
theorem pm_last {i : Int32} {x : Int64} {j n a : Nat} {f : Nat → Int64} (d : decode M.2.1 pc = .ok (.lastore, 1)) (he : h[a]? = some (pm_Lg n f)) (hi : i = nI j) (hj : j < n) (hn : n < 2 ^ 31) (kk : pm_Ev l G fi fo kc ks M (pc + 1) lv st (h.set a (pm_Lg n (va_up f j x))) r) : pm_Ev l G fi fo kc ks M pc lv (.long x :: .int i :: .ref a :: st) h r := by
  subst hi
  intro p e s m args below meth c H locs cells slots mc ms ls C P S L k1 k2
  refine W.last C.1 C.2.1 (P.1 a _ (pm_at he)) ((C.2.2.2.2.2.2.2.2.2.1.1.2 2 _ rfl).1 n (fun j => .long (f j))) (fun q => by cases q) (by show ¬ (nI j < 0 ∨ (arrV _ _ _).slots.size ≤ _); rw [arrV_size]; exact vp_in_nI hj hn) rfl rfl d fun H1 e1 z oq => ?_
  refine kk p e s m args below meth c H1 _ cells slots mc ms ls C (P.set he ?_ z oq) (S.put z oq (Nat.le_add_right _ _)) L k1 k2
  show H1[G.1 + a]? = some (vp_cell _ _)
  rw [e1, nI_clamp (by omega)]
  show some ((vp_cell (G.2.2.1 2) (n, .inr (.inl f))).setSlot j (.long x)) = some (vp_cell (G.2.2.1 2) (n, .inr (.inl (va_up f j x))))
  rw [vp_cell_l, vp_cell_l, arrV_store]
  congr 2
  funext q
  by_cases hq : q = j
  · subst hq
    simp [updV, va_up]
  · simp [updV, va_up, hq]
theorem pm_aast {i : Int32} {j n a b kd ci N : Nat} {Cn : String} {T : u_T} {f : Nat → Option Nat} {fs : List Value} (d : decode M.2.1 pc = .ok (.aastore, 1)) (hkd : ∀ G : pm_G, (pm_tys G)[kd]? = some (G.2.2.1 kd, .object Cn)) (he : h[a]? = some (pm_Rf kd n f)) (hb0 : h[b]? = some (pm_Ob ci fs)) (hcl : pm_cl[ci]? = some (Cn, T, N)) (hi : i = nI j) (hj : j < n) (hn : n < 2 ^ 31) (kk : pm_Ev l G fi fo kc ks M (pc + 1) lv st (h.set a (pm_Rf kd n (va_up f j (some b)))) r) : pm_Ev l G fi fo kc ks M pc lv (.ref b :: .int i :: .ref a :: st) h r := by
  subst hi
  intro p e s m args below meth c H locs cells slots mc ms ls C P S L k1 k2
  have hK := C.2.2.2.2.2.2.2.2.2.1.1
  have hin := vp_in_nI hj hn
  obtain ⟨r', hr', cellV, g1, g2, g3, -⟩ := P.1 b _ (pm_at hb0)
  have hcls := (hK.1 ci _ hcl).2
  obtain ⟨kA, comp, q1, q2, q3, -⟩ := (hK.2 kd _ (hkd G)).2
  have hcomp : comp = G.2.1.1 ci := Option.some.inj (q3.symm.trans hcls.1)
  subst hcomp
  obtain ⟨kC, hkC, -⟩ := id hcls.2
  refine W.aast C.1 C.2.1 (P.1 a _ (pm_at he)) (fun q h => by cases h) (fun h => by cases h) q1 q2 rfl hkC ⟨fun q => hin (Or.inl q), by show _ < (arrV _ _ _).slots.size; rw [arrV_size, nI_clamp (by omega)]; exact hj⟩ g1 (fun q h => by rw [g3] at h; cases h) (by rw [g2]; exact hkC) (by rw [g2]; exact va_assign hcls) rfl rfl d fun H1 e1 z oq => ?_
  refine kk p e s m args below meth c H1 _ cells slots mc ms ls C (P.set he ?_ z oq) (S.put z oq (Nat.le_add_right _ _)) L k1 k2
  show H1[G.1 + a]? = some (vp_cell _ _)
  rw [e1, nI_clamp (by omega)]
  show some ((vp_cell (G.2.2.1 kd) (n, .inr (.inr (.inr (.inr (fun j => (f j).map fun k => G.1 + k)))))).setSlot j (.ref (G.1 + b))) = some (vp_cell (G.2.2.1 kd) (n, .inr (.inr (.inr (.inr (fun q => (va_up f j (some b) q).map fun k => G.1 + k))))))
  rw [vp_cell_q, vp_cell_q, arrV_store]
  congr 2
  funext q
  by_cases hq : q = j
  · subst hq
    simp [updV, va_up, va_rf]
  · simp [updV, va_up, hq]
theorem pm_alenD {n a : Nat} {f : Nat → UInt64} (d : decode M.2.1 pc = .ok (.arraylength, 1)) (he : h[a]? = some (pm_Dd n f)) (kk : pm_Ev l G fi fo kc ks M (pc + 1) lv (.int (nI n) :: st) h r) : pm_Ev l G fi fo kc ks M pc lv (.ref a :: st) h r :=
  fun p e s m args below meth c H locs cells slots mc ms ls C P S L k1 k2 => va_alen C.1 C.2.1 C.2.2.2.2.2.2.2.2.2.1.1 P.1 a 1 (pm_at he) (ty := .double) rfl (v := nI n) rfl d (kk p e s m args below meth c H locs cells slots mc ms ls C P S L k1 k2)
/-- the script -/
theorem pm_sld {i : Int32} {j : Nat} (d : decode M.2.1 pc = .ok (.iaload, 1)) (hi : i = nI j) (hj : j < G.2.2.2.2.1) (hn : G.2.2.2.2.1 < 2 ^ 31) (kk : pm_Ev l G fi fo kc ks M (pc + 1) lv (.int (G.2.2.2.2.2 j) :: st) h r) : pm_Ev l G fi fo kc ks M pc lv (.int i :: .retAddr 0 :: st) h r := by
  subst hi
  intro p e s m args below meth c H locs cells slots mc ms ls C P S L k1 k2
  obtain ⟨hx, hb, -, -, -, -, -, -, -, ⟨-, -, -, hz, h0, hX, -⟩, -⟩ := id C
  refine va_sld hx hb hX (Nat.lt_of_lt_of_le h0 hz) (Nat.not_le.mpr h0) S (vp_in_nI hj hn) d ?_
  rw [nI_clamp (by omega)]
  exact kk p e s m args below meth c H locs cells slots mc ms ls C P S L k1 k2
theorem pm_slen (d : decode M.2.1 pc = .ok (.arraylength, 1)) (kk : pm_Ev l G fi fo kc ks M (pc + 1) lv (.int (nI G.2.2.2.2.1) :: st) h r) : pm_Ev l G fi fo kc ks M pc lv (.retAddr 0 :: st) h r := by
  intro p e s m args below meth c H locs cells slots mc ms ls C P S L k1 k2
  obtain ⟨hx, hb, -, -, -, -, -, -, -, ⟨-, -, -, hz, h0, hX, -⟩, -⟩ := id C
  exact va_slen hx hb hX (Nat.lt_of_lt_of_le h0 hz) (Nat.not_le.mpr h0) S d (kk p e s m args below meth c H locs cells slots mc ms ls C P S L k1 k2)
/-- the static table -/
theorem pm_gets {idx : Nat} (d : decode M.2.1 pc = .ok (.getstatic idx, 3)) (hw : Cond.fieldLink M.1.cls idx "GraphRunner" "ARGUMENT_COUNTS" "[I" ∈ pm_tbl) (kk : pm_Ev l G fi fo kc ks M (pc + 3) lv (.retAddr 1 :: st) h r) : pm_Ev l G fi fo kc ks M pc lv st h r := by
  intro p e s m args below meth c H locs cells slots mc ms ls C P S L k1 k2
  obtain ⟨hx, hb, -, ho, ht, -, -, -, -, ⟨-, -, -, hz, h0, hX, hZ, -⟩, -⟩ := id C
  exact va_gets hx hb hZ S ho (ht _ hw) (fun _ q => q) d (kk p e s m args below meth c H locs cells slots mc ms ls C P S L k1 k2)
theorem pm_getsN {idx : Nat} {host : String} (d : decode M.2.1 pc = .ok (.getstatic idx, 3)) (hw : Cond.fieldLinkNest M.1.cls idx "GraphRunner" "ARGUMENT_COUNTS" "[I" host ∈ pm_nst) (kk : pm_Ev l G fi fo kc ks M (pc + 3) lv (.retAddr 1 :: st) h r) : pm_Ev l G fi fo kc ks M pc lv st h r := by
  intro p e s m args below meth c H locs cells slots mc ms ls C P S L k1 k2
  obtain ⟨hx, hb, -, ho, ht, -, -, -, -, ⟨-, hN, -, hz, h0, hX, hZ, -⟩, -⟩ := id C
  exact va_getsN hx hb hZ S ho (va_Nw.use rfl (hN _ hw)) (fun _ q => q) d (kk p e s m args below meth c H locs cells slots mc ms ls C P S L k1 k2)
theorem pm_tld {i : Int32} {j : Nat} (d : decode M.2.1 pc = .ok (.iaload, 1)) (hi : i = nI j) (hj : j < 19) (kk : pm_Ev l G fi fo kc ks M (pc + 1) lv (.int (pm_ac j) :: st) h r) : pm_Ev l G fi fo kc ks M pc lv (.int i :: .retAddr 1 :: st) h r := by
  subst hi
  intro p e s m args below meth c H locs cells slots mc ms ls C P S L k1 k2
  obtain ⟨hx, hb, -, ho, ht, -, -, -, -, ⟨-, -, -, hz, h0, hX, hZ, hT, -⟩, -⟩ := id C
  exact va_ti hx hb hT S (vp_in_nI hj (by decide)) (v := .int (pm_ac j)) (by rw [nI_clamp (by omega)]) d (kk p e s m args below meth c H locs cells slots mc ms ls C P S L k1 k2)
/-- a cell more -/
theorem pm_Hp.push {H H1 : Heap} {c : va_E} (hP : pm_Hp G true h H) (he : va_at G.2.1 pm_cl (G.1 + h.length, pm_re G c) H1) (hz : H1.size = H.size + 1) (oq : ∀ q : Nat, q < H.size → H1[q]? = H[q]?) : pm_Hp G true (h ++ [c]) H1 := by
  have e0 := hP.2.2 rfl
  refine ⟨?_, by rw [List.length_append, hz, e0]; simp; omega, fun _ => by rw [List.length_append, hz, e0]; simp; omega⟩
  rw [pm_push]
  refine (hP.1.kept fun k x hx => oq x.1 ((hP.1 k x hx).lt)).app fun k x hx => ?_
  have hz : k < 1 := (List.getElem?_eq_some_iff.mp hx).1
  rw [show k = 0 by omega] at hx
  cases hx
  exact he
theorem pm_Sg {s : State} {H H1 : Heap} {locs : List Loc} (S : va_S (pm_A G) s.heap H locs) (hz : H1.size = H.size + 1) (oq : ∀ q : Nat, q < H.size → H1[q]? = H[q]?) : va_S (pm_A G) s.heap H1 locs :=
  ⟨by rw [hz]; exact Nat.le_succ_of_le S.1, fun q h1 h2 => (oq q (Nat.lt_of_lt_of_le h1 S.1)).trans (S.2.1 q h1 h2), S.2.2⟩
theorem pm_new {idx ci N : Nat} {Cn : String} {T : u_T} {t0 : Nat → FieldType} {fs : List Value} (d : decode M.2.1 pc = .ok (.new idx, 3)) (hcl : pm_cl[ci]? = some (Cn, T, N)) (hin : ∀ w ∈ u_ws Cn T N, w ∈ pm_tbl) (hty : ∀ k, k < N → parseFieldDescriptor (T k).2.2.1 = some (t0 k)) (w1 : Cond.classLink M.1.cls idx Cn ∈ pm_tbl) (w2 : Cond.instantiable Cn N ∈ pm_tbl) (w3 : Cond.initialized Cn ∈ pm_tbl)
    (hfs : ∀ j, j < N → defaultValue (t0 j) = vp_V (fs.map (pm_rv G)) j) (kk : pm_Ev l G true fo kc ks M (pc + 3) lv (.ref h.length :: st) (h ++ [pm_Ob ci fs]) r) : pm_Ev l G true fo (kc + 1) (ks + N) M pc lv st h r := by
  intro p e s m args below meth c H locs cells slots mc ms ls C P S L k1 k2
  obtain ⟨hx, hb, -, ho, ht, -, -, -, -, hF, -⟩ := id C
  have hKn := hF.1.1 ci _ hcl
  have e0 := P.2.2 rfl
  refine W.newcK hx hb ho (ht _ w1) (ht _ w2) (ht _ w3) rfl d (by show cells + 1 ≤ mc; omega) (by show slots + N ≤ ms; omega) hKn.2.1 e0 fun H1 kC hkC e1 z1 o1 => ?_
  refine kk p e s m args below meth c H1 locs (cells + 1) (slots + N) mc ms ls C (P.push ⟨_, hcl, (u_born t0 ht hin hKn hkC e1 hty).to hfs⟩ (by rw [z1, e0]) (by rw [e0]; exact o1)) (pm_Sg S (by rw [z1, e0]) (by rw [e0]; exact o1)) L (by omega) (by omega)
theorem pm_newa {kd N : Nat} {n : Int32} {at9 : ArrayType} {a0 : vp_A} (d : decode M.2.1 pc = .ok (.newarray at9, 2)) (w1 : Cond.arrayClass (newarray.typeOf at9) ∈ pm_tbl) (hkd : ∀ G : pm_G, (pm_tys G)[kd]? = some (G.2.2.1 kd, newarray.typeOf at9)) (hre : ∀ G : pm_G, pm_re G (.inl (kd, a0)) = .inl (G.2.2.1 kd, a0)) (ha : ∀ cA : ClassId, vp_cell cA a0 = arrV cA N (fun _ => defaultValue (newarray.typeOf at9))) (hN : n = nI N) (hb0 : N * componentBytes (newarray.typeOf at9) ≤ 536870912) (hN2 : N < 2 ^ 31)
    (kk : pm_Ev l G true fo kc ks M (pc + 2) lv (.ref h.length :: st) (h ++ [.inl (kd, a0)]) r) : pm_Ev l G true fo (kc + 1) (ks + N) M pc lv (.int n :: st) h r := by
  subst hN
  intro p e s m args below meth c H locs cells slots mc ms ls C P S L k1 k2
  obtain ⟨hx, hb, -, ho, ht, -, -, -, -, hF, -⟩ := id C
  have e0 := P.2.2 rfl
  refine va_newaK hx hb (ht _ w1) rfl d rfl (nI_pos hN2) (nI_clamp hN2) hb0 (by show cells + 1 ≤ mc; omega) (by show slots + N ≤ ms; omega) e0 fun H1 cA e1 z1 o1 hAr hNm => ?_
  have hcA : cA = G.2.2.1 kd := by
    have h9 := (hF.1.2 kd _ (hkd G)).2
    have h8 : s.vm.findClass ("[" ++ (newarray.typeOf at9).toString) = some (G.2.2.1 kd) := by cases at9 <;> exact h9
    exact Option.some.inj (hNm.symm.trans h8)
  subst hcA
  refine kk p e s m args below meth c H1 locs (cells + 1) (slots + N) mc ms ls C (P.push ?_ (by rw [z1, e0]) (by rw [e0]; exact o1)) (pm_Sg S (by rw [z1, e0]) (by rw [e0]; exact o1)) L (by omega) (by omega)
  rw [hre G]
  show H1[G.1 + h.length]? = some (vp_cell _ _)
  rw [ha]
  exact e1
theorem pm_anew {idx kd N : Nat} {n : Int32} {Cn : String} (d : decode M.2.1 pc = .ok (.anewarray idx, 3)) (hkd : ∀ G : pm_G, (pm_tys G)[kd]? = some (G.2.2.1 kd, .object Cn)) (w1 : Cond.classLink M.1.cls idx Cn ∈ pm_tbl) (w2 : Cond.arrayOver (.object Cn) ∈ lw_tbl) (hg : ∀ {args : Array Value} {s : State}, (∀ w ∈ pm_tbl, w.before args s = true) → pm_F G s → (Cond.arrayOver (.object Cn)).before args s = true) (hN : n = nI N) (hb0 : N * 4 ≤ 536870912) (hN2 : N < 2 ^ 31)
    (kk : pm_Ev l G true fo kc ks M (pc + 3) lv (.ref h.length :: st) (h ++ [pm_Rf kd N (fun _ => none)]) r) : pm_Ev l G true fo (kc + 1) (ks + N) M pc lv (.int n :: st) h r := by
  subst hN
  intro p e s m args below meth c H locs cells slots mc ms ls C P S L k1 k2
  obtain ⟨hx, hb, -, ho, ht, -, -, -, -, hF, -⟩ := id C
  have e0 := P.2.2 rfl
  have hcl : (nI N).toNatClampNeg = N := nI_clamp hN2
  refine W.anew hx hb ho (ht _ w1) (hg ht hF) rfl d rfl (nI_pos hN2) (by rw [hcl]; exact hb0) (by show cells + 1 ≤ mc; omega) (by rw [hcl]; show slots + N ≤ ms; omega) fun cA kA comp f1 f2 f3 f4 => ?_
  have hcA : cA = G.2.2.1 kd := by
    obtain ⟨kA', comp', -, -, -, h8⟩ := (hF.1.2 kd _ (hkd G)).2
    exact Option.some.inj (f1.symm.trans h8)
  subst hcA
  rw [hcl, e0]
  generalize hH1 : H.push ({ cls := G.2.2.1 kd, slots := Array.replicate N .null, vm := .none } : Cell) = H1
  have z1 : H1.size = H.size + 1 := by rw [← hH1, Array.size_push]
  have e1 : H1[H.size]? = some (arrV (G.2.2.1 kd) N (fun _ => .null)) := by rw [← hH1, Array.getElem?_push_size, ← arrV_new]
  have o1 : ∀ q : Nat, q < H.size → H1[q]? = H[q]? := fun q hq => by rw [← hH1, Array.getElem?_push, if_neg (Nat.ne_of_lt hq)]
  refine kk p e s m args below meth c H1 locs (cells + 1) (slots + N) mc ms ls C (P.push ?_ z1 o1) (pm_Sg S z1 o1) L (by omega) (by omega)
  show H1[G.1 + h.length]? = some (vp_cell (G.2.2.1 kd) (N, .inr (.inr (.inr (.inr (fun j => ((fun _ => none : Nat → Option Nat) j).map fun k => G.1 + k))))))
  rw [vp_cell_q, ← e0]
  exact e1
end PMA
end
section
/-! ===== calls, throws, catches ===== -/
theorem pm_tg {w : Cond} (h : w ∈ pm_tbl) : (w.onTables && w.keeps) = true ∨ ∃ ty, w = .arrayClass ty := good_of_word (List.mem_filter.mp h).2
/-- what a call of N out of M asks of the words and of the room -/
def pm_CB (M N : pm_M) (n : Nat) : Prop := N.2.2.2.2.1 = [] ∧ Cond.code N.1 N.2.1 N.2.2.1 N.2.2.2.1 ∈ pm_tbl ∧ Cond.initialized N.1.cls ∈ pm_tbl ∧ (N.1.cls ≠ "java/lang/invoke/MethodHandle" ∧ N.1.cls ≠ "java/lang/invoke/VarHandle") ∧ (parseMethodDescriptor N.1.desc).map (fun d => d.parameters.length) = some n ∧ N.2.2.2.2.2.1 + 1 ≤ M.2.2.2.2.2.1 ∧ 8 + (N.2.2.1 + 11) + N.2.2.2.2.2.2 ≤ M.2.2.2.2.2.2
section PMC
variable {l : Launch} {G : pm_G} {fi fo f1 : Bool} {kc ks kc1 ks1 : Nat} {M N : pm_M} {pc idx n : Nat} {lv : List (Nat × Value)} {st st0 av : List Value} {h h1 : pm_H} {r : pm_O × pm_H} {v : Option Value}
variable {p : Program} {e : Env} {s : State} {m : MethodId} {args : Array Value} {below : List Frame} {meth : Method} {c : Code} {H : Heap} {locs : List Loc} {cells slots mc ms : Nat} {ls : Array Slot} {Q : State → Prop}
theorem pm_wsM0 (hN : N.2.2.2.2.1 = []) : pm_wsM N = Cond.code N.1 N.2.1 N.2.2.1 N.2.2.2.1 :: pm_tbl := by unfold pm_wsM; rw [if_pos hN]
theorem pm_pay (ht : ∀ w ∈ pm_tbl, w.before args s = true) {w0 : Cond} (h0 : w0 ∈ pm_tbl) : ∀ w ∈ w0 :: pm_tbl, ∀ (a' : Array Value) (U : State), s.WarmedH U.vm → w.before a' U = true := by
  intro w hw a' U hW
  have hw' : w ∈ pm_tbl := by
    rcases List.mem_cons.mp hw with rfl | q
    · exact h0
    · exact q
  exact word_at hW (pm_tg hw') (ht w hw')
theorem pm_len {y : MethodName} (hd : (parseMethodDescriptor y.desc).map (fun d => d.parameters.length) = some n) : ∀ sig, parseMethodDescriptor y.desc = some sig → n = sig.parameters.length := by
  intro sig q
  rw [q] at hd
  exact (Option.some.inj hd).symm
theorem pm_cat8 (hw : (st.map fun v => v.category).sum ≤ 8) : 2 * (F0 m pc ls st0).monitorRoom + ((st.map (pm_rv G)).map fun v => v.category).sum ≤ 8 := by
  refine lv_room ?_
  rw [List.map_map]
  have e1 : ((fun v : Value => v.category) ∘ pm_rv G) = fun v => v.category := by funext v; exact pm_cat G v
  rw [e1]
  exact hw
theorem pm_go {R : Room} {rest st9 : List Value} {a : Array Value} (hr : va_Run p l e R s m args below meth c H locs cells slots mc ms (F0 m pc ls st9) rest (pm_Qc G f1 (.inl v, h1) a) (pm_A G)) (S : va_S (pm_A G) s.heap H locs)
    (kk : ∀ (H1 : Heap) (locs1 : List Loc), pm_Hp G f1 h1 H1 → va_S (pm_A G) s.heap H1 locs1 → W p l e R s m args below meth c H1 locs1 (cells + mc) (slots + ms) Q (F0 m (pc + 3) ls ((v.map (pm_rv G)).toList ++ rest))) : W p l e R s m args below meth c H locs cells slots Q (F0 m pc ls st9) := by
  intro T hT X
  obtain ⟨v', st₀, t, T', L, h0, X', hL, e1, e2, ⟨hv, hP, hz, hk⟩, go⟩ := hr T hT X
  have hv : Outcome.returned v' = .returned (v.map (pm_rv G)) := hv
  cases hv
  rw [h0] at hz hk
  obtain ⟨t2, a1, b1⟩ := kk T'.heap (locs ++ L) (by rw [e1]; exact hP) ⟨Nat.le_trans S.1 (by rw [e1]; exact hz), fun q g1 g2 => by rw [e1, hk q (Nat.lt_of_lt_of_le g1 S.1) g2]; exact S.2.1 q g1 g2, fun q hq => by
    rcases List.mem_append.mp hq with g | g
    · exact S.2.2 q g
    · exact hL q g⟩ T' rfl X'
  exact ⟨t2, go t2 a1, b1⟩
theorem pm_pre (C : pm_Cx l G M p s m args meth c) (P : pm_Hp G fi h H) (S : va_S (pm_A G) s.heap H locs) : PreS s H (pm_Pc G fi av h) (av.map (pm_rv G)) := ⟨pm_blind, fun U hU hW => ⟨rfl, C.2.2.2.2.2.2.2.2.2.1.moved hW S hU, by rw [hU]; exact P⟩⟩
theorem pm_stk (hst : st0 = av.reverse ++ st) : st0.map (pm_rv G) = (av.map (pm_rv G)).reverse ++ st.map (pm_rv G) := by rw [hst, List.map_append, List.map_reverse]
theorem pm_back (v : Option Value) (st : List Value) : (v.map (pm_rv G)).toList ++ st.map (pm_rv G) = (v.toList ++ st).map (pm_rv G) := by cases v <;> rfl
/-- invokestatic -/
theorem pm_callS (cb : pm_CB M N n) (hl : Cond.methodLink M.1.cls idx N.1 ∈ pm_tbl) (hi : Cond.static N.1 ∈ pm_tbl) (d : decode M.2.1 pc = .ok (.invokestatic idx, 3)) (en : pm_En l G fi f1 kc1 ks1 N av h (.inl v, h1)) (hn : av.length = n) (hst : st0 = av.reverse ++ st) (hw : (st.map fun v => v.category).sum ≤ 8)
    (kk : pm_Ev l G f1 fo kc ks M (pc + 3) lv (v.toList ++ st) h1 r) : pm_Ev l G fi fo (kc1 + kc) (ks1 + ks) M pc lv st0 h r := by
  obtain ⟨b0, b1, b2, b3, b4, b5, b6⟩ := cb
  intro p e s m args below meth c H locs cells slots mc ms ls C P S L k1 k2
  obtain ⟨hx, hb, hml, ho, ht, -⟩ := id C
  have hM := en.met (Nat.le_refl _) (Nat.le_refl _)
  rw [pm_wsM0 b0] at hM
  refine pm_go (va_runS (n := n) (As := av.map (pm_rv G)) (rest := st.map (pm_rv G)) ⟨hx, hb, hml, ho, ht⟩ hM ⟨⟨rfl, rfl, b5, b6, pm_pay ht b1, List.mem_cons_self, ht _ b1, ht _ b2, b3, pm_len b4, ht _ hl⟩, ht _ hi⟩ (pm_pre C P S) rfl (by rw [List.length_map]; exact hn) L.1 (pm_stk hst) (pm_cat8 hw) d ⟨by show cells + kc1 ≤ mc; omega, by show slots + ks1 ≤ ms; omega⟩) S fun H1 locs1 P1 S1 => ?_
  rw [pm_back]
  exact kk p e s m args below meth c H1 locs1 _ _ mc ms ls C P1 S1 L (by omega) (by omega)
theorem pm_callSN {host : String} (cb : pm_CB M N n) (hl : Cond.methodLinkNest M.1.cls idx N.1 host ∈ pm_nst) (hi : Cond.static N.1 ∈ pm_tbl) (d : decode M.2.1 pc = .ok (.invokestatic idx, 3)) (en : pm_En l G fi f1 kc1 ks1 N av h (.inl v, h1)) (hn : av.length = n) (hst : st0 = av.reverse ++ st) (hw : (st.map fun v => v.category).sum ≤ 8)
    (kk : pm_Ev l G f1 fo kc ks M (pc + 3) lv (v.toList ++ st) h1 r) : pm_Ev l G fi fo (kc1 + kc) (ks1 + ks) M pc lv st0 h r := by
  obtain ⟨b0, b1, b2, b3, b4, b5, b6⟩ := cb
  intro p e s m args below meth c H locs cells slots mc ms ls C P S L k1 k2
  obtain ⟨hx, hb, hml, ho, ht, -, -, -, -, hF, -⟩ := id C
  have hM := en.met (Nat.le_refl _) (Nat.le_refl _)
  rw [pm_wsM0 b0] at hM
  refine pm_go (va_runSN (n := n) (As := av.map (pm_rv G)) (rest := st.map (pm_rv G)) ⟨hx, hb, hml, ho, ht⟩ hM ⟨⟨⟨rfl, rfl, b5, b6, pm_pay ht b1, List.mem_cons_self⟩, ht _ b1, ht _ b2, b3, pm_len b4, va_Nw.use rfl (hF.2.1 _ hl)⟩, ht _ hi, trivial⟩ (pm_pre C P S) rfl (by rw [List.length_map]; exact hn) L.1 (pm_stk hst) (pm_cat8 hw) d ⟨by show cells + kc1 ≤ mc; omega, by show slots + ks1 ≤ ms; omega⟩) S fun H1 locs1 P1 S1 => ?_
  rw [pm_back]
  exact kk p e s m args below meth c H1 locs1 _ _ mc ms ls C P1 S1 L (by omega) (by omega)
theorem pm_preV {b ci N0 : Nat} {Cn : String} {T : u_T} {fs : List Value} (hb : h[b]? = some (pm_Ob ci fs)) (hc : pm_cl[ci]? = some (Cn, T, N0)) (C : pm_Cx l G M p s m args meth c) (P : pm_Hp G fi h H) (S : va_S (pm_A G) s.heap H locs) : PreV s H Cn (G.1 + b) (pm_Pc G fi (.ref b :: av) h) (av.map (pm_rv G)) :=
  ⟨pm_blind, va_recv C.2.2.2.2.2.2.2.2.2.1.1 P.1 hc (pm_at hb), fun U hU hW => ⟨rfl, C.2.2.2.2.2.2.2.2.2.1.moved hW S hU, by rw [hU]; exact P⟩⟩
theorem pm_stkV {b : Nat} (hst : st0 = av.reverse ++ .ref b :: st) : st0.map (pm_rv G) = (av.map (pm_rv G)).reverse ++ .ref (G.1 + b) :: st.map (pm_rv G) := by rw [hst, List.map_append, List.map_reverse]; rfl
/-- invokevirtual -/
theorem pm_callV {b ci N0 : Nat} {T : u_T} {fs : List Value} (cb : pm_CB M N n) (hl : Cond.methodLink M.1.cls idx N.1 ∈ pm_tbl) (hi : Cond.instanceMethod N.1 ∈ pm_tbl) (hs : Cond.selects N.1.cls N.1 N.1 ∈ pm_tbl) (d : decode M.2.1 pc = .ok (.invokevirtual idx, 3)) (hb0 : h[b]? = some (pm_Ob ci fs)) (hc : pm_cl[ci]? = some (N.1.cls, T, N0)) (en : pm_En l G fi f1 kc1 ks1 N (.ref b :: av) h (.inl v, h1)) (hn : av.length = n) (hst : st0 = av.reverse ++ .ref b :: st) (hw : (st.map fun v => v.category).sum ≤ 8)
    (kk : pm_Ev l G f1 fo kc ks M (pc + 3) lv (v.toList ++ st) h1 r) : pm_Ev l G fi fo (kc1 + kc) (ks1 + ks) M pc lv st0 h r := by
  obtain ⟨b0, b1, b2, b3, b4, b5, b6⟩ := cb
  intro p e s m args below meth c H locs cells slots mc ms ls C P S L k1 k2
  obtain ⟨hx, hb, hml, ho, ht, -⟩ := id C
  have hM := en.met (Nat.le_refl _) (Nat.le_refl _)
  rw [pm_wsM0 b0] at hM
  refine pm_go (va_runV (n := n) (As := av.map (pm_rv G)) (rest := st.map (pm_rv G)) ⟨hx, hb, hml, ho, ht⟩ hM ⟨⟨rfl, rfl, b5, b6, pm_pay ht b1, List.mem_cons_self, ht _ b1, ht _ b2, b3, pm_len b4, ht _ hl⟩, ht _ hi, ht _ hs⟩ (pm_preV hb0 hc C P S) rfl (by rw [List.length_map]; exact hn) L.1 (pm_stkV hst) (pm_cat8 hw) d ⟨by show cells + kc1 ≤ mc; omega, by show slots + ks1 ≤ ms; omega⟩) S fun H1 locs1 P1 S1 => ?_
  rw [pm_back]
  exact kk p e s m args below meth c H1 locs1 _ _ mc ms ls C P1 S1 L (by omega) (by omega)
theorem pm_callVN {host : String} {b ci N0 : Nat} {T : u_T} {fs : List Value} (cb : pm_CB M N n) (hl : Cond.methodLinkNest M.1.cls idx N.1 host ∈ pm_nst) (hi : Cond.instanceMethod N.1 ∈ pm_tbl) (hs : Cond.selects N.1.cls N.1 N.1 ∈ pm_tbl) (d : decode M.2.1 pc = .ok (.invokevirtual idx, 3)) (hb0 : h[b]? = some (pm_Ob ci fs)) (hc : pm_cl[ci]? = some (N.1.cls, T, N0)) (en : pm_En l G fi f1 kc1 ks1 N (.ref b :: av) h (.inl v, h1)) (hn : av.length = n) (hst : st0 = av.reverse ++ .ref b :: st) (hw : (st.map fun v => v.category).sum ≤ 8)
    (kk : pm_Ev l G f1 fo kc ks M (pc + 3) lv (v.toList ++ st) h1 r) : pm_Ev l G fi fo (kc1 + kc) (ks1 + ks) M pc lv st0 h r := by
  obtain ⟨b0, b1, b2, b3, b4, b5, b6⟩ := cb
  intro p e s m args below meth c H locs cells slots mc ms ls C P S L k1 k2
  obtain ⟨hx, hb, hml, ho, ht, -, -, -, -, hF, -⟩ := id C
  have hM := en.met (Nat.le_refl _) (Nat.le_refl _)
  rw [pm_wsM0 b0] at hM
  refine pm_go (va_runVN (n := n) (As := av.map (pm_rv G)) (rest := st.map (pm_rv G)) ⟨hx, hb, hml, ho, ht⟩ hM ⟨⟨⟨rfl, rfl, b5, b6, pm_pay ht b1, List.mem_cons_self⟩, ht _ b1, ht _ b2, b3, pm_len b4, va_Nw.use rfl (hF.2.1 _ hl)⟩, ht _ hi, ht _ hs⟩ (pm_preV hb0 hc C P S) rfl (by rw [List.length_map]; exact hn) L.1 (pm_stkV hst) (pm_cat8 hw) d ⟨by show cells + kc1 ≤ mc; omega, by show slots + ks1 ≤ ms; omega⟩) S fun H1 locs1 P1 S1 => ?_
  rw [pm_back]
  exact kk p e s m args below meth c H1 locs1 _ _ mc ms ls C P1 S1 L (by omega) (by omega)
/-- a constructor -/
theorem pm_callI {b : Nat} (cb : pm_CB M N n) (hret : N.2.2.2.1 = none) (hnm : N.1.name = "<init>") (hl : Cond.methodLink M.1.cls idx N.1 ∈ pm_tbl) (hi : Cond.instanceMethod N.1 ∈ pm_tbl) (d : decode M.2.1 pc = .ok (.invokespecial idx, 3)) (en : pm_En l G fi f1 kc1 ks1 N (.ref b :: av) h (.inl v, h1)) (hn : av.length = n) (hst : st0 = av.reverse ++ .ref b :: st) (hw : (st.map fun v => v.category).sum ≤ 8)
    (kk : pm_Ev l G f1 fo kc ks M (pc + 3) lv (v.toList ++ st) h1 r) : pm_Ev l G fi fo (kc1 + kc) (ks1 + ks) M pc lv st0 h r := by
  obtain ⟨b0, b1, b2, b3, b4, b5, b6⟩ := cb
  intro p e s m args below meth c H locs cells slots mc ms ls C P S L k1 k2
  obtain ⟨hx, hb, hml, ho, ht, -⟩ := id C
  have hM := en.met (Nat.le_refl _) (Nat.le_refl _)
  rw [pm_wsM0 b0] at hM
  rw [hret] at b1 hM
  refine pm_go (va_runI (n := n) (b := G.1 + b) (As := av.map (pm_rv G)) (rest := st.map (pm_rv G)) ⟨hx, hb, hml, ho, ht⟩ hM ⟨⟨rfl, rfl, b5, b6, pm_pay ht b1, List.mem_cons_self, ht _ b1, ht _ b2, b3, pm_len b4, ht _ hl⟩, hnm, ht _ hi⟩ (pm_pre (av := .ref b :: av) C P S) rfl (by rw [List.length_map]; exact hn) L.1 (pm_stkV hst) (pm_cat8 hw) d ⟨by show cells + kc1 ≤ mc; omega, by show slots + ks1 ≤ ms; omega⟩) S fun H1 locs1 P1 S1 => ?_
  rw [pm_back]
  exact kk p e s m args below meth c H1 locs1 _ _ mc ms ls C P1 S1 L (by omega) (by omega)
theorem pm_callIN {host : String} {b : Nat} (cb : pm_CB M N n) (hret : N.2.2.2.1 = none) (hnm : N.1.name = "<init>") (hl : Cond.methodLinkNest M.1.cls idx N.1 host ∈ pm_nst) (hi : Cond.instanceMethod N.1 ∈ pm_tbl) (d : decode M.2.1 pc = .ok (.invokespecial idx, 3)) (en : pm_En l G fi f1 kc1 ks1 N (.ref b :: av) h (.inl v, h1)) (hn : av.length = n) (hst : st0 = av.reverse ++ .ref b :: st) (hw : (st.map fun v => v.category).sum ≤ 8)
    (kk : pm_Ev l G f1 fo kc ks M (pc + 3) lv (v.toList ++ st) h1 r) : pm_Ev l G fi fo (kc1 + kc) (ks1 + ks) M pc lv st0 h r := by
  obtain ⟨b0, b1, b2, b3, b4, b5, b6⟩ := cb
  intro p e s m args below meth c H locs cells slots mc ms ls C P S L k1 k2
  obtain ⟨hx, hb, hml, ho, ht, -, -, -, -, hF, -⟩ := id C
  have hM := en.met (Nat.le_refl _) (Nat.le_refl _)
  rw [pm_wsM0 b0] at hM
  rw [hret] at b1 hM
  refine pm_go (va_runIN (n := n) (b := G.1 + b) (As := av.map (pm_rv G)) (rest := st.map (pm_rv G)) ⟨hx, hb, hml, ho, ht⟩ hM ⟨⟨⟨rfl, rfl, b5, b6, pm_pay ht b1, List.mem_cons_self⟩, ht _ b1, ht _ b2, b3, pm_len b4, va_Nw.use rfl (hF.2.1 _ hl)⟩, hnm, ht _ hi⟩ (pm_pre (av := .ref b :: av) C P S) rfl (by rw [List.length_map]; exact hn) L.1 (pm_stkV hst) (pm_cat8 hw) d ⟨by show cells + kc1 ≤ mc; omega, by show slots + ks1 ≤ ms; omega⟩) S fun H1 locs1 P1 S1 => ?_
  rw [pm_back]
  exact kk p e s m args below meth c H1 locs1 _ _ mc ms ls C P1 S1 L (by omega) (by omega)
/-- Object's own constructor -/
theorem pm_objI {a : Nat} (hl : Cond.methodLink M.1.cls idx Lib.objectInit ∈ pm_tbl) (hi : Cond.instanceMethod Lib.objectInit ∈ pm_tbl) (hcd : Cond.code Lib.objectInit ⟨#[0xb1]⟩ 1 none ∈ pm_tbl) (d : decode M.2.1 pc = .ok (.invokespecial idx, 3)) (hfr : 1 ≤ M.2.2.2.2.2.1) (hlo : (st.map fun v => v.category).sum + 12 ≤ M.2.2.2.2.2.2)
    (kk : pm_Ev l G fi fo kc ks M (pc + 3) lv st h r) : pm_Ev l G fi fo kc ks M pc lv (.ref a :: st) h r := by
  intro p e s m args below meth c H locs cells slots mc ms ls C P S L k1 k2
  obtain ⟨hx, hb, hml, ho, ht, -⟩ := id C
  refine W.objInit hx hb ho (ht _ hl) (ht _ hi) (ht _ hcd) rfl (by rw [hml]; exact L.1) rfl d hfr ?_ (kk p e s m args below meth c H locs cells slots mc ms ls C P S L k1 k2)
  have e1 : ((fun v : Value => v.category) ∘ pm_rv G) = fun v => v.category := by funext v; exact pm_cat G v
  show 2 * 0 + ((st.map (pm_rv G)).map fun v => v.category).sum + 12 ≤ M.2.2.2.2.2.2
  rw [List.map_map, e1]
  omega
end PMC
end
section
/-! ===== throws, catches, calls of a method with a table ===== -/
section PMX
variable {l : Launch} {G : pm_G} {fi fo f1 : Bool} {kc ks kc1 ks1 : Nat} {M N : pm_M} {pc idx n : Nat} {lv : List (Nat × Value)} {st st0 av : List Value} {h h1 : pm_H} {r : pm_O × pm_H} {v : Option Value}
/-- throw new E() -/
theorem pm_throw {cls : String} {names : List String} {ik ic : Nat} (hM : M.2.2.2.2.1 = []) (hcls : Bundle.fit cls = true) (hnames : ∀ n ∈ names, Bundle.fit n = true) (w1 : Cond.classLink M.1.cls ik cls ∈ pm_tbl) (w2 : Cond.initialized cls ∈ pm_tbl) (hat : ∀ w ∈ vx_at0 M.1.cls ic cls names, w ∈ pm_tbl ∨ w ∈ pm_nst) (hgood : ∀ w ∈ Cond.classLink M.1.cls ik cls :: Cond.initialized cls :: vx_at0 M.1.cls ic cls names, vx_ot w = true)
    (d0 : decode M.2.1 pc = .ok (.new ik, 3)) (d3 : decode M.2.1 (pc + 3) = .ok (.dup, 1)) (d4 : decode M.2.1 (pc + 4) = .ok (.invokespecial ic, 3)) (d7 : decode M.2.1 (pc + 7) = .ok (.athrow, 1)) (hfr : names.length + 3 < M.2.2.2.2.2.1) (hlo : (st.map fun v => v.category).sum + (13 * (names.length + 1) + 42) ≤ M.2.2.2.2.2.2) : pm_Ev l G fi false 1 6 M pc lv st h (.inr cls, h) := by
  intro p e s m args below meth c H locs cells slots mc ms ls C P S L k1 k2
  obtain ⟨hx, hb, hml, ho, ht, -, hlk, htb, -, hF, hl⟩ := id C
  have htbl : ∀ x ∈ c.exceptionTable.toList, covers x (pc + 7) = false := by
    rw [htb, hM]
    intro x hx
    cases hx
  have e1 : ((fun v : Value => v.category) ∘ pm_rv G) = fun v => v.category := by funext v; exact pm_cat G v
  have K := vx_throw0 (p := p) (l := l) (e := e) (R := pm_rm M mc ms) (s := s) (m := m) (args := args) (below := below) (meth := meth) (c := c) (H := H) (locs := locs) (cells := cells) (slots := slots) (free := pm_A G) (ls := ls) (rest := st.map (pm_rv G)) (Qc := fun _ _ _ _ => False) (XC := fun E' st t => E' = cls ∧ pm_Hp G false h t.heap ∧ va_F (pm_A G) st t) (mc := mc) (ms := ms) (A := pm_A G) hx hb hl ho hcls hnames (ht _ w1) (ht _ w2) (fun w hw => (hat w hw).elim (fun q => ht w q) (fun q => va_Nw.use (pm_nst_on q) (hF.2.1 w q))) hgood hF.2.2.2.2.2.2.2.2.1 hF.2.2.2.2.2.2.2.2.2 S (by rw [hml]; exact L.1) d0 d3 d4 d7 htbl hfr (by rw [List.map_map, e1]; exact hlo) (by show cells + 1 ≤ mc; omega) (by show slots + 6 ≤ ms; omega) hlk
    (fun t hal hz hk => ⟨rfl, ⟨P.1.kept fun k x hx => hk x.1 ((P.1 k x hx).lt), Nat.le_trans P.2.1 hz, fun q => by cases q⟩, Nat.le_trans S.1 hz, fun q g1 g2 => (hk q (Nat.lt_of_lt_of_le g1 S.1)).trans (S.2.1 q g1 g2)⟩) S.2.2 (by omega) (by omega)
  intro T hT X
  obtain ⟨t, a1, o, b1, b2, b3⟩ := K T hT X
  rcases b3 with ⟨b3, -⟩ | ⟨q, rfl, E, ce, L9, ⟨rfl, g2, g3⟩, g4, g5, g6, g7, g8, g9⟩
  · exact b3.elim
  · exact ⟨t, a1, _, b1, b2, ⟨⟨q, ce, rfl, g4, g5, g6⟩, g2, g3⟩, g7, L9, g8, g9⟩
/-- a call that throws E, caught by a row of this method's table: the handler answers v -/
theorem pm_catch {b ci N0 len : Nat} {T : u_T} {fs : List Value} {E name : String} {pre suf : List ExceptionTableEntry} {x : ExceptionTableEntry} {k0 : Int} {w : Int32} (cb : pm_CB M N n) (hl : Cond.methodLink M.1.cls idx N.1 ∈ pm_tbl) (hi : Cond.instanceMethod N.1 ∈ pm_tbl) (hs : Cond.selects N.1.cls N.1 N.1 ∈ pm_tbl) (d : decode M.2.1 pc = .ok (.invokevirtual idx, 3)) (hb0 : h[b]? = some (pm_Ob ci fs)) (hc : pm_cl[ci]? = some (N.1.cls, T, N0)) (en : pm_En l G fi f1 kc1 ks1 N (.ref b :: av) h (.inr E, h1)) (hn : av.length = n) (hst : st0 = av.reverse ++ .ref b :: st) (hw : (st.map fun v => v.category).sum ≤ 8)
    (hsp : tableOf M.2.2.2.2.1 = pre ++ x :: suf) (hpass : ∀ z ∈ pre, z.catchType ≠ 0 ∧ ∃ nm : String, Cond.classLink M.1.cls z.catchType nm ∈ pm_tbl ∧ (E, nm) ∈ pm_ncs) (hcv : covers x pc = true) (h0 : x.catchType ≠ 0) (hlink : Cond.classLink M.1.cls x.catchType name ∈ pm_tbl) (hcast : Cond.castable E name ∈ pm_nst)
    (hd : (∃ i, len = 2 ∧ i < M.2.2.1 ∧ decode M.2.1 x.handlerPc = .ok (.astore i, 2)) ∨ (∃ i : Fin 4, len = 1 ∧ (i : Nat) < M.2.2.1 ∧ decode M.2.1 x.handlerPc = .ok (.astore_n i, 1))) (d2 : decode M.2.1 (x.handlerPc + len) = .ok (.iconst k0, 1)) (hk0 : Int32.ofInt k0 = w) (d3 : decode M.2.1 (x.handlerPc + len + 1) = .ok (.ireturn, 1)) (hr : M.2.2.2.1 = some .int) : pm_Ev l G fi f1 kc1 ks1 M pc lv st0 h (.inl (some (.int w)), h1) := by
  obtain ⟨b0, b1, b2, b3, b4, b5, b6⟩ := cb
  intro p e s m args below meth c H locs cells slots mc ms ls C P S L k1 k2
  obtain ⟨hx, hb, hml, ho, ht, hret, hlk, htb, -, hF, -⟩ := id C
  have hM := en.metX (Nat.le_refl _) (Nat.le_refl _)
  rw [pm_wsM0 b0] at hM
  have hR := vx_runV (p := p) (e := e) (R := pm_rm M mc ms) (below := below) (meth := meth) (locs := locs) (cells := cells) (slots := slots) (n := n) (g := F0 m pc ls (st0.map (pm_rv G))) (As := av.map (pm_rv G)) (rest := st.map (pm_rv G)) ⟨hx, hb, hml, ho, ht⟩ hM ⟨⟨rfl, rfl, b5, b6, pm_pay ht b1, List.mem_cons_self, ht _ b1, ht _ b2, b3, pm_len b4, ht _ hl⟩, ht _ hi, ht _ hs⟩ (pm_preV hb0 hc C P S) rfl (by rw [List.length_map]; exact hn) L.1 (pm_stkV hst) (pm_cat8 hw) d ⟨by show cells + kc1 ≤ mc; omega, by show slots + ks1 ≤ ms; omega⟩
  intro T hT X
  rcases hR T hT X with ⟨v9, st₀, t, T', L9, -, -, -, -, -, q, -⟩ | ⟨q, st₀, t, T', L9, E9, ce, g0, X', gL, e1, e2, ⟨rfl, gH, gz, gk⟩, gc, gv, gn, go⟩
  · exact q.elim
  rw [g0] at gz gk
  have S1 : va_S (pm_A G) s.heap T'.heap (locs ++ L9) := ⟨Nat.le_trans S.1 (by rw [e1]; exact gz), fun q g1 g2 => by rw [e1, gk q (Nat.lt_of_lt_of_le g1 S.1) g2]; exact S.2.1 q g1 g2, fun q hq => by
    rcases List.mem_append.mp hq with g | g
    · exact S.2.2 q g
    · exact gL q g⟩
  have P1 : pm_Hp G f1 h1 T'.heap := by rw [e1]; exact gH
  have fin : ∀ ls' : Array Slot, W p l e (pm_rm M mc ms) s m args below meth c T'.heap (locs ++ L9) (cells + kc1) (slots + ks1) (pm_Q G f1 below args s mc ms (.inl (some (.int w)), h1)) (F0 m (x.handlerPc + len) ls' []) := fun ls' =>
    lv_iconst (v := w) hx hb d2 hk0 (pm_end (by omega) (by omega) (W.zret (v := w) hx hb (hret.trans hr) rfl (fun t ht _ => pm_qr (v := some (.int w)) P1 S1 ht) S1.2.2 d3 hlk))
  have K : W p l e (pm_rm M mc ms) s m args below meth c T'.heap (locs ++ L9) (cells + kc1) (slots + ks1) (pm_Q G f1 below args s mc ms (.inl (some (.int w)), h1)) (F0 m x.handlerPc ls [.ref q]) := by
    rcases hd with ⟨i, rfl, hi9, hd9⟩ | ⟨i, rfl, hi9, hd9⟩
    · exact lv_astore hx hb hd9 L hi9 rfl (fun ls' _ => fin ls')
    · exact lv_astore_n hx hb hd9 rfl L hi9 rfl (fun ls' _ => fin ls')
  obtain ⟨t2, a1, b1⟩ := vx_catch (ls := ls) (rest := st.map (pm_rv G)) (pc := pc) ho pre x suf (htb.trans hsp) (fun z hz => by
    obtain ⟨z1, nm, z2, z3⟩ := hpass z hz
    exact Or.inr ⟨z1, nm, ht _ z2, hF.2.2.1 _ z3⟩) hcv h0 (ht _ hlink) (va_Nw.use rfl (hF.2.1 _ hcast)) (by rw [e1]; exact gc) gv gn K T' rfl X'
  exact ⟨t2, go.trans a1, b1⟩
/-- invokestatic of a method with a table -/
theorem pm_callSW (b1 : Cond.codeWith N.1 N.2.1 N.2.2.1 N.2.2.2.1 N.2.2.2.2.1 ∈ pm_tbl) (hN : ¬ N.2.2.2.2.1 = []) (b2 : Cond.initialized N.1.cls ∈ pm_tbl) (b3 : N.1.cls ≠ "java/lang/invoke/MethodHandle" ∧ N.1.cls ≠ "java/lang/invoke/VarHandle") (b4 : (parseMethodDescriptor N.1.desc).map (fun d => d.parameters.length) = some n) (b5 : N.2.2.2.2.2.1 + 1 ≤ M.2.2.2.2.2.1) (b6 : 8 + (N.2.2.1 + 11) + N.2.2.2.2.2.2 ≤ M.2.2.2.2.2.2)
    (hl : Cond.methodLink M.1.cls idx N.1 ∈ pm_tbl) (hi : Cond.static N.1 ∈ pm_tbl) (d : decode M.2.1 pc = .ok (.invokestatic idx, 3)) (en : pm_En l G fi f1 kc1 ks1 N av h (.inl v, h1)) (hn : av.length = n) (hst : st0 = av.reverse ++ st) (hw : (st.map fun v => v.category).sum ≤ 8)
    (kk : pm_Ev l G f1 fo kc ks M (pc + 3) lv (v.toList ++ st) h1 r) : pm_Ev l G fi fo (kc1 + kc) (ks1 + ks) M pc lv st0 h r := by
  intro p e s m args below meth c H locs cells slots mc ms ls C P S L k1 k2
  obtain ⟨hx, hb, hml, ho, ht, -⟩ := id C
  have hM := en.met (Nat.le_refl _) (Nat.le_refl _)
  have hws : pm_wsM N = Cond.codeWith N.1 N.2.1 N.2.2.1 N.2.2.2.1 N.2.2.2.2.1 :: pm_tbl := by unfold pm_wsM; rw [if_neg hN]
  rw [hws] at hM
  refine pm_go (vx_runSW (n := n) (hh := N.2.2.2.2.1) (As := av.map (pm_rv G)) (rest := st.map (pm_rv G)) ⟨hx, hb, hml, ho, ht⟩ hM ⟨⟨rfl, rfl, b5, b6, pm_pay ht b1, List.mem_cons_self⟩, ht _ b1, ht _ b2, b3, pm_len b4, ht _ hl, ht _ hi⟩ (pm_pre C P S) rfl (by rw [List.length_map]; exact hn) L.1 (pm_stk hst) (pm_cat8 hw) d ⟨by show cells + kc1 ≤ mc; omega, by show slots + ks1 ≤ ms; omega⟩) S fun H1 locs1 P1 S1 => ?_
  rw [pm_back]
  exact kk p e s m args below meth c H1 locs1 _ _ mc ms ls C P1 S1 L (by omega) (by omega)
end PMX
end
