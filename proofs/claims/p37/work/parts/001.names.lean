-- ===== PART A: goes FIRST, ahead of the names: the tables' words, and 'selects' of the private methods out of them =====
/-- a private method of a class that the tables say can be made, by its rows of tables_1 -/
def lw_okq (q : MethodName × Nat) : Prop := (q.1.cls ≠ "java/lang/invoke/MethodHandle" ∧ q.1.cls ≠ "java/lang/invoke/VarHandle") ∧ Cond.instantiable q.1.cls q.2 ∈ tables_1 ∧ Cond.privateMethod q.1 ∈ tables_1 ∧ Cond.instanceMethod q.1 ∈ tables_1
theorem lw_p0 : lw_okq (⟨"HookBoard$Reader", "next", "()V"⟩, 8) := ⟨⟨by decide +kernel, by decide +kernel⟩, List.mem_of_getElem? (i := 387) (by decide +kernel), List.mem_of_getElem? (i := 510) (by decide +kernel), List.mem_of_getElem? (i := 511) (by decide +kernel)⟩
theorem lw_p1 : lw_okq (⟨"HookBoard$Reader", "ownWord", "()I"⟩, 8) := ⟨⟨by decide +kernel, by decide +kernel⟩, List.mem_of_getElem? (i := 387) (by decide +kernel), List.mem_of_getElem? (i := 524) (by decide +kernel), List.mem_of_getElem? (i := 525) (by decide +kernel)⟩
theorem lw_p2 : lw_okq (⟨"HookBoard$Reader", "fail", "(II)V"⟩, 8) := ⟨⟨by decide +kernel, by decide +kernel⟩, List.mem_of_getElem? (i := 387) (by decide +kernel), List.mem_of_getElem? (i := 580) (by decide +kernel), List.mem_of_getElem? (i := 581) (by decide +kernel)⟩
theorem lw_p3 : lw_okq (⟨"HookBoard$Reader", "isWord", "(I)Z"⟩, 8) := ⟨⟨by decide +kernel, by decide +kernel⟩, List.mem_of_getElem? (i := 387) (by decide +kernel), List.mem_of_getElem? (i := 584) (by decide +kernel), List.mem_of_getElem? (i := 585) (by decide +kernel)⟩
theorem lw_p4 : lw_okq (⟨"HookBoard$Reader", "readKind", "()V"⟩, 8) := ⟨⟨by decide +kernel, by decide +kernel⟩, List.mem_of_getElem? (i := 387) (by decide +kernel), List.mem_of_getElem? (i := 588) (by decide +kernel), List.mem_of_getElem? (i := 589) (by decide +kernel)⟩
theorem lw_p5 : lw_okq (⟨"HookBoard$Reader", "nameHere", "()J"⟩, 8) := ⟨⟨by decide +kernel, by decide +kernel⟩, List.mem_of_getElem? (i := 387) (by decide +kernel), List.mem_of_getElem? (i := 592) (by decide +kernel), List.mem_of_getElem? (i := 593) (by decide +kernel)⟩
theorem lw_p6 : lw_okq (⟨"HookBoard$Reader", "takeWord", "(I)V"⟩, 8) := ⟨⟨by decide +kernel, by decide +kernel⟩, List.mem_of_getElem? (i := 387) (by decide +kernel), List.mem_of_getElem? (i := 601) (by decide +kernel), List.mem_of_getElem? (i := 602) (by decide +kernel)⟩
theorem lw_p7 : lw_okq (⟨"HookBoard$Reader", "numberFor", "(I)I"⟩, 8) := ⟨⟨by decide +kernel, by decide +kernel⟩, List.mem_of_getElem? (i := 387) (by decide +kernel), List.mem_of_getElem? (i := 605) (by decide +kernel), List.mem_of_getElem? (i := 606) (by decide +kernel)⟩
theorem lw_p8 : lw_okq (⟨"HookBoard$Reader", "numeralHere", "()I"⟩, 8) := ⟨⟨by decide +kernel, by decide +kernel⟩, List.mem_of_getElem? (i := 387) (by decide +kernel), List.mem_of_getElem? (i := 609) (by decide +kernel), List.mem_of_getElem? (i := 610) (by decide +kernel)⟩
theorem lw_p9 : lw_okq (⟨"HookBoard$Reader", "takeEnd", "()V"⟩, 8) := ⟨⟨by decide +kernel, by decide +kernel⟩, List.mem_of_getElem? (i := 387) (by decide +kernel), List.mem_of_getElem? (i := 619) (by decide +kernel), List.mem_of_getElem? (i := 620) (by decide +kernel)⟩
theorem lw_p10 : lw_okq (⟨"HookBoard$Reader", "takeSign", "(C)V"⟩, 8) := ⟨⟨by decide +kernel, by decide +kernel⟩, List.mem_of_getElem? (i := 387) (by decide +kernel), List.mem_of_getElem? (i := 623) (by decide +kernel), List.mem_of_getElem? (i := 624) (by decide +kernel)⟩
theorem lw_p11 : lw_okq (⟨"HookBoard$Reader", "isSign", "(C)Z"⟩, 8) := ⟨⟨by decide +kernel, by decide +kernel⟩, List.mem_of_getElem? (i := 387) (by decide +kernel), List.mem_of_getElem? (i := 627) (by decide +kernel), List.mem_of_getElem? (i := 628) (by decide +kernel)⟩
theorem lw_p12 : lw_okq (⟨"HookBoard$Reader", "readRule", "()V"⟩, 8) := ⟨⟨by decide +kernel, by decide +kernel⟩, List.mem_of_getElem? (i := 387) (by decide +kernel), List.mem_of_getElem? (i := 631) (by decide +kernel), List.mem_of_getElem? (i := 632) (by decide +kernel)⟩
theorem lw_p13 : lw_okq (⟨"HookBoard$Reader", "readSum", "(I)V"⟩, 8) := ⟨⟨by decide +kernel, by decide +kernel⟩, List.mem_of_getElem? (i := 387) (by decide +kernel), List.mem_of_getElem? (i := 635) (by decide +kernel), List.mem_of_getElem? (i := 636) (by decide +kernel)⟩
theorem lw_p14 : lw_okq (⟨"HookBoard$Reader", "readPart", "(I)V"⟩, 8) := ⟨⟨by decide +kernel, by decide +kernel⟩, List.mem_of_getElem? (i := 387) (by decide +kernel), List.mem_of_getElem? (i := 639) (by decide +kernel), List.mem_of_getElem? (i := 640) (by decide +kernel)⟩
theorem lw_p15 : lw_okq (⟨"HookBoard$Reader", "mayOpen", "(I)Z"⟩, 8) := ⟨⟨by decide +kernel, by decide +kernel⟩, List.mem_of_getElem? (i := 387) (by decide +kernel), List.mem_of_getElem? (i := 647) (by decide +kernel), List.mem_of_getElem? (i := 648) (by decide +kernel)⟩
def lw_privs_1 : List (MethodName × Nat) := [(⟨"HookBoard$Reader", "next", "()V"⟩, 8), (⟨"HookBoard$Reader", "ownWord", "()I"⟩, 8), (⟨"HookBoard$Reader", "fail", "(II)V"⟩, 8), (⟨"HookBoard$Reader", "isWord", "(I)Z"⟩, 8), (⟨"HookBoard$Reader", "readKind", "()V"⟩, 8), (⟨"HookBoard$Reader", "nameHere", "()J"⟩, 8), (⟨"HookBoard$Reader", "takeWord", "(I)V"⟩, 8), (⟨"HookBoard$Reader", "numberFor", "(I)I"⟩, 8), (⟨"HookBoard$Reader", "numeralHere", "()I"⟩, 8), (⟨"HookBoard$Reader", "takeEnd", "()V"⟩, 8), (⟨"HookBoard$Reader", "takeSign", "(C)V"⟩, 8), (⟨"HookBoard$Reader", "isSign", "(C)Z"⟩, 8), (⟨"HookBoard$Reader", "readRule", "()V"⟩, 8), (⟨"HookBoard$Reader", "readSum", "(I)V"⟩, 8), (⟨"HookBoard$Reader", "readPart", "(I)V"⟩, 8), (⟨"HookBoard$Reader", "mayOpen", "(I)Z"⟩, 8)]
theorem lw_r1 : ∀ q ∈ lw_privs_1, lw_okq q := List.forall_mem_cons.mpr ⟨lw_p0, List.forall_mem_cons.mpr ⟨lw_p1, List.forall_mem_cons.mpr ⟨lw_p2, List.forall_mem_cons.mpr ⟨lw_p3, List.forall_mem_cons.mpr ⟨lw_p4, List.forall_mem_cons.mpr ⟨lw_p5, List.forall_mem_cons.mpr ⟨lw_p6, List.forall_mem_cons.mpr ⟨lw_p7, List.forall_mem_cons.mpr ⟨lw_p8, List.forall_mem_cons.mpr ⟨lw_p9, List.forall_mem_cons.mpr ⟨lw_p10, List.forall_mem_cons.mpr ⟨lw_p11, List.forall_mem_cons.mpr ⟨lw_p12, List.forall_mem_cons.mpr ⟨lw_p13, List.forall_mem_cons.mpr ⟨lw_p14, List.forall_mem_cons.mpr ⟨lw_p15, fun _ h => absurd h List.not_mem_nil⟩⟩⟩⟩⟩⟩⟩⟩⟩⟩⟩⟩⟩⟩⟩⟩
theorem lw_p16 : lw_okq (⟨"HookBoard$Reader", "readPair", "(II)V"⟩, 8) := ⟨⟨by decide +kernel, by decide +kernel⟩, List.mem_of_getElem? (i := 387) (by decide +kernel), List.mem_of_getElem? (i := 651) (by decide +kernel), List.mem_of_getElem? (i := 652) (by decide +kernel)⟩
theorem lw_p17 : lw_okq (⟨"HookBoard$Reader", "operationHere", "()I"⟩, 8) := ⟨⟨by decide +kernel, by decide +kernel⟩, List.mem_of_getElem? (i := 387) (by decide +kernel), List.mem_of_getElem? (i := 655) (by decide +kernel), List.mem_of_getElem? (i := 656) (by decide +kernel)⟩
theorem lw_p18 : lw_okq (⟨"HookBoard$Reader", "readTest", "(I)V"⟩, 8) := ⟨⟨by decide +kernel, by decide +kernel⟩, List.mem_of_getElem? (i := 387) (by decide +kernel), List.mem_of_getElem? (i := 659) (by decide +kernel), List.mem_of_getElem? (i := 660) (by decide +kernel)⟩
theorem lw_p19 : lw_okq (⟨"HookBoard$Reader", "readFact", "(I)V"⟩, 8) := ⟨⟨by decide +kernel, by decide +kernel⟩, List.mem_of_getElem? (i := 387) (by decide +kernel), List.mem_of_getElem? (i := 663) (by decide +kernel), List.mem_of_getElem? (i := 664) (by decide +kernel)⟩
theorem lw_p20 : lw_okq (⟨"HookBoard$Reader", "readIs", "()V"⟩, 8) := ⟨⟨by decide +kernel, by decide +kernel⟩, List.mem_of_getElem? (i := 387) (by decide +kernel), List.mem_of_getElem? (i := 667) (by decide +kernel), List.mem_of_getElem? (i := 668) (by decide +kernel)⟩
theorem lw_p21 : lw_okq (⟨"HookBoard$Reader", "comparisonHere", "()I"⟩, 8) := ⟨⟨by decide +kernel, by decide +kernel⟩, List.mem_of_getElem? (i := 387) (by decide +kernel), List.mem_of_getElem? (i := 671) (by decide +kernel), List.mem_of_getElem? (i := 672) (by decide +kernel)⟩
theorem lw_p22 : lw_okq (⟨"HookBoard", "beginBoard", "(II)V"⟩, 15) := ⟨⟨by decide +kernel, by decide +kernel⟩, List.mem_of_getElem? (i := 20) (by decide +kernel), List.mem_of_getElem? (i := 675) (by decide +kernel), List.mem_of_getElem? (i := 676) (by decide +kernel)⟩
theorem lw_p23 : lw_okq (⟨"HookBoard", "isCell", "(I)Z"⟩, 15) := ⟨⟨by decide +kernel, by decide +kernel⟩, List.mem_of_getElem? (i := 20) (by decide +kernel), List.mem_of_getElem? (i := 695) (by decide +kernel), List.mem_of_getElem? (i := 696) (by decide +kernel)⟩
theorem lw_p24 : lw_okq (⟨"HookBoard", "broughtUp", "()LHookBoard$Known;"⟩, 15) := ⟨⟨by decide +kernel, by decide +kernel⟩, List.mem_of_getElem? (i := 20) (by decide +kernel), List.mem_of_getElem? (i := 739) (by decide +kernel), List.mem_of_getElem? (i := 740) (by decide +kernel)⟩
theorem lw_p25 : lw_okq (⟨"HookBoard", "toldAct", "()I"⟩, 15) := ⟨⟨by decide +kernel, by decide +kernel⟩, List.mem_of_getElem? (i := 20) (by decide +kernel), List.mem_of_getElem? (i := 743) (by decide +kernel), List.mem_of_getElem? (i := 744) (by decide +kernel)⟩
theorem lw_p26 : lw_okq (⟨"HookBoard$Known", "rinse", "()V"⟩, 12) := ⟨⟨by decide +kernel, by decide +kernel⟩, List.mem_of_getElem? (i := 82) (by decide +kernel), List.mem_of_getElem? (i := 760) (by decide +kernel), List.mem_of_getElem? (i := 761) (by decide +kernel)⟩
theorem lw_p27 : lw_okq (⟨"HookBoard$Known", "tell", "(LHookBoard$Script;III)V"⟩, 12) := ⟨⟨by decide +kernel, by decide +kernel⟩, List.mem_of_getElem? (i := 82) (by decide +kernel), List.mem_of_getElem? (i := 790) (by decide +kernel), List.mem_of_getElem? (i := 791) (by decide +kernel)⟩
theorem lw_p28 : lw_okq (⟨"HookBoard$Script", "run", "(II)I"⟩, 13) := ⟨⟨by decide +kernel, by decide +kernel⟩, List.mem_of_getElem? (i := 328) (by decide +kernel), List.mem_of_getElem? (i := 798) (by decide +kernel), List.mem_of_getElem? (i := 799) (by decide +kernel)⟩
theorem lw_p29 : lw_okq (⟨"HookBoard$Script", "told", "(II)I"⟩, 13) := ⟨⟨by decide +kernel, by decide +kernel⟩, List.mem_of_getElem? (i := 328) (by decide +kernel), List.mem_of_getElem? (i := 810) (by decide +kernel), List.mem_of_getElem? (i := 811) (by decide +kernel)⟩
theorem lw_p30 : lw_okq (⟨"HookBoard$Pull", "insert", "(IIII)V"⟩, 7) := ⟨⟨by decide +kernel, by decide +kernel⟩, List.mem_of_getElem? (i := 132) (by decide +kernel), List.mem_of_getElem? (i := 837) (by decide +kernel), List.mem_of_getElem? (i := 838) (by decide +kernel)⟩
theorem lw_p31 : lw_okq (⟨"HookBoard$Known", "tire", "(LHookBoard$Script;I)V"⟩, 12) := ⟨⟨by decide +kernel, by decide +kernel⟩, List.mem_of_getElem? (i := 82) (by decide +kernel), List.mem_of_getElem? (i := 847) (by decide +kernel), List.mem_of_getElem? (i := 848) (by decide +kernel)⟩
def lw_privs_2 : List (MethodName × Nat) := [(⟨"HookBoard$Reader", "readPair", "(II)V"⟩, 8), (⟨"HookBoard$Reader", "operationHere", "()I"⟩, 8), (⟨"HookBoard$Reader", "readTest", "(I)V"⟩, 8), (⟨"HookBoard$Reader", "readFact", "(I)V"⟩, 8), (⟨"HookBoard$Reader", "readIs", "()V"⟩, 8), (⟨"HookBoard$Reader", "comparisonHere", "()I"⟩, 8), (⟨"HookBoard", "beginBoard", "(II)V"⟩, 15), (⟨"HookBoard", "isCell", "(I)Z"⟩, 15), (⟨"HookBoard", "broughtUp", "()LHookBoard$Known;"⟩, 15), (⟨"HookBoard", "toldAct", "()I"⟩, 15), (⟨"HookBoard$Known", "rinse", "()V"⟩, 12), (⟨"HookBoard$Known", "tell", "(LHookBoard$Script;III)V"⟩, 12), (⟨"HookBoard$Script", "run", "(II)I"⟩, 13), (⟨"HookBoard$Script", "told", "(II)I"⟩, 13), (⟨"HookBoard$Pull", "insert", "(IIII)V"⟩, 7), (⟨"HookBoard$Known", "tire", "(LHookBoard$Script;I)V"⟩, 12)]
theorem lw_r2 : ∀ q ∈ lw_privs_2, lw_okq q := List.forall_mem_cons.mpr ⟨lw_p16, List.forall_mem_cons.mpr ⟨lw_p17, List.forall_mem_cons.mpr ⟨lw_p18, List.forall_mem_cons.mpr ⟨lw_p19, List.forall_mem_cons.mpr ⟨lw_p20, List.forall_mem_cons.mpr ⟨lw_p21, List.forall_mem_cons.mpr ⟨lw_p22, List.forall_mem_cons.mpr ⟨lw_p23, List.forall_mem_cons.mpr ⟨lw_p24, List.forall_mem_cons.mpr ⟨lw_p25, List.forall_mem_cons.mpr ⟨lw_p26, List.forall_mem_cons.mpr ⟨lw_p27, List.forall_mem_cons.mpr ⟨lw_p28, List.forall_mem_cons.mpr ⟨lw_p29, List.forall_mem_cons.mpr ⟨lw_p30, List.forall_mem_cons.mpr ⟨lw_p31, fun _ h => absurd h List.not_mem_nil⟩⟩⟩⟩⟩⟩⟩⟩⟩⟩⟩⟩⟩⟩⟩⟩
theorem lw_p32 : lw_okq (⟨"HookBoard$Known", "gather", "(LHookBoard$Script;III)V"⟩, 12) := ⟨⟨by decide +kernel, by decide +kernel⟩, List.mem_of_getElem? (i := 82) (by decide +kernel), List.mem_of_getElem? (i := 851) (by decide +kernel), List.mem_of_getElem? (i := 852) (by decide +kernel)⟩
theorem lw_p33 : lw_okq (⟨"HookBoard", "isStep", "(I)Z"⟩, 15) := ⟨⟨by decide +kernel, by decide +kernel⟩, List.mem_of_getElem? (i := 20) (by decide +kernel), List.mem_of_getElem? (i := 923) (by decide +kernel), List.mem_of_getElem? (i := 924) (by decide +kernel)⟩
theorem lw_p34 : lw_okq (⟨"HookBoard$Peel", "open", "(II)V"⟩, 8) := ⟨⟨by decide +kernel, by decide +kernel⟩, List.mem_of_getElem? (i := 238) (by decide +kernel), List.mem_of_getElem? (i := 962) (by decide +kernel), List.mem_of_getElem? (i := 963) (by decide +kernel)⟩
theorem lw_p35 : lw_okq (⟨"HookBoard$Patches", "holdsAll", "(I)Z"⟩, 14) := ⟨⟨by decide +kernel, by decide +kernel⟩, List.mem_of_getElem? (i := 275) (by decide +kernel), List.mem_of_getElem? (i := 1003) (by decide +kernel), List.mem_of_getElem? (i := 1004) (by decide +kernel)⟩
theorem lw_p36 : lw_okq (⟨"HookBoard$Patches", "holds", "(II)Z"⟩, 14) := ⟨⟨by decide +kernel, by decide +kernel⟩, List.mem_of_getElem? (i := 275) (by decide +kernel), List.mem_of_getElem? (i := 1007) (by decide +kernel), List.mem_of_getElem? (i := 1008) (by decide +kernel)⟩
theorem lw_p37 : lw_okq (⟨"HookBoard$Patches", "search", "(IIIII)V"⟩, 14) := ⟨⟨by decide +kernel, by decide +kernel⟩, List.mem_of_getElem? (i := 275) (by decide +kernel), List.mem_of_getElem? (i := 1015) (by decide +kernel), List.mem_of_getElem? (i := 1016) (by decide +kernel)⟩
theorem lw_p38 : lw_okq (⟨"HookBoardModel", "look", "()I"⟩, 105) := ⟨⟨by decide +kernel, by decide +kernel⟩, List.mem_of_getElem? (i := 1046) (by decide +kernel), List.mem_of_getElem? (i := 1386) (by decide +kernel), List.mem_of_getElem? (i := 1387) (by decide +kernel)⟩
theorem lw_p39 : lw_okq (⟨"HookBoardModel", "statement", "()V"⟩, 105) := ⟨⟨by decide +kernel, by decide +kernel⟩, List.mem_of_getElem? (i := 1046) (by decide +kernel), List.mem_of_getElem? (i := 1390) (by decide +kernel), List.mem_of_getElem? (i := 1391) (by decide +kernel)⟩
theorem lw_p40 : lw_okq (⟨"HookBoardModel", "fail", "(II)V"⟩, 105) := ⟨⟨by decide +kernel, by decide +kernel⟩, List.mem_of_getElem? (i := 1046) (by decide +kernel), List.mem_of_getElem? (i := 1394) (by decide +kernel), List.mem_of_getElem? (i := 1395) (by decide +kernel)⟩
theorem lw_p41 : lw_okq (⟨"HookBoardModel", "takes", "([C)Z"⟩, 105) := ⟨⟨by decide +kernel, by decide +kernel⟩, List.mem_of_getElem? (i := 1046) (by decide +kernel), List.mem_of_getElem? (i := 1398) (by decide +kernel), List.mem_of_getElem? (i := 1399) (by decide +kernel)⟩
theorem lw_p42 : lw_okq (⟨"HookBoardModel", "isHere", "([C)Z"⟩, 105) := ⟨⟨by decide +kernel, by decide +kernel⟩, List.mem_of_getElem? (i := 1046) (by decide +kernel), List.mem_of_getElem? (i := 1402) (by decide +kernel), List.mem_of_getElem? (i := 1403) (by decide +kernel)⟩
theorem lw_p43 : lw_okq (⟨"HookBoardModel", "kindStatement", "()V"⟩, 105) := ⟨⟨by decide +kernel, by decide +kernel⟩, List.mem_of_getElem? (i := 1046) (by decide +kernel), List.mem_of_getElem? (i := 1409) (by decide +kernel), List.mem_of_getElem? (i := 1410) (by decide +kernel)⟩
theorem lw_p44 : lw_okq (⟨"HookBoardModel", "name", "()J"⟩, 105) := ⟨⟨by decide +kernel, by decide +kernel⟩, List.mem_of_getElem? (i := 1046) (by decide +kernel), List.mem_of_getElem? (i := 1413) (by decide +kernel), List.mem_of_getElem? (i := 1414) (by decide +kernel)⟩
theorem lw_p45 : lw_okq (⟨"HookBoardModel", "isOwnHere", "()Z"⟩, 105) := ⟨⟨by decide +kernel, by decide +kernel⟩, List.mem_of_getElem? (i := 1046) (by decide +kernel), List.mem_of_getElem? (i := 1417) (by decide +kernel), List.mem_of_getElem? (i := 1418) (by decide +kernel)⟩
theorem lw_p46 : lw_okq (⟨"HookBoardModel", "kindOf", "(J)I"⟩, 105) := ⟨⟨by decide +kernel, by decide +kernel⟩, List.mem_of_getElem? (i := 1046) (by decide +kernel), List.mem_of_getElem? (i := 1423) (by decide +kernel), List.mem_of_getElem? (i := 1424) (by decide +kernel)⟩
theorem lw_p47 : lw_okq (⟨"HookBoardModel", "asks", "([C)V"⟩, 105) := ⟨⟨by decide +kernel, by decide +kernel⟩, List.mem_of_getElem? (i := 1046) (by decide +kernel), List.mem_of_getElem? (i := 1427) (by decide +kernel), List.mem_of_getElem? (i := 1428) (by decide +kernel)⟩
def lw_privs_3 : List (MethodName × Nat) := [(⟨"HookBoard$Known", "gather", "(LHookBoard$Script;III)V"⟩, 12), (⟨"HookBoard", "isStep", "(I)Z"⟩, 15), (⟨"HookBoard$Peel", "open", "(II)V"⟩, 8), (⟨"HookBoard$Patches", "holdsAll", "(I)Z"⟩, 14), (⟨"HookBoard$Patches", "holds", "(II)Z"⟩, 14), (⟨"HookBoard$Patches", "search", "(IIIII)V"⟩, 14), (⟨"HookBoardModel", "look", "()I"⟩, 105), (⟨"HookBoardModel", "statement", "()V"⟩, 105), (⟨"HookBoardModel", "fail", "(II)V"⟩, 105), (⟨"HookBoardModel", "takes", "([C)Z"⟩, 105), (⟨"HookBoardModel", "isHere", "([C)Z"⟩, 105), (⟨"HookBoardModel", "kindStatement", "()V"⟩, 105), (⟨"HookBoardModel", "name", "()J"⟩, 105), (⟨"HookBoardModel", "isOwnHere", "()Z"⟩, 105), (⟨"HookBoardModel", "kindOf", "(J)I"⟩, 105), (⟨"HookBoardModel", "asks", "([C)V"⟩, 105)]
theorem lw_r3 : ∀ q ∈ lw_privs_3, lw_okq q := List.forall_mem_cons.mpr ⟨lw_p32, List.forall_mem_cons.mpr ⟨lw_p33, List.forall_mem_cons.mpr ⟨lw_p34, List.forall_mem_cons.mpr ⟨lw_p35, List.forall_mem_cons.mpr ⟨lw_p36, List.forall_mem_cons.mpr ⟨lw_p37, List.forall_mem_cons.mpr ⟨lw_p38, List.forall_mem_cons.mpr ⟨lw_p39, List.forall_mem_cons.mpr ⟨lw_p40, List.forall_mem_cons.mpr ⟨lw_p41, List.forall_mem_cons.mpr ⟨lw_p42, List.forall_mem_cons.mpr ⟨lw_p43, List.forall_mem_cons.mpr ⟨lw_p44, List.forall_mem_cons.mpr ⟨lw_p45, List.forall_mem_cons.mpr ⟨lw_p46, List.forall_mem_cons.mpr ⟨lw_p47, fun _ h => absurd h List.not_mem_nil⟩⟩⟩⟩⟩⟩⟩⟩⟩⟩⟩⟩⟩⟩⟩⟩
theorem lw_p48 : lw_okq (⟨"HookBoardModel", "number", "(II)I"⟩, 105) := ⟨⟨by decide +kernel, by decide +kernel⟩, List.mem_of_getElem? (i := 1046) (by decide +kernel), List.mem_of_getElem? (i := 1431) (by decide +kernel), List.mem_of_getElem? (i := 1432) (by decide +kernel)⟩
theorem lw_p49 : lw_okq (⟨"HookBoardModel", "sums", "()V"⟩, 105) := ⟨⟨by decide +kernel, by decide +kernel⟩, List.mem_of_getElem? (i := 1046) (by decide +kernel), List.mem_of_getElem? (i := 1438) (by decide +kernel), List.mem_of_getElem? (i := 1439) (by decide +kernel)⟩
theorem lw_p50 : lw_okq (⟨"HookBoardModel", "onePart", "()V"⟩, 105) := ⟨⟨by decide +kernel, by decide +kernel⟩, List.mem_of_getElem? (i := 1046) (by decide +kernel), List.mem_of_getElem? (i := 1442) (by decide +kernel), List.mem_of_getElem? (i := 1443) (by decide +kernel)⟩
theorem lw_p51 : lw_okq (⟨"HookBoardModel", "opensOne", "(II)V"⟩, 105) := ⟨⟨by decide +kernel, by decide +kernel⟩, List.mem_of_getElem? (i := 1046) (by decide +kernel), List.mem_of_getElem? (i := 1446) (by decide +kernel), List.mem_of_getElem? (i := 1447) (by decide +kernel)⟩
theorem lw_p52 : lw_okq (⟨"HookBoardModel", "asksSign", "(I)V"⟩, 105) := ⟨⟨by decide +kernel, by decide +kernel⟩, List.mem_of_getElem? (i := 1046) (by decide +kernel), List.mem_of_getElem? (i := 1450) (by decide +kernel), List.mem_of_getElem? (i := 1451) (by decide +kernel)⟩
theorem lw_p53 : lw_okq (⟨"HookBoardModel", "takesSign", "(I)Z"⟩, 105) := ⟨⟨by decide +kernel, by decide +kernel⟩, List.mem_of_getElem? (i := 1046) (by decide +kernel), List.mem_of_getElem? (i := 1454) (by decide +kernel), List.mem_of_getElem? (i := 1455) (by decide +kernel)⟩
theorem lw_p54 : lw_okq (⟨"HookBoardModel", "code", "(I)V"⟩, 105) := ⟨⟨by decide +kernel, by decide +kernel⟩, List.mem_of_getElem? (i := 1046) (by decide +kernel), List.mem_of_getElem? (i := 1458) (by decide +kernel), List.mem_of_getElem? (i := 1459) (by decide +kernel)⟩
theorem lw_p55 : lw_okq (⟨"HookBoardModel", "goesOn", "()Z"⟩, 105) := ⟨⟨by decide +kernel, by decide +kernel⟩, List.mem_of_getElem? (i := 1046) (by decide +kernel), List.mem_of_getElem? (i := 1462) (by decide +kernel), List.mem_of_getElem? (i := 1463) (by decide +kernel)⟩
theorem lw_p56 : lw_okq (⟨"HookBoardModel", "mark", "()I"⟩, 105) := ⟨⟨by decide +kernel, by decide +kernel⟩, List.mem_of_getElem? (i := 1046) (by decide +kernel), List.mem_of_getElem? (i := 1466) (by decide +kernel), List.mem_of_getElem? (i := 1467) (by decide +kernel)⟩
theorem lw_p57 : lw_okq (⟨"HookBoardModel", "isMark", "(I)Z"⟩, 105) := ⟨⟨by decide +kernel, by decide +kernel⟩, List.mem_of_getElem? (i := 1046) (by decide +kernel), List.mem_of_getElem? (i := 1470) (by decide +kernel), List.mem_of_getElem? (i := 1471) (by decide +kernel)⟩
theorem lw_p58 : lw_okq (⟨"HookBoardModel", "dropsToMark", "()V"⟩, 105) := ⟨⟨by decide +kernel, by decide +kernel⟩, List.mem_of_getElem? (i := 1046) (by decide +kernel), List.mem_of_getElem? (i := 1474) (by decide +kernel), List.mem_of_getElem? (i := 1475) (by decide +kernel)⟩
theorem lw_p59 : lw_okq (⟨"HookBoardModel", "drops", "()V"⟩, 105) := ⟨⟨by decide +kernel, by decide +kernel⟩, List.mem_of_getElem? (i := 1046) (by decide +kernel), List.mem_of_getElem? (i := 1478) (by decide +kernel), List.mem_of_getElem? (i := 1479) (by decide +kernel)⟩
theorem lw_p60 : lw_okq (⟨"HookBoardModel", "isOn", "(I)Z"⟩, 105) := ⟨⟨by decide +kernel, by decide +kernel⟩, List.mem_of_getElem? (i := 1046) (by decide +kernel), List.mem_of_getElem? (i := 1482) (by decide +kernel), List.mem_of_getElem? (i := 1483) (by decide +kernel)⟩
theorem lw_p61 : lw_okq (⟨"HookBoardModel", "test", "()V"⟩, 105) := ⟨⟨by decide +kernel, by decide +kernel⟩, List.mem_of_getElem? (i := 1046) (by decide +kernel), List.mem_of_getElem? (i := 1486) (by decide +kernel), List.mem_of_getElem? (i := 1487) (by decide +kernel)⟩
theorem lw_p62 : lw_okq (⟨"HookBoardModel", "fact", "()V"⟩, 105) := ⟨⟨by decide +kernel, by decide +kernel⟩, List.mem_of_getElem? (i := 1046) (by decide +kernel), List.mem_of_getElem? (i := 1490) (by decide +kernel), List.mem_of_getElem? (i := 1491) (by decide +kernel)⟩
theorem lw_p63 : lw_okq (⟨"HookBoardModel", "kindTold", "()I"⟩, 105) := ⟨⟨by decide +kernel, by decide +kernel⟩, List.mem_of_getElem? (i := 1046) (by decide +kernel), List.mem_of_getElem? (i := 1494) (by decide +kernel), List.mem_of_getElem? (i := 1495) (by decide +kernel)⟩
def lw_privs_4 : List (MethodName × Nat) := [(⟨"HookBoardModel", "number", "(II)I"⟩, 105), (⟨"HookBoardModel", "sums", "()V"⟩, 105), (⟨"HookBoardModel", "onePart", "()V"⟩, 105), (⟨"HookBoardModel", "opensOne", "(II)V"⟩, 105), (⟨"HookBoardModel", "asksSign", "(I)V"⟩, 105), (⟨"HookBoardModel", "takesSign", "(I)Z"⟩, 105), (⟨"HookBoardModel", "code", "(I)V"⟩, 105), (⟨"HookBoardModel", "goesOn", "()Z"⟩, 105), (⟨"HookBoardModel", "mark", "()I"⟩, 105), (⟨"HookBoardModel", "isMark", "(I)Z"⟩, 105), (⟨"HookBoardModel", "dropsToMark", "()V"⟩, 105), (⟨"HookBoardModel", "drops", "()V"⟩, 105), (⟨"HookBoardModel", "isOn", "(I)Z"⟩, 105), (⟨"HookBoardModel", "test", "()V"⟩, 105), (⟨"HookBoardModel", "fact", "()V"⟩, 105), (⟨"HookBoardModel", "kindTold", "()I"⟩, 105)]
theorem lw_r4 : ∀ q ∈ lw_privs_4, lw_okq q := List.forall_mem_cons.mpr ⟨lw_p48, List.forall_mem_cons.mpr ⟨lw_p49, List.forall_mem_cons.mpr ⟨lw_p50, List.forall_mem_cons.mpr ⟨lw_p51, List.forall_mem_cons.mpr ⟨lw_p52, List.forall_mem_cons.mpr ⟨lw_p53, List.forall_mem_cons.mpr ⟨lw_p54, List.forall_mem_cons.mpr ⟨lw_p55, List.forall_mem_cons.mpr ⟨lw_p56, List.forall_mem_cons.mpr ⟨lw_p57, List.forall_mem_cons.mpr ⟨lw_p58, List.forall_mem_cons.mpr ⟨lw_p59, List.forall_mem_cons.mpr ⟨lw_p60, List.forall_mem_cons.mpr ⟨lw_p61, List.forall_mem_cons.mpr ⟨lw_p62, List.forall_mem_cons.mpr ⟨lw_p63, fun _ h => absurd h List.not_mem_nil⟩⟩⟩⟩⟩⟩⟩⟩⟩⟩⟩⟩⟩⟩⟩⟩
theorem lw_p64 : lw_okq (⟨"HookBoardModel", "dropsNots", "()V"⟩, 105) := ⟨⟨by decide +kernel, by decide +kernel⟩, List.mem_of_getElem? (i := 1046) (by decide +kernel), List.mem_of_getElem? (i := 1498) (by decide +kernel), List.mem_of_getElem? (i := 1499) (by decide +kernel)⟩
theorem lw_p65 : lw_okq (⟨"HookBoardModel", "goesOnTest", "()Z"⟩, 105) := ⟨⟨by decide +kernel, by decide +kernel⟩, List.mem_of_getElem? (i := 1046) (by decide +kernel), List.mem_of_getElem? (i := 1502) (by decide +kernel), List.mem_of_getElem? (i := 1503) (by decide +kernel)⟩
theorem lw_p66 : lw_okq (⟨"HookBoardModel", "hasSquare", "()Z"⟩, 105) := ⟨⟨by decide +kernel, by decide +kernel⟩, List.mem_of_getElem? (i := 1046) (by decide +kernel), List.mem_of_getElem? (i := 1506) (by decide +kernel), List.mem_of_getElem? (i := 1507) (by decide +kernel)⟩
theorem lw_p67 : lw_okq (⟨"HookBoardModel", "stands", "()V"⟩, 105) := ⟨⟨by decide +kernel, by decide +kernel⟩, List.mem_of_getElem? (i := 1046) (by decide +kernel), List.mem_of_getElem? (i := 1510) (by decide +kernel), List.mem_of_getElem? (i := 1511) (by decide +kernel)⟩
theorem lw_p68 : lw_okq (⟨"HookBoardModel", "isCell", "(I)Z"⟩, 105) := ⟨⟨by decide +kernel, by decide +kernel⟩, List.mem_of_getElem? (i := 1046) (by decide +kernel), List.mem_of_getElem? (i := 1526) (by decide +kernel), List.mem_of_getElem? (i := 1527) (by decide +kernel)⟩
theorem lw_p69 : lw_okq (⟨"HookBoardModel", "cells", "()I"⟩, 105) := ⟨⟨by decide +kernel, by decide +kernel⟩, List.mem_of_getElem? (i := 1046) (by decide +kernel), List.mem_of_getElem? (i := 1530) (by decide +kernel), List.mem_of_getElem? (i := 1531) (by decide +kernel)⟩
theorem lw_p70 : lw_okq (⟨"HookBoardModel", "act", "(IIIII)I"⟩, 105) := ⟨⟨by decide +kernel, by decide +kernel⟩, List.mem_of_getElem? (i := 1046) (by decide +kernel), List.mem_of_getElem? (i := 1535) (by decide +kernel), List.mem_of_getElem? (i := 1536) (by decide +kernel)⟩
theorem lw_p71 : lw_okq (⟨"HookBoardModel", "goes", "()V"⟩, 105) := ⟨⟨by decide +kernel, by decide +kernel⟩, List.mem_of_getElem? (i := 1046) (by decide +kernel), List.mem_of_getElem? (i := 1569) (by decide +kernel), List.mem_of_getElem? (i := 1570) (by decide +kernel)⟩
theorem lw_p72 : lw_okq (⟨"HookBoardModel", "now", "()I"⟩, 105) := ⟨⟨by decide +kernel, by decide +kernel⟩, List.mem_of_getElem? (i := 1046) (by decide +kernel), List.mem_of_getElem? (i := 1573) (by decide +kernel), List.mem_of_getElem? (i := 1574) (by decide +kernel)⟩
theorem lw_p73 : lw_okq (⟨"HookBoardModel", "isKnown", "(II)Z"⟩, 105) := ⟨⟨by decide +kernel, by decide +kernel⟩, List.mem_of_getElem? (i := 1046) (by decide +kernel), List.mem_of_getElem? (i := 1577) (by decide +kernel), List.mem_of_getElem? (i := 1578) (by decide +kernel)⟩
theorem lw_p74 : lw_okq (⟨"HookBoardModel", "does", "(I)V"⟩, 105) := ⟨⟨by decide +kernel, by decide +kernel⟩, List.mem_of_getElem? (i := 1046) (by decide +kernel), List.mem_of_getElem? (i := 1581) (by decide +kernel), List.mem_of_getElem? (i := 1582) (by decide +kernel)⟩
theorem lw_p75 : lw_okq (⟨"HookBoardModel", "round", "(IIJ)J"⟩, 105) := ⟨⟨by decide +kernel, by decide +kernel⟩, List.mem_of_getElem? (i := 1046) (by decide +kernel), List.mem_of_getElem? (i := 1585) (by decide +kernel), List.mem_of_getElem? (i := 1586) (by decide +kernel)⟩
theorem lw_p76 : lw_okq (⟨"HookBoardModel", "draws", "(IIJ)J"⟩, 105) := ⟨⟨by decide +kernel, by decide +kernel⟩, List.mem_of_getElem? (i := 1046) (by decide +kernel), List.mem_of_getElem? (i := 1589) (by decide +kernel), List.mem_of_getElem? (i := 1590) (by decide +kernel)⟩
theorem lw_p77 : lw_okq (⟨"HookBoardModel", "chanceOf", "(III)I"⟩, 105) := ⟨⟨by decide +kernel, by decide +kernel⟩, List.mem_of_getElem? (i := 1046) (by decide +kernel), List.mem_of_getElem? (i := 1598) (by decide +kernel), List.mem_of_getElem? (i := 1599) (by decide +kernel)⟩
theorem lw_p78 : lw_okq (⟨"HookBoardModel", "tellsRule", "(IIII)J"⟩, 105) := ⟨⟨by decide +kernel, by decide +kernel⟩, List.mem_of_getElem? (i := 1046) (by decide +kernel), List.mem_of_getElem? (i := 1602) (by decide +kernel), List.mem_of_getElem? (i := 1603) (by decide +kernel)⟩
theorem lw_p79 : lw_okq (⟨"HookBoardModel", "tells", "(IIIII)J"⟩, 105) := ⟨⟨by decide +kernel, by decide +kernel⟩, List.mem_of_getElem? (i := 1046) (by decide +kernel), List.mem_of_getElem? (i := 1606) (by decide +kernel), List.mem_of_getElem? (i := 1607) (by decide +kernel)⟩
def lw_privs_5 : List (MethodName × Nat) := [(⟨"HookBoardModel", "dropsNots", "()V"⟩, 105), (⟨"HookBoardModel", "goesOnTest", "()Z"⟩, 105), (⟨"HookBoardModel", "hasSquare", "()Z"⟩, 105), (⟨"HookBoardModel", "stands", "()V"⟩, 105), (⟨"HookBoardModel", "isCell", "(I)Z"⟩, 105), (⟨"HookBoardModel", "cells", "()I"⟩, 105), (⟨"HookBoardModel", "act", "(IIIII)I"⟩, 105), (⟨"HookBoardModel", "goes", "()V"⟩, 105), (⟨"HookBoardModel", "now", "()I"⟩, 105), (⟨"HookBoardModel", "isKnown", "(II)Z"⟩, 105), (⟨"HookBoardModel", "does", "(I)V"⟩, 105), (⟨"HookBoardModel", "round", "(IIJ)J"⟩, 105), (⟨"HookBoardModel", "draws", "(IIJ)J"⟩, 105), (⟨"HookBoardModel", "chanceOf", "(III)I"⟩, 105), (⟨"HookBoardModel", "tellsRule", "(IIII)J"⟩, 105), (⟨"HookBoardModel", "tells", "(IIIII)J"⟩, 105)]
theorem lw_r5 : ∀ q ∈ lw_privs_5, lw_okq q := List.forall_mem_cons.mpr ⟨lw_p64, List.forall_mem_cons.mpr ⟨lw_p65, List.forall_mem_cons.mpr ⟨lw_p66, List.forall_mem_cons.mpr ⟨lw_p67, List.forall_mem_cons.mpr ⟨lw_p68, List.forall_mem_cons.mpr ⟨lw_p69, List.forall_mem_cons.mpr ⟨lw_p70, List.forall_mem_cons.mpr ⟨lw_p71, List.forall_mem_cons.mpr ⟨lw_p72, List.forall_mem_cons.mpr ⟨lw_p73, List.forall_mem_cons.mpr ⟨lw_p74, List.forall_mem_cons.mpr ⟨lw_p75, List.forall_mem_cons.mpr ⟨lw_p76, List.forall_mem_cons.mpr ⟨lw_p77, List.forall_mem_cons.mpr ⟨lw_p78, List.forall_mem_cons.mpr ⟨lw_p79, fun _ h => absurd h List.not_mem_nil⟩⟩⟩⟩⟩⟩⟩⟩⟩⟩⟩⟩⟩⟩⟩⟩
theorem lw_p80 : lw_okq (⟨"HookBoardModel", "puts", "(J)V"⟩, 105) := ⟨⟨by decide +kernel, by decide +kernel⟩, List.mem_of_getElem? (i := 1046) (by decide +kernel), List.mem_of_getElem? (i := 1610) (by decide +kernel), List.mem_of_getElem? (i := 1611) (by decide +kernel)⟩
theorem lw_p81 : lw_okq (⟨"HookBoardModel", "joins", "(I)V"⟩, 105) := ⟨⟨by decide +kernel, by decide +kernel⟩, List.mem_of_getElem? (i := 1046) (by decide +kernel), List.mem_of_getElem? (i := 1614) (by decide +kernel), List.mem_of_getElem? (i := 1615) (by decide +kernel)⟩
theorem lw_p82 : lw_okq (⟨"HookBoardModel", "takes", "()V"⟩, 105) := ⟨⟨by decide +kernel, by decide +kernel⟩, List.mem_of_getElem? (i := 1046) (by decide +kernel), List.mem_of_getElem? (i := 1626) (by decide +kernel), List.mem_of_getElem? (i := 1627) (by decide +kernel)⟩
theorem lw_p83 : lw_okq (⟨"HookBoardModel", "stiffOf", "(I)I"⟩, 105) := ⟨⟨by decide +kernel, by decide +kernel⟩, List.mem_of_getElem? (i := 1046) (by decide +kernel), List.mem_of_getElem? (i := 1630) (by decide +kernel), List.mem_of_getElem? (i := 1631) (by decide +kernel)⟩
theorem lw_p84 : lw_okq (⟨"HookBoardModel", "pulls", "()V"⟩, 105) := ⟨⟨by decide +kernel, by decide +kernel⟩, List.mem_of_getElem? (i := 1046) (by decide +kernel), List.mem_of_getElem? (i := 1634) (by decide +kernel), List.mem_of_getElem? (i := 1635) (by decide +kernel)⟩
theorem lw_p85 : lw_okq (⟨"HookBoardModel", "isBefore", "(II)Z"⟩, 105) := ⟨⟨by decide +kernel, by decide +kernel⟩, List.mem_of_getElem? (i := 1046) (by decide +kernel), List.mem_of_getElem? (i := 1638) (by decide +kernel), List.mem_of_getElem? (i := 1639) (by decide +kernel)⟩
theorem lw_p86 : lw_okq (⟨"HookBoardModel", "above", "(I)J"⟩, 105) := ⟨⟨by decide +kernel, by decide +kernel⟩, List.mem_of_getElem? (i := 1046) (by decide +kernel), List.mem_of_getElem? (i := 1642) (by decide +kernel), List.mem_of_getElem? (i := 1643) (by decide +kernel)⟩
theorem lw_p87 : lw_okq (⟨"HookBoardModel", "greatestStep", "()J"⟩, 105) := ⟨⟨by decide +kernel, by decide +kernel⟩, List.mem_of_getElem? (i := 1046) (by decide +kernel), List.mem_of_getElem? (i := 1646) (by decide +kernel), List.mem_of_getElem? (i := 1647) (by decide +kernel)⟩
theorem lw_p88 : lw_okq (⟨"HookBoardModel", "loadAt", "(I)J"⟩, 105) := ⟨⟨by decide +kernel, by decide +kernel⟩, List.mem_of_getElem? (i := 1046) (by decide +kernel), List.mem_of_getElem? (i := 1650) (by decide +kernel), List.mem_of_getElem? (i := 1651) (by decide +kernel)⟩
theorem lw_p89 : lw_okq (⟨"HookBoardModel", "holdOf", "(I)I"⟩, 105) := ⟨⟨by decide +kernel, by decide +kernel⟩, List.mem_of_getElem? (i := 1046) (by decide +kernel), List.mem_of_getElem? (i := 1718) (by decide +kernel), List.mem_of_getElem? (i := 1719) (by decide +kernel)⟩
theorem lw_p90 : lw_okq (⟨"HookBoardModel", "holdsForce", "(III)Z"⟩, 105) := ⟨⟨by decide +kernel, by decide +kernel⟩, List.mem_of_getElem? (i := 1046) (by decide +kernel), List.mem_of_getElem? (i := 1749) (by decide +kernel), List.mem_of_getElem? (i := 1750) (by decide +kernel)⟩
def lw_privs_6 : List (MethodName × Nat) := [(⟨"HookBoardModel", "puts", "(J)V"⟩, 105), (⟨"HookBoardModel", "joins", "(I)V"⟩, 105), (⟨"HookBoardModel", "takes", "()V"⟩, 105), (⟨"HookBoardModel", "stiffOf", "(I)I"⟩, 105), (⟨"HookBoardModel", "pulls", "()V"⟩, 105), (⟨"HookBoardModel", "isBefore", "(II)Z"⟩, 105), (⟨"HookBoardModel", "above", "(I)J"⟩, 105), (⟨"HookBoardModel", "greatestStep", "()J"⟩, 105), (⟨"HookBoardModel", "loadAt", "(I)J"⟩, 105), (⟨"HookBoardModel", "holdOf", "(I)I"⟩, 105), (⟨"HookBoardModel", "holdsForce", "(III)Z"⟩, 105)]
theorem lw_r6 : ∀ q ∈ lw_privs_6, lw_okq q := List.forall_mem_cons.mpr ⟨lw_p80, List.forall_mem_cons.mpr ⟨lw_p81, List.forall_mem_cons.mpr ⟨lw_p82, List.forall_mem_cons.mpr ⟨lw_p83, List.forall_mem_cons.mpr ⟨lw_p84, List.forall_mem_cons.mpr ⟨lw_p85, List.forall_mem_cons.mpr ⟨lw_p86, List.forall_mem_cons.mpr ⟨lw_p87, List.forall_mem_cons.mpr ⟨lw_p88, List.forall_mem_cons.mpr ⟨lw_p89, List.forall_mem_cons.mpr ⟨lw_p90, fun _ h => absurd h List.not_mem_nil⟩⟩⟩⟩⟩⟩⟩⟩⟩⟩⟩
def lw_privs : List (MethodName × Nat) := lw_privs_1 ++ (lw_privs_2 ++ (lw_privs_3 ++ (lw_privs_4 ++ (lw_privs_5 ++ (lw_privs_6)))))
def lw_tbl : List Cond := k2_sels lw_privs ++ tables_1
theorem lw_privs_ok : ∀ q ∈ lw_privs, lw_okq q := by
  show ∀ q ∈ lw_privs_1 ++ (lw_privs_2 ++ (lw_privs_3 ++ (lw_privs_4 ++ (lw_privs_5 ++ (lw_privs_6))))), lw_okq q
  exact List.forall_mem_append.mpr ⟨lw_r1, List.forall_mem_append.mpr ⟨lw_r2, List.forall_mem_append.mpr ⟨lw_r3, List.forall_mem_append.mpr ⟨lw_r4, List.forall_mem_append.mpr ⟨lw_r5, lw_r6⟩⟩⟩⟩⟩
-- ===== end of PART A; then your names; then what follows =====
def RX0 : String := "HookBoard$Acts"
def TX0 : u_T := fun k => match k with
  | 0 => ("HookBoard$Acts", "type", "[I", true)
  | 1 => ("HookBoard$Acts", "first", "[I", true)
  | 2 => ("HookBoard$Acts", "second", "[I", true)
  | 3 => ("HookBoard$Acts", "third", "[I", true)
  | 4 => ("HookBoard$Acts", "fourth", "[I", true)
  | 5 => ("HookBoard$Acts", "voidBy", "[I", true)
  | _ => ("HookBoard$Acts", "count", "I", false)
def tyX0 : Nat → FieldType := fun k => match k with
  | 0 => .array .int
  | 1 => .array .int
  | 2 => .array .int
  | 3 => .array .int
  | 4 => .array .int
  | 5 => .array .int
  | _ => .int
abbrev wsX00 : List Cond := u_ws RX0 TX0 7
theorem nmX0 : ∀ a, a < 7 → ∀ b, b < 7 → a ≠ b → (TX0 a).2.1 ≠ (TX0 b).2.1 := by decide +kernel
theorem tyX0_ok : ∀ k, k < 7 → parseFieldDescriptor (TX0 k).2.2.1 = some (tyX0 k) := by decide +kernel
abbrev cX0_init : ByteArray := prog_2_method_1_code
def yX0_init : MethodName := ⟨RX0, "<init>", "()V"⟩
abbrev cX0_add : ByteArray := prog_2_method_2_code
def yX0_add : MethodName := ⟨RX0, "add", "(IIIII)I"⟩
abbrev cX0_canVoid : ByteArray := prog_2_method_3_code
def yX0_canVoid : MethodName := ⟨RX0, "canVoid", "(I)Z"⟩
abbrev cX0_addVoid : ByteArray := prog_2_method_4_code
def yX0_addVoid : MethodName := ⟨RX0, "addVoid", "(I)I"⟩
abbrev cX0_stands : ByteArray := prog_2_method_5_code
def yX0_stands : MethodName := ⟨RX0, "stands", "(II)Z"⟩
abbrev cX0_roundsOf : ByteArray := prog_2_method_6_code
def yX0_roundsOf : MethodName := ⟨RX0, "roundsOf", "(I)I"⟩
abbrev cX0_goesOn : ByteArray := prog_2_method_7_code
def yX0_goesOn : MethodName := ⟨RX0, "goesOn", "(II)Z"⟩
def RX1 : String := "HookBoard$Draw"
def TX1 : u_T := fun k => match k with
  | 0 => ("HookBoard$Draw", "held", "[I", true)
  | 1 => ("HookBoard$Draw", "stiff", "[I", true)
  | 2 => ("HookBoard$Draw", "slack", "[I", true)
  | 3 => ("HookBoard$Draw", "opens", "[I", true)
  | 4 => ("HookBoard$Draw", "cells", "I", false)
  | 5 => ("HookBoard$Draw", "wide", "I", false)
  | 6 => ("HookBoard$Draw", "count", "I", false)
  | _ => ("HookBoard$Draw", "made", "Z", false)
def tyX1 : Nat → FieldType := fun k => match k with
  | 0 => .array .int
  | 1 => .array .int
  | 2 => .array .int
  | 3 => .array .int
  | 4 => .int
  | 5 => .int
  | 6 => .int
  | _ => .boolean
abbrev wsX10 : List Cond := u_ws RX1 TX1 8
theorem nmX1 : ∀ a, a < 8 → ∀ b, b < 8 → a ≠ b → (TX1 a).2.1 ≠ (TX1 b).2.1 := by decide +kernel
theorem tyX1_ok : ∀ k, k < 8 → parseFieldDescriptor (TX1 k).2.2.1 = some (tyX1 k) := by decide +kernel
abbrev cX1_init : ByteArray := prog_3_method_1_code
def yX1_init : MethodName := ⟨RX1, "<init>", "()V"⟩
abbrev cX1_take : ByteArray := prog_3_method_2_code
def yX1_take : MethodName := ⟨RX1, "take", "(LHookBoard$Known;LHookBoard$Script;IIJ)J"⟩
def RX2 : String := "HookBoard$Known"
def TX2 : u_T := fun k => match k with
  | 0 => ("HookBoard$Known", "kindOf", "[I", true)
  | 1 => ("HookBoard$Known", "slack", "[I", true)
  | 2 => ("HookBoard$Known", "worn", "[I", true)
  | 3 => ("HookBoard$Known", "heap", "[I", true)
  | 4 => ("HookBoard$Known", "fluff", "[I", true)
  | 5 => ("HookBoard$Known", "great", "[I", true)
  | 6 => ("HookBoard$Known", "trial", "LHookBoard$Draw;", true)
  | 7 => ("HookBoard$Known", "tug", "LHookBoard$Pull;", true)
  | 8 => ("HookBoard$Known", "greats", "I", false)
  | 9 => ("HookBoard$Known", "cells", "I", false)
  | 10 => ("HookBoard$Known", "wide", "I", false)
  | _ => ("HookBoard$Known", "at", "I", false)
def tyX2 : Nat → FieldType := fun k => match k with
  | 0 => .array .int
  | 1 => .array .int
  | 2 => .array .int
  | 3 => .array .int
  | 4 => .array .int
  | 5 => .array .int
  | 6 => .object "HookBoard$Draw"
  | 7 => .object "HookBoard$Pull"
  | 8 => .int
  | 9 => .int
  | 10 => .int
  | _ => .int
abbrev wsX20 : List Cond := u_ws RX2 TX2 12
theorem nmX2 : ∀ a, a < 12 → ∀ b, b < 12 → a ≠ b → (TX2 a).2.1 ≠ (TX2 b).2.1 := by decide +kernel
theorem tyX2_ok : ∀ k, k < 12 → parseFieldDescriptor (TX2 k).2.2.1 = some (tyX2 k) := by decide +kernel
abbrev cX2_init : ByteArray := prog_4_method_1_code
def yX2_init : MethodName := ⟨RX2, "<init>", "()V"⟩
abbrev cX2_begin : ByteArray := prog_4_method_2_code
def yX2_begin : MethodName := ⟨RX2, "begin", "(II)V"⟩
abbrev cX2_forget : ByteArray := prog_4_method_3_code
def yX2_forget : MethodName := ⟨RX2, "forget", "()V"⟩
abbrev cX2_follow : ByteArray := prog_4_method_4_code
def yX2_follow : MethodName := ⟨RX2, "follow", "(LHookBoard$Acts;I)V"⟩
abbrev cX2_rinse : ByteArray := prog_4_method_5_code
def yX2_rinse : MethodName := ⟨RX2, "rinse", "()V"⟩
abbrev cX2_turn : ByteArray := prog_4_method_6_code
def yX2_turn : MethodName := ⟨RX2, "turn", "(LHookBoard$Script;IIJ)J"⟩
abbrev cX2_tire : ByteArray := prog_4_method_7_code
def yX2_tire : MethodName := ⟨RX2, "tire", "(LHookBoard$Script;I)V"⟩
abbrev cX2_gather : ByteArray := prog_4_method_8_code
def yX2_gather : MethodName := ⟨RX2, "gather", "(LHookBoard$Script;III)V"⟩
abbrev cX2_tell : ByteArray := prog_4_method_9_code
def yX2_tell : MethodName := ⟨RX2, "tell", "(LHookBoard$Script;III)V"⟩
abbrev cX2_chanceAt : ByteArray := prog_4_method_10_code
def yX2_chanceAt : MethodName := ⟨RX2, "chanceAt", "(LHookBoard$Script;III)I"⟩
abbrev cX2_stiffnessAt : ByteArray := prog_4_method_11_code
def yX2_stiffnessAt : MethodName := ⟨RX2, "stiffnessAt", "(LHookBoard$Script;I)I"⟩
abbrev cX2_hasHook : ByteArray := prog_4_method_12_code
def yX2_hasHook : MethodName := ⟨RX2, "hasHook", "(I)Z"⟩
abbrev cX2_countHooks : ByteArray := prog_4_method_13_code
def yX2_countHooks : MethodName := ⟨RX2, "countHooks", "()I"⟩
def RX3 : String := "HookBoard$Odds"
def TX3 : u_T := fun k => match k with
  | 0 => ("HookBoard$Odds", "row", "[J", true)
  | 1 => ("HookBoard$Odds", "hooks", "I", false)
  | _ => ("HookBoard$Odds", "made", "Z", false)
def tyX3 : Nat → FieldType := fun k => match k with
  | 0 => .array .long
  | 1 => .int
  | _ => .boolean
abbrev wsX30 : List Cond := u_ws RX3 TX3 3
theorem nmX3 : ∀ a, a < 3 → ∀ b, b < 3 → a ≠ b → (TX3 a).2.1 ≠ (TX3 b).2.1 := by decide +kernel
theorem tyX3_ok : ∀ k, k < 3 → parseFieldDescriptor (TX3 k).2.2.1 = some (tyX3 k) := by decide +kernel
abbrev cX3_init : ByteArray := prog_5_method_1_code
def yX3_init : MethodName := ⟨RX3, "<init>", "()V"⟩
abbrev cX3_begin : ByteArray := prog_5_method_2_code
def yX3_begin : MethodName := ⟨RX3, "begin", "()V"⟩
abbrev cX3_addHook : ByteArray := prog_5_method_3_code
def yX3_addHook : MethodName := ⟨RX3, "addHook", "(I)V"⟩
abbrev cX3_from : ByteArray := prog_5_method_4_code
def yX3_from : MethodName := ⟨RX3, "from", "(I)J"⟩
abbrev cX3_surest : ByteArray := prog_5_method_5_code
def yX3_surest : MethodName := ⟨RX3, "surest", "(I)I"⟩
def RX4 : String := "HookBoard$Patches"
def TX4 : u_T := fun k => match k with
  | 0 => ("HookBoard$Patches", "place", "[I", true)
  | 1 => ("HookBoard$Patches", "bears", "[I", true)
  | 2 => ("HookBoard$Patches", "cost", "[I", true)
  | 3 => ("HookBoard$Patches", "pullPlace", "[I", true)
  | 4 => ("HookBoard$Patches", "pullForce", "[I", true)
  | 5 => ("HookBoard$Patches", "count", "I", false)
  | 6 => ("HookBoard$Patches", "pulls", "I", false)
  | 7 => ("HookBoard$Patches", "picked", "I", false)
  | 8 => ("HookBoard$Patches", "pickedOf", "I", false)
  | 9 => ("HookBoard$Patches", "reach", "I", false)
  | 10 => ("HookBoard$Patches", "open", "I", false)
  | 11 => ("HookBoard$Patches", "bestCost", "I", false)
  | 12 => ("HookBoard$Patches", "bestSize", "I", false)
  | _ => ("HookBoard$Patches", "best", "I", false)
def tyX4 : Nat → FieldType := fun k => match k with
  | 0 => .array .int
  | 1 => .array .int
  | 2 => .array .int
  | 3 => .array .int
  | 4 => .array .int
  | 5 => .int
  | 6 => .int
  | 7 => .int
  | 8 => .int
  | 9 => .int
  | 10 => .int
  | 11 => .int
  | 12 => .int
  | _ => .int
abbrev wsX40 : List Cond := u_ws RX4 TX4 14
theorem nmX4 : ∀ a, a < 14 → ∀ b, b < 14 → a ≠ b → (TX4 a).2.1 ≠ (TX4 b).2.1 := by decide +kernel
theorem tyX4_ok : ∀ k, k < 14 → parseFieldDescriptor (TX4 k).2.2.1 = some (tyX4 k) := by decide +kernel
abbrev cX4_init : ByteArray := prog_6_method_1_code
def yX4_init : MethodName := ⟨RX4, "<init>", "()V"⟩
abbrev cX4_addPatch : ByteArray := prog_6_method_2_code
def yX4_addPatch : MethodName := ⟨RX4, "addPatch", "(III)I"⟩
abbrev cX4_addPull : ByteArray := prog_6_method_3_code
def yX4_addPull : MethodName := ⟨RX4, "addPull", "(II)I"⟩
abbrev cX4_pick : ByteArray := prog_6_method_4_code
def yX4_pick : MethodName := ⟨RX4, "pick", "(II)I"⟩
abbrev cX4_search : ByteArray := prog_6_method_5_code
def yX4_search : MethodName := ⟨RX4, "search", "(IIIII)V"⟩
abbrev cX4_holdsAll : ByteArray := prog_6_method_6_code
def yX4_holdsAll : MethodName := ⟨RX4, "holdsAll", "(I)Z"⟩
abbrev cX4_holds : ByteArray := prog_6_method_7_code
def yX4_holds : MethodName := ⟨RX4, "holds", "(II)Z"⟩
def RX5 : String := "HookBoard$Peel"
def TX5 : u_T := fun k => match k with
  | 0 => ("HookBoard$Peel", "row", "[I", true)
  | 1 => ("HookBoard$Peel", "force", "[I", true)
  | 2 => ("HookBoard$Peel", "went", "[I", true)
  | 3 => ("HookBoard$Peel", "hold", "[I", true)
  | 4 => ("HookBoard$Peel", "weight", "[I", true)
  | 5 => ("HookBoard$Peel", "fronts", "I", false)
  | 6 => ("HookBoard$Peel", "sum", "J", false)
  | _ => ("HookBoard$Peel", "made", "Z", false)
def tyX5 : Nat → FieldType := fun k => match k with
  | 0 => .array .int
  | 1 => .array .int
  | 2 => .array .int
  | 3 => .array .int
  | 4 => .array .int
  | 5 => .int
  | 6 => .long
  | _ => .boolean
abbrev wsX50 : List Cond := u_ws RX5 TX5 8
theorem nmX5 : ∀ a, a < 8 → ∀ b, b < 8 → a ≠ b → (TX5 a).2.1 ≠ (TX5 b).2.1 := by decide +kernel
theorem tyX5_ok : ∀ k, k < 8 → parseFieldDescriptor (TX5 k).2.2.1 = some (tyX5 k) := by decide +kernel
abbrev cX5_init : ByteArray := prog_7_method_1_code
def yX5_init : MethodName := ⟨RX5, "<init>", "()V"⟩
abbrev cX5_canWeigh : ByteArray := prog_7_method_2_code
def yX5_canWeigh : MethodName := ⟨RX5, "canWeigh", "(I)Z"⟩
abbrev cX5_follow : ByteArray := prog_7_method_3_code
def yX5_follow : MethodName := ⟨RX5, "follow", "(LHookBoard$Draw;ZI)V"⟩
abbrev cX5_holdOf : ByteArray := prog_7_method_4_code
def yX5_holdOf : MethodName := ⟨RX5, "holdOf", "(LHookBoard$Draw;I)I"⟩
abbrev cX5_open : ByteArray := prog_7_method_5_code
def yX5_open : MethodName := ⟨RX5, "open", "(II)V"⟩
def RX6 : String := "HookBoard$Pull"
def TX6 : u_T := fun k => match k with
  | 0 => ("HookBoard$Pull", "cell", "[I", true)
  | 1 => ("HookBoard$Pull", "stiff", "[I", true)
  | 2 => ("HookBoard$Pull", "slack", "[I", true)
  | 3 => ("HookBoard$Pull", "gives", "[I", true)
  | 4 => ("HookBoard$Pull", "steps", "I", false)
  | 5 => ("HookBoard$Pull", "most", "J", false)
  | _ => ("HookBoard$Pull", "made", "Z", false)
def tyX6 : Nat → FieldType := fun k => match k with
  | 0 => .array .int
  | 1 => .array .int
  | 2 => .array .int
  | 3 => .array .int
  | 4 => .int
  | 5 => .long
  | _ => .boolean
abbrev wsX60 : List Cond := u_ws RX6 TX6 7
theorem nmX6 : ∀ a, a < 7 → ∀ b, b < 7 → a ≠ b → (TX6 a).2.1 ≠ (TX6 b).2.1 := by decide +kernel
theorem tyX6_ok : ∀ k, k < 7 → parseFieldDescriptor (TX6 k).2.2.1 = some (tyX6 k) := by decide +kernel
abbrev cX6_init : ByteArray := prog_8_method_1_code
def yX6_init : MethodName := ⟨RX6, "<init>", "()V"⟩
abbrev cX6_follow : ByteArray := prog_8_method_2_code
def yX6_follow : MethodName := ⟨RX6, "follow", "(LHookBoard$Draw;)V"⟩
abbrev cX6_insert : ByteArray := prog_8_method_3_code
def yX6_insert : MethodName := ⟨RX6, "insert", "(IIII)V"⟩
abbrev cX6_loadAbove : ByteArray := prog_8_method_4_code
def yX6_loadAbove : MethodName := ⟨RX6, "loadAbove", "(I)J"⟩
abbrev cX6_holding : ByteArray := prog_8_method_5_code
def yX6_holding : MethodName := ⟨RX6, "holding", "(I)I"⟩
def RX7 : String := "HookBoard$Reader"
def TX7 : u_T := fun k => match k with
  | 0 => ("HookBoard$Reader", "tape", "LHookBoard$Tape;", true)
  | 1 => ("HookBoard$Reader", "out", "LHookBoard$Script;", false)
  | 2 => ("HookBoard$Reader", "type", "I", false)
  | 3 => ("HookBoard$Reader", "start", "I", false)
  | 4 => ("HookBoard$Reader", "behind", "I", false)
  | 5 => ("HookBoard$Reader", "value", "I", false)
  | 6 => ("HookBoard$Reader", "fault", "I", false)
  | _ => ("HookBoard$Reader", "place", "I", false)
def tyX7 : Nat → FieldType := fun k => match k with
  | 0 => .object "HookBoard$Tape"
  | 1 => .object "HookBoard$Script"
  | 2 => .int
  | 3 => .int
  | 4 => .int
  | 5 => .int
  | 6 => .int
  | _ => .int
abbrev wsX70 : List Cond := u_ws RX7 TX7 8
theorem nmX7 : ∀ a, a < 8 → ∀ b, b < 8 → a ≠ b → (TX7 a).2.1 ≠ (TX7 b).2.1 := by decide +kernel
theorem tyX7_ok : ∀ k, k < 8 → parseFieldDescriptor (TX7 k).2.2.1 = some (tyX7 k) := by decide +kernel
abbrev cX7_init : ByteArray := prog_9_method_1_code
def yX7_init : MethodName := ⟨RX7, "<init>", "(LHookBoard$Tape;LHookBoard$Script;)V"⟩
abbrev cX7_read : ByteArray := prog_9_method_2_code
def yX7_read : MethodName := ⟨RX7, "read", "(LHookBoard$Script;)V"⟩
abbrev cX7_readKind : ByteArray := prog_9_method_3_code
def yX7_readKind : MethodName := ⟨RX7, "readKind", "()V"⟩
abbrev cX7_readRule : ByteArray := prog_9_method_4_code
def yX7_readRule : MethodName := ⟨RX7, "readRule", "()V"⟩
abbrev cX7_takeEnd : ByteArray := prog_9_method_5_code
def yX7_takeEnd : MethodName := ⟨RX7, "takeEnd", "()V"⟩
abbrev cX7_readTest : ByteArray := prog_9_method_6_code
def yX7_readTest : MethodName := ⟨RX7, "readTest", "(I)V"⟩
abbrev cX7_readFact : ByteArray := prog_9_method_7_code
def yX7_readFact : MethodName := ⟨RX7, "readFact", "(I)V"⟩
abbrev cX7_readIs : ByteArray := prog_9_method_8_code
def yX7_readIs : MethodName := ⟨RX7, "readIs", "()V"⟩
abbrev cX7_comparisonHere : ByteArray := prog_9_method_9_code
def yX7_comparisonHere : MethodName := ⟨RX7, "comparisonHere", "()I"⟩
abbrev cX7_readSum : ByteArray := prog_9_method_10_code
def yX7_readSum : MethodName := ⟨RX7, "readSum", "(I)V"⟩
abbrev cX7_operationHere : ByteArray := prog_9_method_11_code
def yX7_operationHere : MethodName := ⟨RX7, "operationHere", "()I"⟩
abbrev cX7_readPart : ByteArray := prog_9_method_12_code
def yX7_readPart : MethodName := ⟨RX7, "readPart", "(I)V"⟩
abbrev cX7_readPair : ByteArray := prog_9_method_13_code
def yX7_readPair : MethodName := ⟨RX7, "readPair", "(II)V"⟩
abbrev cX7_mayOpen : ByteArray := prog_9_method_14_code
def yX7_mayOpen : MethodName := ⟨RX7, "mayOpen", "(I)Z"⟩
abbrev cX7_numberFor : ByteArray := prog_9_method_15_code
def yX7_numberFor : MethodName := ⟨RX7, "numberFor", "(I)I"⟩
abbrev cX7_leastFor : ByteArray := prog_9_method_16_code
def yX7_leastFor : MethodName := ⟨RX7, "leastFor", "(I)I"⟩
abbrev cX7_mostFor : ByteArray := prog_9_method_17_code
def yX7_mostFor : MethodName := ⟨RX7, "mostFor", "(I)I"⟩
abbrev cX7_numeralHere : ByteArray := prog_9_method_18_code
def yX7_numeralHere : MethodName := ⟨RX7, "numeralHere", "()I"⟩
abbrev cX7_nameHere : ByteArray := prog_9_method_19_code
def yX7_nameHere : MethodName := ⟨RX7, "nameHere", "()J"⟩
abbrev cX7_isWord : ByteArray := prog_9_method_20_code
def yX7_isWord : MethodName := ⟨RX7, "isWord", "(I)Z"⟩
abbrev cX7_isSign : ByteArray := prog_9_method_21_code
def yX7_isSign : MethodName := ⟨RX7, "isSign", "(C)Z"⟩
abbrev cX7_takeWord : ByteArray := prog_9_method_22_code
def yX7_takeWord : MethodName := ⟨RX7, "takeWord", "(I)V"⟩
abbrev cX7_takeSign : ByteArray := prog_9_method_23_code
def yX7_takeSign : MethodName := ⟨RX7, "takeSign", "(C)V"⟩
abbrev cX7_fail : ByteArray := prog_9_method_24_code
def yX7_fail : MethodName := ⟨RX7, "fail", "(II)V"⟩
abbrev cX7_next : ByteArray := prog_9_method_25_code
def yX7_next : MethodName := ⟨RX7, "next", "()V"⟩
abbrev cX7_ownWord : ByteArray := prog_9_method_26_code
def yX7_ownWord : MethodName := ⟨RX7, "ownWord", "()I"⟩
abbrev cX7_isBlank : ByteArray := prog_9_method_27_code
def yX7_isBlank : MethodName := ⟨RX7, "isBlank", "(I)Z"⟩
abbrev cX7_isLetter : ByteArray := prog_9_method_28_code
def yX7_isLetter : MethodName := ⟨RX7, "isLetter", "(I)Z"⟩
abbrev cX7_isDigit : ByteArray := prog_9_method_29_code
def yX7_isDigit : MethodName := ⟨RX7, "isDigit", "(I)Z"⟩
def RX8 : String := "HookBoard$Script"
def TX8 : u_T := fun k => match k with
  | 0 => ("HookBoard$Script", "names", "[J", true)
  | 1 => ("HookBoard$Script", "numbers", "[I", true)
  | 2 => ("HookBoard$Script", "ruleWord", "[I", true)
  | 3 => ("HookBoard$Script", "ruleSum", "[I", true)
  | 4 => ("HookBoard$Script", "ruleTest", "[I", true)
  | 5 => ("HookBoard$Script", "ruleEnd", "[I", true)
  | 6 => ("HookBoard$Script", "code", "[I", true)
  | 7 => ("HookBoard$Script", "facts", "[I", true)
  | 8 => ("HookBoard$Script", "stack", "[I", true)
  | 9 => ("HookBoard$Script", "kinds", "I", false)
  | 10 => ("HookBoard$Script", "rules", "I", false)
  | 11 => ("HookBoard$Script", "statements", "I", false)
  | _ => ("HookBoard$Script", "length", "I", false)
def tyX8 : Nat → FieldType := fun k => match k with
  | 0 => .array .long
  | 1 => .array .int
  | 2 => .array .int
  | 3 => .array .int
  | 4 => .array .int
  | 5 => .array .int
  | 6 => .array .int
  | 7 => .array .int
  | 8 => .array .int
  | 9 => .int
  | 10 => .int
  | 11 => .int
  | _ => .int
abbrev wsX80 : List Cond := u_ws RX8 TX8 13
theorem nmX8 : ∀ a, a < 13 → ∀ b, b < 13 → a ≠ b → (TX8 a).2.1 ≠ (TX8 b).2.1 := by decide +kernel
theorem tyX8_ok : ∀ k, k < 13 → parseFieldDescriptor (TX8 k).2.2.1 = some (tyX8 k) := by decide +kernel
abbrev cX8_init : ByteArray := prog_10_method_1_code
def yX8_init : MethodName := ⟨RX8, "<init>", "()V"⟩
abbrev cX8_empty : ByteArray := prog_10_method_2_code
def yX8_empty : MethodName := ⟨RX8, "empty", "()V"⟩
abbrev cX8_numberOf : ByteArray := prog_10_method_3_code
def yX8_numberOf : MethodName := ⟨RX8, "numberOf", "(II)I"⟩
abbrev cX8_kindNamed : ByteArray := prog_10_method_4_code
def yX8_kindNamed : MethodName := ⟨RX8, "kindNamed", "(J)I"⟩
abbrev cX8_emit : ByteArray := prog_10_method_5_code
def yX8_emit : MethodName := ⟨RX8, "emit", "(II)V"⟩
abbrev cX8_sumOf : ByteArray := prog_10_method_6_code
def yX8_sumOf : MethodName := ⟨RX8, "sumOf", "(I)I"⟩
abbrev cX8_run : ByteArray := prog_10_method_7_code
def yX8_run : MethodName := ⟨RX8, "run", "(II)I"⟩
abbrev cX8_told : ByteArray := prog_10_method_8_code
def yX8_told : MethodName := ⟨RX8, "told", "(II)I"⟩
abbrev cX8_joined : ByteArray := prog_10_method_9_code
def yX8_joined : MethodName := ⟨RX8, "joined", "(III)J"⟩
def RX9 : String := "HookBoard$Tape"
def TX9 : u_T := fun k => match k with
  | 0 => ("HookBoard$Tape", "bytes", "[B", true)
  | _ => ("HookBoard$Tape", "size", "I", false)
def tyX9 : Nat → FieldType := fun k => match k with
  | 0 => .array .byte
  | _ => .int
abbrev wsX90 : List Cond := u_ws RX9 TX9 2
theorem nmX9 : ∀ a, a < 2 → ∀ b, b < 2 → a ≠ b → (TX9 a).2.1 ≠ (TX9 b).2.1 := by decide +kernel
theorem tyX9_ok : ∀ k, k < 2 → parseFieldDescriptor (TX9 k).2.2.1 = some (tyX9 k) := by decide +kernel
abbrev cX9_init : ByteArray := prog_11_method_1_code
def yX9_init : MethodName := ⟨RX9, "<init>", "()V"⟩
abbrev cX9_addFour : ByteArray := prog_11_method_2_code
def yX9_addFour : MethodName := ⟨RX9, "addFour", "(I)V"⟩
abbrev cX9_byteAt : ByteArray := prog_11_method_3_code
def yX9_byteAt : MethodName := ⟨RX9, "byteAt", "(I)I"⟩
def RX10 : String := "HookBoard"
def TX10 : u_T := fun k => match k with
  | 0 => ("HookBoard", "tape", "LHookBoard$Tape;", true)
  | 1 => ("HookBoard", "reader", "LHookBoard$Reader;", true)
  | 2 => ("HookBoard", "acts", "LHookBoard$Acts;", true)
  | 3 => ("HookBoard", "known", "LHookBoard$Known;", true)
  | 4 => ("HookBoard", "odds", "LHookBoard$Odds;", true)
  | 5 => ("HookBoard", "draw", "LHookBoard$Draw;", true)
  | 6 => ("HookBoard", "pull", "LHookBoard$Pull;", true)
  | 7 => ("HookBoard", "peel", "LHookBoard$Peel;", true)
  | 8 => ("HookBoard", "patches", "LHookBoard$Patches;", true)
  | 9 => ("HookBoard", "script", "LHookBoard$Script;", false)
  | 10 => ("HookBoard", "spare", "LHookBoard$Script;", false)
  | 11 => ("HookBoard", "cells", "I", false)
  | 12 => ("HookBoard", "asAct", "I", false)
  | 13 => ("HookBoard", "fault", "I", false)
  | _ => ("HookBoard", "faultPlace", "I", false)
def tyX10 : Nat → FieldType := fun k => match k with
  | 0 => .object "HookBoard$Tape"
  | 1 => .object "HookBoard$Reader"
  | 2 => .object "HookBoard$Acts"
  | 3 => .object "HookBoard$Known"
  | 4 => .object "HookBoard$Odds"
  | 5 => .object "HookBoard$Draw"
  | 6 => .object "HookBoard$Pull"
  | 7 => .object "HookBoard$Peel"
  | 8 => .object "HookBoard$Patches"
  | 9 => .object "HookBoard$Script"
  | 10 => .object "HookBoard$Script"
  | 11 => .int
  | 12 => .int
  | 13 => .int
  | _ => .int
abbrev wsX100 : List Cond := u_ws RX10 TX10 15
theorem nmX10 : ∀ a, a < 15 → ∀ b, b < 15 → a ≠ b → (TX10 a).2.1 ≠ (TX10 b).2.1 := by decide +kernel
theorem tyX10_ok : ∀ k, k < 15 → parseFieldDescriptor (TX10 k).2.2.1 = some (tyX10 k) := by decide +kernel
abbrev cX10_init : ByteArray := prog_1_method_1_code
def yX10_init : MethodName := ⟨RX10, "<init>", "()V"⟩
abbrev cX10_feed : ByteArray := prog_1_method_2_code
def yX10_feed : MethodName := ⟨RX10, "feed", "(IIIII)I"⟩
abbrev cX10_end : ByteArray := prog_1_method_3_code
def yX10_end : MethodName := ⟨RX10, "end", "(I)Z"⟩
abbrev cX10_text : ByteArray := prog_1_method_4_code
def yX10_text : MethodName := ⟨RX10, "text", "(II)I"⟩
abbrev cX10_beginBoard : ByteArray := prog_1_method_5_code
def yX10_beginBoard : MethodName := ⟨RX10, "beginBoard", "(II)V"⟩
abbrev cX10_fault : ByteArray := prog_1_method_6_code
def yX10_fault : MethodName := ⟨RX10, "fault", "(I)I"⟩
abbrev cX10_kind : ByteArray := prog_1_method_7_code
def yX10_kind : MethodName := ⟨RX10, "kind", "(II)I"⟩
abbrev cX10_hook : ByteArray := prog_1_method_8_code
def yX10_hook : MethodName := ⟨RX10, "hook", "(III)I"⟩
abbrev cX10_loops : ByteArray := prog_1_method_9_code
def yX10_loops : MethodName := ⟨RX10, "loops", "(II)I"⟩
abbrev cX10_rounds : ByteArray := prog_1_method_10_code
def yX10_rounds : MethodName := ⟨RX10, "rounds", "(IIII)I"⟩
abbrev cX10_wash : ByteArray := prog_1_method_11_code
def yX10_wash : MethodName := ⟨RX10, "wash", "()I"⟩
abbrev cX10_annul : ByteArray := prog_1_method_12_code
def yX10_annul : MethodName := ⟨RX10, "annul", "(I)I"⟩
abbrev cX10_as : ByteArray := prog_1_method_13_code
def yX10_as : MethodName := ⟨RX10, "as", "(I)Z"⟩
abbrev cX10_cell : ByteArray := prog_1_method_14_code
def yX10_cell : MethodName := ⟨RX10, "cell", "(II)I"⟩
abbrev cX10_listed : ByteArray := prog_1_method_15_code
def yX10_listed : MethodName := ⟨RX10, "listed", "()I"⟩
abbrev cX10_list : ByteArray := prog_1_method_16_code
def yX10_list : MethodName := ⟨RX10, "list", "(I)J"⟩
abbrev cX10_until : ByteArray := prog_1_method_17_code
def yX10_until : MethodName := ⟨RX10, "until", "(J)I"⟩
abbrev cX10_chance : ByteArray := prog_1_method_18_code
def yX10_chance : MethodName := ⟨RX10, "chance", "(III)I"⟩
abbrev cX10_table : ByteArray := prog_1_method_19_code
def yX10_table : MethodName := ⟨RX10, "table", "(II)I"⟩
abbrev cX10_odds : ByteArray := prog_1_method_20_code
def yX10_odds : MethodName := ⟨RX10, "odds", "(I)J"⟩
abbrev cX10_sure : ByteArray := prog_1_method_21_code
def yX10_sure : MethodName := ⟨RX10, "sure", "(I)I"⟩
abbrev cX10_draw : ByteArray := prog_1_method_22_code
def yX10_draw : MethodName := ⟨RX10, "draw", "(III)I"⟩
abbrev cX10_caught : ByteArray := prog_1_method_23_code
def yX10_caught : MethodName := ⟨RX10, "caught", "(I)I"⟩
abbrev cX10_pull : ByteArray := prog_1_method_24_code
def yX10_pull : MethodName := ⟨RX10, "pull", "()I"⟩
abbrev cX10_step : ByteArray := prog_1_method_25_code
def yX10_step : MethodName := ⟨RX10, "step", "(I)I"⟩
abbrev cX10_load : ByteArray := prog_1_method_26_code
def yX10_load : MethodName := ⟨RX10, "load", "(IZ)J"⟩
abbrev cX10_greatest : ByteArray := prog_1_method_27_code
def yX10_greatest : MethodName := ⟨RX10, "greatest", "()J"⟩
abbrev cX10_hung : ByteArray := prog_1_method_28_code
def yX10_hung : MethodName := ⟨RX10, "hung", "(I)I"⟩
abbrev cX10_peel : ByteArray := prog_1_method_29_code
def yX10_peel : MethodName := ⟨RX10, "peel", "(ZI)I"⟩
abbrev cX10_front : ByteArray := prog_1_method_30_code
def yX10_front : MethodName := ⟨RX10, "front", "(II)I"⟩
abbrev cX10_work : ByteArray := prog_1_method_31_code
def yX10_work : MethodName := ⟨RX10, "work", "()J"⟩
abbrev cX10_patch : ByteArray := prog_1_method_32_code
def yX10_patch : MethodName := ⟨RX10, "patch", "(III)I"⟩
abbrev cX10_force : ByteArray := prog_1_method_33_code
def yX10_force : MethodName := ⟨RX10, "force", "(II)I"⟩
abbrev cX10_clear : ByteArray := prog_1_method_34_code
def yX10_clear : MethodName := ⟨RX10, "clear", "()I"⟩
abbrev cX10_choose : ByteArray := prog_1_method_35_code
def yX10_choose : MethodName := ⟨RX10, "choose", "(II)I"⟩
abbrev cX10_chosen : ByteArray := prog_1_method_36_code
def yX10_chosen : MethodName := ⟨RX10, "chosen", "(I)I"⟩
abbrev cX10_found : ByteArray := prog_1_method_37_code
def yX10_found : MethodName := ⟨RX10, "found", "(IIIIZ)J"⟩
abbrev cX10_tests : ByteArray := prog_1_method_38_code
def yX10_tests : MethodName := ⟨RX10, "tests", "(III)I"⟩
abbrev cX10_all : ByteArray := prog_1_method_39_code
def yX10_all : MethodName := ⟨RX10, "all", "(I)I"⟩
abbrev cX10_toldAct : ByteArray := prog_1_method_40_code
def yX10_toldAct : MethodName := ⟨RX10, "toldAct", "()I"⟩
abbrev cX10_broughtUp : ByteArray := prog_1_method_41_code
def yX10_broughtUp : MethodName := ⟨RX10, "broughtUp", "()LHookBoard$Known;"⟩
abbrev cX10_isCell : ByteArray := prog_1_method_42_code
def yX10_isCell : MethodName := ⟨RX10, "isCell", "(I)Z"⟩
abbrev cX10_isStep : ByteArray := prog_1_method_43_code
def yX10_isStep : MethodName := ⟨RX10, "isStep", "(I)Z"⟩
abbrev cX10_canPress : ByteArray := prog_1_method_44_code
def yX10_canPress : MethodName := ⟨RX10, "canPress", "(II)Z"⟩
abbrev cX10_isBatch : ByteArray := prog_1_method_45_code
def yX10_isBatch : MethodName := ⟨RX10, "isBatch", "(II)Z"⟩
abbrev cX10_within : ByteArray := prog_1_method_46_code
def yX10_within : MethodName := ⟨RX10, "within", "(III)Z"⟩
abbrev cX10_clamp : ByteArray := prog_1_method_47_code
def yX10_clamp : MethodName := ⟨RX10, "clamp", "(III)I"⟩
abbrev cX10_ways : ByteArray := prog_1_method_48_code
def yX10_ways : MethodName := ⟨RX10, "ways", "(II)J"⟩
def RX11 : String := "HookBoardModel"
def TX11 : u_T := fun k => match k with
  | 0 => ("HookBoardModel", "tape", "[I", true)
  | 1 => ("HookBoardModel", "taped", "I", false)
  | 2 => ("HookBoardModel", "at", "I", false)
  | 3 => ("HookBoardModel", "end", "I", false)
  | 4 => ("HookBoardModel", "ended", "I", false)
  | 5 => ("HookBoardModel", "bad", "I", false)
  | 6 => ("HookBoardModel", "badPlace", "I", false)
  | 7 => ("HookBoardModel", "fault", "I", false)
  | 8 => ("HookBoardModel", "faultPlace", "I", false)
  | 9 => ("HookBoardModel", "kindWord", "[C", true)
  | 10 => ("HookBoardModel", "stiffWord", "[C", true)
  | 11 => ("HookBoardModel", "opensWord", "[C", true)
  | 12 => ("HookBoardModel", "tiresWord", "[C", true)
  | 13 => ("HookBoardModel", "tearsWord", "[C", true)
  | 14 => ("HookBoardModel", "catchWord", "[C", true)
  | 15 => ("HookBoardModel", "whenWord", "[C", true)
  | 16 => ("HookBoardModel", "lintWord", "[C", true)
  | 17 => ("HookBoardModel", "orWord", "[C", true)
  | 18 => ("HookBoardModel", "andWord", "[C", true)
  | 19 => ("HookBoardModel", "notWord", "[C", true)
  | 20 => ("HookBoardModel", "allWord", "[C", true)
  | 21 => ("HookBoardModel", "isWord", "[C", true)
  | 22 => ("HookBoardModel", "pressWord", "[C", true)
  | 23 => ("HookBoardModel", "shakeWord", "[C", true)
  | 24 => ("HookBoardModel", "loopsWord", "[C", true)
  | 25 => ("HookBoardModel", "wornWord", "[C", true)
  | 26 => ("HookBoardModel", "rowWord", "[C", true)
  | 27 => ("HookBoardModel", "columnWord", "[C", true)
  | 28 => ("HookBoardModel", "minWord", "[C", true)
  | 29 => ("HookBoardModel", "maxWord", "[C", true)
  | 30 => ("HookBoardModel", "namePlace", "I", false)
  | 31 => ("HookBoardModel", "kinds", "[I", true)
  | 32 => ("HookBoardModel", "kindName", "[J", true)
  | 33 => ("HookBoardModel", "stiff", "[I", true)
  | 34 => ("HookBoardModel", "opens", "[I", true)
  | 35 => ("HookBoardModel", "tires", "[I", true)
  | 36 => ("HookBoardModel", "tears", "[I", true)
  | 37 => ("HookBoardModel", "rules", "[I", true)
  | 38 => ("HookBoardModel", "sort", "[I", true)
  | 39 => ("HookBoardModel", "sumFrom", "[I", true)
  | 40 => ("HookBoardModel", "sumEnd", "[I", true)
  | 41 => ("HookBoardModel", "testEnd", "[I", true)
  | 42 => ("HookBoardModel", "codes", "[I", true)
  | 43 => ("HookBoardModel", "coded", "I", false)
  | 44 => ("HookBoardModel", "wait", "[I", true)
  | 45 => ("HookBoardModel", "waits", "I", false)
  | 46 => ("HookBoardModel", "open", "I", false)
  | 47 => ("HookBoardModel", "statements", "I", false)
  | 48 => ("HookBoardModel", "base", "I", false)
  | 49 => ("HookBoardModel", "wide", "I", false)
  | 50 => ("HookBoardModel", "high", "I", false)
  | 51 => ("HookBoardModel", "acts", "I", false)
  | 52 => ("HookBoardModel", "sortOf", "[I", true)
  | 53 => ("HookBoardModel", "one", "[I", true)
  | 54 => ("HookBoardModel", "two", "[I", true)
  | 55 => ("HookBoardModel", "three", "[I", true)
  | 56 => ("HookBoardModel", "four", "[I", true)
  | 57 => ("HookBoardModel", "voidAt", "[I", true)
  | 58 => ("HookBoardModel", "as", "I", false)
  | 59 => ("HookBoardModel", "gone", "I", false)
  | 60 => ("HookBoardModel", "hookKind", "[I", true)
  | 61 => ("HookBoardModel", "slack", "[I", true)
  | 62 => ("HookBoardModel", "worn", "[I", true)
  | 63 => ("HookBoardModel", "looped", "[I", true)
  | 64 => ("HookBoardModel", "linted", "[I", true)
  | 65 => ("HookBoardModel", "listMany", "I", false)
  | 66 => ("HookBoardModel", "list", "[J", true)
  | 67 => ("HookBoardModel", "pile", "[J", true)
  | 68 => ("HookBoardModel", "piled", "I", false)
  | 69 => ("HookBoardModel", "tableMany", "I", false)
  | 70 => ("HookBoardModel", "table", "[J", true)
  | 71 => ("HookBoardModel", "isCaught", "[Z", true)
  | 72 => ("HookBoardModel", "pulled", "I", false)
  | 73 => ("HookBoardModel", "pulledCell", "[I", true)
  | 74 => ("HookBoardModel", "pulledStiff", "[I", true)
  | 75 => ("HookBoardModel", "pulledSlack", "[I", true)
  | 76 => ("HookBoardModel", "pulledOpens", "[I", true)
  | 77 => ("HookBoardModel", "order", "[I", true)
  | 78 => ("HookBoardModel", "hasDraw", "Z", false)
  | 79 => ("HookBoardModel", "drawn", "[I", true)
  | 80 => ("HookBoardModel", "drawnMany", "I", false)
  | 81 => ("HookBoardModel", "drawnWide", "I", false)
  | 82 => ("HookBoardModel", "drawnHigh", "I", false)
  | 83 => ("HookBoardModel", "drawnCell", "[I", true)
  | 84 => ("HookBoardModel", "drawnStiff", "[I", true)
  | 85 => ("HookBoardModel", "drawnSlack", "[I", true)
  | 86 => ("HookBoardModel", "drawnOpens", "[I", true)
  | 87 => ("HookBoardModel", "steps", "I", false)
  | 88 => ("HookBoardModel", "stepCell", "[I", true)
  | 89 => ("HookBoardModel", "stepLoad", "[J", true)
  | 90 => ("HookBoardModel", "stepStiff", "[I", true)
  | 91 => ("HookBoardModel", "stepLeft", "[I", true)
  | 92 => ("HookBoardModel", "fronts", "I", false)
  | 93 => ("HookBoardModel", "frontRow", "[I", true)
  | 94 => ("HookBoardModel", "frontForce", "[I", true)
  | 95 => ("HookBoardModel", "frontGone", "[I", true)
  | 96 => ("HookBoardModel", "patches", "I", false)
  | 97 => ("HookBoardModel", "patchPlace", "[I", true)
  | 98 => ("HookBoardModel", "patchBears", "[I", true)
  | 99 => ("HookBoardModel", "patchCost", "[I", true)
  | 100 => ("HookBoardModel", "forces", "I", false)
  | 101 => ("HookBoardModel", "forcePlace", "[I", true)
  | 102 => ("HookBoardModel", "forceOf", "[I", true)
  | 103 => ("HookBoardModel", "chosenSet", "I", false)
  | _ => ("HookBoardModel", "chosenOf", "I", false)
def tyX11 : Nat → FieldType := fun k => match k with
  | 0 => .array .int
  | 1 => .int
  | 2 => .int
  | 3 => .int
  | 4 => .int
  | 5 => .int
  | 6 => .int
  | 7 => .int
  | 8 => .int
  | 9 => .array .char
  | 10 => .array .char
  | 11 => .array .char
  | 12 => .array .char
  | 13 => .array .char
  | 14 => .array .char
  | 15 => .array .char
  | 16 => .array .char
  | 17 => .array .char
  | 18 => .array .char
  | 19 => .array .char
  | 20 => .array .char
  | 21 => .array .char
  | 22 => .array .char
  | 23 => .array .char
  | 24 => .array .char
  | 25 => .array .char
  | 26 => .array .char
  | 27 => .array .char
  | 28 => .array .char
  | 29 => .array .char
  | 30 => .int
  | 31 => .array .int
  | 32 => .array .long
  | 33 => .array .int
  | 34 => .array .int
  | 35 => .array .int
  | 36 => .array .int
  | 37 => .array .int
  | 38 => .array .int
  | 39 => .array .int
  | 40 => .array .int
  | 41 => .array .int
  | 42 => .array .int
  | 43 => .int
  | 44 => .array .int
  | 45 => .int
  | 46 => .int
  | 47 => .int
  | 48 => .int
  | 49 => .int
  | 50 => .int
  | 51 => .int
  | 52 => .array .int
  | 53 => .array .int
  | 54 => .array .int
  | 55 => .array .int
  | 56 => .array .int
  | 57 => .array .int
  | 58 => .int
  | 59 => .int
  | 60 => .array .int
  | 61 => .array .int
  | 62 => .array .int
  | 63 => .array .int
  | 64 => .array .int
  | 65 => .int
  | 66 => .array .long
  | 67 => .array .long
  | 68 => .int
  | 69 => .int
  | 70 => .array .long
  | 71 => .array .boolean
  | 72 => .int
  | 73 => .array .int
  | 74 => .array .int
  | 75 => .array .int
  | 76 => .array .int
  | 77 => .array .int
  | 78 => .boolean
  | 79 => .array .int
  | 80 => .int
  | 81 => .int
  | 82 => .int
  | 83 => .array .int
  | 84 => .array .int
  | 85 => .array .int
  | 86 => .array .int
  | 87 => .int
  | 88 => .array .int
  | 89 => .array .long
  | 90 => .array .int
  | 91 => .array .int
  | 92 => .int
  | 93 => .array .int
  | 94 => .array .int
  | 95 => .array .int
  | 96 => .int
  | 97 => .array .int
  | 98 => .array .int
  | 99 => .array .int
  | 100 => .int
  | 101 => .array .int
  | 102 => .array .int
  | 103 => .int
  | _ => .int
abbrev wsX110 : List Cond := u_ws RX11 TX11 105
theorem nmX11 : ∀ a, a < 105 → ∀ b, b < 105 → a ≠ b → (TX11 a).2.1 ≠ (TX11 b).2.1 := by decide +kernel
theorem tyX11_ok : ∀ k, k < 105 → parseFieldDescriptor (TX11 k).2.2.1 = some (tyX11 k) := by decide +kernel
abbrev cX11_init : ByteArray := prog_13_method_1_code
def yX11_init : MethodName := ⟨RX11, "<init>", "()V"⟩
abbrev cX11_isIn : ByteArray := prog_13_method_2_code
def yX11_isIn : MethodName := ⟨RX11, "isIn", "(JJJ)Z"⟩
abbrev cX11_feed : ByteArray := prog_13_method_3_code
def yX11_feed : MethodName := ⟨RX11, "feed", "(IIIII)I"⟩
abbrev cX11_end : ByteArray := prog_13_method_4_code
def yX11_end : MethodName := ⟨RX11, "end", "(I)Z"⟩
abbrev cX11_fail : ByteArray := prog_13_method_5_code
def yX11_fail : MethodName := ⟨RX11, "fail", "(II)V"⟩
abbrev cX11_isLetter : ByteArray := prog_13_method_6_code
def yX11_isLetter : MethodName := ⟨RX11, "isLetter", "(I)Z"⟩
abbrev cX11_isDigit : ByteArray := prog_13_method_7_code
def yX11_isDigit : MethodName := ⟨RX11, "isDigit", "(I)Z"⟩
abbrev cX11_look : ByteArray := prog_13_method_8_code
def yX11_look : MethodName := ⟨RX11, "look", "()I"⟩
abbrev cX11_isHere : ByteArray := prog_13_method_9_code
def yX11_isHere : MethodName := ⟨RX11, "isHere", "([C)Z"⟩
abbrev cX11_takes : ByteArray := prog_13_method_10_code
def yX11_takes : MethodName := ⟨RX11, "takes", "([C)Z"⟩
abbrev cX11_asks : ByteArray := prog_13_method_11_code
def yX11_asks : MethodName := ⟨RX11, "asks", "([C)V"⟩
abbrev cX11_takesSign : ByteArray := prog_13_method_12_code
def yX11_takesSign : MethodName := ⟨RX11, "takesSign", "(I)Z"⟩
abbrev cX11_asksSign : ByteArray := prog_13_method_13_code
def yX11_asksSign : MethodName := ⟨RX11, "asksSign", "(I)V"⟩
abbrev cX11_number : ByteArray := prog_13_method_14_code
def yX11_number : MethodName := ⟨RX11, "number", "(II)I"⟩
abbrev cX11_isOwnHere : ByteArray := prog_13_method_15_code
def yX11_isOwnHere : MethodName := ⟨RX11, "isOwnHere", "()Z"⟩
abbrev cX11_name : ByteArray := prog_13_method_16_code
def yX11_name : MethodName := ⟨RX11, "name", "()J"⟩
abbrev cX11_kindOf : ByteArray := prog_13_method_17_code
def yX11_kindOf : MethodName := ⟨RX11, "kindOf", "(J)I"⟩
abbrev cX11_kindTold : ByteArray := prog_13_method_18_code
def yX11_kindTold : MethodName := ⟨RX11, "kindTold", "()I"⟩
abbrev cX11_code : ByteArray := prog_13_method_19_code
def yX11_code : MethodName := ⟨RX11, "code", "(I)V"⟩
abbrev cX11_opensOne : ByteArray := prog_13_method_20_code
def yX11_opensOne : MethodName := ⟨RX11, "opensOne", "(II)V"⟩
abbrev cX11_isOn : ByteArray := prog_13_method_21_code
def yX11_isOn : MethodName := ⟨RX11, "isOn", "(I)Z"⟩
abbrev cX11_drops : ByteArray := prog_13_method_22_code
def yX11_drops : MethodName := ⟨RX11, "drops", "()V"⟩
abbrev cX11_isMark : ByteArray := prog_13_method_23_code
def yX11_isMark : MethodName := ⟨RX11, "isMark", "(I)Z"⟩
abbrev cX11_mark : ByteArray := prog_13_method_24_code
def yX11_mark : MethodName := ⟨RX11, "mark", "()I"⟩
abbrev cX11_dropsToMark : ByteArray := prog_13_method_25_code
def yX11_dropsToMark : MethodName := ⟨RX11, "dropsToMark", "()V"⟩
abbrev cX11_onePart : ByteArray := prog_13_method_26_code
def yX11_onePart : MethodName := ⟨RX11, "onePart", "()V"⟩
abbrev cX11_goesOn : ByteArray := prog_13_method_27_code
def yX11_goesOn : MethodName := ⟨RX11, "goesOn", "()Z"⟩
abbrev cX11_sums : ByteArray := prog_13_method_28_code
def yX11_sums : MethodName := ⟨RX11, "sums", "()V"⟩
abbrev cX11_fact : ByteArray := prog_13_method_29_code
def yX11_fact : MethodName := ⟨RX11, "fact", "()V"⟩
abbrev cX11_hasSquare : ByteArray := prog_13_method_30_code
def yX11_hasSquare : MethodName := ⟨RX11, "hasSquare", "()Z"⟩
abbrev cX11_dropsNots : ByteArray := prog_13_method_31_code
def yX11_dropsNots : MethodName := ⟨RX11, "dropsNots", "()V"⟩
abbrev cX11_test : ByteArray := prog_13_method_32_code
def yX11_test : MethodName := ⟨RX11, "test", "()V"⟩
abbrev cX11_goesOnTest : ByteArray := prog_13_method_33_code
def yX11_goesOnTest : MethodName := ⟨RX11, "goesOnTest", "()Z"⟩
abbrev cX11_kindStatement : ByteArray := prog_13_method_34_code
def yX11_kindStatement : MethodName := ⟨RX11, "kindStatement", "()V"⟩
abbrev cX11_statement : ByteArray := prog_13_method_35_code
def yX11_statement : MethodName := ⟨RX11, "statement", "()V"⟩
abbrev cX11_text : ByteArray := prog_13_method_36_code
def yX11_text : MethodName := ⟨RX11, "text", "(II)I"⟩
abbrev cX11_stands : ByteArray := prog_13_method_37_code
def yX11_stands : MethodName := ⟨RX11, "stands", "()V"⟩
abbrev cX11_fault : ByteArray := prog_13_method_38_code
def yX11_fault : MethodName := ⟨RX11, "fault", "(I)I"⟩
abbrev cX11_kind : ByteArray := prog_13_method_39_code
def yX11_kind : MethodName := ⟨RX11, "kind", "(II)I"⟩
abbrev cX11_cells : ByteArray := prog_13_method_40_code
def yX11_cells : MethodName := ⟨RX11, "cells", "()I"⟩
abbrev cX11_isCell : ByteArray := prog_13_method_41_code
def yX11_isCell : MethodName := ⟨RX11, "isCell", "(I)Z"⟩
abbrev cX11_act : ByteArray := prog_13_method_42_code
def yX11_act : MethodName := ⟨RX11, "act", "(IIIII)I"⟩
abbrev cX11_hook : ByteArray := prog_13_method_43_code
def yX11_hook : MethodName := ⟨RX11, "hook", "(III)I"⟩
abbrev cX11_loops : ByteArray := prog_13_method_44_code
def yX11_loops : MethodName := ⟨RX11, "loops", "(II)I"⟩
abbrev cX11_areHands : ByteArray := prog_13_method_45_code
def yX11_areHands : MethodName := ⟨RX11, "areHands", "(II)Z"⟩
abbrev cX11_rounds : ByteArray := prog_13_method_46_code
def yX11_rounds : MethodName := ⟨RX11, "rounds", "(IIII)I"⟩
abbrev cX11_wash : ByteArray := prog_13_method_47_code
def yX11_wash : MethodName := ⟨RX11, "wash", "()I"⟩
abbrev cX11_annul : ByteArray := prog_13_method_48_code
def yX11_annul : MethodName := ⟨RX11, "annul", "(I)I"⟩
abbrev cX11_as : ByteArray := prog_13_method_49_code
def yX11_as : MethodName := ⟨RX11, "as", "(I)Z"⟩
abbrev cX11_now : ByteArray := prog_13_method_50_code
def yX11_now : MethodName := ⟨RX11, "now", "()I"⟩
abbrev cX11_isKnown : ByteArray := prog_13_method_51_code
def yX11_isKnown : MethodName := ⟨RX11, "isKnown", "(II)Z"⟩
abbrev cX11_goes : ByteArray := prog_13_method_52_code
def yX11_goes : MethodName := ⟨RX11, "goes", "()V"⟩
abbrev cX11_does : ByteArray := prog_13_method_53_code
def yX11_does : MethodName := ⟨RX11, "does", "(I)V"⟩
abbrev cX11_round : ByteArray := prog_13_method_54_code
def yX11_round : MethodName := ⟨RX11, "round", "(IIJ)J"⟩
abbrev cX11_cell : ByteArray := prog_13_method_55_code
def yX11_cell : MethodName := ⟨RX11, "cell", "(II)I"⟩
abbrev cX11_listed : ByteArray := prog_13_method_56_code
def yX11_listed : MethodName := ⟨RX11, "listed", "()I"⟩
abbrev cX11_list : ByteArray := prog_13_method_57_code
def yX11_list : MethodName := ⟨RX11, "list", "(I)J"⟩
abbrev cX11_until : ByteArray := prog_13_method_58_code
def yX11_until : MethodName := ⟨RX11, "until", "(J)I"⟩
abbrev cX11_stiffOf : ByteArray := prog_13_method_59_code
def yX11_stiffOf : MethodName := ⟨RX11, "stiffOf", "(I)I"⟩
abbrev cX11_clip : ByteArray := prog_13_method_60_code
def yX11_clip : MethodName := ⟨RX11, "clip", "(J)J"⟩
abbrev cX11_floor : ByteArray := prog_13_method_61_code
def yX11_floor : MethodName := ⟨RX11, "floor", "(JJ)J"⟩
abbrev cX11_puts : ByteArray := prog_13_method_62_code
def yX11_puts : MethodName := ⟨RX11, "puts", "(J)V"⟩
abbrev cX11_joins : ByteArray := prog_13_method_63_code
def yX11_joins : MethodName := ⟨RX11, "joins", "(I)V"⟩
abbrev cX11_tells : ByteArray := prog_13_method_64_code
def yX11_tells : MethodName := ⟨RX11, "tells", "(IIIII)J"⟩
abbrev cX11_tellsRule : ByteArray := prog_13_method_65_code
def yX11_tellsRule : MethodName := ⟨RX11, "tellsRule", "(IIII)J"⟩
abbrev cX11_chanceOf : ByteArray := prog_13_method_66_code
def yX11_chanceOf : MethodName := ⟨RX11, "chanceOf", "(III)I"⟩
abbrev cX11_chance : ByteArray := prog_13_method_67_code
def yX11_chance : MethodName := ⟨RX11, "chance", "(III)I"⟩
abbrev cX11_table : ByteArray := prog_13_method_68_code
def yX11_table : MethodName := ⟨RX11, "table", "(II)I"⟩
abbrev cX11_odds : ByteArray := prog_13_method_69_code
def yX11_odds : MethodName := ⟨RX11, "odds", "(I)J"⟩
abbrev cX11_sure : ByteArray := prog_13_method_70_code
def yX11_sure : MethodName := ⟨RX11, "sure", "(I)I"⟩
abbrev cX11_draws : ByteArray := prog_13_method_71_code
def yX11_draws : MethodName := ⟨RX11, "draws", "(IIJ)J"⟩
abbrev cX11_takes_ : ByteArray := prog_13_method_72_code
def yX11_takes_ : MethodName := ⟨RX11, "takes", "()V"⟩
abbrev cX11_above : ByteArray := prog_13_method_73_code
def yX11_above : MethodName := ⟨RX11, "above", "(I)J"⟩
abbrev cX11_isBefore : ByteArray := prog_13_method_74_code
def yX11_isBefore : MethodName := ⟨RX11, "isBefore", "(II)Z"⟩
abbrev cX11_pulls : ByteArray := prog_13_method_75_code
def yX11_pulls : MethodName := ⟨RX11, "pulls", "()V"⟩
abbrev cX11_loadAt : ByteArray := prog_13_method_76_code
def yX11_loadAt : MethodName := ⟨RX11, "loadAt", "(I)J"⟩
abbrev cX11_greatestStep : ByteArray := prog_13_method_77_code
def yX11_greatestStep : MethodName := ⟨RX11, "greatestStep", "()J"⟩
abbrev cX11_draw : ByteArray := prog_13_method_78_code
def yX11_draw : MethodName := ⟨RX11, "draw", "(III)I"⟩
abbrev cX11_caught : ByteArray := prog_13_method_79_code
def yX11_caught : MethodName := ⟨RX11, "caught", "(I)I"⟩
abbrev cX11_pull : ByteArray := prog_13_method_80_code
def yX11_pull : MethodName := ⟨RX11, "pull", "()I"⟩
abbrev cX11_step : ByteArray := prog_13_method_81_code
def yX11_step : MethodName := ⟨RX11, "step", "(I)I"⟩
abbrev cX11_load : ByteArray := prog_13_method_82_code
def yX11_load : MethodName := ⟨RX11, "load", "(IZ)J"⟩
abbrev cX11_greatest : ByteArray := prog_13_method_83_code
def yX11_greatest : MethodName := ⟨RX11, "greatest", "()J"⟩
abbrev cX11_hung : ByteArray := prog_13_method_84_code
def yX11_hung : MethodName := ⟨RX11, "hung", "(I)I"⟩
abbrev cX11_holdOf : ByteArray := prog_13_method_85_code
def yX11_holdOf : MethodName := ⟨RX11, "holdOf", "(I)I"⟩
abbrev cX11_peel : ByteArray := prog_13_method_86_code
def yX11_peel : MethodName := ⟨RX11, "peel", "(ZI)I"⟩
abbrev cX11_front : ByteArray := prog_13_method_87_code
def yX11_front : MethodName := ⟨RX11, "front", "(II)I"⟩
abbrev cX11_work : ByteArray := prog_13_method_88_code
def yX11_work : MethodName := ⟨RX11, "work", "()J"⟩
abbrev cX11_patch : ByteArray := prog_13_method_89_code
def yX11_patch : MethodName := ⟨RX11, "patch", "(III)I"⟩
abbrev cX11_force : ByteArray := prog_13_method_90_code
def yX11_force : MethodName := ⟨RX11, "force", "(II)I"⟩
abbrev cX11_clear : ByteArray := prog_13_method_91_code
def yX11_clear : MethodName := ⟨RX11, "clear", "()I"⟩
abbrev cX11_holdsForce : ByteArray := prog_13_method_92_code
def yX11_holdsForce : MethodName := ⟨RX11, "holdsForce", "(III)Z"⟩
abbrev cX11_isFirst : ByteArray := prog_13_method_93_code
def yX11_isFirst : MethodName := ⟨RX11, "isFirst", "(II)Z"⟩
abbrev cX11_bitsOf : ByteArray := prog_13_method_94_code
def yX11_bitsOf : MethodName := ⟨RX11, "bitsOf", "(I)I"⟩
abbrev cX11_choose : ByteArray := prog_13_method_95_code
def yX11_choose : MethodName := ⟨RX11, "choose", "(II)I"⟩
abbrev cX11_chosen : ByteArray := prog_13_method_96_code
def yX11_chosen : MethodName := ⟨RX11, "chosen", "(I)I"⟩
abbrev cX11_over : ByteArray := prog_13_method_97_code
def yX11_over : MethodName := ⟨RX11, "over", "(II)J"⟩
abbrev cX11_waysFrom : ByteArray := prog_13_method_98_code
def yX11_waysFrom : MethodName := ⟨RX11, "waysFrom", "(IIII)J"⟩
abbrev cX11_found : ByteArray := prog_13_method_99_code
def yX11_found : MethodName := ⟨RX11, "found", "(IIIIZ)J"⟩
abbrev cX11_tests : ByteArray := prog_13_method_100_code
def yX11_tests : MethodName := ⟨RX11, "tests", "(III)I"⟩
abbrev cX11_all : ByteArray := prog_13_method_101_code
def yX11_all : MethodName := ⟨RX11, "all", "(I)I"⟩
def RJ9 : String := "java/lang/Math"
def TJ9 : u_T := fun k => match k with
  | _ => ("", "", "", false)
def tyJ9 : Nat → FieldType := fun k => match k with
  | _ => .int
abbrev wsJ90 : List Cond := u_ws RJ9 TJ9 0
theorem nmJ9 : ∀ a, a < 0 → ∀ b, b < 0 → a ≠ b → (TJ9 a).2.1 ≠ (TJ9 b).2.1 := by decide +kernel
theorem tyJ9_ok : ∀ k, k < 0 → parseFieldDescriptor (TJ9 k).2.2.1 = some (tyJ9 k) := by decide +kernel
abbrev cJ9_floorDiv_7cf53 : ByteArray := prog_14_method_47_code
def yJ9_floorDiv_7cf53 : MethodName := ⟨RJ9, "floorDiv", "(II)I"⟩
abbrev cJ9_abs_0f7a4 : ByteArray := prog_14_method_59_code
def yJ9_abs_0f7a4 : MethodName := ⟨RJ9, "abs", "(I)I"⟩
abbrev cJ9_max_7cf53 : ByteArray := prog_14_method_65_code
def yJ9_max_7cf53 : MethodName := ⟨RJ9, "max", "(II)I"⟩
abbrev cJ9_max_f86c9 : ByteArray := prog_14_method_66_code
def yJ9_max_f86c9 : MethodName := ⟨RJ9, "max", "(JJ)J"⟩
abbrev cJ9_min_7cf53 : ByteArray := prog_14_method_69_code
def yJ9_min_7cf53 : MethodName := ⟨RJ9, "min", "(II)I"⟩
abbrev cJ9_min_f86c9 : ByteArray := prog_14_method_70_code
def yJ9_min_f86c9 : MethodName := ⟨RJ9, "min", "(JJ)J"⟩
def RJ0 : String := "java/lang/String"
def TJ0 : u_T := fun k => match k with
  | _ => ("", "", "", false)
def tyJ0 : Nat → FieldType := fun k => match k with
  | _ => .int
abbrev wsJ00 : List Cond := u_ws RJ0 TJ0 0
theorem nmJ0 : ∀ a, a < 0 → ∀ b, b < 0 → a ≠ b → (TJ0 a).2.1 ≠ (TJ0 b).2.1 := by decide +kernel
theorem tyJ0_ok : ∀ k, k < 0 → parseFieldDescriptor (TJ0 k).2.2.1 = some (tyJ0 k) := by decide +kernel
abbrev cJ0_length_8abf5 : ByteArray := prog_15_method_54_code
def yJ0_length_8abf5 : MethodName := ⟨RJ0, "length", "()I"⟩
abbrev cJ0_charAt_5068e : ByteArray := prog_15_method_56_code
def yJ0_charAt_5068e : MethodName := ⟨RJ0, "charAt", "(I)C"⟩
abbrev cJ0_coder_7d493 : ByteArray := prog_15_method_152_code
def yJ0_coder_7d493 : MethodName := ⟨RJ0, "coder", "()B"⟩
abbrev cJ0_isLatin1_aae02 : ByteArray := prog_15_method_154_code
def yJ0_isLatin1_aae02 : MethodName := ⟨RJ0, "isLatin1", "()Z"⟩
abbrev cJ0_checkIndex_df160 : ByteArray := prog_15_method_155_code
def yJ0_checkIndex_df160 : MethodName := ⟨RJ0, "checkIndex", "(II)V"⟩
def RJ1 : String := "java/lang/StringLatin1"
def TJ1 : u_T := fun k => match k with
  | _ => ("", "", "", false)
def tyJ1 : Nat → FieldType := fun k => match k with
  | _ => .int
abbrev wsJ10 : List Cond := u_ws RJ1 TJ1 0
theorem nmJ1 : ∀ a, a < 0 → ∀ b, b < 0 → a ≠ b → (TJ1 a).2.1 ≠ (TJ1 b).2.1 := by decide +kernel
theorem tyJ1_ok : ∀ k, k < 0 → parseFieldDescriptor (TJ1 k).2.2.1 = some (tyJ1 k) := by decide +kernel
abbrev cJ1_charAt_3b067 : ByteArray := prog_16_method_2_code
def yJ1_charAt_3b067 : MethodName := ⟨RJ1, "charAt", "([BI)C"⟩
def RJ2 : String := "java/lang/StringUTF16"
def TJ2 : u_T := fun k => match k with
  | _ => ("", "", "", false)
def tyJ2 : Nat → FieldType := fun k => match k with
  | _ => .int
abbrev wsJ20 : List Cond := u_ws RJ2 TJ2 0
theorem nmJ2 : ∀ a, a < 0 → ∀ b, b < 0 → a ≠ b → (TJ2 a).2.1 ≠ (TJ2 b).2.1 := by decide +kernel
theorem tyJ2_ok : ∀ k, k < 0 → parseFieldDescriptor (TJ2 k).2.2.1 = some (tyJ2 k) := by decide +kernel
abbrev cJ2_getChar_3b067 : ByteArray := prog_17_method_5_code
def yJ2_getChar_3b067 : MethodName := ⟨RJ2, "getChar", "([BI)C"⟩
abbrev cJ2_length_9d52b : ByteArray := prog_17_method_6_code
def yJ2_length_9d52b : MethodName := ⟨RJ2, "length", "([B)I"⟩
abbrev cJ2_charAt_3b067 : ByteArray := prog_17_method_83_code
def yJ2_charAt_3b067 : MethodName := ⟨RJ2, "charAt", "([BI)C"⟩
abbrev cJ2_checkIndex_2214a : ByteArray := prog_17_method_91_code
def yJ2_checkIndex_2214a : MethodName := ⟨RJ2, "checkIndex", "(I[B)V"⟩
def RJ7 : String := "java/util/Arrays"
def TJ7 : u_T := fun k => match k with
  | _ => ("", "", "", false)
def tyJ7 : Nat → FieldType := fun k => match k with
  | _ => .int
abbrev wsJ70 : List Cond := u_ws RJ7 TJ7 0
theorem nmJ7 : ∀ a, a < 0 → ∀ b, b < 0 → a ≠ b → (TJ7 a).2.1 ≠ (TJ7 b).2.1 := by decide +kernel
theorem tyJ7_ok : ∀ k, k < 0 → parseFieldDescriptor (TJ7 k).2.2.1 = some (tyJ7 k) := by decide +kernel
abbrev cJ7_fill_53178 : ByteArray := prog_18_method_103_code
def yJ7_fill_53178 : MethodName := ⟨RJ7, "fill", "([II)V"⟩
def RJ3 : String := "jdk/internal/util/Preconditions"
def TJ3 : u_T := fun k => match k with
  | _ => ("", "", "", false)
def tyJ3 : Nat → FieldType := fun k => match k with
  | _ => .int
abbrev wsJ30 : List Cond := u_ws RJ3 TJ3 0
theorem nmJ3 : ∀ a, a < 0 → ∀ b, b < 0 → a ≠ b → (TJ3 a).2.1 ≠ (TJ3 b).2.1 := by decide +kernel
theorem tyJ3_ok : ∀ k, k < 0 → parseFieldDescriptor (TJ3 k).2.2.1 = some (tyJ3 k) := by decide +kernel
abbrev cJ3_checkIndex_8e157 : ByteArray := prog_19_method_11_code
def yJ3_checkIndex_8e157 : MethodName := ⟨RJ3, "checkIndex", "(IILjava/util/function/BiFunction;)I"⟩
def RL : String := "HookBoardLaw"
abbrev cL_law : ByteArray := code
def yL_law : MethodName := ⟨RL, "law", "([I)Z"⟩
abbrev vwCl : List vw_C := [(RX0, TX0, 7), (RX1, TX1, 8), (RX2, TX2, 12), (RX3, TX3, 3), (RX4, TX4, 14), (RX5, TX5, 8), (RX6, TX6, 7), (RX7, TX7, 8), (RX8, TX8, 13), (RX9, TX9, 2), (RX10, TX10, 15), (RX11, TX11, 105)]
